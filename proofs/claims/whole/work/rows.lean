section
-- ===== PART A: goes FIRST, ahead of the names: the tables' words, and 'selects' of the private methods out of them =====
/-- a private method of a class that the tables say can be made, by its rows of tables_1 -/
def lw_okq (q : MethodName × Nat) : Prop := (q.1.cls ≠ "java/lang/invoke/MethodHandle" ∧ q.1.cls ≠ "java/lang/invoke/VarHandle") ∧ Cond.instantiable q.1.cls q.2 ∈ tables_1 ∧ Cond.privateMethod q.1 ∈ tables_1 ∧ Cond.instanceMethod q.1 ∈ tables_1
theorem lw_p0 : lw_okq (⟨"MakeupGas", "dueInAll", "()J"⟩, 17) := ⟨⟨by decide +kernel, by decide +kernel⟩, List.mem_of_getElem? (i := 12) (by decide +kernel), List.mem_of_getElem? (i := 110) (by decide +kernel), List.mem_of_getElem? (i := 111) (by decide +kernel)⟩
theorem lw_p1 : lw_okq (⟨"java/lang/Throwable", "fillInStackTrace", "(I)Ljava/lang/Throwable;"⟩, 6) := ⟨⟨by decide +kernel, by decide +kernel⟩, List.mem_of_getElem? (i := 164) (by decide +kernel), List.mem_of_getElem? (i := 162) (by decide +kernel), List.mem_of_getElem? (i := 163) (by decide +kernel)⟩
theorem lw_p2 : lw_okq (⟨"MakeupGas", "requireUnused", "()V"⟩, 17) := ⟨⟨by decide +kernel, by decide +kernel⟩, List.mem_of_getElem? (i := 12) (by decide +kernel), List.mem_of_getElem? (i := 194) (by decide +kernel), List.mem_of_getElem? (i := 195) (by decide +kernel)⟩
theorem lw_p3 : lw_okq (⟨"MakeupGas", "settleClosedYears", "()V"⟩, 17) := ⟨⟨by decide +kernel, by decide +kernel⟩, List.mem_of_getElem? (i := 12) (by decide +kernel), List.mem_of_getElem? (i := 228) (by decide +kernel), List.mem_of_getElem? (i := 229) (by decide +kernel)⟩
theorem lw_p4 : lw_okq (⟨"MakeupGas", "leastQuantity", "(I)I"⟩, 17) := ⟨⟨by decide +kernel, by decide +kernel⟩, List.mem_of_getElem? (i := 12) (by decide +kernel), List.mem_of_getElem? (i := 241) (by decide +kernel), List.mem_of_getElem? (i := 242) (by decide +kernel)⟩
theorem lw_p5 : lw_okq (⟨"MakeupGas", "settleGap", "(I)V"⟩, 17) := ⟨⟨by decide +kernel, by decide +kernel⟩, List.mem_of_getElem? (i := 12) (by decide +kernel), List.mem_of_getElem? (i := 246) (by decide +kernel), List.mem_of_getElem? (i := 247) (by decide +kernel)⟩
theorem lw_p6 : lw_okq (⟨"MakeupGas", "drawSurplus", "(II)I"⟩, 17) := ⟨⟨by decide +kernel, by decide +kernel⟩, List.mem_of_getElem? (i := 12) (by decide +kernel), List.mem_of_getElem? (i := 250) (by decide +kernel), List.mem_of_getElem? (i := 251) (by decide +kernel)⟩
theorem lw_p7 : lw_okq (⟨"MakeupGas", "shortfallPrice", "(I)I"⟩, 17) := ⟨⟨by decide +kernel, by decide +kernel⟩, List.mem_of_getElem? (i := 12) (by decide +kernel), List.mem_of_getElem? (i := 265) (by decide +kernel), List.mem_of_getElem? (i := 266) (by decide +kernel)⟩
theorem lw_p8 : lw_okq (⟨"MakeupGas", "settleEnough", "(I)V"⟩, 17) := ⟨⟨by decide +kernel, by decide +kernel⟩, List.mem_of_getElem? (i := 12) (by decide +kernel), List.mem_of_getElem? (i := 269) (by decide +kernel), List.mem_of_getElem? (i := 270) (by decide +kernel)⟩
theorem lw_p9 : lw_okq (⟨"MakeupGas", "requireYearGoingOn", "()V"⟩, 17) := ⟨⟨by decide +kernel, by decide +kernel⟩, List.mem_of_getElem? (i := 12) (by decide +kernel), List.mem_of_getElem? (i := 293) (by decide +kernel), List.mem_of_getElem? (i := 294) (by decide +kernel)⟩
theorem lw_p10 : lw_okq (⟨"MakeupGas", "requireRoom", "(III)V"⟩, 17) := ⟨⟨by decide +kernel, by decide +kernel⟩, List.mem_of_getElem? (i := 12) (by decide +kernel), List.mem_of_getElem? (i := 298) (by decide +kernel), List.mem_of_getElem? (i := 299) (by decide +kernel)⟩
theorem lw_p11 : lw_okq (⟨"MakeupGas", "addTakes", "(III)V"⟩, 17) := ⟨⟨by decide +kernel, by decide +kernel⟩, List.mem_of_getElem? (i := 12) (by decide +kernel), List.mem_of_getElem? (i := 303) (by decide +kernel), List.mem_of_getElem? (i := 304) (by decide +kernel)⟩
theorem lw_p12 : lw_okq (⟨"MakeupGas", "requireClosedYear", "(I)V"⟩, 17) := ⟨⟨by decide +kernel, by decide +kernel⟩, List.mem_of_getElem? (i := 12) (by decide +kernel), List.mem_of_getElem? (i := 359) (by decide +kernel), List.mem_of_getElem? (i := 360) (by decide +kernel)⟩
theorem lw_p13 : lw_okq (⟨"MakeupGasModel", "holds", "(I)Z"⟩, 20) := ⟨⟨by decide +kernel, by decide +kernel⟩, List.mem_of_getElem? (i := 417) (by decide +kernel), List.mem_of_getElem? (i := 497) (by decide +kernel), List.mem_of_getElem? (i := 498) (by decide +kernel)⟩
theorem lw_p14 : lw_okq (⟨"MakeupGasModel", "canTake", "(III)Z"⟩, 20) := ⟨⟨by decide +kernel, by decide +kernel⟩, List.mem_of_getElem? (i := 417) (by decide +kernel), List.mem_of_getElem? (i := 516) (by decide +kernel), List.mem_of_getElem? (i := 517) (by decide +kernel)⟩
theorem lw_p15 : lw_okq (⟨"MakeupGasModel", "isTooMuch", "(III)Z"⟩, 20) := ⟨⟨by decide +kernel, by decide +kernel⟩, List.mem_of_getElem? (i := 417) (by decide +kernel), List.mem_of_getElem? (i := 523) (by decide +kernel), List.mem_of_getElem? (i := 524) (by decide +kernel)⟩
def lw_privs_1 : List (MethodName × Nat) := [(⟨"MakeupGas", "dueInAll", "()J"⟩, 17), (⟨"java/lang/Throwable", "fillInStackTrace", "(I)Ljava/lang/Throwable;"⟩, 6), (⟨"MakeupGas", "requireUnused", "()V"⟩, 17), (⟨"MakeupGas", "settleClosedYears", "()V"⟩, 17), (⟨"MakeupGas", "leastQuantity", "(I)I"⟩, 17), (⟨"MakeupGas", "settleGap", "(I)V"⟩, 17), (⟨"MakeupGas", "drawSurplus", "(II)I"⟩, 17), (⟨"MakeupGas", "shortfallPrice", "(I)I"⟩, 17), (⟨"MakeupGas", "settleEnough", "(I)V"⟩, 17), (⟨"MakeupGas", "requireYearGoingOn", "()V"⟩, 17), (⟨"MakeupGas", "requireRoom", "(III)V"⟩, 17), (⟨"MakeupGas", "addTakes", "(III)V"⟩, 17), (⟨"MakeupGas", "requireClosedYear", "(I)V"⟩, 17), (⟨"MakeupGasModel", "holds", "(I)Z"⟩, 20), (⟨"MakeupGasModel", "canTake", "(III)Z"⟩, 20), (⟨"MakeupGasModel", "isTooMuch", "(III)Z"⟩, 20)]
theorem lw_r1 : ∀ q ∈ lw_privs_1, lw_okq q := List.forall_mem_cons.mpr ⟨lw_p0, List.forall_mem_cons.mpr ⟨lw_p1, List.forall_mem_cons.mpr ⟨lw_p2, List.forall_mem_cons.mpr ⟨lw_p3, List.forall_mem_cons.mpr ⟨lw_p4, List.forall_mem_cons.mpr ⟨lw_p5, List.forall_mem_cons.mpr ⟨lw_p6, List.forall_mem_cons.mpr ⟨lw_p7, List.forall_mem_cons.mpr ⟨lw_p8, List.forall_mem_cons.mpr ⟨lw_p9, List.forall_mem_cons.mpr ⟨lw_p10, List.forall_mem_cons.mpr ⟨lw_p11, List.forall_mem_cons.mpr ⟨lw_p12, List.forall_mem_cons.mpr ⟨lw_p13, List.forall_mem_cons.mpr ⟨lw_p14, List.forall_mem_cons.mpr ⟨lw_p15, fun _ h => absurd h List.not_mem_nil⟩⟩⟩⟩⟩⟩⟩⟩⟩⟩⟩⟩⟩⟩⟩⟩
theorem lw_p16 : lw_okq (⟨"MakeupGasModel", "takes", "(III)V"⟩, 20) := ⟨⟨by decide +kernel, by decide +kernel⟩, List.mem_of_getElem? (i := 417) (by decide +kernel), List.mem_of_getElem? (i := 527) (by decide +kernel), List.mem_of_getElem? (i := 528) (by decide +kernel)⟩
theorem lw_p17 : lw_okq (⟨"MakeupGasModel", "openNow", "()J"⟩, 20) := ⟨⟨by decide +kernel, by decide +kernel⟩, List.mem_of_getElem? (i := 417) (by decide +kernel), List.mem_of_getElem? (i := 539) (by decide +kernel), List.mem_of_getElem? (i := 540) (by decide +kernel)⟩
theorem lw_p18 : lw_okq (⟨"MakeupGasModel", "goesThrough", "()V"⟩, 20) := ⟨⟨by decide +kernel, by decide +kernel⟩, List.mem_of_getElem? (i := 417) (by decide +kernel), List.mem_of_getElem? (i := 543) (by decide +kernel), List.mem_of_getElem? (i := 544) (by decide +kernel)⟩
theorem lw_p19 : lw_okq (⟨"MakeupGasModel", "lapses", "(I)V"⟩, 20) := ⟨⟨by decide +kernel, by decide +kernel⟩, List.mem_of_getElem? (i := 417) (by decide +kernel), List.mem_of_getElem? (i := 547) (by decide +kernel), List.mem_of_getElem? (i := 548) (by decide +kernel)⟩
theorem lw_p20 : lw_okq (⟨"MakeupGasModel", "leastOf", "(I)I"⟩, 20) := ⟨⟨by decide +kernel, by decide +kernel⟩, List.mem_of_getElem? (i := 417) (by decide +kernel), List.mem_of_getElem? (i := 551) (by decide +kernel), List.mem_of_getElem? (i := 552) (by decide +kernel)⟩
theorem lw_p21 : lw_okq (⟨"MakeupGasModel", "covers", "(II)V"⟩, 20) := ⟨⟨by decide +kernel, by decide +kernel⟩, List.mem_of_getElem? (i := 417) (by decide +kernel), List.mem_of_getElem? (i := 556) (by decide +kernel), List.mem_of_getElem? (i := 557) (by decide +kernel)⟩
theorem lw_p22 : lw_okq (⟨"MakeupGasModel", "shortfallPrice", "(I)I"⟩, 20) := ⟨⟨by decide +kernel, by decide +kernel⟩, List.mem_of_getElem? (i := 417) (by decide +kernel), List.mem_of_getElem? (i := 560) (by decide +kernel), List.mem_of_getElem? (i := 561) (by decide +kernel)⟩
theorem lw_p23 : lw_okq (⟨"MakeupGasModel", "makesUp", "(II)V"⟩, 20) := ⟨⟨by decide +kernel, by decide +kernel⟩, List.mem_of_getElem? (i := 417) (by decide +kernel), List.mem_of_getElem? (i := 564) (by decide +kernel), List.mem_of_getElem? (i := 565) (by decide +kernel)⟩
theorem lw_p24 : lw_okq (⟨"MakeupGasModel", "isClosed", "(I)Z"⟩, 20) := ⟨⟨by decide +kernel, by decide +kernel⟩, List.mem_of_getElem? (i := 417) (by decide +kernel), List.mem_of_getElem? (i := 592) (by decide +kernel), List.mem_of_getElem? (i := 593) (by decide +kernel)⟩
def lw_privs_2 : List (MethodName × Nat) := [(⟨"MakeupGasModel", "takes", "(III)V"⟩, 20), (⟨"MakeupGasModel", "openNow", "()J"⟩, 20), (⟨"MakeupGasModel", "goesThrough", "()V"⟩, 20), (⟨"MakeupGasModel", "lapses", "(I)V"⟩, 20), (⟨"MakeupGasModel", "leastOf", "(I)I"⟩, 20), (⟨"MakeupGasModel", "covers", "(II)V"⟩, 20), (⟨"MakeupGasModel", "shortfallPrice", "(I)I"⟩, 20), (⟨"MakeupGasModel", "makesUp", "(II)V"⟩, 20), (⟨"MakeupGasModel", "isClosed", "(I)Z"⟩, 20)]
theorem lw_r2 : ∀ q ∈ lw_privs_2, lw_okq q := List.forall_mem_cons.mpr ⟨lw_p16, List.forall_mem_cons.mpr ⟨lw_p17, List.forall_mem_cons.mpr ⟨lw_p18, List.forall_mem_cons.mpr ⟨lw_p19, List.forall_mem_cons.mpr ⟨lw_p20, List.forall_mem_cons.mpr ⟨lw_p21, List.forall_mem_cons.mpr ⟨lw_p22, List.forall_mem_cons.mpr ⟨lw_p23, List.forall_mem_cons.mpr ⟨lw_p24, fun _ h => absurd h List.not_mem_nil⟩⟩⟩⟩⟩⟩⟩⟩⟩
def lw_privs : List (MethodName × Nat) := lw_privs_1 ++ (lw_privs_2)
def lw_tbl : List Cond := k2_sels lw_privs ++ tables_1
theorem lw_privs_ok : ∀ q ∈ lw_privs, lw_okq q := by
  show ∀ q ∈ lw_privs_1 ++ (lw_privs_2), lw_okq q
  exact List.forall_mem_append.mpr ⟨lw_r1, lw_r2⟩
-- ===== end of PART A; then your names; then what follows =====
end
section
/-! ===== BEGIN words of one list among another's, by their places ===== -/
theorem goodIn_r {big : List Cond} (ws : List Cond) (ps : List Nat) (hp : ws = ps.filterMap (fun i => big[i]?)) (h : ws.all goodWord = true) : GoodIn big ws := by
  intro w hw
  have h1 := List.all_eq_true.mp h w hw
  rw [hp] at hw
  obtain ⟨i, -, hi⟩ := List.mem_filterMap.mp hw
  have hm : w ∈ big := by first | exact List.mem_of_getElem? hi | exact List.getElem?_mem hi
  exact ⟨hm, good_of_word h1⟩
theorem goodIn_app {big a b : List Cond} (ha : GoodIn big a) (hb : GoodIn big b) : GoodIn big (a ++ b) := fun w h => (List.mem_append.mp h).elim (ha w) (hb w)
theorem goodIn_ca {big a b : List Cond} {c : Cond} (ha : GoodIn big (c :: a)) (hb : GoodIn big b) : GoodIn big (c :: (a ++ b)) := fun w h => (List.mem_cons.mp h).elim (fun e => ha w (List.mem_cons.mpr (Or.inl e))) (fun h => (List.mem_append.mp h).elim (fun h => ha w (List.mem_cons.mpr (Or.inr h))) (hb w))
theorem goodIn_sub {big ws : List Cond} (hm : ∀ w ∈ ws, w ∈ big) (h : ws.all goodWord = true) : GoodIn big ws := fun w hw => ⟨hm w hw, good_of_word (List.all_eq_true.mp h w hw)⟩
/-! ===== END ===== -/

/-! ===== BEGIN exceptions that leave a method, and their catching by the caller (launches without stack traces) ===== -/
section VXA
/-! The laws vx_back, vx_callV, vx_callS, vx_callSW, vx_throw0, vx_throwS follow proofs of the library, with one case more: JvmDerived/Free/Laws.lean (Back.of_free), Shelf42/LK1.lean (callV, callS), Shelf/KitTraced.lean (throwNew0V, throwNewS). -/
/-- where a method has thrown q: the class by its name, the cell, what was written, the world -/
def vx_T (XC : String → State → State → Prop) (st : State) (q : Addr) (t : State) (mc ms : Nat) (free : Addr → Prop) : Prop :=
  ∃ (E : String) (ce : Cell) (L : List Loc), XC E st t ∧ t.heap[q]? = some ce ∧ ce.vm = .none ∧ st.vm.findClass E = some ce.cls ∧ st.WarmedH t.vm ∧ st.sameButNew ({ t with vm := st.vm } : State) L mc ms ∧ ∀ z ∈ L, free z.base
def vx_Q (Qc : Array Value → State → Outcome → State → Prop) (XC : String → State → State → Prop) (mc ms : Nat) (free : Addr → Prop) : Array Value → State → Outcome → State → Prop := fun a st o t =>
  (Qc a st o t ∧ ∃ L, FrameEnd st o t L mc ms ∧ ∀ q ∈ L, free q.base) ∨ ∃ q, o = .threw q ∧ vx_T XC st q t mc ms free
/-- a callee that returns or throws -/
def vx_Met (l : Launch) (y : MethodName) (ws : List Cond) (rm : Room) (Pc : Array Value → State → Prop) (Qc : Array Value → State → Outcome → State → Prop) (XC : String → State → State → Prop) (mc ms : Nat) (free : Addr → Prop) : Prop :=
  MetFree l y (headSpec ws rm) Pc (fun _ _ _ _ _ => True) (vx_Q Qc XC mc ms free)
def vx_Post (XC : String → State → State → Prop) (mc ms : Nat) (free : Addr → Prop) : Pt → Array Value → Addr → Pt → Prop := fun A a q B =>
  ∃ (g : JFrame) (mk : MethodId) (t : State) (L : List Loc) (E : String) (ce : Cell), B.U.heap = t.heap ∧ B.U.vm = t.vm ∧ XC E (A.U.calling g mk a) t ∧ t.heap[q]? = some ce ∧ ce.vm = .none ∧ A.U.vm.findClass E = some ce.cls ∧ B.locs = A.locs ++ L ∧ (∀ z ∈ L, free z.base) ∧ B.cells = A.cells + mc ∧ B.slots = A.slots + ms
def vx_Back (l : Launch) (R : Room) (p : Program) (e : Env) (below : List Frame) (s : State) (sargs : Array Value) (y : MethodName) (len W9 : Nat)
    (Pre : Pt → Array Value → Prop) (Post : Pt → Array Value → Option Value → Pt → Prop) (PostX : Pt → Array Value → Addr → Pt → Prop) : Prop :=
  ∀ (m : MethodId) (meth : Method) (c : Code) (A : Pt) (g : JFrame) (ig : Instr) (mk : MethodId) (a : Array Value),
    Stand p l e R s m sargs below meth c A.U A.locs A.cells A.slots → g.method = m → g.locals.size = c.maxLocals → decode c.code g.pc = .ok (ig, len) →
    2 * g.monitorRoom + (g.stack.map fun v => v.category).sum ≤ W9 → A.U.methodNamed? y = some mk → Pre A a →
    (∃ (v : Option Value) (B : Pt), Stand p l e R s m sargs below meth c B.U B.locs B.cells B.slots ∧ Post A a v B ∧
      Steps p.tables e below (doInvoke e (A.U.setTop g) [] mk a).1 (B.U.setTop { g with pc := g.pc + len, stack := v.toList ++ g.stack })) ∨
    (∃ (q : Addr) (B : Pt), Stand p l e R s m sargs below meth c B.U B.locs B.cells B.slots ∧ PostX A a q B ∧
      Steps p.tables e below (doInvoke e (A.U.setTop g) [] mk a).1 ((B.U.setTop g).pushFrame (.throwing q)))
section Payer
variable {l : Launch} {R : Room} {p : Program} {e : Env} {below : List Frame} {s : State} {sargs : Array Value} {y : MethodName} {len W9 : Nat}
theorem vx_back {ws : List Cond} {rm : Room} {Pc : Array Value → State → Prop} {Qc : Array Value → State → Outcome → State → Prop} {XC : String → State → State → Prop} {mc ms : Nat} {free : Addr → Prop} {bytes : ByteArray} {maxL : Nat} {ret : Option FieldType}
    (hM : vx_Met l y ws rm Pc Qc XC mc ms free) (hblind : FrameBlind Pc) (hrc : rm.cells = mc) (hrs : rm.slots = ms)
    (hframes : rm.frames + 1 ≤ R.frames) (hlocals : W9 + (maxL + 11) + rm.locals ≤ R.locals)
    (hws : ∀ w ∈ ws, ∀ a' U, s.WarmedH U.vm → w.before a' U = true) (hcode : Cond.code y bytes maxL ret ∈ ws) (hinit : ∀ a' U, s.WarmedH U.vm → (Cond.initialized y.cls).before a' U = true) :
    vx_Back l R p e below s sargs y len W9 (PreOf R mc ms Pc) (PostOf Qc mc ms free) (vx_Post XC mc ms free) := by
  intro m meth c A g ig mk a X hg hsize hdg hW hn hp
  have h1 : (headSpec ws rm).pre.before a A.U = true := atoms_intro fun w hw => hws w hw _ _ X.warmed
  have h2 : (Cond.code y bytes maxL ret).before a A.U = true := hws _ hcode _ _ X.warmed
  have h3 : (Cond.initialized y.cls).before a A.U = true := hinit _ _ X.warmed
  have h4 : A.cells + (headSpec ws rm).room.cells ≤ R.cells := by rw [show (headSpec ws rm).room.cells = mc from hrc]; exact hp.1
  have h5 : A.slots + (headSpec ws rm).room.slots ≤ R.slots := by rw [show (headSpec ws rm).room.slots = ms from hrs]; exact hp.2.1
  have hPc : Pc a (A.U.calling g mk a) := hblind _ _ _ _ hp.2.2
  obtain ⟨U, Ls, c0, s0⟩ := A
  dsimp only [Pt.U, Pt.locs, Pt.cells, Pt.slots] at h1 h2 h3 h4 h5 X hn hPc ⊢
  obtain ⟨methY, cY, hmY, hcY, -, hlY, -, -, -, -⟩ := Cond.code_spec hn h2
  obtain ⟨kY, hkY, -⟩ := className_of_methodNamed hn
  have hinitY : kY.init = .initialized := Cond.initialized_spec (findClass_of_methodNamed hn) hkY h3
  have h : At U g.method c below := by rw [hg]; exact X.here
  have hlocals9 : W9 + (maxL + 11) + (headSpec ws rm).room.locals ≤ R.locals := hlocals
  have happ : (headSpec ws rm).appliesLoose y e.platform (U.calling g mk a) = true :=
    Spec.appliesLoose_calling (g := g) h hdg hn hkY hinitY
      (X.room_calling (g := g) (R' := (headSpec ws rm).room) hsize hmY hcY hframes (by rw [hlY]; omega) h4 h5) h1
  obtain ⟨mid, hmid⟩ := h.above
  have hfr : (U.setTop g).frames = (.java g :: mid) ++ below := by rw [State.frames_setTop' g h.top, hmid]; rfl
  obtain ⟨o, s₂, hsteps, -, hend, hq⟩ := Steps.callFree hM p X.admits X.cas X.clock (acts := []) hfr happ hPc trivial
  have hq' : vx_Q Qc XC mc ms free a (U.calling g mk a) o s₂ := hq
  rw [State.frames_setTop' g h.top] at hend
  obtain ⟨g₀, hg0⟩ := Option.isSome_iff_exists.mp h.top
  obtain ⟨r, hr⟩ := State.topJava?_eq_some.mp hg0
  have hr' : (({ U with heap := s₂.heap, slotsUsed := s₂.slotsUsed } : State).setVm s₂.vm).frames = .java g₀ :: r := hr
  rcases hq' with ⟨hqc, L, hfe, hL⟩ | ⟨q, rfl, E, ce, L, hx, hce, hcv, hcl, hW₂, hsm, hL⟩
  · obtain ⟨⟨v, rfl⟩, hW₂, e2, q2, q3, q4, q5, q6⟩ := id hfe
    have e3 : s₂ = ({ (U.calling g mk a).setFrames s₂.frames with heap := s₂.heap, slotsUsed := s₂.slotsUsed } : State).setVm s₂.vm := by
      have : s₂ = ({ s₂ with vm := (U.calling g mk a).vm } : State).setVm s₂.vm := rfl
      rw [e2] at this
      exact this
    obtain ⟨c₂, i₂, len₂, hc₂, hd₂, hf₂⟩ := hend
    have hW' : U.WarmedH s₂.vm := hW₂
    have hcc : c₂ = c := by
      have h1 : s₂.code? g.method = U.code? g.method := by
        rw [State.code?_eq, State.code?_eq, hW'.alike.method?]
      exact Option.some.inj (hc₂.symm.trans (h1.trans h.code))
    subst hcc
    have hlen : len₂ = len := by rw [hdg] at hd₂; cases hd₂; rfl
    subst hlen
    have hs₂ : s₂ = (({ U with heap := s₂.heap, slotsUsed := s₂.slotsUsed } : State).setVm s₂.vm).setTop { g with pc := g.pc + len₂, stack := v.toList ++ g.stack } := by
      refine e3.trans ?_
      rw [hf₂, State.calling_eq h.top, State.setFrames_setFrames, State.setTop_of_frames _ hr', hr]
      rfl
    have hsame : U.sameButNew ({ U with heap := s₂.heap, slotsUsed := s₂.slotsUsed } : State) L mc ms := by
      refine ⟨?_, q2, q3, q4, q5, q6⟩
      obtain ⟨t, ht, -⟩ := State.frames_cons hr
      show ({ U with heap := s₂.heap, slotsUsed := s₂.slotsUsed } : State) = { U.setFrames U.frames with heap := s₂.heap, slotsUsed := s₂.slotsUsed }
      rw [State.setFrames_self ht]
    subst hg
    refine Or.inl ⟨v, ⟨(({ U with heap := s₂.heap, slotsUsed := s₂.slotsUsed } : State).setVm s₂.vm), Ls ++ L, c0 + mc, s0 + ms⟩,
      ⟨X.admits, X.cas, X.clock, X.frames, X.room, X.hears, X.method, X.code, (X.here.setHeapUsed s₂.heap s₂.slotsUsed).setVm hW'.alike, X.tail, State.WarmedH.trans X.warmed hW', X.limits, X.bytes, X.same.trans (hsame.setVm s.vm)⟩,
      ⟨g, mk, s₂, L, rfl, rfl, hqc, rfl, hL, rfl, rfl⟩, ?_⟩
    show Steps p.tables e below _ ((({ U with heap := s₂.heap, slotsUsed := s₂.slotsUsed } : State).setVm s₂.vm).setTop { g with pc := g.pc + len₂, stack := v.toList ++ g.stack })
    rw [← hs₂]
    exact hsteps
  · obtain ⟨e2, q2, q3, q4, q5, q6⟩ := id hsm
    have e3 : s₂ = ({ (U.calling g mk a).setFrames s₂.frames with heap := s₂.heap, slotsUsed := s₂.slotsUsed } : State).setVm s₂.vm := by
      have : s₂ = ({ s₂ with vm := (U.calling g mk a).vm } : State).setVm s₂.vm := rfl
      rw [e2] at this
      exact this
    have hf₂ : s₂.frames = .throwing q :: .java g :: U.frames.tail := hend
    have hW' : U.WarmedH s₂.vm := hW₂
    have hs₂ : s₂ = ((({ U with heap := s₂.heap, slotsUsed := s₂.slotsUsed } : State).setVm s₂.vm).setTop g).pushFrame (.throwing q) := by
      refine e3.trans ?_
      rw [hf₂, State.calling_eq h.top, State.setFrames_setFrames, State.pushFrame, State.frames_setTop _ hr', State.setTop_of_frames _ hr', State.setFrames_setFrames, hr]
      rfl
    have hsame : U.sameButNew ({ U with heap := s₂.heap, slotsUsed := s₂.slotsUsed } : State) L mc ms := by
      refine ⟨?_, q2, q3, q4, q5, q6⟩
      obtain ⟨t, ht, -⟩ := State.frames_cons hr
      show ({ U with heap := s₂.heap, slotsUsed := s₂.slotsUsed } : State) = { U.setFrames U.frames with heap := s₂.heap, slotsUsed := s₂.slotsUsed }
      rw [State.setFrames_self ht]
    subst hg
    refine Or.inr ⟨q, ⟨(({ U with heap := s₂.heap, slotsUsed := s₂.slotsUsed } : State).setVm s₂.vm), Ls ++ L, c0 + mc, s0 + ms⟩,
      ⟨X.admits, X.cas, X.clock, X.frames, X.room, X.hears, X.method, X.code, (X.here.setHeapUsed s₂.heap s₂.slotsUsed).setVm hW'.alike, X.tail, State.WarmedH.trans X.warmed hW', X.limits, X.bytes, X.same.trans (hsame.setVm s.vm)⟩,
      ⟨g, mk, s₂, L, E, ce, rfl, rfl, hx, hce, hcv, hcl, rfl, hL, rfl, rfl⟩, ?_⟩
    show Steps p.tables e below _ (((({ U with heap := s₂.heap, slotsUsed := s₂.slotsUsed } : State).setVm s₂.vm).setTop g).pushFrame (.throwing q))
    rw [← hs₂]
    exact hsteps
end Payer
section Calls
variable {p : Program} {l : Launch} {e : Env} {R : Room} {s : State} {m : MethodId} {args : Array Value} {below : List Frame} {meth : Method} {c : Code} {T : State} {locs : List Loc} {cells slots : Nat}
theorem vx_callV (X : Stand p l e R s m args below meth c T locs cells slots) (hexec : p.tables.exec = Jvm.exec) {own C : String} {index : Nat} {y : MethodName} {bytes : ByteArray} {maxL : Nat} {ret : Option FieldType}
    (hown : s.vm.findClass own = some m.cls) (hlink : (Cond.methodLink own index y).before args s = true) (hinst : (Cond.instanceMethod y).before args s = true) (hsel : (Cond.selects C y y).before args s = true)
    (hcode : (Cond.code y bytes maxL ret).before args s = true) (hy : y.cls ≠ "java/lang/invoke/MethodHandle" ∧ y.cls ≠ "java/lang/invoke/VarHandle")
    {W9 : Nat} {Pre : Pt → Array Value → Prop} {Post : Pt → Array Value → Option Value → Pt → Prop} {PostX : Pt → Array Value → Addr → Pt → Prop} (hK : vx_Back l R p e below s args y 3 W9 Pre Post PostX)
    {b : Addr} {cellB : Cell} (hcell : T.heap[b]? = some cellB) (hobj : cellB.vm.isStatics = false) (hcls : s.vm.findClass C = some cellB.cls)
    {g : JFrame} (hg : g.method = m) (hsize : g.locals.size = c.maxLocals) {argsL rest : List Value} (hlen : ∀ sig, parseMethodDescriptor y.desc = some sig → argsL.length = sig.parameters.length)
    (hstack : g.stack = argsL.reverse ++ .ref b :: rest) (hW : 2 * g.monitorRoom + (rest.map fun v => v.category).sum ≤ W9) (hdg : decode c.code g.pc = .ok (.invokevirtual index, 3))
    (hpre : ∀ vm₁, s.WarmedH vm₁ → Pre ⟨T.setVm vm₁, locs, cells, slots⟩ (Value.ref b :: argsL).toArray) :
    (∃ (v : Option Value) (vm₁ : Vm) (B : Pt), s.WarmedH vm₁ ∧ Stand p l e R s m args below meth c B.U B.locs B.cells B.slots ∧ Post ⟨T.setVm vm₁, locs, cells, slots⟩ (Value.ref b :: argsL).toArray v B ∧
      ∀ target, Steps p.tables e below (B.U.setTop { g with pc := g.pc + 3, stack := v.toList ++ rest }) target → Steps p.tables e below (T.setTop g) target) ∨
    (∃ (q : Addr) (vm₁ : Vm) (B : Pt), s.WarmedH vm₁ ∧ Stand p l e R s m args below meth c B.U B.locs B.cells B.slots ∧ PostX ⟨T.setVm vm₁, locs, cells, slots⟩ (Value.ref b :: argsL).toArray q B ∧
      Steps p.tables e below (T.setTop g) ((B.U.setTop { g with stack := rest }).pushFrame (.throwing q))) := by
  obtain ⟨mk, methM, hnamed, hmethM, hstM, habM⟩ := Cond.instanceMethod_spec hinst
  obtain ⟨methM', cM, hmethM', -, -, -, -, -, -, hsigM⟩ := Cond.code_spec hnamed hcode
  cases hmethM.symm.trans hmethM'
  obtain ⟨c2, r2, m2, q1, q2, q3, q4, kP, hkP, hkPi⟩ := Cond.selects_spec hsel
  cases hcls.symm.trans q1
  cases (State.methodFound?_of_named hnamed hy).symm.trans q2
  cases hnamed.symm.trans q3
  have hselP : selectMethod e.platform s.vm cellB.cls mk = .method mk := by rw [Launch.admits_selectMethod X.admits]; exact q4
  obtain ⟨vm₁, X₁, hstep₁⟩ := X.invokevirtual hexec hown hlink hnamed hmethM hstM hkP hkPi hy (a := b) (cell := cellB) hcell
    (fun z h => by rw [h] at hobj; cases hobj) hselP hmethM habM hkP hkPi (g := g) hg (argsL := argsL) (rest := rest) (hlen _ hsigM) hstack hdg
  rcases hK m meth c ⟨T.setVm vm₁, locs, cells, slots⟩ { g with stack := rest } (.invokevirtual index) mk (Value.ref b :: argsL).toArray X₁ hg hsize hdg hW (X₁.named hnamed) (hpre vm₁ X₁.warmed) with ⟨v, B, X', hpost, hsteps⟩ | ⟨q, B, X', hpost, hsteps⟩
  · exact Or.inl ⟨v, vm₁, B, X₁.warmed, X', hpost, fun target h => hstep₁ _ fun acts => by rw [doInvoke_state]; exact hsteps.trans h⟩
  · exact Or.inr ⟨q, vm₁, B, X₁.warmed, X', hpost, hstep₁ _ fun acts => by rw [doInvoke_state]; exact hsteps⟩
theorem vx_callS (X : Stand p l e R s m args below meth c T locs cells slots) (hexec : p.tables.exec = Jvm.exec) {own : String} {index : Nat} {y : MethodName} {bytes : ByteArray} {maxL : Nat} {ret : Option FieldType}
    (hown : s.vm.findClass own = some m.cls) (hlink : (Cond.methodLink own index y).before args s = true) (hstat : (Cond.static y).before args s = true) (hinit : (Cond.initialized y.cls).before args s = true)
    (hcode : (Cond.code y bytes maxL ret).before args s = true) (hy : y.cls ≠ "java/lang/invoke/MethodHandle" ∧ y.cls ≠ "java/lang/invoke/VarHandle")
    {W9 : Nat} {Pre : Pt → Array Value → Prop} {Post : Pt → Array Value → Option Value → Pt → Prop} {PostX : Pt → Array Value → Addr → Pt → Prop} (hK : vx_Back l R p e below s args y 3 W9 Pre Post PostX)
    {g : JFrame} (hg : g.method = m) (hsize : g.locals.size = c.maxLocals) {argsL rest : List Value} (hlen : ∀ sig, parseMethodDescriptor y.desc = some sig → argsL.length = sig.parameters.length)
    (hstack : g.stack = argsL.reverse ++ rest) (hW : 2 * g.monitorRoom + (rest.map fun v => v.category).sum ≤ W9) (hdg : decode c.code g.pc = .ok (.invokestatic index, 3))
    (hpre : ∀ vm₁, s.WarmedH vm₁ → Pre ⟨T.setVm vm₁, locs, cells, slots⟩ argsL.toArray) :
    (∃ (v : Option Value) (vm₁ : Vm) (B : Pt), s.WarmedH vm₁ ∧ Stand p l e R s m args below meth c B.U B.locs B.cells B.slots ∧ Post ⟨T.setVm vm₁, locs, cells, slots⟩ argsL.toArray v B ∧
      ∀ target, Steps p.tables e below (B.U.setTop { g with pc := g.pc + 3, stack := v.toList ++ rest }) target → Steps p.tables e below (T.setTop g) target) ∨
    (∃ (q : Addr) (vm₁ : Vm) (B : Pt), s.WarmedH vm₁ ∧ Stand p l e R s m args below meth c B.U B.locs B.cells B.slots ∧ PostX ⟨T.setVm vm₁, locs, cells, slots⟩ argsL.toArray q B ∧
      Steps p.tables e below (T.setTop g) ((B.U.setTop { g with stack := rest }).pushFrame (.throwing q))) := by
  obtain ⟨mk, hnamed⟩ := Cond.code_named hcode
  obtain ⟨methM, cM, hmethM, -, -, -, -, -, -, hsigM⟩ := Cond.code_spec hnamed hcode
  have hstatic : methM.isStatic = true := Cond.static_spec hnamed hmethM hstat
  obtain ⟨kP, hkP, -⟩ := className_of_methodNamed hnamed
  have hinitP : kP.init = .initialized := Cond.initialized_spec (findClass_of_methodNamed hnamed) hkP hinit
  obtain ⟨vm₁, X₁, hstep₁⟩ := X.invokestatic hexec hown hlink hnamed hmethM hstatic hkP hinitP hy (g := g) hg (argsL := argsL) (rest := rest) (hlen _ hsigM) hstack hdg
  rcases hK m meth c ⟨T.setVm vm₁, locs, cells, slots⟩ { g with stack := rest } (.invokestatic index) mk argsL.toArray X₁ hg hsize hdg hW (X₁.named hnamed) (hpre vm₁ X₁.warmed) with ⟨v, B, X', hpost, hsteps⟩ | ⟨q, B, X', hpost, hsteps⟩
  · exact Or.inl ⟨v, vm₁, B, X₁.warmed, X', hpost, fun target h => hstep₁ _ fun acts => by rw [doInvoke_state]; exact hsteps.trans h⟩
  · exact Or.inr ⟨q, vm₁, B, X₁.warmed, X', hpost, hstep₁ _ fun acts => by rw [doInvoke_state]; exact hsteps⟩
end Calls
theorem vx_cls {s : State} {T : State} {vm₁ : Vm} {E : String} {k : ClassId} (hW : s.WarmedH vm₁) (h : (T.setVm vm₁).vm.findClass E = some k) : s.vm.findClass E = some k := by
  have h1 : vm₁.findClass E = some k := h
  rw [hW.alike.findClass] at h1
  exact h1
/-- the method's frame g, with q thrown over it -/
def vx_W (p : Program) (l : Launch) (e : Env) (R : Room) (s : State) (m : MethodId) (args : Array Value) (below : List Frame) (meth : Method) (c : Code) (H : Heap) (locs : List Loc) (cells slots : Nat) (Q : State → Prop) (g : JFrame) (q : Addr) : Prop :=
  ∀ T : State, T.heap = H → Stand p l e R s m args below meth c T locs cells slots → ∃ t, Steps p.tables e below ((T.setTop g).pushFrame (.throwing q)) t ∧ Q t
def vx_Run (p : Program) (l : Launch) (e : Env) (R : Room) (s : State) (m : MethodId) (args : Array Value) (below : List Frame) (meth : Method) (c : Code) (H : Heap) (locs : List Loc) (cells slots mc ms : Nat) (g : JFrame) (rest : List Value) (Qa : State → Outcome → State → Prop) (XC : String → State → State → Prop) (free : Addr → Prop) : Prop :=
  ∀ T : State, T.heap = H → Stand p l e R s m args below meth c T locs cells slots →
    (∃ (v : Option Value) (st₀ t T' : State) (L : List Loc), st₀.heap = H ∧ Stand p l e R s m args below meth c T' (locs ++ L) (cells + mc) (slots + ms) ∧ (∀ q ∈ L, free q.base) ∧ T'.heap = t.heap ∧ T'.vm = t.vm ∧ Qa st₀ (.returned v) t ∧
      Goes p e below T g T' { g with pc := g.pc + 3, stack := v.toList ++ rest }) ∨
    (∃ (q : Addr) (st₀ t T' : State) (L : List Loc) (E : String) (ce : Cell), st₀.heap = H ∧ Stand p l e R s m args below meth c T' (locs ++ L) (cells + mc) (slots + ms) ∧ (∀ z ∈ L, free z.base) ∧ T'.heap = t.heap ∧ T'.vm = t.vm ∧ XC E st₀ t ∧ t.heap[q]? = some ce ∧ ce.vm = .none ∧ s.vm.findClass E = some ce.cls ∧
      Steps p.tables e below (T.setTop g) ((T'.setTop { g with stack := rest }).pushFrame (.throwing q)))
def vx_X {S : Type} (px : S → Prop) (B : String → S → State → Prop) (A : Nat → Prop) : String → State → State → Prop := fun E st t => ∃ u : S, px u ∧ B E u t ∧ va_F A st t
section Runs
variable {p : Program} {l : Launch} {e : Env} {R : Room} {s : State} {m : MethodId} {args : Array Value} {below : List Frame} {meth : Method} {c : Code} {H : Heap} {locs : List Loc} {cells slots : Nat}
variable {y : MethodName} {bytes cc : ByteArray} {maxL nL mc ms n index : Nat} {ret : Option FieldType} {ws : List Cond} {rm : Room} {Pc : Array Value → State → Prop} {Qc : Array Value → State → Outcome → State → Prop} {XC : String → State → State → Prop} {free : Addr → Prop} {Ts : List Cond} {own C : String} {b : Addr} {As rest : List Value} {g : JFrame}
theorem vx_callBack (cb : CallB R s args own index y bytes maxL ret ws rm mc ms n) (hM : vx_Met l y ws rm Pc Qc XC mc ms free) (hbl : FrameBlind Pc) : vx_Back l R p e below s args y 3 8 (PreOf R mc ms Pc) (PostOf Qc mc ms free) (vx_Post XC mc ms free) := by
  obtain ⟨hrc, hrs, hfr, hlo, hws, hcw, -, hini, -⟩ := cb
  exact vx_back (bytes := bytes) (maxL := maxL) (ret := ret) hM hbl hrc hrs hfr hlo hws hcw (fun a' U hW => word_at hW (Or.inl (by first | rfl | simp [Cond.onTables, Cond.keeps, Cond.steady])) hini)
theorem vx_runV (S : CallFix p m c cc nL s args Ts own) (hM : vx_Met l y ws rm Pc Qc XC mc ms free) (cw : CallW R s args own C index y bytes maxL ret ws rm mc ms n) (hp : PreV s H C b Pc As)
    (hg : g.method = m) (hn : As.length = n) (hsize : g.locals.size = nL) (hstack : g.stack = As.reverse ++ .ref b :: rest) (hW : 2 * g.monitorRoom + (rest.map fun v => v.category).sum ≤ 8) (hdg : decode cc g.pc = .ok (.invokevirtual index, 3)) (hf : cells + mc ≤ R.cells ∧ slots + ms ≤ R.slots) :
    vx_Run p l e R s m args below meth c H locs cells slots mc ms g rest (Qc (Value.ref b :: As).toArray) XC free := by
  have hK : vx_Back l R p e below s args y 3 8 (PreOf R mc ms Pc) (PostOf Qc mc ms free) (vx_Post XC mc ms free) := vx_callBack cw.1 hM hp.1
  obtain ⟨⟨-, -, -, -, -, -, hcode, -, hy, hlen, hl⟩, hin, hse⟩ := cw
  obtain ⟨hx, hb, hml, ho, -⟩ := S
  obtain ⟨-, ⟨cellB, hcB, hoB, hclB⟩, hPc⟩ := hp
  intro T hT X
  rcases vx_callV X hx (C := C) (bytes := bytes) (maxL := maxL) (ret := ret) ho hl hin hse hcode hy hK (by rw [hT]; exact hcB) hoB hclB hg (hsize.trans hml.symm) (argsL := As) (rest := rest) (fun sig h => hn.trans (hlen sig h)) hstack hW (by rw [hb]; exact hdg)
    (fun vm₁ hW₁ => ⟨hf.1, hf.2, hPc (T.setVm vm₁) hT hW₁⟩) with ⟨v, vm₁, ⟨U', l2, c2, s2⟩, hW₁, X', ⟨g', mk, t, L, e1, e2, hq, h1, hL, h2, h3⟩, st⟩ | ⟨q, vm₁, ⟨U', l2, c2, s2⟩, hW₁, X', ⟨g', mk, t, L, E, ce, e1, e2, hq, hce, hcv, hcl, h1, hL, h2, h3⟩, st⟩
  · dsimp only [Pt.U, Pt.locs, Pt.cells, Pt.slots] at X' e1 e2 h1 h2 h3 st
    subst h1; subst h2; subst h3
    exact Or.inl ⟨v, (T.setVm vm₁).calling g' mk (Value.ref b :: As).toArray, t, U', L, hT, X', hL, e1, e2, hq, st⟩
  · dsimp only [Pt.U, Pt.locs, Pt.cells, Pt.slots] at X' e1 e2 h1 h2 h3 st hcl
    subst h1; subst h2; subst h3
    exact Or.inr ⟨q, (T.setVm vm₁).calling g' mk (Value.ref b :: As).toArray, t, U', L, E, ce, hT, X', hL, e1, e2, hq, hce, hcv, vx_cls hW₁ hcl, st⟩
theorem vx_runS (S : CallFix p m c cc nL s args Ts own) (hM : vx_Met l y ws rm Pc Qc XC mc ms free) (cw : CallB R s args own index y bytes maxL ret ws rm mc ms n ∧ (Cond.static y).before args s = true) (hp : PreS s H Pc As)
    (hg : g.method = m) (hn : As.length = n) (hsize : g.locals.size = nL) (hstack : g.stack = As.reverse ++ rest) (hW : 2 * g.monitorRoom + (rest.map fun v => v.category).sum ≤ 8) (hdg : decode cc g.pc = .ok (.invokestatic index, 3)) (hf : cells + mc ≤ R.cells ∧ slots + ms ≤ R.slots) :
    vx_Run p l e R s m args below meth c H locs cells slots mc ms g rest (Qc As.toArray) XC free := by
  have hK : vx_Back l R p e below s args y 3 8 (PreOf R mc ms Pc) (PostOf Qc mc ms free) (vx_Post XC mc ms free) := vx_callBack cw.1 hM hp.1
  obtain ⟨⟨-, -, -, -, -, -, hcode, hini, hy, hlen, hl⟩, hstt⟩ := cw
  obtain ⟨hx, hb, hml, ho, -⟩ := S
  intro T hT X
  rcases vx_callS X hx (bytes := bytes) (maxL := maxL) (ret := ret) ho hl hstt hini hcode hy hK hg (hsize.trans hml.symm) (argsL := As) (rest := rest) (fun sig h => hn.trans (hlen sig h)) hstack hW (by rw [hb]; exact hdg)
    (fun vm₁ hW₁ => ⟨hf.1, hf.2, hp.2 (T.setVm vm₁) hT hW₁⟩) with ⟨v, vm₁, ⟨U', l2, c2, s2⟩, hW₁, X', ⟨g', mk, t, L, e1, e2, hq, h1, hL, h2, h3⟩, st⟩ | ⟨q, vm₁, ⟨U', l2, c2, s2⟩, hW₁, X', ⟨g', mk, t, L, E, ce, e1, e2, hq, hce, hcv, hcl, h1, hL, h2, h3⟩, st⟩
  · dsimp only [Pt.U, Pt.locs, Pt.cells, Pt.slots] at X' e1 e2 h1 h2 h3 st
    subst h1; subst h2; subst h3
    exact Or.inl ⟨v, (T.setVm vm₁).calling g' mk As.toArray, t, U', L, hT, X', hL, e1, e2, hq, st⟩
  · dsimp only [Pt.U, Pt.locs, Pt.cells, Pt.slots] at X' e1 e2 h1 h2 h3 st hcl
    subst h1; subst h2; subst h3
    exact Or.inr ⟨q, (T.setVm vm₁).calling g' mk As.toArray, t, U', L, E, ce, hT, X', hL, e1, e2, hq, hce, hcv, vx_cls hW₁ hcl, st⟩
end Runs
section Rows
variable {p : Program} {l : Launch} {e : Env} {R : Room} {s : State} {m : MethodId} {args : Array Value} {below : List Frame} {meth : Method} {c : Code} {H : Heap} {locs : List Loc} {cells slots : Nat} {Q : State → Prop}
variable {mc ms : Nat} {free : Addr → Prop} {A0 A1 : Nat → Prop} {H0 : Heap} {a : Array Value} {pc : Nat} {ls : Array Slot} {st0 rest : List Value}
theorem vx_keep {st₀ t T' : State} {L : List Loc} (h0 : st₀.heap = H) (e1 : T'.heap = t.heap) (hS : va_S A0 H0 H locs) (hA : ∀ q, q < H.size → A1 q → A0 q) (hf : ∀ q, free q → A0 q) (hL : ∀ q ∈ L, free q.base) (hF : va_F A1 st₀ t) :
    H.size ≤ T'.heap.size ∧ (∀ q : Nat, q < H.size → ¬ A1 q → T'.heap[q]? = H[q]?) ∧ va_S A0 H0 T'.heap (locs ++ L) := by
  obtain ⟨hz, hk⟩ := hF
  rw [h0] at hz hk
  exact ⟨by rw [e1]; exact hz, fun q h1 h2 => by rw [e1]; exact hk q h1 h2,
    ⟨Nat.le_trans hS.1 (by rw [e1]; exact hz), fun q h1 h2 => by rw [e1, hk q (Nat.lt_of_lt_of_le h1 hS.1) (fun z => h2 (hA q (Nat.lt_of_lt_of_le h1 hS.1) z))]; exact hS.2.1 q h1 h2, fun q hq => by
      rcases List.mem_append.mp hq with h | h
      · exact hS.2.2 q h
      · exact hf _ (hL q h)⟩⟩
theorem vx_calli {S SX : Type} {post : Int32 → S → Prop} {px : SX → Prop} {B : S → State → Prop} {BX : String → SX → State → Prop} {AX : Nat → Prop} (hr : vx_Run p l e R s m args below meth c H locs cells slots mc ms (F0 m pc ls st0) rest (va_Qi post B A1 a) (vx_X px BX AX) free) (hS : va_S A0 H0 H locs) (hA : ∀ q, q < H.size → A1 q → A0 q) (hf : ∀ q, free q → A0 q) (hAX : ∀ q, q < H.size → AX q → A0 q)
    (kx : ∀ (E : String) (ce : Cell) (q9 : Addr) (u : SX) (t : State) (H1 : Heap) (locs1 : List Loc), t.heap = H1 → s.vm.Alike t.vm → px u → BX E u t → H.size ≤ H1.size → (∀ q : Nat, q < H.size → ¬ AX q → H1[q]? = H[q]?) → va_S A0 H0 H1 locs1 → H1[q9]? = some ce → ce.vm = .none → s.vm.findClass E = some ce.cls → vx_W p l e R s m args below meth c H1 locs1 (cells + mc) (slots + ms) Q (F0 m pc ls rest) q9)
    (kk : ∀ (r : Int32) (u : S) (t : State) (H1 : Heap) (locs1 : List Loc), t.heap = H1 → s.vm.Alike t.vm → post r u → B u t → H.size ≤ H1.size → (∀ q : Nat, q < H.size → ¬ A1 q → H1[q]? = H[q]?) → va_S A0 H0 H1 locs1 → W p l e R s m args below meth c H1 locs1 (cells + mc) (slots + ms) Q (F0 m (pc + 3) ls (.int r :: rest))) : W p l e R s m args below meth c H locs cells slots Q (F0 m pc ls st0) := by
  intro T hT X
  rcases hr T hT X with ⟨v, st₀, t, T', L, h0, X', hL, e1, e2, ⟨⟨r, u, hv, hp, hb⟩, hF⟩, st⟩ | ⟨q, st₀, t, T', L, E, ce, h0, X', hL, e1, e2, ⟨u, hp, hb, hF⟩, hce, hcv, hcl, st⟩
  · cases hv
    obtain ⟨k1, k2, k3⟩ := vx_keep h0 e1 hS hA hf hL hF
    obtain ⟨t2, a1, b1⟩ := kk r u t T'.heap (locs ++ L) e1.symm (by rw [← e2]; exact X'.warmed.alike) hp hb k1 k2 k3 T' rfl X'
    exact ⟨t2, st t2 a1, b1⟩
  · obtain ⟨k1, k2, k3⟩ := vx_keep h0 e1 hS hAX hf hL hF
    obtain ⟨t2, a1, b1⟩ := kx E ce q u t T'.heap (locs ++ L) e1.symm (by rw [← e2]; exact X'.warmed.alike) hp hb k1 k2 k3 (by rw [e1]; exact hce) hcv hcl T' rfl X'
    exact ⟨t2, st.trans a1, b1⟩
theorem vx_calll {S SX : Type} {post : Int64 → S → Prop} {px : SX → Prop} {B : S → State → Prop} {BX : String → SX → State → Prop} {AX : Nat → Prop} (hr : vx_Run p l e R s m args below meth c H locs cells slots mc ms (F0 m pc ls st0) rest (va_Ql post B A1 a) (vx_X px BX AX) free) (hS : va_S A0 H0 H locs) (hA : ∀ q, q < H.size → A1 q → A0 q) (hf : ∀ q, free q → A0 q) (hAX : ∀ q, q < H.size → AX q → A0 q)
    (kx : ∀ (E : String) (ce : Cell) (q9 : Addr) (u : SX) (t : State) (H1 : Heap) (locs1 : List Loc), t.heap = H1 → s.vm.Alike t.vm → px u → BX E u t → H.size ≤ H1.size → (∀ q : Nat, q < H.size → ¬ AX q → H1[q]? = H[q]?) → va_S A0 H0 H1 locs1 → H1[q9]? = some ce → ce.vm = .none → s.vm.findClass E = some ce.cls → vx_W p l e R s m args below meth c H1 locs1 (cells + mc) (slots + ms) Q (F0 m pc ls rest) q9)
    (kk : ∀ (r : Int64) (u : S) (t : State) (H1 : Heap) (locs1 : List Loc), t.heap = H1 → s.vm.Alike t.vm → post r u → B u t → H.size ≤ H1.size → (∀ q : Nat, q < H.size → ¬ A1 q → H1[q]? = H[q]?) → va_S A0 H0 H1 locs1 → W p l e R s m args below meth c H1 locs1 (cells + mc) (slots + ms) Q (F0 m (pc + 3) ls (.long r :: rest))) : W p l e R s m args below meth c H locs cells slots Q (F0 m pc ls st0) := by
  intro T hT X
  rcases hr T hT X with ⟨v, st₀, t, T', L, h0, X', hL, e1, e2, ⟨⟨r, u, hv, hp, hb⟩, hF⟩, st⟩ | ⟨q, st₀, t, T', L, E, ce, h0, X', hL, e1, e2, ⟨u, hp, hb, hF⟩, hce, hcv, hcl, st⟩
  · cases hv
    obtain ⟨k1, k2, k3⟩ := vx_keep h0 e1 hS hA hf hL hF
    obtain ⟨t2, a1, b1⟩ := kk r u t T'.heap (locs ++ L) e1.symm (by rw [← e2]; exact X'.warmed.alike) hp hb k1 k2 k3 T' rfl X'
    exact ⟨t2, st t2 a1, b1⟩
  · obtain ⟨k1, k2, k3⟩ := vx_keep h0 e1 hS hAX hf hL hF
    obtain ⟨t2, a1, b1⟩ := kx E ce q u t T'.heap (locs ++ L) e1.symm (by rw [← e2]; exact X'.warmed.alike) hp hb k1 k2 k3 (by rw [e1]; exact hce) hcv hcl T' rfl X'
    exact ⟨t2, st.trans a1, b1⟩
theorem vx_callf {S SX : Type} {post : UInt32 → S → Prop} {px : SX → Prop} {B : S → State → Prop} {BX : String → SX → State → Prop} {AX : Nat → Prop} (hr : vx_Run p l e R s m args below meth c H locs cells slots mc ms (F0 m pc ls st0) rest (va_Qf post B A1 a) (vx_X px BX AX) free) (hS : va_S A0 H0 H locs) (hA : ∀ q, q < H.size → A1 q → A0 q) (hf : ∀ q, free q → A0 q) (hAX : ∀ q, q < H.size → AX q → A0 q)
    (kx : ∀ (E : String) (ce : Cell) (q9 : Addr) (u : SX) (t : State) (H1 : Heap) (locs1 : List Loc), t.heap = H1 → s.vm.Alike t.vm → px u → BX E u t → H.size ≤ H1.size → (∀ q : Nat, q < H.size → ¬ AX q → H1[q]? = H[q]?) → va_S A0 H0 H1 locs1 → H1[q9]? = some ce → ce.vm = .none → s.vm.findClass E = some ce.cls → vx_W p l e R s m args below meth c H1 locs1 (cells + mc) (slots + ms) Q (F0 m pc ls rest) q9)
    (kk : ∀ (r : UInt32) (u : S) (t : State) (H1 : Heap) (locs1 : List Loc), t.heap = H1 → s.vm.Alike t.vm → post r u → B u t → H.size ≤ H1.size → (∀ q : Nat, q < H.size → ¬ A1 q → H1[q]? = H[q]?) → va_S A0 H0 H1 locs1 → W p l e R s m args below meth c H1 locs1 (cells + mc) (slots + ms) Q (F0 m (pc + 3) ls (.float r :: rest))) : W p l e R s m args below meth c H locs cells slots Q (F0 m pc ls st0) := by
  intro T hT X
  rcases hr T hT X with ⟨v, st₀, t, T', L, h0, X', hL, e1, e2, ⟨⟨r, u, hv, hp, hb⟩, hF⟩, st⟩ | ⟨q, st₀, t, T', L, E, ce, h0, X', hL, e1, e2, ⟨u, hp, hb, hF⟩, hce, hcv, hcl, st⟩
  · cases hv
    obtain ⟨k1, k2, k3⟩ := vx_keep h0 e1 hS hA hf hL hF
    obtain ⟨t2, a1, b1⟩ := kk r u t T'.heap (locs ++ L) e1.symm (by rw [← e2]; exact X'.warmed.alike) hp hb k1 k2 k3 T' rfl X'
    exact ⟨t2, st t2 a1, b1⟩
  · obtain ⟨k1, k2, k3⟩ := vx_keep h0 e1 hS hAX hf hL hF
    obtain ⟨t2, a1, b1⟩ := kx E ce q u t T'.heap (locs ++ L) e1.symm (by rw [← e2]; exact X'.warmed.alike) hp hb k1 k2 k3 (by rw [e1]; exact hce) hcv hcl T' rfl X'
    exact ⟨t2, st.trans a1, b1⟩
theorem vx_calld {S SX : Type} {post : UInt64 → S → Prop} {px : SX → Prop} {B : S → State → Prop} {BX : String → SX → State → Prop} {AX : Nat → Prop} (hr : vx_Run p l e R s m args below meth c H locs cells slots mc ms (F0 m pc ls st0) rest (va_Qd post B A1 a) (vx_X px BX AX) free) (hS : va_S A0 H0 H locs) (hA : ∀ q, q < H.size → A1 q → A0 q) (hf : ∀ q, free q → A0 q) (hAX : ∀ q, q < H.size → AX q → A0 q)
    (kx : ∀ (E : String) (ce : Cell) (q9 : Addr) (u : SX) (t : State) (H1 : Heap) (locs1 : List Loc), t.heap = H1 → s.vm.Alike t.vm → px u → BX E u t → H.size ≤ H1.size → (∀ q : Nat, q < H.size → ¬ AX q → H1[q]? = H[q]?) → va_S A0 H0 H1 locs1 → H1[q9]? = some ce → ce.vm = .none → s.vm.findClass E = some ce.cls → vx_W p l e R s m args below meth c H1 locs1 (cells + mc) (slots + ms) Q (F0 m pc ls rest) q9)
    (kk : ∀ (r : UInt64) (u : S) (t : State) (H1 : Heap) (locs1 : List Loc), t.heap = H1 → s.vm.Alike t.vm → post r u → B u t → H.size ≤ H1.size → (∀ q : Nat, q < H.size → ¬ A1 q → H1[q]? = H[q]?) → va_S A0 H0 H1 locs1 → W p l e R s m args below meth c H1 locs1 (cells + mc) (slots + ms) Q (F0 m (pc + 3) ls (.double r :: rest))) : W p l e R s m args below meth c H locs cells slots Q (F0 m pc ls st0) := by
  intro T hT X
  rcases hr T hT X with ⟨v, st₀, t, T', L, h0, X', hL, e1, e2, ⟨⟨r, u, hv, hp, hb⟩, hF⟩, st⟩ | ⟨q, st₀, t, T', L, E, ce, h0, X', hL, e1, e2, ⟨u, hp, hb, hF⟩, hce, hcv, hcl, st⟩
  · cases hv
    obtain ⟨k1, k2, k3⟩ := vx_keep h0 e1 hS hA hf hL hF
    obtain ⟨t2, a1, b1⟩ := kk r u t T'.heap (locs ++ L) e1.symm (by rw [← e2]; exact X'.warmed.alike) hp hb k1 k2 k3 T' rfl X'
    exact ⟨t2, st t2 a1, b1⟩
  · obtain ⟨k1, k2, k3⟩ := vx_keep h0 e1 hS hAX hf hL hF
    obtain ⟨t2, a1, b1⟩ := kx E ce q u t T'.heap (locs ++ L) e1.symm (by rw [← e2]; exact X'.warmed.alike) hp hb k1 k2 k3 (by rw [e1]; exact hce) hcv hcl T' rfl X'
    exact ⟨t2, st.trans a1, b1⟩
theorem vx_callv {S SX : Type} {post : S → Prop} {px : SX → Prop} {B : S → State → Prop} {BX : String → SX → State → Prop} {AX : Nat → Prop} (hr : vx_Run p l e R s m args below meth c H locs cells slots mc ms (F0 m pc ls st0) rest (va_Qv post B A1 a) (vx_X px BX AX) free) (hS : va_S A0 H0 H locs) (hA : ∀ q, q < H.size → A1 q → A0 q) (hf : ∀ q, free q → A0 q) (hAX : ∀ q, q < H.size → AX q → A0 q)
    (kx : ∀ (E : String) (ce : Cell) (q9 : Addr) (u : SX) (t : State) (H1 : Heap) (locs1 : List Loc), t.heap = H1 → s.vm.Alike t.vm → px u → BX E u t → H.size ≤ H1.size → (∀ q : Nat, q < H.size → ¬ AX q → H1[q]? = H[q]?) → va_S A0 H0 H1 locs1 → H1[q9]? = some ce → ce.vm = .none → s.vm.findClass E = some ce.cls → vx_W p l e R s m args below meth c H1 locs1 (cells + mc) (slots + ms) Q (F0 m pc ls rest) q9)
    (kk : ∀ (u : S) (t : State) (H1 : Heap) (locs1 : List Loc), t.heap = H1 → s.vm.Alike t.vm → post u → B u t → H.size ≤ H1.size → (∀ q : Nat, q < H.size → ¬ A1 q → H1[q]? = H[q]?) → va_S A0 H0 H1 locs1 → W p l e R s m args below meth c H1 locs1 (cells + mc) (slots + ms) Q (F0 m (pc + 3) ls (rest))) : W p l e R s m args below meth c H locs cells slots Q (F0 m pc ls st0) := by
  intro T hT X
  rcases hr T hT X with ⟨v, st₀, t, T', L, h0, X', hL, e1, e2, ⟨⟨u, hv, hp, hb⟩, hF⟩, st⟩ | ⟨q, st₀, t, T', L, E, ce, h0, X', hL, e1, e2, ⟨u, hp, hb, hF⟩, hce, hcv, hcl, st⟩
  · cases hv
    obtain ⟨k1, k2, k3⟩ := vx_keep h0 e1 hS hA hf hL hF
    obtain ⟨t2, a1, b1⟩ := kk u t T'.heap (locs ++ L) e1.symm (by rw [← e2]; exact X'.warmed.alike) hp hb k1 k2 k3 T' rfl X'
    exact ⟨t2, st t2 a1, b1⟩
  · obtain ⟨k1, k2, k3⟩ := vx_keep h0 e1 hS hAX hf hL hF
    obtain ⟨t2, a1, b1⟩ := kx E ce q u t T'.heap (locs ++ L) e1.symm (by rw [← e2]; exact X'.warmed.alike) hp hb k1 k2 k3 (by rw [e1]; exact hce) hcv hcl T' rfl X'
    exact ⟨t2, st.trans a1, b1⟩
/-- caught by the row x of this method's table; the rows ahead don't take it -/
theorem vx_catch {own name : String} {E : String} {ce : Cell} {q : Addr} (hown : s.vm.findClass own = some m.cls) (pre : List ExceptionTableEntry) (x : ExceptionTableEntry) (suf : List ExceptionTableEntry) (hsplit : c.exceptionTable.toList = pre ++ x :: suf)
    (hpass : ∀ z ∈ pre, covers z pc = false ∨ (z.catchType ≠ 0 ∧ ∃ nm : String, (Cond.classLink own z.catchType nm).before args s = true ∧ va_Nc E nm s)) (hx : covers x pc = true) (h0 : x.catchType ≠ 0)
    (hlink : (Cond.classLink own x.catchType name).before args s = true) (hcast : (Cond.castable E name).before args s = true) (hcell : H[q]? = some ce) (hv : ce.vm = .none) (hcl : s.vm.findClass E = some ce.cls)
    (kk : W p l e R s m args below meth c H locs cells slots Q (F0 m x.handlerPc ls [.ref q])) : vx_W p l e R s m args below meth c H locs cells slots Q (F0 m pc ls rest) q := by
  intro T hT X
  have hpl : e.platform.magicAccessors = ({} : Platform).magicAccessors := by rw [X.admits.platform]
  obtain ⟨c3, c4, hc3, hc4, hasg⟩ := Cond.castable_spec hcast
  cases Option.some.inj (hc3.symm.trans hcl)
  obtain ⟨c5, hc5, hcl5⟩ := Cond.classLink_spec hown hlink e.platform hpl
  cases Option.some.inj (hc4.symm.trans hc5)
  obtain ⟨vm', X', st⟩ := X.thenCaughtThrough q (g := F0 m pc ls rest) rfl (Steps.refl _) (by rw [hT]; exact hcell) (by rw [hv]; rfl) (by obtain ⟨k9, h9, -⟩ := Vm.findClass_spec hcl; exact ⟨k9, h9⟩) pre x suf hsplit
    (fun z hz => by
      rcases hpass z hz with h | ⟨hz0, nm, hl1, hn1⟩
      · exact Or.inl h
      · obtain ⟨c6, hc6, hcl6⟩ := Cond.classLink_spec hown hl1 e.platform hpl
        obtain ⟨a8, b8, h1, h2, h3⟩ := hn1
        cases Option.some.inj (h1.symm.trans hcl)
        cases Option.some.inj (h2.symm.trans hc6)
        exact Or.inr ⟨hz0, _, hcl6, h3⟩) hx (Or.inr ⟨h0, c4, hcl5, hasg⟩)
  obtain ⟨t, a1, b1⟩ := kk (T.setVm vm') hT X'
  exact ⟨t, st.trans a1, b1⟩
end Rows
section Ends
variable {p : Program} {l : Launch} {e : Env} {R : Room} {s : State} {m : MethodId} {args : Array Value} {below : List Frame} {meth : Method} {c : Code} {H : Heap} {locs : List Loc} {cells slots : Nat} {Q : State → Prop}
variable {mc ms : Nat} {free : Addr → Prop} {A0 A1 : Nat → Prop} {H0 : Heap} {a : Array Value} {ls : Array Slot} {st0 rest : List Value}
variable {Qc : Array Value → State → Outcome → State → Prop} {XC : String → State → State → Prop}
/-- what a body that may throw owes at its end -/
def vx_MQ (below : List Frame) (Qc : Array Value → State → Outcome → State → Prop) (XC : String → State → State → Prop) (a : Array Value) (s : State) (mc ms : Nat) (free : Addr → Prop) : State → Prop := fun t =>
  ∃ o, t.status = .running ∧ Ended t below o ∧ vx_Q Qc XC mc ms free a s o t
theorem vx_ret {g : JFrame} {mc ms : Nat} (k : W p l e R s m args below meth c H locs cells slots (MQ below Qc args s mc ms free) g) : W p l e R s m args below meth c H locs cells slots (vx_MQ below Qc XC args s mc ms free) g := by
  intro T hT X
  obtain ⟨t, a1, o, b1, b2, b3, b4⟩ := k T hT X
  exact ⟨t, a1, o, b1, b2, Or.inl ⟨b3, b4⟩⟩
/-- not caught here: it goes on to the caller -/
theorem vx_widen {g : JFrame} {q : Addr} {k n : Nat} (h1 : cells ≤ k) (h2 : slots ≤ n) (kk : vx_W p l e R s m args below meth c H locs k n Q g q) : vx_W p l e R s m args below meth c H locs cells slots Q g q := fun T hT X => kk T hT (stand_widen X h1 h2)
theorem vx_out {pc : Nat} {E : String} {ce : Cell} {q : Addr} {mc ms : Nat} (hout : ∀ x ∈ c.exceptionTable.toList, covers x pc = false) (hlocks : meth.locks = false) (hcell : H[q]? = some ce) (hv : ce.vm = .none) (hcl : s.vm.findClass E = some ce.cls)
    (hx : ∀ t : State, t.heap = H → s.vm.Alike t.vm → XC E s t) (hf : ∀ z ∈ locs, free z.base) (hc : cells ≤ mc) (hs : slots ≤ ms) :
    vx_W p l e R s m args below meth c H locs cells slots (vx_MQ below Qc XC args s mc ms free) (F0 m pc ls rest) q := by
  intro T hT X
  obtain ⟨st1, hrun, hend, hW, hsm⟩ := X.leaveThrown q (g := F0 m pc ls rest) rfl rfl rfl hout hlocks
  have hcell9 : (T.setFrames (.throwing q :: below)).heap[q]? = some ce := by
    show T.heap[q]? = some ce
    rw [hT]; exact hcell
  exact ⟨_, st1, .threw q, hrun, hend, Or.inr ⟨q, rfl, E, ce, locs, hx _ hT hW.alike, hcell9, hv, hcl, hW, hsm.mono hc hs, hf⟩⟩
theorem vx_frame {U : State} {k n : Nat} (h : s.sameButNew ({ U with vm := s.vm } : State) locs k n) : s.heap.size ≤ U.heap.size ∧ ∀ q : Nat, q < s.heap.size → (∀ z ∈ locs, z.base ≠ q) → U.heap[q]? = s.heap[q]? := by
  obtain ⟨-, h2, -, -, -, h6⟩ := h
  refine ⟨h2, fun q hq hz => ?_⟩
  obtain ⟨c9, e1, e2, e3, e4⟩ := h6 q _ (Array.getElem?_eq_getElem hq)
  have hs : c9.slots = (s.heap[q]).slots := Array.ext_getElem? fun i => e4 i fun hm => hz _ hm rfl
  have h9 : c9 = s.heap[q] := by
    rw [hs] at e2
    exact e2
  have e5 : U.heap[q]? = some c9 := e1
  rw [e5, h9, Array.getElem?_eq_getElem hq]
/-- the words of a throw but the four that speak of the heap -/
def vx_no (w : Cond) : Bool := decide (w ≠ .isRef (.static Bundle.tN "UNASSIGNED_STACK" Bundle.steD)) && decide (w ≠ .isRef (.static Bundle.tN "SUPPRESSED_SENTINEL" Bundle.listD)) && decide (w ≠ .laysStatic Bundle.tN "UNASSIGNED_STACK" Bundle.steD) && decide (w ≠ .laysStatic Bundle.tN "SUPPRESSED_SENTINEL" Bundle.listD)
def vx_at0 (own : String) (ic : Nat) (X : String) (names : List String) : List Cond := (Bundle.ownAtoms0 own ic X names).filter vx_no
def vx_atS (own : String) (ic : Nat) (X : String) (names : List String) : List Cond := (Bundle.ownAtoms own ic X names).filter vx_no
/-- a word that the tables alone decide, or a good one -/
def vx_ot (w : Cond) : Bool := w.onTables || goodWord w
theorem vx_ot_at {args a' : Array Value} {s U : State} {w : Cond} (hW : s.WarmedH U.vm) (hvm : s.vm = U.vm) (hg : vx_ot w = true) (h : w.before args s = true) : w.before a' U = true := by
  simp only [vx_ot, Bool.or_eq_true] at hg
  rcases hg with hg | hg
  · exact va_tabs hg hvm h
  · exact word_at hW (good_of_word hg) h
/-- a list's words: the good ones out of the method's own list, the others by premises of their own -/
theorem vx_hat {args : Array Value} {s : State} {L B : List Cond} (h1 : ∀ w ∈ L.filter goodWord, w.before args s = true) (h2 : ∀ w ∈ L.filter (fun w => !goodWord w), w ∈ B) (h3 : ∀ w ∈ B, w.before args s = true) : ∀ w ∈ L, w.before args s = true := by
  intro w hw
  by_cases g : goodWord w = true
  · exact h1 w (List.mem_filter.mpr ⟨hw, g⟩)
  · refine h3 w (h2 w (List.mem_filter.mpr ⟨hw, ?_⟩))
    show (!goodWord w) = true
    cases hgw : goodWord w
    · rfl
    · exact absurd hgw g
theorem vx_c {args : Array Value} {s : State} {w : Cond} {B : List Cond} (h : w.before args s = true) (t : ∀ w ∈ B, w.before args s = true) : ∀ w' ∈ w :: B, w'.before args s = true := fun w' h' => (List.mem_cons.mp h').elim (fun e => by rw [e]; exact h) (t w')
theorem vx_n {args : Array Value} {s : State} : ∀ w ∈ ([] : List Cond), w.before args s = true := fun _ h => nomatch h
theorem vx_own {args : Array Value} {s : State} {L : List Cond} (h1 : ∀ w ∈ L.filter vx_no, w.before args s = true)
    (hU : (Cond.isRef (.static Bundle.tN "UNASSIGNED_STACK" Bundle.steD)).before args s = true) (hN : (Cond.isRef (.static Bundle.tN "SUPPRESSED_SENTINEL" Bundle.listD)).before args s = true)
    (lU : (Cond.laysStatic Bundle.tN "UNASSIGNED_STACK" Bundle.steD).before args s = true) (lN : (Cond.laysStatic Bundle.tN "SUPPRESSED_SENTINEL" Bundle.listD).before args s = true) : ∀ w ∈ L, w.before args s = true := by
  intro w hw
  by_cases e1 : w = .isRef (.static Bundle.tN "UNASSIGNED_STACK" Bundle.steD)
  · rw [e1]; exact hU
  · by_cases e2 : w = .isRef (.static Bundle.tN "SUPPRESSED_SENTINEL" Bundle.listD)
    · rw [e2]; exact hN
    · by_cases e3 : w = .laysStatic Bundle.tN "UNASSIGNED_STACK" Bundle.steD
      · rw [e3]; exact lU
      · by_cases e4 : w = .laysStatic Bundle.tN "SUPPRESSED_SENTINEL" Bundle.listD
        · rw [e4]; exact lN
        · exact h1 w (List.mem_filter.mpr ⟨hw, by unfold vx_no; rw [decide_eq_true e1, decide_eq_true e2, decide_eq_true e3, decide_eq_true e4]; rfl⟩)
/-- where a static field lies, its class's statics cell in H -/
def vx_L (C n d : String) (A : Nat → Prop) (U : State) (H : Heap) : Prop := ∃ (c : ClassId) (k : Class) (i : Nat) (f : Field) (a : Nat) (cell : Cell), U.vm.findClass C = some c ∧ U.fieldFound? C n d = some (c, k, i, f) ∧ f.isStatic = true ∧ k.statics = some a ∧ H[a]? = some cell ∧ cell.vm.isStatics = true ∧ cell.cls = c ∧ f.slot < cell.slots.size ∧ k.staticTypes[f.slot]? = some f.type ∧ ¬ A a
theorem vx_L.moved {C n d : String} {A : Nat → Prop} {u U : State} {H : Heap} (hvm : u.vm.Alike U.vm) (h : vx_L C n d A u H) : vx_L C n d A U H := by
  obtain ⟨c, k, i, f, a, cell, h1, h2, h3, h4, h5, h6, h7, h8, h9, h10⟩ := h
  obtain ⟨k', hi', he⟩ := State.fieldFound?_setVm hvm h2
  exact ⟨c, k', i, f, a, cell, by rw [hvm.findClass]; exact h1, hi', h3, by rw [he]; exact h4, h5, h6, h7, h8, by rw [he]; exact h9, h10⟩
theorem vx_L.kept {C n d : String} {A : Nat → Prop} {U : State} {H H1 : Heap} (h : vx_L C n d A U H) (hq : ∀ a : Nat, a < H.size → ¬ A a → H1[a]? = H[a]?) : vx_L C n d A U H1 := by
  obtain ⟨c, k, i, f, a, cell, h1, h2, h3, h4, h5, h6, h7, h8, h9, h10⟩ := h
  exact ⟨c, k, i, f, a, cell, h1, h2, h3, h4, by rw [hq a (Array.getElem?_eq_some_iff.mp h5).1 h10]; exact h5, h6, h7, h8, h9, h10⟩
theorem vx_L.narrow {C n d : String} {A B : Nat → Prop} {U : State} {H : Heap} (h : vx_L C n d A U H) (hAB : ∀ q, B q → A q) : vx_L C n d B U H := by
  obtain ⟨c, k, i, f, a, cell, h1, h2, h3, h4, h5, h6, h7, h8, h9, h10⟩ := h
  exact ⟨c, k, i, f, a, cell, h1, h2, h3, h4, h5, h6, h7, h8, h9, fun z => h10 (hAB _ z)⟩
theorem vx_L.word {C n d : String} {A : Nat → Prop} {s : State} {args : Array Value} (h : vx_L C n d A s s.heap) : (Cond.laysStatic C n d).before args s = true := by
  obtain ⟨c, k, i, f, a, cell, h1, h2, h3, h4, h5, h6, h7, h8, h9, -⟩ := h
  show (Cond.laysStatic C n d).holds args s none s [] = true
  exact Cond.laysStatic_of h1 h2 h3 h4 h5 h6 h7 h8 h9
/-- .. and what it holds: null or some reference -/
def vx_Zq (C n d : String) (A : Nat → Prop) (U : State) (H : Heap) : Prop := va_Zq C n d A U H ∧ vx_L C n d A U H
theorem vx_Zq.moved {C n d : String} {A : Nat → Prop} {u U : State} {H : Heap} (hvm : u.vm.Alike U.vm) (h : vx_Zq C n d A u H) : vx_Zq C n d A U H := ⟨va_Zq.moved hvm h.1, vx_L.moved hvm h.2⟩
theorem vx_Zq.kept {C n d : String} {A : Nat → Prop} {U : State} {H H1 : Heap} (h : vx_Zq C n d A U H) (hq : ∀ a : Nat, a < H.size → ¬ A a → H1[a]? = H[a]?) : vx_Zq C n d A U H1 := ⟨va_Zq.kept h.1 hq, vx_L.kept h.2 hq⟩
theorem vx_Zq.narrow {C n d : String} {A B : Nat → Prop} {U : State} {H : Heap} (h : vx_Zq C n d A U H) (hAB : ∀ q, B q → A q) : vx_Zq C n d B U H := ⟨va_Zq.narrow h.1 hAB, vx_L.narrow h.2 hAB⟩
theorem vx_Zqof {args : Array Value} {s : State} {C n d : String} {A : Nat → Prop} (hl : (Cond.laysStatic C n d).before args s = true) (hini : (Cond.initialized C).before args s = true) (h : (Cond.isRef (.static C n d)).before args s = true) (hA : ∀ a : Nat, a < s.heap.size → ¬ A a) : vx_Zq C n d A s s.heap := by
  refine ⟨va_Zqof hl hini h hA, ?_⟩
  obtain ⟨c, k, i, f, a, cell, h1, h2, h3, h4, h5, h6, h7, h8, h9⟩ := Cond.laysStatic_spec hl
  exact ⟨c, k, i, f, a, cell, h1, h2, h3, h4, h5, h6, h7, h8, h9, hA a (Array.getElem?_eq_some_iff.mp h5).1⟩
theorem vx_isRef {C n d : String} {v : Value} {A : Nat → Prop} {s : State} {args : Array Value} (h : va_Z C n d v A s s.heap) (hv : v.isRef = true) : (Cond.isRef (.static C n d)).before args s = true := by
  obtain ⟨cf, kf, fi, f, a, cell, h1, h2, h3, h4, h5, h6, h7, -⟩ := h
  have he : (Term.static C n d).eval args s none [] s = some v := by
    simp [Term.eval, State.fieldNamed?, h1, h2, h4, h5, h6, h7]
  simp only [Cond.before, Cond.holds, Cond.value, he]
  cases v <;> simp_all [Value.isRef]
theorem vx_isRefq {C n d : String} {A : Nat → Prop} {s : State} {args : Array Value} (h : va_Zq C n d A s s.heap) : (Cond.isRef (.static C n d)).before args s = true := by
  rcases h with h | ⟨t, h⟩
  · exact vx_isRef h rfl
  · exact vx_isRef h rfl
/-- the same frame, seen from here: as if the method were called anew in this heap -/
theorem vx_rebase {T : State} (X : Stand p l e R s m args below meth c T locs cells slots) {R' : Room} (hf : R'.frames ≤ R.frames) (hl : R'.locals ≤ R.locals) (hc : cells + R'.cells ≤ R.cells) (hs : slots + R'.slots ≤ R.slots) :
    Stand p l e R' ((T.setVm s.vm).setFrames (.invoking m args :: below)) m args below meth c T [] 0 0 := by
  have htop : (T.setVm s.vm).topJava?.isSome := X.here.top
  have hF : ((T.setVm s.vm).setFrames (.invoking m args :: below)).frames = .invoking m args :: below := State.frames_setFrames _ (State.cur_lt_of_top htop)
  obtain ⟨g₀, hg0⟩ := Option.isSome_iff_exists.mp htop
  obtain ⟨r, hr⟩ := State.topJava?_eq_some.mp hg0
  have hl9 : e.platform.stackLimits (T.setVm s.vm).me = e.platform.stackLimits s.me := X.limits
  have hb9 : (T.setVm s.vm).me.stackBytes = s.me.stackBytes := X.bytes
  refine ⟨X.admits, X.cas, X.clock, hF, ?_, X.hears, X.method, X.code, X.here, X.tail, X.warmed, ?_, ?_, ?_⟩
  · have h := X.room
    have hU : ((T.setVm s.vm).setFrames (.invoking m args :: below)).localsInUse = s.localsInUse := by
      rw [State.localsInUse_invoking hF (meth := meth) (c := c) X.method X.code, State.localsInUse_invoking X.frames X.method X.code]
    simp only [State.hasRoom, Bool.and_eq_true, decide_eq_true_eq] at h ⊢
    obtain ⟨⟨⟨⟨h1, h2, h3, h4, h5, h6⟩, h7⟩, h8⟩, h9⟩ := h
    rw [X.frames, List.length_cons] at h2 h3
    have q1 := X.heapSize
    have q2 := X.used
    simp only [hF, hU, List.length_cons, State.stackLimits_setFrames, State.stackBytes_setFrames, hl9, hb9]
    refine ⟨⟨⟨⟨by omega, by omega, by omega, by omega, by omega, h6⟩, ?_⟩, ?_⟩, X.book⟩
    · show T.heap.size + R'.cells ≤ e.platform.maxCells
      omega
    · show T.slotsUsed + R'.slots ≤ e.platform.maxSlots
      omega
  · rw [State.stackLimits_setFrames]; rfl
  · rw [State.stackBytes_setFrames]; rfl
  · refine ⟨?_, Nat.le_refl _, Nat.le_refl _, ?_, ?_, fun a c9 h9 => ⟨c9, h9, rfl, rfl, fun _ _ => rfl⟩⟩
    · obtain ⟨t, ht, -⟩ := State.frames_cons hr
      show T.setVm s.vm = { ((T.setVm s.vm).setFrames (.invoking m args :: below)).setFrames (T.setVm s.vm).frames with heap := T.heap, slotsUsed := T.slotsUsed }
      rw [State.setFrames_setFrames, State.setFrames_self ht]
      rfl
    · show T.slotsUsed = T.slotsUsed + ((T.heap.toList.drop T.heap.size).map (·.slots.size)).sum
      rw [List.drop_eq_nil_of_le (Nat.le_of_eq Array.length_toList)]
      rfl
    · show ((T.heap.toList.drop T.heap.size).map (·.slots.size)).sum ≤ 0
      rw [List.drop_eq_nil_of_le (Nat.le_of_eq Array.length_toList)]
      exact Nat.le_refl _
/-- 'throw new E()': new; dup; invokespecial; athrow -/
theorem vx_throw0 {cc : ByteArray} {pc : Nat} (hexec : p.tables.exec = Jvm.exec) (hb : c.code = cc) (hl : l.stackTraces = false) {own cls : String} {names : List String} {ik ic mc ms : Nat} {A : Nat → Prop}
    (hown : s.vm.findClass own = some m.cls) (hcls : Bundle.fit cls = true) (hnames : ∀ n ∈ names, Bundle.fit n = true)
    (hk : (Cond.classLink own ik cls).before args s = true) (hini : (Cond.initialized cls).before args s = true) (hat : ∀ w ∈ vx_at0 own ic cls names, w.before args s = true)
    (hgood : ∀ w ∈ Cond.classLink own ik cls :: Cond.initialized cls :: vx_at0 own ic cls names, vx_ot w = true)
    (hU : vx_Zq Bundle.tN "UNASSIGNED_STACK" Bundle.steD A s s.heap) (hN : vx_Zq Bundle.tN "SUPPRESSED_SENTINEL" Bundle.listD A s s.heap) (hS : va_S A s.heap H locs) (hsize : ls.size = c.maxLocals)
    (d0 : decode cc pc = .ok (.new ik, 3)) (d3 : decode cc (pc + 3) = .ok (.dup, 1)) (d4 : decode cc (pc + 4) = .ok (.invokespecial ic, 3)) (d7 : decode cc (pc + 7) = .ok (.athrow, 1))
    (hout : ∀ x ∈ c.exceptionTable.toList, covers x (pc + 7) = false)
    (hRframes : names.length + 3 < R.frames) (hRlocals : (rest.map fun v => v.category).sum + (13 * (names.length + 1) + 42) ≤ R.locals) (hRcells : cells + 1 ≤ R.cells) (hRslots : slots + 6 ≤ R.slots) (hlocks : meth.locks = false)
    (hx : ∀ t : State, s.vm.Alike t.vm → H.size ≤ t.heap.size → (∀ q : Nat, q < H.size → t.heap[q]? = H[q]?) → XC cls s t)
    (hf : ∀ z ∈ locs, free z.base) (hc : cells + 1 ≤ mc) (hs : slots + 6 ≤ ms) :
    W p l e R s m args below meth c H locs cells slots (vx_MQ below Qc XC args s mc ms free) (F0 m pc ls rest) := by
  intro T hT X
  have htr : e.platform.stackTraces = false := (show e.platform.stackTraces = l.stackTraces by rw [X.admits.platform]).trans hl
  have Y := vx_rebase X (R' := { frames := R.frames, locals := R.locals, cells := 1, slots := 6 }) (Nat.le_refl _) (Nat.le_refl _) hRcells hRslots
  obtain ⟨s', hA⟩ : ∃ z, z = (T.setVm s.vm).setFrames (.invoking m args :: below) := ⟨_, rfl⟩
  rw [← hA] at Y
  have hvm : s'.vm = s.vm := by rw [hA]; rfl
  have hhp : s'.heap = H := by rw [hA]; exact hT
  have hW0 : s.WarmedH s'.vm := by rw [hvm]; exact State.WarmedH.refl s
  have hat' : ∀ w ∈ vx_at0 own ic cls names, w.before args s' = true := fun w hw => vx_ot_at hW0 hvm.symm (hgood w (List.mem_cons_of_mem _ (List.mem_cons_of_mem _ hw))) (hat w hw)
  have hk' : (Cond.classLink own ik cls).before args s' = true := vx_ot_at hW0 hvm.symm (hgood _ List.mem_cons_self) hk
  have hini' : (Cond.initialized cls).before args s' = true := vx_ot_at hW0 hvm.symm (hgood _ (List.mem_cons_of_mem _ List.mem_cons_self)) hini
  have hU' : vx_Zq Bundle.tN "UNASSIGNED_STACK" Bundle.steD A s' s'.heap := by rw [hhp]; exact vx_Zq.moved hW0.alike (hU.kept hS.2.1)
  have hN' : vx_Zq Bundle.tN "SUPPRESSED_SENTINEL" Bundle.listD A s' s'.heap := by rw [hhp]; exact vx_Zq.moved hW0.alike (hN.kept hS.2.1)
  have h : ∀ w ∈ Bundle.ownAtoms0 own ic cls names, w.before args s' = true := vx_own hat' (vx_isRefq hU'.1) (vx_isRefq hN'.1) hU'.2.word hN'.2.word
  have hown' : s'.vm.findClass own = some m.cls := by rw [hvm]; exact hown
  have hins : (Cond.instantiable cls 6).before args s' = true := h _ (by simp [Bundle.ownAtoms0])
  obtain ⟨vm₁, cX, kX, hfX, hkX, -, -, X₁, st1⟩ := Y.newCold hexec (own := own) (C := cls) (index := ik) (n := 6) hown' hk' hins hini'
    (g := F0 m pc ls rest) rfl (by rw [hb]; exact d0) (Nat.le_refl _) (Nat.le_refl _)
  generalize hT1 : (T.setVm vm₁).pushCell { cls := cX, slots := kX.instanceTypes.map defaultValue, vm := .none } = T1 at X₁ st1
  have hcat : (Value.ref T.heap.size).category = 1 := rfl
  have hcellA : T1.heap[T.heap.size]? = some (freshCell cX kX) := by rw [← hT1]; exact State.heap_pushCell_size _ _
  have d3' : decode c.code (pc + 3) = .ok (.dup, 1) := by rw [hb]; exact d3
  obtain ⟨U, hsteps, hrun, hend, hW, hsame, ce, hce, hO⟩ := X₁.ctorThrow0 hexec htr (own := own) (cls := cls) (names := names) (ic := ic) hown' hcls hnames h (fun x hx => nomatch hx) hfX hkX hcellA (by rw [hhp, hT]; exact Nat.le_refl _)
    (g := { method := m, pc := pc + 4, locals := ls, stack := .ref T.heap.size :: .ref T.heap.size :: rest, locked := none }) rfl hsize rfl rfl (rest := rest) rfl
    (by rw [hb]; exact d4) (by rw [hb]; exact d7) hout hRframes (by simp only [List.map_cons, List.sum_cons, hcat]; omega) hlocks
  obtain ⟨f1, f2⟩ := vx_frame hsame
  rw [hhp] at f1 f2
  have hWs : s.WarmedH U.vm := State.WarmedH.trans hW0 hW
  have hcl : s.vm.findClass cls = some ce.cls := by
    have h9 := hO.cls
    rw [hvm] at h9
    exact h9
  have hall : s.sameButNew ({ U with vm := s.vm } : State) locs mc ms := by
    subst hA
    obtain ⟨e1, e2⟩ := hsame
    rw [State.setFrames_setFrames] at e1
    have h2 : (T.setVm s.vm).sameButNew ({ U with vm := s.vm } : State) [] (0 + 1) (0 + 6) := ⟨e1, e2⟩
    have h3 := X.same.trans h2
    rw [List.append_nil] at h3
    exact h3.mono hc hs
  refine ⟨U, ?_, .threw T.heap.size, hrun, hend, Or.inr ⟨T.heap.size, rfl, cls, ce, locs, hx U hWs.alike f1 (fun q hq => f2 q hq (fun z hz => nomatch hz)), hce, hO.vm, hcl, hWs, hall, hf⟩⟩
  refine st1 _ ?_
  show Steps p.tables e below (T1.setTop { method := m, pc := pc + 3, locals := ls, stack := .ref T.heap.size :: rest, locked := none }) _
  jvm_step X₁.here [X₁.here.top, hexec, d3', Value.category]
  exact hsteps
/-- 'throw new E("text")': new; dup; ldc; invokespecial; athrow -/
theorem vx_throwS {cc : ByteArray} {pc : Nat} (hexec : p.tables.exec = Jvm.exec) (hb : c.code = cc) (hl : l.stackTraces = false) {own cls text : String} {names : List String} {ik is ic mc ms sa : Nat} {A : Nat → Prop}
    (hown : s.vm.findClass own = some m.cls) (hcls : Bundle.fit cls = true) (hnames : ∀ n ∈ names, Bundle.fit n = true)
    (hk : (Cond.classLink own ik cls).before args s = true) (hini : (Cond.initialized cls).before args s = true) (hstr : vk_R own is text sa s) (hat : ∀ w ∈ vx_atS own ic cls names, w.before args s = true)
    (hgood : ∀ w ∈ Cond.classLink own ik cls :: Cond.initialized cls :: vx_atS own ic cls names, vx_ot w = true)
    (hU : vx_Zq Bundle.tN "UNASSIGNED_STACK" Bundle.steD A s s.heap) (hN : vx_Zq Bundle.tN "SUPPRESSED_SENTINEL" Bundle.listD A s s.heap) (hS : va_S A s.heap H locs) (hsize : ls.size = c.maxLocals)
    (d0 : decode cc pc = .ok (.new ik, 3)) (d3 : decode cc (pc + 3) = .ok (.dup, 1)) (d4 : decode cc (pc + 4) = .ok (.ldc is, 2)) (d6 : decode cc (pc + 6) = .ok (.invokespecial ic, 3)) (d9 : decode cc (pc + 9) = .ok (.athrow, 1))
    (hout : ∀ x ∈ c.exceptionTable.toList, covers x (pc + 9) = false)
    (hRframes : names.length + 3 < R.frames) (hRlocals : (rest.map fun v => v.category).sum + (13 * (names.length + 1) + 43) ≤ R.locals) (hRcells : cells + 1 ≤ R.cells) (hRslots : slots + 6 ≤ R.slots) (hlocks : meth.locks = false)
    (hx : ∀ t : State, s.vm.Alike t.vm → H.size ≤ t.heap.size → (∀ q : Nat, q < H.size → t.heap[q]? = H[q]?) → XC cls s t)
    (hf : ∀ z ∈ locs, free z.base) (hc : cells + 1 ≤ mc) (hs : slots + 6 ≤ ms) :
    W p l e R s m args below meth c H locs cells slots (vx_MQ below Qc XC args s mc ms free) (F0 m pc ls rest) := by
  intro T hT X
  have htr : e.platform.stackTraces = false := (show e.platform.stackTraces = l.stackTraces by rw [X.admits.platform]).trans hl
  have Y := vx_rebase X (R' := { frames := R.frames, locals := R.locals, cells := 1, slots := 6 }) (Nat.le_refl _) (Nat.le_refl _) hRcells hRslots
  obtain ⟨s', hA⟩ : ∃ z, z = (T.setVm s.vm).setFrames (.invoking m args :: below) := ⟨_, rfl⟩
  rw [← hA] at Y
  have hvm : s'.vm = s.vm := by rw [hA]; rfl
  have hhp : s'.heap = H := by rw [hA]; exact hT
  have hW0 : s.WarmedH s'.vm := by rw [hvm]; exact State.WarmedH.refl s
  have hat' : ∀ w ∈ vx_atS own ic cls names, w.before args s' = true := fun w hw => vx_ot_at hW0 hvm.symm (hgood w (List.mem_cons_of_mem _ (List.mem_cons_of_mem _ hw))) (hat w hw)
  have hk' : (Cond.classLink own ik cls).before args s' = true := vx_ot_at hW0 hvm.symm (hgood _ List.mem_cons_self) hk
  have hini' : (Cond.initialized cls).before args s' = true := vx_ot_at hW0 hvm.symm (hgood _ (List.mem_cons_of_mem _ List.mem_cons_self)) hini
  have hU' : vx_Zq Bundle.tN "UNASSIGNED_STACK" Bundle.steD A s' s'.heap := by rw [hhp]; exact vx_Zq.moved hW0.alike (hU.kept hS.2.1)
  have hN' : vx_Zq Bundle.tN "SUPPRESSED_SENTINEL" Bundle.listD A s' s'.heap := by rw [hhp]; exact vx_Zq.moved hW0.alike (hN.kept hS.2.1)
  have h : ∀ w ∈ Bundle.ownAtoms own ic cls names, w.before args s' = true := vx_own hat' (vx_isRefq hU'.1) (vx_isRefq hN'.1) hU'.2.word hN'.2.word
  have hown' : s'.vm.findClass own = some m.cls := by rw [hvm]; exact hown
  have hins : (Cond.instantiable cls 6).before args s' = true := h _ (by simp [Bundle.ownAtoms])
  obtain ⟨vm₁, cX, kX, hfX, hkX, -, -, X₁, st1⟩ := Y.newCold hexec (own := own) (C := cls) (index := ik) (n := 6) hown' hk' hins hini'
    (g := F0 m pc ls rest) rfl (by rw [hb]; exact d0) (Nat.le_refl _) (Nat.le_refl _)
  generalize hT1 : (T.setVm vm₁).pushCell { cls := cX, slots := kX.instanceTypes.map defaultValue, vm := .none } = T1 at X₁ st1
  have hcat : (Value.ref T.heap.size).category = 1 := rfl
  have hcellA : T1.heap[T.heap.size]? = some (freshCell cX kX) := by rw [← hT1]; exact State.heap_pushCell_size _ _
  have d3' : decode c.code (pc + 3) = .ok (.dup, 1) := by rw [hb]; exact d3
  have d4' : decode c.code (pc + 4) = .ok (.ldc is, 2) := by rw [hb]; exact d4
  have hstr' : vk_R own is text sa s' := vk_R.warm hW0 hstr
  obtain ⟨U, hsteps, hrun, hend, hW, hsame, ce, hce, hO⟩ := X₁.ctorThrowS hexec htr (own := own) (cls := cls) (names := names) (ic := ic) hown' hcls hnames h (fun x hx => nomatch hx) hfX hkX hcellA (by rw [hhp, hT]; exact Nat.le_refl _) (msg := .ref sa) rfl
    (g := { method := m, pc := pc + 6, locals := ls, stack := .ref sa :: .ref T.heap.size :: .ref T.heap.size :: rest, locked := none }) rfl hsize rfl rfl (rest := rest) rfl
    (by rw [hb]; exact d6) (by rw [hb]; exact d9) hout hRframes (by simp only [List.map_cons, List.sum_cons, hcat]; omega) hlocks
  obtain ⟨f1, f2⟩ := vx_frame hsame
  rw [hhp] at f1 f2
  have hWs : s.WarmedH U.vm := State.WarmedH.trans hW0 hW
  have hcl : s.vm.findClass cls = some ce.cls := by
    have h9 := hO.cls
    rw [hvm] at h9
    exact h9
  have hall : s.sameButNew ({ U with vm := s.vm } : State) locs mc ms := by
    subst hA
    obtain ⟨e1, e2⟩ := hsame
    rw [State.setFrames_setFrames] at e1
    have h2 : (T.setVm s.vm).sameButNew ({ U with vm := s.vm } : State) [] (0 + 1) (0 + 6) := ⟨e1, e2⟩
    have h3 := X.same.trans h2
    rw [List.append_nil] at h3
    exact h3.mono hc hs
  refine ⟨U, ?_, .threw T.heap.size, hrun, hend, Or.inr ⟨T.heap.size, rfl, cls, ce, locs, hx U hWs.alike f1 (fun q hq => f2 q hq (fun z hz => nomatch hz)), hce, hO.vm, hcl, hWs, hall, hf⟩⟩
  refine st1 _ ?_
  show Steps p.tables e below (T1.setTop { method := m, pc := pc + 3, locals := ls, stack := .ref T.heap.size :: rest, locked := none }) _
  jvm_step X₁.here [X₁.here.top, hexec, d3', Value.category]
  exact X₁.ldcString hexec (own := own) (text := text) (index := is) (a := sa) hown' hstr'.1 hstr'.2
    (g := { method := m, pc := pc + 4, locals := ls, stack := .ref T.heap.size :: .ref T.heap.size :: rest, locked := none }) rfl d4' _ hsteps
/-- 'throw new E("text")', the text by a wide index -/
theorem vx_throwSW {cc : ByteArray} {pc : Nat} (hexec : p.tables.exec = Jvm.exec) (hb : c.code = cc) (hl : l.stackTraces = false) {own cls text : String} {names : List String} {ik is ic mc ms sa : Nat} {A : Nat → Prop}
    (hown : s.vm.findClass own = some m.cls) (hcls : Bundle.fit cls = true) (hnames : ∀ n ∈ names, Bundle.fit n = true)
    (hk : (Cond.classLink own ik cls).before args s = true) (hini : (Cond.initialized cls).before args s = true) (hstr : vk_R own is text sa s) (hat : ∀ w ∈ vx_atS own ic cls names, w.before args s = true)
    (hgood : ∀ w ∈ Cond.classLink own ik cls :: Cond.initialized cls :: vx_atS own ic cls names, vx_ot w = true)
    (hU : vx_Zq Bundle.tN "UNASSIGNED_STACK" Bundle.steD A s s.heap) (hN : vx_Zq Bundle.tN "SUPPRESSED_SENTINEL" Bundle.listD A s s.heap) (hS : va_S A s.heap H locs) (hsize : ls.size = c.maxLocals)
    (d0 : decode cc pc = .ok (.new ik, 3)) (d3 : decode cc (pc + 3) = .ok (.dup, 1)) (d4 : decode cc (pc + 4) = .ok (.ldc_w is, 3)) (d7 : decode cc (pc + 7) = .ok (.invokespecial ic, 3)) (d10 : decode cc (pc + 10) = .ok (.athrow, 1))
    (hout : ∀ x ∈ c.exceptionTable.toList, covers x (pc + 10) = false)
    (hRframes : names.length + 3 < R.frames) (hRlocals : (rest.map fun v => v.category).sum + (13 * (names.length + 1) + 43) ≤ R.locals) (hRcells : cells + 1 ≤ R.cells) (hRslots : slots + 6 ≤ R.slots) (hlocks : meth.locks = false)
    (hx : ∀ t : State, s.vm.Alike t.vm → H.size ≤ t.heap.size → (∀ q : Nat, q < H.size → t.heap[q]? = H[q]?) → XC cls s t)
    (hf : ∀ z ∈ locs, free z.base) (hc : cells + 1 ≤ mc) (hs : slots + 6 ≤ ms) :
    W p l e R s m args below meth c H locs cells slots (vx_MQ below Qc XC args s mc ms free) (F0 m pc ls rest) := by
  intro T hT X
  have htr : e.platform.stackTraces = false := (show e.platform.stackTraces = l.stackTraces by rw [X.admits.platform]).trans hl
  have Y := vx_rebase X (R' := { frames := R.frames, locals := R.locals, cells := 1, slots := 6 }) (Nat.le_refl _) (Nat.le_refl _) hRcells hRslots
  obtain ⟨s', hA⟩ : ∃ z, z = (T.setVm s.vm).setFrames (.invoking m args :: below) := ⟨_, rfl⟩
  rw [← hA] at Y
  have hvm : s'.vm = s.vm := by rw [hA]; rfl
  have hhp : s'.heap = H := by rw [hA]; exact hT
  have hW0 : s.WarmedH s'.vm := by rw [hvm]; exact State.WarmedH.refl s
  have hat' : ∀ w ∈ vx_atS own ic cls names, w.before args s' = true := fun w hw => vx_ot_at hW0 hvm.symm (hgood w (List.mem_cons_of_mem _ (List.mem_cons_of_mem _ hw))) (hat w hw)
  have hk' : (Cond.classLink own ik cls).before args s' = true := vx_ot_at hW0 hvm.symm (hgood _ List.mem_cons_self) hk
  have hini' : (Cond.initialized cls).before args s' = true := vx_ot_at hW0 hvm.symm (hgood _ (List.mem_cons_of_mem _ List.mem_cons_self)) hini
  have hU' : vx_Zq Bundle.tN "UNASSIGNED_STACK" Bundle.steD A s' s'.heap := by rw [hhp]; exact vx_Zq.moved hW0.alike (hU.kept hS.2.1)
  have hN' : vx_Zq Bundle.tN "SUPPRESSED_SENTINEL" Bundle.listD A s' s'.heap := by rw [hhp]; exact vx_Zq.moved hW0.alike (hN.kept hS.2.1)
  have h : ∀ w ∈ Bundle.ownAtoms own ic cls names, w.before args s' = true := vx_own hat' (vx_isRefq hU'.1) (vx_isRefq hN'.1) hU'.2.word hN'.2.word
  have hown' : s'.vm.findClass own = some m.cls := by rw [hvm]; exact hown
  have hins : (Cond.instantiable cls 6).before args s' = true := h _ (by simp [Bundle.ownAtoms])
  obtain ⟨vm₁, cX, kX, hfX, hkX, -, -, X₁, st1⟩ := Y.newCold hexec (own := own) (C := cls) (index := ik) (n := 6) hown' hk' hins hini'
    (g := F0 m pc ls rest) rfl (by rw [hb]; exact d0) (Nat.le_refl _) (Nat.le_refl _)
  generalize hT1 : (T.setVm vm₁).pushCell { cls := cX, slots := kX.instanceTypes.map defaultValue, vm := .none } = T1 at X₁ st1
  have hcat : (Value.ref T.heap.size).category = 1 := rfl
  have hcellA : T1.heap[T.heap.size]? = some (freshCell cX kX) := by rw [← hT1]; exact State.heap_pushCell_size _ _
  have d3' : decode c.code (pc + 3) = .ok (.dup, 1) := by rw [hb]; exact d3
  have d4' : decode c.code (pc + 4) = .ok (.ldc_w is, 3) := by rw [hb]; exact d4
  have hstr' : vk_R own is text sa s' := vk_R.warm hW0 hstr
  obtain ⟨U, hsteps, hrun, hend, hW, hsame, ce, hce, hO⟩ := X₁.ctorThrowS hexec htr (own := own) (cls := cls) (names := names) (ic := ic) hown' hcls hnames h (fun x hx => nomatch hx) hfX hkX hcellA (by rw [hhp, hT]; exact Nat.le_refl _) (msg := .ref sa) rfl
    (g := { method := m, pc := pc + 7, locals := ls, stack := .ref sa :: .ref T.heap.size :: .ref T.heap.size :: rest, locked := none }) rfl hsize rfl rfl (rest := rest) rfl
    (by rw [hb]; exact d7) (by rw [hb]; exact d10) hout hRframes (by simp only [List.map_cons, List.sum_cons, hcat]; omega) hlocks
  obtain ⟨f1, f2⟩ := vx_frame hsame
  rw [hhp] at f1 f2
  have hWs : s.WarmedH U.vm := State.WarmedH.trans hW0 hW
  have hcl : s.vm.findClass cls = some ce.cls := by
    have h9 := hO.cls
    rw [hvm] at h9
    exact h9
  have hall : s.sameButNew ({ U with vm := s.vm } : State) locs mc ms := by
    subst hA
    obtain ⟨e1, e2⟩ := hsame
    rw [State.setFrames_setFrames] at e1
    have h2 : (T.setVm s.vm).sameButNew ({ U with vm := s.vm } : State) [] (0 + 1) (0 + 6) := ⟨e1, e2⟩
    have h3 := X.same.trans h2
    rw [List.append_nil] at h3
    exact h3.mono hc hs
  refine ⟨U, ?_, .threw T.heap.size, hrun, hend, Or.inr ⟨T.heap.size, rfl, cls, ce, locs, hx U hWs.alike f1 (fun q hq => f2 q hq (fun z hz => nomatch hz)), hce, hO.vm, hcl, hWs, hall, hf⟩⟩
  refine st1 _ ?_
  show Steps p.tables e below (T1.setTop { method := m, pc := pc + 3, locals := ls, stack := .ref T.heap.size :: rest, locked := none }) _
  jvm_step X₁.here [X₁.here.top, hexec, d3', Value.category]
  exact X₁.ldcStringW hexec (own := own) (text := text) (index := is) (a := sa) hown' hstr'.1 hstr'.2
    (g := { method := m, pc := pc + 4, locals := ls, stack := .ref T.heap.size :: .ref T.heap.size :: rest, locked := none }) rfl d4' _ hsteps
end Ends
section Bodies
variable {l : Launch}
theorem vx_ofW {y : MethodName} {ws ws' : List Cond} {rm : Room} {Pc : Array Value → State → Prop} {Qc : Array Value → State → Outcome → State → Prop} {XC : String → State → State → Prop} {mc ms : Nat} {free : Addr → Prop} {cc : ByteArray} {maxL : Nat} {ret : Option FieldType}
    (hy : plainName y.cls = true) (hw : ws = Cond.code y cc maxL ret :: ws')
    (body : ∀ p e s m args below meth c s₁, BodyLoose p l y (headSpec ws rm) cc maxL ret e s m args below meth c s₁ → c.maxLocals = maxL → (∀ x ∈ c.exceptionTable.toList, False) → Pc args s →
      W p l e (headSpec ws rm).room s m args below meth c s.heap [] 0 0 (vx_MQ below Qc XC args s mc ms free) (entryFrame m args maxL)) : vx_Met l y ws rm Pc Qc XC mc ms free := by
  refine MetFree.of_bodyS (code := cc) (maxLocals := maxL) (ret := ret) hy ?_ ?_
  · intro args s m h hn
    obtain ⟨meth, c, h1, h2, h3, h4, h5, h6, -, -⟩ := Cond.code_spec hn (atoms_spec (ws := ws) h _ (by rw [hw]; exact List.mem_cons_self))
    exact ⟨meth, c, h1, h2, h3, h4, h5, h6⟩
  · intro p e s m args below meth c s₁ B hml hP _
    have hh0 : s₁.heap = s.heap := by rw [B.state]; rfl
    have ht : ∀ x ∈ c.exceptionTable.toList, False := by
      obtain ⟨meth9, c9, h1, h2, -, -, -, -, h7, -⟩ := Cond.code_spec B.named (atoms_spec (ws := ws) B.pre _ (by rw [hw]; exact List.mem_cons_self))
      cases Option.some.inj (h1.symm.trans B.method)
      cases Option.some.inj (h2.symm.trans (Stand.of_body B).code)
      intro x hx
      rw [Array.isEmpty_iff.mp h7] at hx
      cases hx
    obtain ⟨t, a1, o, b1, b2, b3⟩ := body p e s m args below meth c s₁ B hml ht hP s₁ hh0 (Stand.of_body B)
    exact ⟨t, o, a1, b1, b2, b3⟩
/-- the table of a body with handlers -/
theorem vx_table {p : Program} {x y : MethodName} {S : Spec} {cc bytes : ByteArray} {maxL maxL' : Nat} {ret ret' : Option FieldType} {e : Env} {s s₁ : State} {m : MethodId} {args : Array Value} {below : List Frame} {meth : Method} {c : Code} {hh : List (Nat × Nat × Nat × Nat)}
    (B : BodyLoose p l y S cc maxL ret e s m args below meth c s₁) (h : (Cond.codeWith y bytes maxL' ret' hh).before args s = true) : c.exceptionTable.toList = tableOf hh := by
  obtain ⟨m9, meth9, c9, hn9, h1, h2, -, -, h6, -⟩ := Cond.codeWith_spec h
  cases Option.some.inj (hn9.symm.trans B.named)
  cases Option.some.inj (h1.symm.trans B.method)
  cases Option.some.inj (h2.symm.trans (Stand.of_body B).code)
  rw [← h6, table_eq]
end Bodies
end VXA
/-! ===== END ===== -/
/-! ===== BEGIN a static call of a method with an exception table ===== -/
section VXS
variable {p : Program} {l : Launch} {e : Env} {R : Room} {s : State} {m : MethodId} {args : Array Value} {below : List Frame} {meth : Method} {c : Code} {T : State} {H : Heap} {locs : List Loc} {cells slots : Nat}
abbrev vx_CSW (R : Room) (s : State) (args : Array Value) (own : String) (index : Nat) (y : MethodName) (bytes : ByteArray) (maxL : Nat) (ret : Option FieldType) (hh : List (Nat × Nat × Nat × Nat)) (ws : List Cond) (rm : Room) (mc ms n : Nat) : Prop :=
  (rm.cells = mc ∧ rm.slots = ms ∧ rm.frames + 1 ≤ R.frames ∧ 8 + (maxL + 11) + rm.locals ≤ R.locals ∧ (∀ w ∈ ws, ∀ (a' : Array Value) (U : State), s.WarmedH U.vm → w.before a' U = true) ∧ Cond.codeWith y bytes maxL ret hh ∈ ws) ∧
  (Cond.codeWith y bytes maxL ret hh).before args s = true ∧ (Cond.initialized y.cls).before args s = true ∧ (y.cls ≠ "java/lang/invoke/MethodHandle" ∧ y.cls ≠ "java/lang/invoke/VarHandle") ∧
  (∀ sig, parseMethodDescriptor y.desc = some sig → n = sig.parameters.length) ∧ (Cond.methodLink own index y).before args s = true ∧ (Cond.static y).before args s = true
theorem vx_cwSW {own : String} {index maxL mc ms : Nat} {y : MethodName} {bytes : ByteArray} {ret : Option FieldType} {hh : List (Nat × Nat × Nat × Nat)} {Ts ws ws' : List Cond} {rm : Room} (n : Nat) (ht : ∀ w ∈ Ts, w.before args s = true) (hT : GoodIn Ts (va_wsS own index y ws)) (hw : ws = Cond.codeWith y bytes maxL ret hh :: ws') (hrc : rm.cells = mc) (hrs : rm.slots = ms)
    (hd : y.cls ≠ "java/lang/invoke/MethodHandle" ∧ y.cls ≠ "java/lang/invoke/VarHandle" ∧ (parseMethodDescriptor y.desc).map (fun d => d.parameters.length) = some n) (hR : rm.frames + 1 ≤ R.frames ∧ 8 + (maxL + 11) + rm.locals ≤ R.locals) :
    vx_CSW R s args own index y bytes maxL ret hh ws rm mc ms n := by
  have ok : ∀ w ∈ va_wsS own index y ws, w.before args s = true := fun w h => ht w (hT w h).1
  have hG : GoodIn Ts ws := fun w h => hT w (by unfold va_wsS; exact List.mem_append_right _ h)
  have hc : Cond.codeWith y bytes maxL ret hh ∈ ws := by rw [hw]; exact List.mem_cons_self
  refine ⟨⟨hrc, hrs, hR.1, hR.2, pay_in ht hG, hc⟩, ht _ (hG _ hc).1, ok _ (by simp [va_wsS]), ⟨hd.1, hd.2.1⟩, fun sig h => ?_, ok _ (by simp [va_wsS]), ok _ (by simp [va_wsS])⟩
  have h2 := hd.2.2
  rw [h] at h2
  exact (Option.some.inj h2).symm
theorem vx_callSW (X : Stand p l e R s m args below meth c T locs cells slots) (hexec : p.tables.exec = Jvm.exec) {own : String} {index : Nat} {y : MethodName} {bytes : ByteArray} {maxL : Nat} {ret : Option FieldType} {hh : List (Nat × Nat × Nat × Nat)}
    (hown : s.vm.findClass own = some m.cls) (hlink : (Cond.methodLink own index y).before args s = true) (hstat : (Cond.static y).before args s = true) (hinit : (Cond.initialized y.cls).before args s = true)
    (hcode : (Cond.codeWith y bytes maxL ret hh).before args s = true) (hy : y.cls ≠ "java/lang/invoke/MethodHandle" ∧ y.cls ≠ "java/lang/invoke/VarHandle")
    {W9 : Nat} {Pre : Pt → Array Value → Prop} {Post : Pt → Array Value → Option Value → Pt → Prop} (hK : Back l R p e below s args y 3 W9 Pre Post)
    {g : JFrame} (hg : g.method = m) (hsize : g.locals.size = c.maxLocals) {argsL rest : List Value} (hlen : ∀ sig, parseMethodDescriptor y.desc = some sig → argsL.length = sig.parameters.length)
    (hstack : g.stack = argsL.reverse ++ rest) (hW : 2 * g.monitorRoom + (rest.map fun v => v.category).sum ≤ W9) (hdg : decode c.code g.pc = .ok (.invokestatic index, 3))
    (hpre : ∀ vm₁, s.WarmedH vm₁ → Pre ⟨T.setVm vm₁, locs, cells, slots⟩ argsL.toArray) :
    ∃ (v : Option Value) (vm₁ : Vm) (B : Pt), s.WarmedH vm₁ ∧ Stand p l e R s m args below meth c B.U B.locs B.cells B.slots ∧ Post ⟨T.setVm vm₁, locs, cells, slots⟩ argsL.toArray v B ∧
      ∀ target, Steps p.tables e below (B.U.setTop { g with pc := g.pc + 3, stack := v.toList ++ rest }) target → Steps p.tables e below (T.setTop g) target := by
  obtain ⟨mk, methM, cM, hnamed, hmethM, -, -, -, -, -, -, hsigM⟩ := Cond.codeWith_spec hcode
  have hstatic : methM.isStatic = true := Cond.static_spec hnamed hmethM hstat
  obtain ⟨kP, hkP, -⟩ := className_of_methodNamed hnamed
  have hinitP : kP.init = .initialized := Cond.initialized_spec (findClass_of_methodNamed hnamed) hkP hinit
  obtain ⟨vm₁, X₁, hstep₁⟩ := X.invokestatic hexec hown hlink hnamed hmethM hstatic hkP hinitP hy (g := g) hg (argsL := argsL) (rest := rest) (hlen _ hsigM) hstack hdg
  obtain ⟨v, B, X', hpost, hsteps⟩ := hK m meth c ⟨T.setVm vm₁, locs, cells, slots⟩ { g with stack := rest } (.invokestatic index) mk argsL.toArray X₁ hg hsize hdg hW (X₁.named hnamed) (hpre vm₁ X₁.warmed)
  exact ⟨v, vm₁, B, X₁.warmed, X', hpost, fun target h => hstep₁ _ fun acts => by rw [doInvoke_state]; exact hsteps.trans h⟩
theorem vx_runSW {y : MethodName} {bytes cc : ByteArray} {maxL nL mc ms n index : Nat} {ret : Option FieldType} {hh : List (Nat × Nat × Nat × Nat)} {ws : List Cond} {rm : Room} {Pc : Array Value → State → Prop} {Qc : Array Value → State → Outcome → State → Prop} {free : Addr → Prop} {Ts : List Cond} {own : String} {As rest : List Value} {g : JFrame}
    (S : CallFix p m c cc nL s args Ts own) (hM : Met l y ws rm Pc Qc mc ms free) (cw : vx_CSW R s args own index y bytes maxL ret hh ws rm mc ms n) (hp : PreS s H Pc As)
    (hg : g.method = m) (hn : As.length = n) (hsize : g.locals.size = nL) (hstack : g.stack = As.reverse ++ rest) (hW : 2 * g.monitorRoom + (rest.map fun v => v.category).sum ≤ 8) (hdg : decode cc g.pc = .ok (.invokestatic index, 3)) (hf : cells + mc ≤ R.cells ∧ slots + ms ≤ R.slots) :
    va_Run p l e R s m args below meth c H locs cells slots mc ms g rest (Qc As.toArray) (free) := by
  obtain ⟨⟨hrc, hrs, hfr, hlo, hws, hcw⟩, hcode, hini, hy, hlen, hl, hstt⟩ := cw
  have hK : Back l R p e below s args y 3 8 (PreOf R mc ms Pc) (PostOf Qc mc ms free) := va_backW (hh := hh) (bytes := bytes) (maxL := maxL) (ret := ret) hM hp.1 hrc hrs hfr hlo hws hcw (fun a' U hW => word_at hW (Or.inl (by first | rfl | simp [Cond.onTables, Cond.keeps, Cond.steady])) hini)
  obtain ⟨hx, hb, hml, ho, -⟩ := S
  intro T hT X
  obtain ⟨v, vm₁, ⟨U', l2, c2, s2⟩, hW₁, X', ⟨g', mk, t, L, e1, e2, hq, h1, hL, h2, h3⟩, st⟩ := vx_callSW X hx (hh := hh) (bytes := bytes) (maxL := maxL) (ret := ret) ho hl hstt hini hcode hy hK hg (hsize.trans hml.symm) (argsL := As) (rest := rest) (fun sig h => hn.trans (hlen sig h)) hstack hW (by rw [hb]; exact hdg)
    (fun vm₁ hW₁ => ⟨hf.1, hf.2, hp.2 (T.setVm vm₁) hT hW₁⟩)
  dsimp only [Pt.U, Pt.locs, Pt.cells, Pt.slots] at X' e1 e2 h1 h2 h3 st
  subst h1; subst h2; subst h3
  exact ⟨v, (T.setVm vm₁).calling g' mk As.toArray, t, U', L, hT, X', hL, e1, e2, hq, st⟩
/-- not caught here, past rows that name other classes: it goes on to the caller -/
theorem vx_outP {p : Program} {l : Launch} {e : Env} {R : Room} {s : State} {m : MethodId} {args : Array Value} {below : List Frame} {meth : Method} {c : Code} {H : Heap} {locs : List Loc} {cells slots : Nat} {free : Addr → Prop} {ls : Array Slot} {rest : List Value} {Qc : Array Value → State → Outcome → State → Prop} {XC : String → State → State → Prop}
    {pc : Nat} {own E : String} {ce : Cell} {q : Addr} {mc ms : Nat} (hown : s.vm.findClass own = some m.cls) (hlocks : meth.locks = false)
    (hpass : ∀ z ∈ c.exceptionTable.toList, covers z pc = false ∨ (z.catchType ≠ 0 ∧ ∃ nm : String, (Cond.classLink own z.catchType nm).before args s = true ∧ va_Nc E nm s)) (hcell : H[q]? = some ce) (hv : ce.vm = .none) (hcl : s.vm.findClass E = some ce.cls)
    (hx : ∀ t : State, t.heap = H → s.vm.Alike t.vm → XC E s t) (hf : ∀ z ∈ locs, free z.base) (hc : cells ≤ mc) (hs : slots ≤ ms) :
    vx_W p l e R s m args below meth c H locs cells slots (vx_MQ below Qc XC args s mc ms free) (F0 m pc ls rest) q := by
  intro T hT X
  have hpl : e.platform.magicAccessors = ({} : Platform).magicAccessors := by rw [X.admits.platform]
  obtain ⟨vm', hW', X', st⟩ := X.outThrough hlocks q (g := F0 m pc ls rest) rfl rfl rfl (cell := ce) (by rw [hT]; exact hcell) (by rw [hv]; rfl)
    (by obtain ⟨k9, h9, -⟩ := Vm.findClass_spec hcl; exact ⟨k9, h9⟩) (fun z hz => by
      rcases hpass z hz with h | ⟨hz0, nm, hl1, hn1⟩
      · exact Or.inl h
      · obtain ⟨c6, hc6, hcl6⟩ := Cond.classLink_spec hown hl1 e.platform hpl
        obtain ⟨a8, b8, h1, h2, h3⟩ := hn1
        cases Option.some.inj (h1.symm.trans hcl)
        cases Option.some.inj (h2.symm.trans hc6)
        exact Or.inr ⟨hz0, _, hcl6, h3⟩)
  obtain ⟨g₀, hfr⟩ := X'.frames_eq
  have hcell9 : ((T.setVm vm').setFrames (.throwing q :: below)).heap[q]? = some ce := by
    show T.heap[q]? = some ce
    rw [hT]; exact hcell
  have hend : Ended ((T.setVm vm').setFrames (.throwing q :: below)) below (.threw q) := State.frames_setFrames _ (State.cur_lt_of_frames hfr)
  refine ⟨(T.setVm vm').setFrames (.throwing q :: below), ?_, .threw q, X'.here.running, hend, Or.inr ⟨q, rfl, E, ce, locs, hx _ hT (X'.ends _).1.alike, hcell9, hv, hcl, (X'.ends _).1, (X'.ends _).2.mono hc hs, hf⟩⟩
  rw [X.pushThrowing_eq]
  exact st
/-- a thing of a world lies in the heap -/
theorem vx_lt {D : va_G} {cl : List vw_C} {ws : va_W} {H1 : Heap} (h : va_P D cl ws H1) {k : Nat} {q : Nat × va_E} (hk : ws[k]? = some q) : q.1 < H1.size := (h k q hk).lt
end VXS
/-! ===== END ===== -/
/-! ===== BEGIN methods with a table of their own: called by a name, returning or throwing ===== -/
section VXH
/-! vx_backW, vx_callVX, vx_callSX, vx_callVW, vx_runVW, vx_runVX, vx_runSX, vx_ofWH follow the same proofs as their sisters above (Free/Laws.lean, Shelf42/LK1.lean); vx_outP calls Shelf42/NT130.lean (outThrough). -/
section
variable {l : Launch} {R : Room} {p : Program} {e : Env} {below : List Frame} {s : State} {sargs : Array Value} {y : MethodName} {len W9 : Nat}
theorem vx_backW {ws : List Cond} {rm : Room} {Pc : Array Value → State → Prop} {Qc : Array Value → State → Outcome → State → Prop} {XC : String → State → State → Prop} {mc ms : Nat} {free : Addr → Prop} {bytes : ByteArray} {maxL : Nat} {ret : Option FieldType} {hh : List (Nat × Nat × Nat × Nat)}
    (hM : vx_Met l y ws rm Pc Qc XC mc ms free) (hblind : FrameBlind Pc) (hrc : rm.cells = mc) (hrs : rm.slots = ms)
    (hframes : rm.frames + 1 ≤ R.frames) (hlocals : W9 + (maxL + 11) + rm.locals ≤ R.locals)
    (hws : ∀ w ∈ ws, ∀ a' U, s.WarmedH U.vm → w.before a' U = true) (hcode : Cond.codeWith y bytes maxL ret hh ∈ ws) (hinit : ∀ a' U, s.WarmedH U.vm → (Cond.initialized y.cls).before a' U = true) :
    vx_Back l R p e below s sargs y len W9 (PreOf R mc ms Pc) (PostOf Qc mc ms free) (vx_Post XC mc ms free) := by
  intro m meth c A g ig mk a X hg hsize hdg hW hn hp
  have h1 : (headSpec ws rm).pre.before a A.U = true := atoms_intro fun w hw => hws w hw _ _ X.warmed
  have h2 : (Cond.codeWith y bytes maxL ret hh).before a A.U = true := hws _ hcode _ _ X.warmed
  have h3 : (Cond.initialized y.cls).before a A.U = true := hinit _ _ X.warmed
  have h4 : A.cells + (headSpec ws rm).room.cells ≤ R.cells := by rw [show (headSpec ws rm).room.cells = mc from hrc]; exact hp.1
  have h5 : A.slots + (headSpec ws rm).room.slots ≤ R.slots := by rw [show (headSpec ws rm).room.slots = ms from hrs]; exact hp.2.1
  have hPc : Pc a (A.U.calling g mk a) := hblind _ _ _ _ hp.2.2
  obtain ⟨U, Ls, c0, s0⟩ := A
  dsimp only [Pt.U, Pt.locs, Pt.cells, Pt.slots] at h1 h2 h3 h4 h5 X hn hPc ⊢
  obtain ⟨m9, methY, cY, hn9, hmY, hcY, -, hlY, -⟩ := Cond.codeWith_spec h2
  cases Option.some.inj (hn9.symm.trans hn)
  obtain ⟨kY, hkY, -⟩ := className_of_methodNamed hn
  have hinitY : kY.init = .initialized := Cond.initialized_spec (findClass_of_methodNamed hn) hkY h3
  have h : At U g.method c below := by rw [hg]; exact X.here
  have hlocals9 : W9 + (maxL + 11) + (headSpec ws rm).room.locals ≤ R.locals := hlocals
  have happ : (headSpec ws rm).appliesLoose y e.platform (U.calling g mk a) = true :=
    Spec.appliesLoose_calling (g := g) h hdg hn hkY hinitY
      (X.room_calling (g := g) (R' := (headSpec ws rm).room) hsize hmY hcY hframes (by rw [hlY]; omega) h4 h5) h1
  obtain ⟨mid, hmid⟩ := h.above
  have hfr : (U.setTop g).frames = (.java g :: mid) ++ below := by rw [State.frames_setTop' g h.top, hmid]; rfl
  obtain ⟨o, s₂, hsteps, -, hend, hq⟩ := Steps.callFree hM p X.admits X.cas X.clock (acts := []) hfr happ hPc trivial
  have hq' : vx_Q Qc XC mc ms free a (U.calling g mk a) o s₂ := hq
  rw [State.frames_setTop' g h.top] at hend
  obtain ⟨g₀, hg0⟩ := Option.isSome_iff_exists.mp h.top
  obtain ⟨r, hr⟩ := State.topJava?_eq_some.mp hg0
  have hr' : (({ U with heap := s₂.heap, slotsUsed := s₂.slotsUsed } : State).setVm s₂.vm).frames = .java g₀ :: r := hr
  rcases hq' with ⟨hqc, L, hfe, hL⟩ | ⟨q, rfl, E, ce, L, hx, hce, hcv, hcl, hW₂, hsm, hL⟩
  · obtain ⟨⟨v, rfl⟩, hW₂, e2, q2, q3, q4, q5, q6⟩ := id hfe
    have e3 : s₂ = ({ (U.calling g mk a).setFrames s₂.frames with heap := s₂.heap, slotsUsed := s₂.slotsUsed } : State).setVm s₂.vm := by
      have : s₂ = ({ s₂ with vm := (U.calling g mk a).vm } : State).setVm s₂.vm := rfl
      rw [e2] at this
      exact this
    obtain ⟨c₂, i₂, len₂, hc₂, hd₂, hf₂⟩ := hend
    have hW' : U.WarmedH s₂.vm := hW₂
    have hcc : c₂ = c := by
      have h1 : s₂.code? g.method = U.code? g.method := by
        rw [State.code?_eq, State.code?_eq, hW'.alike.method?]
      exact Option.some.inj (hc₂.symm.trans (h1.trans h.code))
    subst hcc
    have hlen : len₂ = len := by rw [hdg] at hd₂; cases hd₂; rfl
    subst hlen
    have hs₂ : s₂ = (({ U with heap := s₂.heap, slotsUsed := s₂.slotsUsed } : State).setVm s₂.vm).setTop { g with pc := g.pc + len₂, stack := v.toList ++ g.stack } := by
      refine e3.trans ?_
      rw [hf₂, State.calling_eq h.top, State.setFrames_setFrames, State.setTop_of_frames _ hr', hr]
      rfl
    have hsame : U.sameButNew ({ U with heap := s₂.heap, slotsUsed := s₂.slotsUsed } : State) L mc ms := by
      refine ⟨?_, q2, q3, q4, q5, q6⟩
      obtain ⟨t, ht, -⟩ := State.frames_cons hr
      show ({ U with heap := s₂.heap, slotsUsed := s₂.slotsUsed } : State) = { U.setFrames U.frames with heap := s₂.heap, slotsUsed := s₂.slotsUsed }
      rw [State.setFrames_self ht]
    subst hg
    refine Or.inl ⟨v, ⟨(({ U with heap := s₂.heap, slotsUsed := s₂.slotsUsed } : State).setVm s₂.vm), Ls ++ L, c0 + mc, s0 + ms⟩,
      ⟨X.admits, X.cas, X.clock, X.frames, X.room, X.hears, X.method, X.code, (X.here.setHeapUsed s₂.heap s₂.slotsUsed).setVm hW'.alike, X.tail, State.WarmedH.trans X.warmed hW', X.limits, X.bytes, X.same.trans (hsame.setVm s.vm)⟩,
      ⟨g, mk, s₂, L, rfl, rfl, hqc, rfl, hL, rfl, rfl⟩, ?_⟩
    show Steps p.tables e below _ ((({ U with heap := s₂.heap, slotsUsed := s₂.slotsUsed } : State).setVm s₂.vm).setTop { g with pc := g.pc + len₂, stack := v.toList ++ g.stack })
    rw [← hs₂]
    exact hsteps
  · obtain ⟨e2, q2, q3, q4, q5, q6⟩ := id hsm
    have e3 : s₂ = ({ (U.calling g mk a).setFrames s₂.frames with heap := s₂.heap, slotsUsed := s₂.slotsUsed } : State).setVm s₂.vm := by
      have : s₂ = ({ s₂ with vm := (U.calling g mk a).vm } : State).setVm s₂.vm := rfl
      rw [e2] at this
      exact this
    have hf₂ : s₂.frames = .throwing q :: .java g :: U.frames.tail := hend
    have hW' : U.WarmedH s₂.vm := hW₂
    have hs₂ : s₂ = ((({ U with heap := s₂.heap, slotsUsed := s₂.slotsUsed } : State).setVm s₂.vm).setTop g).pushFrame (.throwing q) := by
      refine e3.trans ?_
      rw [hf₂, State.calling_eq h.top, State.setFrames_setFrames, State.pushFrame, State.frames_setTop _ hr', State.setTop_of_frames _ hr', State.setFrames_setFrames, hr]
      rfl
    have hsame : U.sameButNew ({ U with heap := s₂.heap, slotsUsed := s₂.slotsUsed } : State) L mc ms := by
      refine ⟨?_, q2, q3, q4, q5, q6⟩
      obtain ⟨t, ht, -⟩ := State.frames_cons hr
      show ({ U with heap := s₂.heap, slotsUsed := s₂.slotsUsed } : State) = { U.setFrames U.frames with heap := s₂.heap, slotsUsed := s₂.slotsUsed }
      rw [State.setFrames_self ht]
    subst hg
    refine Or.inr ⟨q, ⟨(({ U with heap := s₂.heap, slotsUsed := s₂.slotsUsed } : State).setVm s₂.vm), Ls ++ L, c0 + mc, s0 + ms⟩,
      ⟨X.admits, X.cas, X.clock, X.frames, X.room, X.hears, X.method, X.code, (X.here.setHeapUsed s₂.heap s₂.slotsUsed).setVm hW'.alike, X.tail, State.WarmedH.trans X.warmed hW', X.limits, X.bytes, X.same.trans (hsame.setVm s.vm)⟩,
      ⟨g, mk, s₂, L, E, ce, rfl, rfl, hx, hce, hcv, hcl, rfl, hL, rfl, rfl⟩, ?_⟩
    show Steps p.tables e below _ (((({ U with heap := s₂.heap, slotsUsed := s₂.slotsUsed } : State).setVm s₂.vm).setTop g).pushFrame (.throwing q))
    rw [← hs₂]
    exact hsteps
end
variable {p : Program} {l : Launch} {e : Env} {R : Room} {s : State} {m : MethodId} {args : Array Value} {below : List Frame} {meth : Method} {c : Code} {T : State} {H : Heap} {locs : List Loc} {cells slots : Nat}
theorem vx_callVX (X : Stand p l e R s m args below meth c T locs cells slots) (hexec : p.tables.exec = Jvm.exec) {own C : String} {index : Nat} {y : MethodName} {bytes : ByteArray} {maxL : Nat} {ret : Option FieldType} {hh : List (Nat × Nat × Nat × Nat)}
    (hown : s.vm.findClass own = some m.cls) (hlink : (Cond.methodLink own index y).before args s = true) (hinst : (Cond.instanceMethod y).before args s = true) (hsel : (Cond.selects C y y).before args s = true)
    (hcode : (Cond.codeWith y bytes maxL ret hh).before args s = true) (hy : y.cls ≠ "java/lang/invoke/MethodHandle" ∧ y.cls ≠ "java/lang/invoke/VarHandle")
    {W9 : Nat} {Pre : Pt → Array Value → Prop} {Post : Pt → Array Value → Option Value → Pt → Prop} {PostX : Pt → Array Value → Addr → Pt → Prop} (hK : vx_Back l R p e below s args y 3 W9 Pre Post PostX)
    {b : Addr} {cellB : Cell} (hcell : T.heap[b]? = some cellB) (hobj : cellB.vm.isStatics = false) (hcls : s.vm.findClass C = some cellB.cls)
    {g : JFrame} (hg : g.method = m) (hsize : g.locals.size = c.maxLocals) {argsL rest : List Value} (hlen : ∀ sig, parseMethodDescriptor y.desc = some sig → argsL.length = sig.parameters.length)
    (hstack : g.stack = argsL.reverse ++ .ref b :: rest) (hW : 2 * g.monitorRoom + (rest.map fun v => v.category).sum ≤ W9) (hdg : decode c.code g.pc = .ok (.invokevirtual index, 3))
    (hpre : ∀ vm₁, s.WarmedH vm₁ → Pre ⟨T.setVm vm₁, locs, cells, slots⟩ (Value.ref b :: argsL).toArray) :
    (∃ (v : Option Value) (vm₁ : Vm) (B : Pt), s.WarmedH vm₁ ∧ Stand p l e R s m args below meth c B.U B.locs B.cells B.slots ∧ Post ⟨T.setVm vm₁, locs, cells, slots⟩ (Value.ref b :: argsL).toArray v B ∧
      ∀ target, Steps p.tables e below (B.U.setTop { g with pc := g.pc + 3, stack := v.toList ++ rest }) target → Steps p.tables e below (T.setTop g) target) ∨
    (∃ (q : Addr) (vm₁ : Vm) (B : Pt), s.WarmedH vm₁ ∧ Stand p l e R s m args below meth c B.U B.locs B.cells B.slots ∧ PostX ⟨T.setVm vm₁, locs, cells, slots⟩ (Value.ref b :: argsL).toArray q B ∧
      Steps p.tables e below (T.setTop g) ((B.U.setTop { g with stack := rest }).pushFrame (.throwing q))) := by
  obtain ⟨mk, methM, hnamed, hmethM, hstM, habM⟩ := Cond.instanceMethod_spec hinst
  obtain ⟨m8, methM', cM, hn8, hmethM', -, -, -, -, -, -, hsigM⟩ := Cond.codeWith_spec hcode
  cases Option.some.inj (hn8.symm.trans hnamed)
  cases hmethM.symm.trans hmethM'
  obtain ⟨c2, r2, m2, q1, q2, q3, q4, kP, hkP, hkPi⟩ := Cond.selects_spec hsel
  cases hcls.symm.trans q1
  cases (State.methodFound?_of_named hnamed hy).symm.trans q2
  cases hnamed.symm.trans q3
  have hselP : selectMethod e.platform s.vm cellB.cls mk = .method mk := by rw [Launch.admits_selectMethod X.admits]; exact q4
  obtain ⟨vm₁, X₁, hstep₁⟩ := X.invokevirtual hexec hown hlink hnamed hmethM hstM hkP hkPi hy (a := b) (cell := cellB) hcell
    (fun z h => by rw [h] at hobj; cases hobj) hselP hmethM habM hkP hkPi (g := g) hg (argsL := argsL) (rest := rest) (hlen _ hsigM) hstack hdg
  rcases hK m meth c ⟨T.setVm vm₁, locs, cells, slots⟩ { g with stack := rest } (.invokevirtual index) mk (Value.ref b :: argsL).toArray X₁ hg hsize hdg hW (X₁.named hnamed) (hpre vm₁ X₁.warmed) with ⟨v, B, X', hpost, hsteps⟩ | ⟨q, B, X', hpost, hsteps⟩
  · exact Or.inl ⟨v, vm₁, B, X₁.warmed, X', hpost, fun target h => hstep₁ _ fun acts => by rw [doInvoke_state]; exact hsteps.trans h⟩
  · exact Or.inr ⟨q, vm₁, B, X₁.warmed, X', hpost, hstep₁ _ fun acts => by rw [doInvoke_state]; exact hsteps⟩
theorem vx_callSX (X : Stand p l e R s m args below meth c T locs cells slots) (hexec : p.tables.exec = Jvm.exec) {own : String} {index : Nat} {y : MethodName} {bytes : ByteArray} {maxL : Nat} {ret : Option FieldType} {hh : List (Nat × Nat × Nat × Nat)}
    (hown : s.vm.findClass own = some m.cls) (hlink : (Cond.methodLink own index y).before args s = true) (hstat : (Cond.static y).before args s = true) (hinit : (Cond.initialized y.cls).before args s = true)
    (hcode : (Cond.codeWith y bytes maxL ret hh).before args s = true) (hy : y.cls ≠ "java/lang/invoke/MethodHandle" ∧ y.cls ≠ "java/lang/invoke/VarHandle")
    {W9 : Nat} {Pre : Pt → Array Value → Prop} {Post : Pt → Array Value → Option Value → Pt → Prop} {PostX : Pt → Array Value → Addr → Pt → Prop} (hK : vx_Back l R p e below s args y 3 W9 Pre Post PostX)
    {g : JFrame} (hg : g.method = m) (hsize : g.locals.size = c.maxLocals) {argsL rest : List Value} (hlen : ∀ sig, parseMethodDescriptor y.desc = some sig → argsL.length = sig.parameters.length)
    (hstack : g.stack = argsL.reverse ++ rest) (hW : 2 * g.monitorRoom + (rest.map fun v => v.category).sum ≤ W9) (hdg : decode c.code g.pc = .ok (.invokestatic index, 3))
    (hpre : ∀ vm₁, s.WarmedH vm₁ → Pre ⟨T.setVm vm₁, locs, cells, slots⟩ argsL.toArray) :
    (∃ (v : Option Value) (vm₁ : Vm) (B : Pt), s.WarmedH vm₁ ∧ Stand p l e R s m args below meth c B.U B.locs B.cells B.slots ∧ Post ⟨T.setVm vm₁, locs, cells, slots⟩ argsL.toArray v B ∧
      ∀ target, Steps p.tables e below (B.U.setTop { g with pc := g.pc + 3, stack := v.toList ++ rest }) target → Steps p.tables e below (T.setTop g) target) ∨
    (∃ (q : Addr) (vm₁ : Vm) (B : Pt), s.WarmedH vm₁ ∧ Stand p l e R s m args below meth c B.U B.locs B.cells B.slots ∧ PostX ⟨T.setVm vm₁, locs, cells, slots⟩ argsL.toArray q B ∧
      Steps p.tables e below (T.setTop g) ((B.U.setTop { g with stack := rest }).pushFrame (.throwing q))) := by
  obtain ⟨mk, methM, cM, hnamed, hmethM, -, -, -, -, -, -, hsigM⟩ := Cond.codeWith_spec hcode
  have hstatic : methM.isStatic = true := Cond.static_spec hnamed hmethM hstat
  obtain ⟨kP, hkP, -⟩ := className_of_methodNamed hnamed
  have hinitP : kP.init = .initialized := Cond.initialized_spec (findClass_of_methodNamed hnamed) hkP hinit
  obtain ⟨vm₁, X₁, hstep₁⟩ := X.invokestatic hexec hown hlink hnamed hmethM hstatic hkP hinitP hy (g := g) hg (argsL := argsL) (rest := rest) (hlen _ hsigM) hstack hdg
  rcases hK m meth c ⟨T.setVm vm₁, locs, cells, slots⟩ { g with stack := rest } (.invokestatic index) mk argsL.toArray X₁ hg hsize hdg hW (X₁.named hnamed) (hpre vm₁ X₁.warmed) with ⟨v, B, X', hpost, hsteps⟩ | ⟨q, B, X', hpost, hsteps⟩
  · exact Or.inl ⟨v, vm₁, B, X₁.warmed, X', hpost, fun target h => hstep₁ _ fun acts => by rw [doInvoke_state]; exact hsteps.trans h⟩
  · exact Or.inr ⟨q, vm₁, B, X₁.warmed, X', hpost, hstep₁ _ fun acts => by rw [doInvoke_state]; exact hsteps⟩
theorem vx_callVW (X : Stand p l e R s m args below meth c T locs cells slots) (hexec : p.tables.exec = Jvm.exec) {own C : String} {index : Nat} {y : MethodName} {bytes : ByteArray} {maxL : Nat} {ret : Option FieldType} {hh : List (Nat × Nat × Nat × Nat)}
    (hown : s.vm.findClass own = some m.cls) (hlink : (Cond.methodLink own index y).before args s = true) (hinst : (Cond.instanceMethod y).before args s = true) (hsel : (Cond.selects C y y).before args s = true)
    (hcode : (Cond.codeWith y bytes maxL ret hh).before args s = true) (hy : y.cls ≠ "java/lang/invoke/MethodHandle" ∧ y.cls ≠ "java/lang/invoke/VarHandle")
    {W9 : Nat} {Pre : Pt → Array Value → Prop} {Post : Pt → Array Value → Option Value → Pt → Prop} (hK : Back l R p e below s args y 3 W9 Pre Post)
    {b : Addr} {cellB : Cell} (hcell : T.heap[b]? = some cellB) (hobj : cellB.vm.isStatics = false) (hcls : s.vm.findClass C = some cellB.cls)
    {g : JFrame} (hg : g.method = m) (hsize : g.locals.size = c.maxLocals) {argsL rest : List Value} (hlen : ∀ sig, parseMethodDescriptor y.desc = some sig → argsL.length = sig.parameters.length)
    (hstack : g.stack = argsL.reverse ++ .ref b :: rest) (hW : 2 * g.monitorRoom + (rest.map fun v => v.category).sum ≤ W9) (hdg : decode c.code g.pc = .ok (.invokevirtual index, 3))
    (hpre : ∀ vm₁, s.WarmedH vm₁ → Pre ⟨T.setVm vm₁, locs, cells, slots⟩ (Value.ref b :: argsL).toArray) :
    ∃ (v : Option Value) (vm₁ : Vm) (B : Pt), s.WarmedH vm₁ ∧ Stand p l e R s m args below meth c B.U B.locs B.cells B.slots ∧ Post ⟨T.setVm vm₁, locs, cells, slots⟩ (Value.ref b :: argsL).toArray v B ∧
      ∀ target, Steps p.tables e below (B.U.setTop { g with pc := g.pc + 3, stack := v.toList ++ rest }) target → Steps p.tables e below (T.setTop g) target := by
  obtain ⟨mk, methM, hnamed, hmethM, hstM, habM⟩ := Cond.instanceMethod_spec hinst
  obtain ⟨m8, methM', cM, hn8, hmethM', -, -, -, -, -, -, hsigM⟩ := Cond.codeWith_spec hcode
  cases Option.some.inj (hn8.symm.trans hnamed)
  cases hmethM.symm.trans hmethM'
  obtain ⟨c2, r2, m2, q1, q2, q3, q4, kP, hkP, hkPi⟩ := Cond.selects_spec hsel
  cases hcls.symm.trans q1
  cases (State.methodFound?_of_named hnamed hy).symm.trans q2
  cases hnamed.symm.trans q3
  have hselP : selectMethod e.platform s.vm cellB.cls mk = .method mk := by rw [Launch.admits_selectMethod X.admits]; exact q4
  obtain ⟨vm₁, X₁, hstep₁⟩ := X.invokevirtual hexec hown hlink hnamed hmethM hstM hkP hkPi hy (a := b) (cell := cellB) hcell
    (fun z h => by rw [h] at hobj; cases hobj) hselP hmethM habM hkP hkPi (g := g) hg (argsL := argsL) (rest := rest) (hlen _ hsigM) hstack hdg
  obtain ⟨v, B, X', hpost, hsteps⟩ := hK m meth c ⟨T.setVm vm₁, locs, cells, slots⟩ { g with stack := rest } (.invokevirtual index) mk (Value.ref b :: argsL).toArray X₁ hg hsize hdg hW (X₁.named hnamed) (hpre vm₁ X₁.warmed)
  exact ⟨v, vm₁, B, X₁.warmed, X', hpost, fun target h => hstep₁ _ fun acts => by rw [doInvoke_state]; exact hsteps.trans h⟩
abbrev vx_CVW (R : Room) (s : State) (args : Array Value) (own C : String) (index : Nat) (y : MethodName) (bytes : ByteArray) (maxL : Nat) (ret : Option FieldType) (hh : List (Nat × Nat × Nat × Nat)) (ws : List Cond) (rm : Room) (mc ms n : Nat) : Prop :=
  (rm.cells = mc ∧ rm.slots = ms ∧ rm.frames + 1 ≤ R.frames ∧ 8 + (maxL + 11) + rm.locals ≤ R.locals ∧ (∀ w ∈ ws, ∀ (a' : Array Value) (U : State), s.WarmedH U.vm → w.before a' U = true) ∧ Cond.codeWith y bytes maxL ret hh ∈ ws) ∧
  (Cond.codeWith y bytes maxL ret hh).before args s = true ∧ (Cond.initialized y.cls).before args s = true ∧ (y.cls ≠ "java/lang/invoke/MethodHandle" ∧ y.cls ≠ "java/lang/invoke/VarHandle") ∧
  (∀ sig, parseMethodDescriptor y.desc = some sig → n = sig.parameters.length) ∧ (Cond.methodLink own index y).before args s = true ∧ (Cond.instanceMethod y).before args s = true ∧ (Cond.selects C y y).before args s = true
theorem vx_cwVW {own C : String} {index maxL mc ms : Nat} {y : MethodName} {bytes : ByteArray} {ret : Option FieldType} {hh : List (Nat × Nat × Nat × Nat)} {Ts ws ws' : List Cond} {rm : Room} (n : Nat) (ht : ∀ w ∈ Ts, w.before args s = true) (hT : GoodIn Ts (wsV own index C y ws)) (hw : ws = Cond.codeWith y bytes maxL ret hh :: ws') (hrc : rm.cells = mc) (hrs : rm.slots = ms)
    (hd : y.cls = C ∧ y.cls ≠ "java/lang/invoke/MethodHandle" ∧ y.cls ≠ "java/lang/invoke/VarHandle" ∧ (parseMethodDescriptor y.desc).map (fun d => d.parameters.length) = some n) (hR : rm.frames + 1 ≤ R.frames ∧ 8 + (maxL + 11) + rm.locals ≤ R.locals) :
    vx_CVW R s args own C index y bytes maxL ret hh ws rm mc ms n := by
  obtain ⟨hC, hd⟩ := hd
  subst hC
  have ok : ∀ w ∈ wsV own index y.cls y ws, w.before args s = true := fun w h => ht w (hT w h).1
  have hG : GoodIn Ts ws := fun w h => hT w (by unfold wsV; exact List.mem_append_right _ h)
  have hc : Cond.codeWith y bytes maxL ret hh ∈ ws := by rw [hw]; exact List.mem_cons_self
  refine ⟨⟨hrc, hrs, hR.1, hR.2, pay_in ht hG, hc⟩, ht _ (hG _ hc).1, ok _ (by simp [wsV]), ⟨hd.1, hd.2.1⟩, fun sig h => ?_, ok _ (by simp [wsV]), ok _ (by simp [wsV]), ok _ (by simp [wsV])⟩
  have h2 := hd.2.2
  rw [h] at h2
  exact (Option.some.inj h2).symm
theorem vx_runVW {y : MethodName} {bytes cc : ByteArray} {maxL nL mc ms n index : Nat} {ret : Option FieldType} {hh : List (Nat × Nat × Nat × Nat)} {ws : List Cond} {rm : Room} {Pc : Array Value → State → Prop} {Qc : Array Value → State → Outcome → State → Prop} {free : Addr → Prop} {Ts : List Cond} {own C : String} {b : Addr} {As rest : List Value} {g : JFrame}
    (S : CallFix p m c cc nL s args Ts own) (hM : Met l y ws rm Pc Qc mc ms free) (cw : vx_CVW R s args own C index y bytes maxL ret hh ws rm mc ms n) (hp : PreV s H C b Pc As)
    (hg : g.method = m) (hn : As.length = n) (hsize : g.locals.size = nL) (hstack : g.stack = As.reverse ++ .ref b :: rest) (hW : 2 * g.monitorRoom + (rest.map fun v => v.category).sum ≤ 8) (hdg : decode cc g.pc = .ok (.invokevirtual index, 3)) (hf : cells + mc ≤ R.cells ∧ slots + ms ≤ R.slots) :
    va_Run p l e R s m args below meth c H locs cells slots mc ms g rest (Qc (Value.ref b :: As).toArray) free := by
  obtain ⟨⟨hrc, hrs, hfr, hlo, hws, hcw⟩, hcode, hini, hy, hlen, hl, hin, hse⟩ := cw
  have hK : Back l R p e below s args y 3 8 (PreOf R mc ms Pc) (PostOf Qc mc ms free) := va_backW (hh := hh) (bytes := bytes) (maxL := maxL) (ret := ret) hM hp.1 hrc hrs hfr hlo hws hcw (fun a' U hW => word_at hW (Or.inl (by first | rfl | simp [Cond.onTables, Cond.keeps, Cond.steady])) hini)
  obtain ⟨hx, hb, hml, ho, -⟩ := S
  obtain ⟨-, ⟨cellB, hcB, hoB, hclB⟩, hPc⟩ := hp
  intro T hT X
  obtain ⟨v, vm₁, ⟨U', l2, c2, s2⟩, hW₁, X', ⟨g', mk, t, L, e1, e2, hq, h1, hL, h2, h3⟩, st⟩ := vx_callVW X hx (C := C) (hh := hh) (bytes := bytes) (maxL := maxL) (ret := ret) ho hl hin hse hcode hy hK (by rw [hT]; exact hcB) hoB hclB hg (hsize.trans hml.symm) (argsL := As) (rest := rest) (fun sig h => hn.trans (hlen sig h)) hstack hW (by rw [hb]; exact hdg)
    (fun vm₁ hW₁ => ⟨hf.1, hf.2, hPc (T.setVm vm₁) hT hW₁⟩)
  dsimp only [Pt.U, Pt.locs, Pt.cells, Pt.slots] at X' e1 e2 h1 h2 h3 st
  subst h1; subst h2; subst h3
  exact ⟨v, (T.setVm vm₁).calling g' mk (Value.ref b :: As).toArray, t, U', L, hT, X', hL, e1, e2, hq, st⟩
section
variable {y : MethodName} {bytes cc : ByteArray} {maxL nL mc ms n index : Nat} {ret : Option FieldType} {ws : List Cond} {rm : Room} {Pc : Array Value → State → Prop} {Qc : Array Value → State → Outcome → State → Prop} {XC : String → State → State → Prop} {free : Addr → Prop} {Ts : List Cond} {own C : String} {b : Addr} {As rest : List Value} {g : JFrame}
theorem vx_runVX {hh : List (Nat × Nat × Nat × Nat)} (S : CallFix p m c cc nL s args Ts own) (hM : vx_Met l y ws rm Pc Qc XC mc ms free) (cw : vx_CVW R s args own C index y bytes maxL ret hh ws rm mc ms n) (hp : PreV s H C b Pc As)
    (hg : g.method = m) (hn : As.length = n) (hsize : g.locals.size = nL) (hstack : g.stack = As.reverse ++ .ref b :: rest) (hW : 2 * g.monitorRoom + (rest.map fun v => v.category).sum ≤ 8) (hdg : decode cc g.pc = .ok (.invokevirtual index, 3)) (hf : cells + mc ≤ R.cells ∧ slots + ms ≤ R.slots) :
    vx_Run p l e R s m args below meth c H locs cells slots mc ms g rest (Qc (Value.ref b :: As).toArray) XC free := by
  obtain ⟨⟨hrc, hrs, hfr, hlo, hws, hcw⟩, hcode, hini, hy, hlen, hl, hin, hse⟩ := cw
  have hK : vx_Back l R p e below s args y 3 8 (PreOf R mc ms Pc) (PostOf Qc mc ms free) (vx_Post XC mc ms free) := vx_backW (hh := hh) (bytes := bytes) (maxL := maxL) (ret := ret) hM hp.1 hrc hrs hfr hlo hws hcw (fun a' U hW => word_at hW (Or.inl (by first | rfl | simp [Cond.onTables, Cond.keeps, Cond.steady])) hini)
  obtain ⟨hx, hb, hml, ho, -⟩ := S
  obtain ⟨-, ⟨cellB, hcB, hoB, hclB⟩, hPc⟩ := hp
  intro T hT X
  rcases vx_callVX X hx (C := C) (hh := hh) (bytes := bytes) (maxL := maxL) (ret := ret) ho hl hin hse hcode hy hK (by rw [hT]; exact hcB) hoB hclB hg (hsize.trans hml.symm) (argsL := As) (rest := rest) (fun sig h => hn.trans (hlen sig h)) hstack hW (by rw [hb]; exact hdg)
    (fun vm₁ hW₁ => ⟨hf.1, hf.2, hPc (T.setVm vm₁) hT hW₁⟩) with ⟨v, vm₁, ⟨U', l2, c2, s2⟩, hW₁, X', ⟨g', mk, t, L, e1, e2, hq, h1, hL, h2, h3⟩, st⟩ | ⟨q, vm₁, ⟨U', l2, c2, s2⟩, hW₁, X', ⟨g', mk, t, L, E, ce, e1, e2, hq, hce, hcv, hcl, h1, hL, h2, h3⟩, st⟩
  · dsimp only [Pt.U, Pt.locs, Pt.cells, Pt.slots] at X' e1 e2 h1 h2 h3 st
    subst h1; subst h2; subst h3
    exact Or.inl ⟨v, (T.setVm vm₁).calling g' mk (Value.ref b :: As).toArray, t, U', L, hT, X', hL, e1, e2, hq, st⟩
  · dsimp only [Pt.U, Pt.locs, Pt.cells, Pt.slots] at X' e1 e2 h1 h2 h3 st hcl
    subst h1; subst h2; subst h3
    exact Or.inr ⟨q, (T.setVm vm₁).calling g' mk (Value.ref b :: As).toArray, t, U', L, E, ce, hT, X', hL, e1, e2, hq, hce, hcv, vx_cls hW₁ hcl, st⟩
theorem vx_runSX {hh : List (Nat × Nat × Nat × Nat)} (S : CallFix p m c cc nL s args Ts own) (hM : vx_Met l y ws rm Pc Qc XC mc ms free) (cw : vx_CSW R s args own index y bytes maxL ret hh ws rm mc ms n) (hp : PreS s H Pc As)
    (hg : g.method = m) (hn : As.length = n) (hsize : g.locals.size = nL) (hstack : g.stack = As.reverse ++ rest) (hW : 2 * g.monitorRoom + (rest.map fun v => v.category).sum ≤ 8) (hdg : decode cc g.pc = .ok (.invokestatic index, 3)) (hf : cells + mc ≤ R.cells ∧ slots + ms ≤ R.slots) :
    vx_Run p l e R s m args below meth c H locs cells slots mc ms g rest (Qc As.toArray) XC free := by
  obtain ⟨⟨hrc, hrs, hfr, hlo, hws, hcw⟩, hcode, hini, hy, hlen, hl, hstt⟩ := cw
  have hK : vx_Back l R p e below s args y 3 8 (PreOf R mc ms Pc) (PostOf Qc mc ms free) (vx_Post XC mc ms free) := vx_backW (hh := hh) (bytes := bytes) (maxL := maxL) (ret := ret) hM hp.1 hrc hrs hfr hlo hws hcw (fun a' U hW => word_at hW (Or.inl (by first | rfl | simp [Cond.onTables, Cond.keeps, Cond.steady])) hini)
  obtain ⟨hx, hb, hml, ho, -⟩ := S
  intro T hT X
  rcases vx_callSX X hx (hh := hh) (bytes := bytes) (maxL := maxL) (ret := ret) ho hl hstt hini hcode hy hK hg (hsize.trans hml.symm) (argsL := As) (rest := rest) (fun sig h => hn.trans (hlen sig h)) hstack hW (by rw [hb]; exact hdg)
    (fun vm₁ hW₁ => ⟨hf.1, hf.2, hp.2 (T.setVm vm₁) hT hW₁⟩) with ⟨v, vm₁, ⟨U', l2, c2, s2⟩, hW₁, X', ⟨g', mk, t, L, e1, e2, hq, h1, hL, h2, h3⟩, st⟩ | ⟨q, vm₁, ⟨U', l2, c2, s2⟩, hW₁, X', ⟨g', mk, t, L, E, ce, e1, e2, hq, hce, hcv, hcl, h1, hL, h2, h3⟩, st⟩
  · dsimp only [Pt.U, Pt.locs, Pt.cells, Pt.slots] at X' e1 e2 h1 h2 h3 st
    subst h1; subst h2; subst h3
    exact Or.inl ⟨v, (T.setVm vm₁).calling g' mk As.toArray, t, U', L, hT, X', hL, e1, e2, hq, st⟩
  · dsimp only [Pt.U, Pt.locs, Pt.cells, Pt.slots] at X' e1 e2 h1 h2 h3 st hcl
    subst h1; subst h2; subst h3
    exact Or.inr ⟨q, (T.setVm vm₁).calling g' mk As.toArray, t, U', L, E, ce, hT, X', hL, e1, e2, hq, hce, hcv, vx_cls hW₁ hcl, st⟩
end
end VXH
theorem vx_ofWH {l : Launch} {y : MethodName} {ws ws' : List Cond} {rm : Room} {Pc : Array Value → State → Prop} {Qc : Array Value → State → Outcome → State → Prop} {XC : String → State → State → Prop} {mc ms : Nat} {free : Addr → Prop} {cc : ByteArray} {maxL : Nat} {ret : Option FieldType} {hh : List (Nat × Nat × Nat × Nat)}
    (hy : plainName y.cls = true) (hw : ws = Cond.codeWith y cc maxL ret hh :: ws')
    (body : ∀ p e s m args below meth c s₁, BodyLoose p l y (headSpec ws rm) cc maxL ret e s m args below meth c s₁ → c.maxLocals = maxL → Pc args s →
      W p l e (headSpec ws rm).room s m args below meth c s.heap [] 0 0 (vx_MQ below Qc XC args s mc ms free) (entryFrame m args maxL)) : vx_Met l y ws rm Pc Qc XC mc ms free := by
  refine MetFree.of_bodyS (code := cc) (maxLocals := maxL) (ret := ret) hy ?_ ?_
  · intro args s m h hn
    obtain ⟨m9, meth, c, hn9, h1, h2, h3, h4, -, h5, h6, -⟩ := Cond.codeWith_spec (atoms_spec (ws := ws) h _ (by rw [hw]; exact List.mem_cons_self))
    cases hn.symm.trans hn9
    exact ⟨meth, c, h1, h2, h3, h4, h5, h6⟩
  · intro p e s m args below meth c s₁ B hml hP _
    have hh0 : s₁.heap = s.heap := by rw [B.state]; rfl
    obtain ⟨t, a1, o, b1, b2, b3⟩ := body p e s m args below meth c s₁ B hml hP s₁ hh0 (Stand.of_body B)
    exact ⟨t, o, a1, b1, b2, b3⟩
/-! ===== END ===== -/
end
section
def RX0 : String := "MakeupGas$Stock"
def TX0 : u_T := fun k => match k with
  | 0 => ("MakeupGas$Stock", "left", "[I", true)
  | 1 => ("MakeupGas$Stock", "yearsKept", "I", false)
  | _ => ("MakeupGas$Stock", "lapsedSum", "I", false)
def tyX0 : Nat → FieldType := fun k => match k with
  | 0 => .array .int
  | 1 => .int
  | _ => .int
abbrev wsX00 : List Cond := u_ws RX0 TX0 3
theorem nmX0 : ∀ a, a < 3 → ∀ b, b < 3 → a ≠ b → (TX0 a).2.1 ≠ (TX0 b).2.1 := by decide +kernel
theorem tyX0_ok : ∀ k, k < 3 → parseFieldDescriptor (TX0 k).2.2.1 = some (tyX0 k) := by decide +kernel
abbrev cX0_init : ByteArray := prog_2_method_1_code
def yX0_init : MethodName := ⟨RX0, "<init>", "(I)V"⟩
abbrev cX0_keepFor : ByteArray := prog_2_method_2_code
def yX0_keepFor : MethodName := ⟨RX0, "keepFor", "(I)V"⟩
abbrev cX0_empty : ByteArray := prog_2_method_3_code
def yX0_empty : MethodName := ⟨RX0, "empty", "()V"⟩
abbrev cX0_lapseBefore : ByteArray := prog_2_method_4_code
def yX0_lapseBefore : MethodName := ⟨RX0, "lapseBefore", "(I)V"⟩
abbrev cX0_put : ByteArray := prog_2_method_5_code
def yX0_put : MethodName := ⟨RX0, "put", "(II)V"⟩
abbrev cX0_drawFrom : ByteArray := prog_2_method_6_code
def yX0_drawFrom : MethodName := ⟨RX0, "drawFrom", "(II)I"⟩
abbrev cX0_leftFrom : ByteArray := prog_2_method_7_code
def yX0_leftFrom : MethodName := ⟨RX0, "leftFrom", "(I)I"⟩
abbrev cX0_lapsedInAll : ByteArray := prog_2_method_8_code
def yX0_lapsedInAll : MethodName := ⟨RX0, "lapsedInAll", "()I"⟩
def RX1 : String := "MakeupGas"
def TX1 : u_T := fun k => match k with
  | 0 => ("MakeupGas", "yearlyQuantity", "I", false)
  | 1 => ("MakeupGas", "leastPercent", "I", false)
  | 2 => ("MakeupGas", "shortfallPercent", "I", false)
  | 3 => ("MakeupGas", "pricePerYear", "[I", true)
  | 4 => ("MakeupGas", "excusedDays", "[I", true)
  | 5 => ("MakeupGas", "closedYears", "I", false)
  | 6 => ("MakeupGas", "takenPerDay", "[I", true)
  | 7 => ("MakeupGas", "takenPerYear", "[I", true)
  | 8 => ("MakeupGas", "makeUpStock", "LMakeupGas$Stock;", true)
  | 9 => ("MakeupGas", "surplusStock", "LMakeupGas$Stock;", true)
  | 10 => ("MakeupGas", "shortfallPerYear", "[I", true)
  | 11 => ("MakeupGas", "madeUpPerYear", "[I", true)
  | 12 => ("MakeupGas", "coveredPerYear", "[I", true)
  | 13 => ("MakeupGas", "surplusPerYear", "[I", true)
  | 14 => ("MakeupGas", "duePerYear", "[J", true)
  | 15 => ("MakeupGas", "billPerYear", "[J", true)
  | _ => ("MakeupGas", "billedInAll", "J", false)
def tyX1 : Nat → FieldType := fun k => match k with
  | 0 => .int
  | 1 => .int
  | 2 => .int
  | 3 => .array .int
  | 4 => .array .int
  | 5 => .int
  | 6 => .array .int
  | 7 => .array .int
  | 8 => .object "MakeupGas$Stock"
  | 9 => .object "MakeupGas$Stock"
  | 10 => .array .int
  | 11 => .array .int
  | 12 => .array .int
  | 13 => .array .int
  | 14 => .array .long
  | 15 => .array .long
  | _ => .long
abbrev wsX10 : List Cond := u_ws RX1 TX1 17
theorem nmX1 : ∀ a, a < 17 → ∀ b, b < 17 → a ≠ b → (TX1 a).2.1 ≠ (TX1 b).2.1 := by decide +kernel
theorem tyX1_ok : ∀ k, k < 17 → parseFieldDescriptor (TX1 k).2.2.1 = some (tyX1 k) := by decide +kernel
abbrev cX1_init : ByteArray := prog_1_method_1_code
def yX1_init : MethodName := ⟨RX1, "<init>", "()V"⟩
abbrev cX1_set : ByteArray := prog_1_method_2_code
def yX1_set : MethodName := ⟨RX1, "set", "(IIIII)V"⟩
abbrev cX1_review : ByteArray := prog_1_method_3_code
def yX1_review : MethodName := ⟨RX1, "review", "(II)I"⟩
abbrev cX1_excuse : ByteArray := prog_1_method_4_code
def yX1_excuse : MethodName := ⟨RX1, "excuse", "(II)I"⟩
abbrev cX1_take : ByteArray := prog_1_method_5_code
def yX1_take : MethodName := ⟨RX1, "take", "(II)I"⟩
abbrev cX1_takeDaily : ByteArray := prog_1_method_6_code
def yX1_takeDaily : MethodName := ⟨RX1, "takeDaily", "(III)I"⟩
abbrev cX1_close : ByteArray := prog_1_method_7_code
def yX1_close : MethodName := ⟨RX1, "close", "()J"⟩
abbrev cX1_closed : ByteArray := prog_1_method_8_code
def yX1_closed : MethodName := ⟨RX1, "closed", "()I"⟩
abbrev cX1_taken : ByteArray := prog_1_method_9_code
def yX1_taken : MethodName := ⟨RX1, "taken", "(I)I"⟩
abbrev cX1_takenFrom : ByteArray := prog_1_method_10_code
def yX1_takenFrom : MethodName := ⟨RX1, "takenFrom", "(II)I"⟩
abbrev cX1_price : ByteArray := prog_1_method_11_code
def yX1_price : MethodName := ⟨RX1, "price", "(I)I"⟩
abbrev cX1_least : ByteArray := prog_1_method_12_code
def yX1_least : MethodName := ⟨RX1, "least", "(I)I"⟩
abbrev cX1_shortfall : ByteArray := prog_1_method_13_code
def yX1_shortfall : MethodName := ⟨RX1, "shortfall", "(I)I"⟩
abbrev cX1_madeUp : ByteArray := prog_1_method_14_code
def yX1_madeUp : MethodName := ⟨RX1, "madeUp", "(I)I"⟩
abbrev cX1_covered : ByteArray := prog_1_method_15_code
def yX1_covered : MethodName := ⟨RX1, "covered", "(I)I"⟩
abbrev cX1_surplus : ByteArray := prog_1_method_16_code
def yX1_surplus : MethodName := ⟨RX1, "surplus", "(I)I"⟩
abbrev cX1_due : ByteArray := prog_1_method_17_code
def yX1_due : MethodName := ⟨RX1, "due", "(I)J"⟩
abbrev cX1_bill : ByteArray := prog_1_method_18_code
def yX1_bill : MethodName := ⟨RX1, "bill", "(I)J"⟩
abbrev cX1_makeUpLeft : ByteArray := prog_1_method_19_code
def yX1_makeUpLeft : MethodName := ⟨RX1, "makeUpLeft", "(I)I"⟩
abbrev cX1_surplusLeft : ByteArray := prog_1_method_20_code
def yX1_surplusLeft : MethodName := ⟨RX1, "surplusLeft", "(I)I"⟩
abbrev cX1_lapsed : ByteArray := prog_1_method_21_code
def yX1_lapsed : MethodName := ⟨RX1, "lapsed", "()I"⟩
abbrev cX1_open : ByteArray := prog_1_method_22_code
def yX1_open : MethodName := ⟨RX1, "open", "()J"⟩
abbrev cX1_requireRange : ByteArray := prog_1_method_23_code
def yX1_requireRange : MethodName := ⟨RX1, "requireRange", "(III)V"⟩
abbrev cX1_requireYear : ByteArray := prog_1_method_24_code
def yX1_requireYear : MethodName := ⟨RX1, "requireYear", "(I)V"⟩
abbrev cX1_requireDay : ByteArray := prog_1_method_25_code
def yX1_requireDay : MethodName := ⟨RX1, "requireDay", "(I)V"⟩
abbrev cX1_requireDays : ByteArray := prog_1_method_26_code
def yX1_requireDays : MethodName := ⟨RX1, "requireDays", "(II)V"⟩
abbrev cX1_requireClosedYear : ByteArray := prog_1_method_27_code
def yX1_requireClosedYear : MethodName := ⟨RX1, "requireClosedYear", "(I)V"⟩
abbrev cX1_requireYearGoingOn : ByteArray := prog_1_method_28_code
def yX1_requireYearGoingOn : MethodName := ⟨RX1, "requireYearGoingOn", "()V"⟩
abbrev cX1_requireUnused : ByteArray := prog_1_method_29_code
def yX1_requireUnused : MethodName := ⟨RX1, "requireUnused", "()V"⟩
abbrev cX1_requireRoom : ByteArray := prog_1_method_30_code
def yX1_requireRoom : MethodName := ⟨RX1, "requireRoom", "(III)V"⟩
abbrev cX1_addTakes : ByteArray := prog_1_method_31_code
def yX1_addTakes : MethodName := ⟨RX1, "addTakes", "(III)V"⟩
abbrev cX1_leastQuantity : ByteArray := prog_1_method_32_code
def yX1_leastQuantity : MethodName := ⟨RX1, "leastQuantity", "(I)I"⟩
abbrev cX1_shortfallPrice : ByteArray := prog_1_method_33_code
def yX1_shortfallPrice : MethodName := ⟨RX1, "shortfallPrice", "(I)I"⟩
abbrev cX1_settleClosedYears : ByteArray := prog_1_method_34_code
def yX1_settleClosedYears : MethodName := ⟨RX1, "settleClosedYears", "()V"⟩
abbrev cX1_settleGap : ByteArray := prog_1_method_35_code
def yX1_settleGap : MethodName := ⟨RX1, "settleGap", "(I)V"⟩
abbrev cX1_drawSurplus : ByteArray := prog_1_method_36_code
def yX1_drawSurplus : MethodName := ⟨RX1, "drawSurplus", "(II)I"⟩
abbrev cX1_settleEnough : ByteArray := prog_1_method_37_code
def yX1_settleEnough : MethodName := ⟨RX1, "settleEnough", "(I)V"⟩
abbrev cX1_dueInAll : ByteArray := prog_1_method_38_code
def yX1_dueInAll : MethodName := ⟨RX1, "dueInAll", "()J"⟩
def RX2 : String := "MakeupGasModel"
def TX2 : u_T := fun k => match k with
  | 0 => ("MakeupGasModel", "thrown", "I", false)
  | 1 => ("MakeupGasModel", "quantity", "I", false)
  | 2 => ("MakeupGasModel", "percent", "I", false)
  | 3 => ("MakeupGasModel", "share", "I", false)
  | 4 => ("MakeupGasModel", "makeUpYears", "I", false)
  | 5 => ("MakeupGasModel", "surplusYears", "I", false)
  | 6 => ("MakeupGasModel", "prices", "[I", true)
  | 7 => ("MakeupGasModel", "excused", "[I", true)
  | 8 => ("MakeupGasModel", "days", "[I", true)
  | 9 => ("MakeupGasModel", "taken", "[I", true)
  | 10 => ("MakeupGasModel", "bills", "[J", true)
  | 11 => ("MakeupGasModel", "closed", "I", false)
  | 12 => ("MakeupGasModel", "shortfalls", "[I", true)
  | 13 => ("MakeupGasModel", "surpluses", "[I", true)
  | 14 => ("MakeupGasModel", "makeUpLeft", "[I", true)
  | 15 => ("MakeupGasModel", "surplusLeft", "[I", true)
  | 16 => ("MakeupGasModel", "madeUp", "[I", true)
  | 17 => ("MakeupGasModel", "covered", "[I", true)
  | 18 => ("MakeupGasModel", "dues", "[J", true)
  | _ => ("MakeupGasModel", "lapsed", "I", false)
def tyX2 : Nat → FieldType := fun k => match k with
  | 0 => .int
  | 1 => .int
  | 2 => .int
  | 3 => .int
  | 4 => .int
  | 5 => .int
  | 6 => .array .int
  | 7 => .array .int
  | 8 => .array .int
  | 9 => .array .int
  | 10 => .array .long
  | 11 => .int
  | 12 => .array .int
  | 13 => .array .int
  | 14 => .array .int
  | 15 => .array .int
  | 16 => .array .int
  | 17 => .array .int
  | 18 => .array .long
  | _ => .int
abbrev wsX20 : List Cond := u_ws RX2 TX2 20
theorem nmX2 : ∀ a, a < 20 → ∀ b, b < 20 → a ≠ b → (TX2 a).2.1 ≠ (TX2 b).2.1 := by decide +kernel
theorem tyX2_ok : ∀ k, k < 20 → parseFieldDescriptor (TX2 k).2.2.1 = some (tyX2 k) := by decide +kernel
abbrev cX2_init : ByteArray := prog_4_method_1_code
def yX2_init : MethodName := ⟨RX2, "<init>", "()V"⟩
abbrev cX2_thrown : ByteArray := prog_4_method_2_code
def yX2_thrown : MethodName := ⟨RX2, "thrown", "()I"⟩
abbrev cX2_holds : ByteArray := prog_4_method_3_code
def yX2_holds : MethodName := ⟨RX2, "holds", "(I)Z"⟩
abbrev cX2_isIn : ByteArray := prog_4_method_4_code
def yX2_isIn : MethodName := ⟨RX2, "isIn", "(III)Z"⟩
abbrev cX2_isYear : ByteArray := prog_4_method_5_code
def yX2_isYear : MethodName := ⟨RX2, "isYear", "(I)Z"⟩
abbrev cX2_leastOf : ByteArray := prog_4_method_6_code
def yX2_leastOf : MethodName := ⟨RX2, "leastOf", "(I)I"⟩
abbrev cX2_shortfallPrice : ByteArray := prog_4_method_7_code
def yX2_shortfallPrice : MethodName := ⟨RX2, "shortfallPrice", "(I)I"⟩
abbrev cX2_lapses : ByteArray := prog_4_method_8_code
def yX2_lapses : MethodName := ⟨RX2, "lapses", "(I)V"⟩
abbrev cX2_covers : ByteArray := prog_4_method_9_code
def yX2_covers : MethodName := ⟨RX2, "covers", "(II)V"⟩
abbrev cX2_makesUp : ByteArray := prog_4_method_10_code
def yX2_makesUp : MethodName := ⟨RX2, "makesUp", "(II)V"⟩
abbrev cX2_goesThrough : ByteArray := prog_4_method_11_code
def yX2_goesThrough : MethodName := ⟨RX2, "goesThrough", "()V"⟩
abbrev cX2_openNow : ByteArray := prog_4_method_12_code
def yX2_openNow : MethodName := ⟨RX2, "openNow", "()J"⟩
abbrev cX2_set : ByteArray := prog_4_method_13_code
def yX2_set : MethodName := ⟨RX2, "set", "(IIIII)V"⟩
abbrev cX2_review : ByteArray := prog_4_method_14_code
def yX2_review : MethodName := ⟨RX2, "review", "(II)I"⟩
abbrev cX2_excuse : ByteArray := prog_4_method_15_code
def yX2_excuse : MethodName := ⟨RX2, "excuse", "(II)I"⟩
abbrev cX2_isRange : ByteArray := prog_4_method_16_code
def yX2_isRange : MethodName := ⟨RX2, "isRange", "(II)Z"⟩
abbrev cX2_isTooMuch : ByteArray := prog_4_method_17_code
def yX2_isTooMuch : MethodName := ⟨RX2, "isTooMuch", "(III)Z"⟩
abbrev cX2_canTake : ByteArray := prog_4_method_18_code
def yX2_canTake : MethodName := ⟨RX2, "canTake", "(III)Z"⟩
abbrev cX2_takes : ByteArray := prog_4_method_19_code
def yX2_takes : MethodName := ⟨RX2, "takes", "(III)V"⟩
abbrev cX2_take : ByteArray := prog_4_method_20_code
def yX2_take : MethodName := ⟨RX2, "take", "(II)I"⟩
abbrev cX2_takeDaily : ByteArray := prog_4_method_21_code
def yX2_takeDaily : MethodName := ⟨RX2, "takeDaily", "(III)I"⟩
abbrev cX2_close : ByteArray := prog_4_method_22_code
def yX2_close : MethodName := ⟨RX2, "close", "()J"⟩
abbrev cX2_closed : ByteArray := prog_4_method_23_code
def yX2_closed : MethodName := ⟨RX2, "closed", "()I"⟩
abbrev cX2_taken : ByteArray := prog_4_method_24_code
def yX2_taken : MethodName := ⟨RX2, "taken", "(I)I"⟩
abbrev cX2_takenFrom : ByteArray := prog_4_method_25_code
def yX2_takenFrom : MethodName := ⟨RX2, "takenFrom", "(II)I"⟩
abbrev cX2_price : ByteArray := prog_4_method_26_code
def yX2_price : MethodName := ⟨RX2, "price", "(I)I"⟩
abbrev cX2_least : ByteArray := prog_4_method_27_code
def yX2_least : MethodName := ⟨RX2, "least", "(I)I"⟩
abbrev cX2_isClosed : ByteArray := prog_4_method_28_code
def yX2_isClosed : MethodName := ⟨RX2, "isClosed", "(I)Z"⟩
abbrev cX2_shortfall : ByteArray := prog_4_method_29_code
def yX2_shortfall : MethodName := ⟨RX2, "shortfall", "(I)I"⟩
abbrev cX2_madeUp : ByteArray := prog_4_method_30_code
def yX2_madeUp : MethodName := ⟨RX2, "madeUp", "(I)I"⟩
abbrev cX2_covered : ByteArray := prog_4_method_31_code
def yX2_covered : MethodName := ⟨RX2, "covered", "(I)I"⟩
abbrev cX2_surplus : ByteArray := prog_4_method_32_code
def yX2_surplus : MethodName := ⟨RX2, "surplus", "(I)I"⟩
abbrev cX2_due : ByteArray := prog_4_method_33_code
def yX2_due : MethodName := ⟨RX2, "due", "(I)J"⟩
abbrev cX2_bill : ByteArray := prog_4_method_34_code
def yX2_bill : MethodName := ⟨RX2, "bill", "(I)J"⟩
abbrev cX2_makeUpLeft : ByteArray := prog_4_method_35_code
def yX2_makeUpLeft : MethodName := ⟨RX2, "makeUpLeft", "(I)I"⟩
abbrev cX2_surplusLeft : ByteArray := prog_4_method_36_code
def yX2_surplusLeft : MethodName := ⟨RX2, "surplusLeft", "(I)I"⟩
abbrev cX2_lapsed : ByteArray := prog_4_method_37_code
def yX2_lapsed : MethodName := ⟨RX2, "lapsed", "()I"⟩
abbrev cX2_open : ByteArray := prog_4_method_38_code
def yX2_open : MethodName := ⟨RX2, "open", "()J"⟩
def RJx145de : String := "java/io/Serializable"
def TJx145de : u_T := fun k => match k with
  | _ => ("", "", "", false)
def tyJx145de : Nat → FieldType := fun k => match k with
  | _ => .int
abbrev wsJx145de0 : List Cond := u_ws RJx145de TJx145de 0
theorem nmJx145de : ∀ a, a < 0 → ∀ b, b < 0 → a ≠ b → (TJx145de a).2.1 ≠ (TJx145de b).2.1 := by decide +kernel
theorem tyJx145de_ok : ∀ k, k < 0 → parseFieldDescriptor (TJx145de k).2.2.1 = some (tyJx145de k) := by decide +kernel
def RJ9 : String := "java/lang/Math"
def TJ9 : u_T := fun k => match k with
  | _ => ("", "", "", false)
def tyJ9 : Nat → FieldType := fun k => match k with
  | _ => .int
abbrev wsJ90 : List Cond := u_ws RJ9 TJ9 0
theorem nmJ9 : ∀ a, a < 0 → ∀ b, b < 0 → a ≠ b → (TJ9 a).2.1 ≠ (TJ9 b).2.1 := by decide +kernel
theorem tyJ9_ok : ∀ k, k < 0 → parseFieldDescriptor (TJ9 k).2.2.1 = some (tyJ9 k) := by decide +kernel
abbrev cJ9_max_7cf53 : ByteArray := prog_8_method_65_code
def yJ9_max_7cf53 : MethodName := ⟨RJ9, "max", "(II)I"⟩
abbrev cJ9_min_7cf53 : ByteArray := prog_8_method_69_code
def yJ9_min_7cf53 : MethodName := ⟨RJ9, "min", "(II)I"⟩
def RJ0 : String := "java/lang/String"
def TJ0 : u_T := fun k => match k with
  | _ => ("", "", "", false)
def tyJ0 : Nat → FieldType := fun k => match k with
  | _ => .int
abbrev wsJ00 : List Cond := u_ws RJ0 TJ0 0
theorem nmJ0 : ∀ a, a < 0 → ∀ b, b < 0 → a ≠ b → (TJ0 a).2.1 ≠ (TJ0 b).2.1 := by decide +kernel
theorem tyJ0_ok : ∀ k, k < 0 → parseFieldDescriptor (TJ0 k).2.2.1 = some (tyJ0 k) := by decide +kernel
def RJ7 : String := "java/util/Arrays"
def TJ7 : u_T := fun k => match k with
  | _ => ("", "", "", false)
def tyJ7 : Nat → FieldType := fun k => match k with
  | _ => .int
abbrev wsJ70 : List Cond := u_ws RJ7 TJ7 0
theorem nmJ7 : ∀ a, a < 0 → ∀ b, b < 0 → a ≠ b → (TJ7 a).2.1 ≠ (TJ7 b).2.1 := by decide +kernel
theorem tyJ7_ok : ∀ k, k < 0 → parseFieldDescriptor (TJ7 k).2.2.1 = some (tyJ7 k) := by decide +kernel
abbrev cJ7_fill_53178 : ByteArray := prog_12_method_103_code
def yJ7_fill_53178 : MethodName := ⟨RJ7, "fill", "([II)V"⟩
def RL : String := "MakeupGasLaw"
abbrev cL_set : ByteArray := method_3_code
def yL_set : MethodName := ⟨RL, "set", "(LMakeupGas;IIIII)I"⟩
abbrev cL_review : ByteArray := method_4_code
def yL_review : MethodName := ⟨RL, "review", "(LMakeupGas;II[J)I"⟩
abbrev cL_excuse : ByteArray := method_5_code
def yL_excuse : MethodName := ⟨RL, "excuse", "(LMakeupGas;II[J)I"⟩
abbrev cL_take : ByteArray := method_6_code
def yL_take : MethodName := ⟨RL, "take", "(LMakeupGas;II[J)I"⟩
abbrev cL_takeDaily : ByteArray := method_7_code
def yL_takeDaily : MethodName := ⟨RL, "takeDaily", "(LMakeupGas;III[J)I"⟩
abbrev cL_close : ByteArray := method_8_code
def yL_close : MethodName := ⟨RL, "close", "(LMakeupGas;[J)I"⟩
abbrev cL_taken : ByteArray := method_9_code
def yL_taken : MethodName := ⟨RL, "taken", "(LMakeupGas;I[J)I"⟩
abbrev cL_takenFrom : ByteArray := method_10_code
def yL_takenFrom : MethodName := ⟨RL, "takenFrom", "(LMakeupGas;II[J)I"⟩
abbrev cL_price : ByteArray := method_11_code
def yL_price : MethodName := ⟨RL, "price", "(LMakeupGas;I[J)I"⟩
abbrev cL_least : ByteArray := method_12_code
def yL_least : MethodName := ⟨RL, "least", "(LMakeupGas;I[J)I"⟩
abbrev cL_shortfall : ByteArray := method_13_code
def yL_shortfall : MethodName := ⟨RL, "shortfall", "(LMakeupGas;I[J)I"⟩
abbrev cL_madeUp : ByteArray := method_14_code
def yL_madeUp : MethodName := ⟨RL, "madeUp", "(LMakeupGas;I[J)I"⟩
abbrev cL_covered : ByteArray := method_15_code
def yL_covered : MethodName := ⟨RL, "covered", "(LMakeupGas;I[J)I"⟩
abbrev cL_surplus : ByteArray := method_16_code
def yL_surplus : MethodName := ⟨RL, "surplus", "(LMakeupGas;I[J)I"⟩
abbrev cL_due : ByteArray := method_17_code
def yL_due : MethodName := ⟨RL, "due", "(LMakeupGas;I[J)I"⟩
abbrev cL_bill : ByteArray := method_18_code
def yL_bill : MethodName := ⟨RL, "bill", "(LMakeupGas;I[J)I"⟩
abbrev cL_makeUpLeft : ByteArray := method_19_code
def yL_makeUpLeft : MethodName := ⟨RL, "makeUpLeft", "(LMakeupGas;I[J)I"⟩
abbrev cL_surplusLeft : ByteArray := method_20_code
def yL_surplusLeft : MethodName := ⟨RL, "surplusLeft", "(LMakeupGas;I[J)I"⟩
abbrev cL_law : ByteArray := code
def yL_law : MethodName := ⟨RL, "law", "([I)Z"⟩
def wsX0_init : List Cond := .code yX0_init cX0_init 2 none :: ([.methodLink RX0 3 objectInit, .instanceMethod objectInit, .code objectInit ⟨#[0xb1]⟩ 1 none, .arrayClass .int, .fieldLink RX0 9 "MakeupGas$Stock" "left" "[I", .fieldLink RX0 15 "MakeupGas$Stock" "yearsKept" "I"] ++ wsX00)
def wsX0_keepFor : List Cond := .code yX0_keepFor cX0_keepFor 2 none :: ([.fieldLink RX0 15 "MakeupGas$Stock" "yearsKept" "I"] ++ wsX00)
def wsJ7_fill_53178 : List Cond := .code yJ7_fill_53178 cJ7_fill_53178 4 none :: ([])
def wsX0_empty : List Cond := .code yX0_empty cX0_empty 1 none :: ([.fieldLink RX0 9 "MakeupGas$Stock" "left" "[I", .fieldLink RX0 25 "MakeupGas$Stock" "lapsedSum" "I", .methodLink RX0 19 yJ7_fill_53178, .static yJ7_fill_53178, .initialized RJ7, .code yJ7_fill_53178 cJ7_fill_53178 4 none] ++ wsX00)
def wsX0_lapseBefore : List Cond := .code yX0_lapseBefore cX0_lapseBefore 3 none :: ([.fieldLink RX0 15 "MakeupGas$Stock" "yearsKept" "I", .fieldLink RX0 25 "MakeupGas$Stock" "lapsedSum" "I", .fieldLink RX0 9 "MakeupGas$Stock" "left" "[I"] ++ wsX00)
def wsX0_put : List Cond := .code yX0_put cX0_put 3 none :: ([.fieldLink RX0 9 "MakeupGas$Stock" "left" "[I"] ++ wsX00)
def wsX0_drawFrom : List Cond := .code yX0_drawFrom cX0_drawFrom 4 (some .int) :: ([.fieldLink RX0 9 "MakeupGas$Stock" "left" "[I", .methodLink RX0 28 Lib.Math.min.name, .static Lib.Math.min.name, .initialized "java/lang/Math", .code Lib.Math.min.name Lib.Math.min.code 2 (some .int)] ++ wsX00)
def wsX0_leftFrom : List Cond := .code yX0_leftFrom cX0_leftFrom 2 (some .int) :: ([.fieldLink RX0 9 "MakeupGas$Stock" "left" "[I"] ++ wsX00)
def wsX0_lapsedInAll : List Cond := .code yX0_lapsedInAll cX0_lapsedInAll 1 (some .int) :: ([.fieldLink RX0 25 "MakeupGas$Stock" "lapsedSum" "I"] ++ wsX00)
def wsX1_init_r1 : List Cond := [Cond.methodLink RX1 1 objectInit, Cond.instanceMethod objectInit, Cond.code objectInit ⟨#[0xb1]⟩ 1 none, Cond.constant RX1 9 (36000), Cond.fieldLink RX1 10 "MakeupGas" "yearlyQuantity" "I", Cond.fieldLink RX1 14 "MakeupGas" "leastPercent" "I", Cond.fieldLink RX1 17 "MakeupGas" "shortfallPercent" "I", Cond.arrayClass .int, Cond.fieldLink RX1 20 "MakeupGas" "pricePerYear" "[I", Cond.fieldLink RX1 30 "MakeupGas" "excusedDays" "[I", Cond.fieldLink RX1 33 "MakeupGas" "takenPerDay" "[I", Cond.fieldLink RX1 36 "MakeupGas" "takenPerYear" "[I", Cond.classLink RX1 39 RX0, Cond.instantiable RX0 3, Cond.initialized RX0, Cond.fieldLink RX1 44 "MakeupGas" "makeUpStock" "LMakeupGas$Stock;", Cond.fieldLink RX1 48 "MakeupGas" "surplusStock" "LMakeupGas$Stock;", Cond.fieldLink RX1 51 "MakeupGas" "shortfallPerYear" "[I", Cond.fieldLink RX1 54 "MakeupGas" "madeUpPerYear" "[I", Cond.fieldLink RX1 57 "MakeupGas" "coveredPerYear" "[I", Cond.fieldLink RX1 60 "MakeupGas" "surplusPerYear" "[I", Cond.arrayClass .long, Cond.fieldLink RX1 63 "MakeupGas" "duePerYear" "[J", Cond.fieldLink RX1 67 "MakeupGas" "billPerYear" "[J"]
def wsX1_init_r2 : List Cond := [Cond.methodLink RX1 24 yJ7_fill_53178, Cond.static yJ7_fill_53178, Cond.initialized RJ7, Cond.code yJ7_fill_53178 cJ7_fill_53178 4 none, Cond.methodLink RX1 41 yX0_init, Cond.instanceMethod yX0_init, Cond.code yX0_init cX0_init 2 none, Cond.methodLink RX0 3 objectInit, Cond.fieldLink RX0 9 "MakeupGas$Stock" "left" "[I", Cond.fieldLink RX0 15 "MakeupGas$Stock" "yearsKept" "I"]
def wsX1_init : List Cond := .code yX1_init cX1_init 1 none :: ((wsX1_init_r1 ++ wsX1_init_r2) ++ wsX10 ++ wsX00)
def wsX1_requireRange : List Cond := .code yX1_requireRange cX1_requireRange 3 none :: ([.classLink RX1 128 "java/lang/IllegalArgumentException", .initialized "java/lang/IllegalArgumentException"] ++ (vx_atS RX1 132 "java/lang/IllegalArgumentException" ["java/lang/RuntimeException", "java/lang/Exception"]).filter goodWord)
def wsX1_requireUnused : List Cond := .code yX1_requireUnused cX1_requireUnused 1 none :: ([.classLink RX1 135 "java/lang/IllegalStateException", .initialized "java/lang/IllegalStateException", .fieldLink RX1 103 "MakeupGas" "closedYears" "I", .fieldLink RX1 36 "MakeupGas" "takenPerYear" "[I"] ++ wsX10 ++ (vx_atS RX1 139 "java/lang/IllegalStateException" ["java/lang/RuntimeException", "java/lang/Exception"]).filter goodWord)
def wsX1_set_r1 : List Cond := [Cond.constant RX1 70 (100000), Cond.fieldLink RX1 10 "MakeupGas" "yearlyQuantity" "I", Cond.fieldLink RX1 14 "MakeupGas" "leastPercent" "I", Cond.fieldLink RX1 17 "MakeupGas" "shortfallPercent" "I", Cond.fieldLink RX1 44 "MakeupGas" "makeUpStock" "LMakeupGas$Stock;", Cond.fieldLink RX1 48 "MakeupGas" "surplusStock" "LMakeupGas$Stock;", Cond.methodLink RX1 71 yX1_requireRange, Cond.static yX1_requireRange, Cond.initialized RX1, Cond.code yX1_requireRange cX1_requireRange 3 none, Cond.classLink RX1 128 "java/lang/IllegalArgumentException", Cond.initialized "java/lang/IllegalArgumentException", Cond.methodLink RX1 75 yX1_requireUnused, Cond.instanceMethod yX1_requireUnused, Cond.selects RX1 yX1_requireUnused yX1_requireUnused, Cond.code yX1_requireUnused cX1_requireUnused 1 none, Cond.classLink RX1 135 "java/lang/IllegalStateException", Cond.initialized "java/lang/IllegalStateException", Cond.fieldLink RX1 103 "MakeupGas" "closedYears" "I", Cond.fieldLink RX1 36 "MakeupGas" "takenPerYear" "[I", Cond.methodLink RX1 78 yX0_keepFor, Cond.instanceMethod yX0_keepFor, Cond.selects RX0 yX0_keepFor yX0_keepFor, Cond.initialized RX0]
def wsX1_set_r2 : List Cond := [Cond.code yX0_keepFor cX0_keepFor 2 none, Cond.fieldLink RX0 15 "MakeupGas$Stock" "yearsKept" "I"]
def wsX1_set : List Cond := .code yX1_set cX1_set 6 none :: ((wsX1_set_r1 ++ wsX1_set_r2) ++ wsX10 ++ wsX00 ++ (vx_atS RX1 132 "java/lang/IllegalArgumentException" ["java/lang/RuntimeException", "java/lang/Exception"]).filter goodWord ++ (vx_atS RX1 139 "java/lang/IllegalStateException" ["java/lang/RuntimeException", "java/lang/Exception"]).filter goodWord)
def wsX1_requireYear : List Cond := .code yX1_requireYear cX1_requireYear 1 none :: ([.methodLink RX1 71 yX1_requireRange, .static yX1_requireRange, .initialized RX1, .code yX1_requireRange cX1_requireRange 3 none, .classLink RX1 128 "java/lang/IllegalArgumentException", .initialized "java/lang/IllegalArgumentException"] ++ (vx_atS RX1 132 "java/lang/IllegalArgumentException" ["java/lang/RuntimeException", "java/lang/Exception"]).filter goodWord)
def wsX1_leastQuantity : List Cond := .code yX1_leastQuantity cX1_leastQuantity 4 (some .int) :: ([.fieldLink RX1 10 "MakeupGas" "yearlyQuantity" "I", .fieldLink RX1 14 "MakeupGas" "leastPercent" "I", .fieldLink RX1 30 "MakeupGas" "excusedDays" "[I", .constantLong RX1 146 (36000)] ++ wsX10)
def wsX1_drawSurplus : List Cond := .code yX1_drawSurplus cX1_drawSurplus 5 (some .int) :: ([.fieldLink RX1 48 "MakeupGas" "surplusStock" "LMakeupGas$Stock;", .methodLink RX1 170 yX0_drawFrom, .instanceMethod yX0_drawFrom, .selects RX0 yX0_drawFrom yX0_drawFrom, .initialized RX0, .code yX0_drawFrom cX0_drawFrom 4 (some .int), .fieldLink RX0 9 "MakeupGas$Stock" "left" "[I", .methodLink RX0 28 Lib.Math.min.name, .static Lib.Math.min.name, .initialized "java/lang/Math", .code Lib.Math.min.name Lib.Math.min.code 2 (some .int)] ++ wsX10 ++ wsX00)
def wsX1_shortfallPrice : List Cond := .code yX1_shortfallPrice cX1_shortfallPrice 2 (some .int) :: ([.fieldLink RX1 20 "MakeupGas" "pricePerYear" "[I", .fieldLink RX1 17 "MakeupGas" "shortfallPercent" "I"] ++ wsX10)
def wsX1_settleGap_r1 : List Cond := [Cond.fieldLink RX1 36 "MakeupGas" "takenPerYear" "[I", Cond.fieldLink RX1 44 "MakeupGas" "makeUpStock" "LMakeupGas$Stock;", Cond.fieldLink RX1 57 "MakeupGas" "coveredPerYear" "[I", Cond.fieldLink RX1 51 "MakeupGas" "shortfallPerYear" "[I", Cond.fieldLink RX1 54 "MakeupGas" "madeUpPerYear" "[I", Cond.fieldLink RX1 60 "MakeupGas" "surplusPerYear" "[I", Cond.fieldLink RX1 63 "MakeupGas" "duePerYear" "[J", Cond.fieldLink RX1 20 "MakeupGas" "pricePerYear" "[I", Cond.methodLink RX1 114 yX1_leastQuantity, Cond.instanceMethod yX1_leastQuantity, Cond.selects RX1 yX1_leastQuantity yX1_leastQuantity, Cond.initialized RX1, Cond.code yX1_leastQuantity cX1_leastQuantity 4 (some .int), Cond.fieldLink RX1 10 "MakeupGas" "yearlyQuantity" "I", Cond.fieldLink RX1 14 "MakeupGas" "leastPercent" "I", Cond.fieldLink RX1 30 "MakeupGas" "excusedDays" "[I", Cond.constantLong RX1 146 (36000), Cond.methodLink RX1 160 yX1_drawSurplus, Cond.instanceMethod yX1_drawSurplus, Cond.selects RX1 yX1_drawSurplus yX1_drawSurplus, Cond.code yX1_drawSurplus cX1_drawSurplus 5 (some .int), Cond.fieldLink RX1 48 "MakeupGas" "surplusStock" "LMakeupGas$Stock;", Cond.methodLink RX1 170 yX0_drawFrom, Cond.instanceMethod yX0_drawFrom]
def wsX1_settleGap_r2 : List Cond := [Cond.selects RX0 yX0_drawFrom yX0_drawFrom, Cond.initialized RX0, Cond.code yX0_drawFrom cX0_drawFrom 4 (some .int), Cond.fieldLink RX0 9 "MakeupGas$Stock" "left" "[I", Cond.methodLink RX0 28 Lib.Math.min.name, Cond.static Lib.Math.min.name, Cond.initialized "java/lang/Math", Cond.code Lib.Math.min.name Lib.Math.min.code 2 (some .int), Cond.methodLink RX1 164 yX0_put, Cond.instanceMethod yX0_put, Cond.selects RX0 yX0_put yX0_put, Cond.code yX0_put cX0_put 3 none, Cond.methodLink RX1 167 yX1_shortfallPrice, Cond.instanceMethod yX1_shortfallPrice, Cond.selects RX1 yX1_shortfallPrice yX1_shortfallPrice, Cond.code yX1_shortfallPrice cX1_shortfallPrice 2 (some .int), Cond.fieldLink RX1 17 "MakeupGas" "shortfallPercent" "I"]
def wsX1_settleGap : List Cond := .code yX1_settleGap cX1_settleGap 5 none :: ((wsX1_settleGap_r1 ++ wsX1_settleGap_r2) ++ wsX10 ++ wsX00)
def wsX1_settleEnough_r1 : List Cond := [Cond.fieldLink RX1 36 "MakeupGas" "takenPerYear" "[I", Cond.fieldLink RX1 44 "MakeupGas" "makeUpStock" "LMakeupGas$Stock;", Cond.fieldLink RX1 20 "MakeupGas" "pricePerYear" "[I", Cond.methodLink RX1 173 Lib.Math.max.name, Cond.static Lib.Math.max.name, Cond.initialized "java/lang/Math", Cond.code Lib.Math.max.name Lib.Math.max.code 2 (some .int), Cond.fieldLink RX1 10 "MakeupGas" "yearlyQuantity" "I", Cond.fieldLink RX1 48 "MakeupGas" "surplusStock" "LMakeupGas$Stock;", Cond.fieldLink RX1 57 "MakeupGas" "coveredPerYear" "[I", Cond.fieldLink RX1 51 "MakeupGas" "shortfallPerYear" "[I", Cond.fieldLink RX1 54 "MakeupGas" "madeUpPerYear" "[I", Cond.fieldLink RX1 60 "MakeupGas" "surplusPerYear" "[I", Cond.fieldLink RX1 63 "MakeupGas" "duePerYear" "[J", Cond.methodLink RX1 114 yX1_leastQuantity, Cond.instanceMethod yX1_leastQuantity, Cond.selects RX1 yX1_leastQuantity yX1_leastQuantity, Cond.initialized RX1, Cond.code yX1_leastQuantity cX1_leastQuantity 4 (some .int), Cond.fieldLink RX1 14 "MakeupGas" "leastPercent" "I", Cond.fieldLink RX1 30 "MakeupGas" "excusedDays" "[I", Cond.constantLong RX1 146 (36000), Cond.methodLink RX1 170 yX0_drawFrom, Cond.instanceMethod yX0_drawFrom]
def wsX1_settleEnough_r2 : List Cond := [Cond.selects RX0 yX0_drawFrom yX0_drawFrom, Cond.initialized RX0, Cond.code yX0_drawFrom cX0_drawFrom 4 (some .int), Cond.fieldLink RX0 9 "MakeupGas$Stock" "left" "[I", Cond.methodLink RX0 28 Lib.Math.min.name, Cond.static Lib.Math.min.name, Cond.code Lib.Math.min.name Lib.Math.min.code 2 (some .int), Cond.methodLink RX1 167 yX1_shortfallPrice, Cond.instanceMethod yX1_shortfallPrice, Cond.selects RX1 yX1_shortfallPrice yX1_shortfallPrice, Cond.code yX1_shortfallPrice cX1_shortfallPrice 2 (some .int), Cond.fieldLink RX1 17 "MakeupGas" "shortfallPercent" "I", Cond.methodLink RX1 164 yX0_put, Cond.instanceMethod yX0_put, Cond.selects RX0 yX0_put yX0_put, Cond.code yX0_put cX0_put 3 none]
def wsX1_settleEnough : List Cond := .code yX1_settleEnough cX1_settleEnough 8 none :: ((wsX1_settleEnough_r1 ++ wsX1_settleEnough_r2) ++ wsX10 ++ wsX00)
def wsX1_settleClosedYears_r1 : List Cond := [Cond.fieldLink RX1 44 "MakeupGas" "makeUpStock" "LMakeupGas$Stock;", Cond.fieldLink RX1 48 "MakeupGas" "surplusStock" "LMakeupGas$Stock;", Cond.fieldLink RX1 103 "MakeupGas" "closedYears" "I", Cond.fieldLink RX1 36 "MakeupGas" "takenPerYear" "[I", Cond.methodLink RX1 148 yX0_empty, Cond.instanceMethod yX0_empty, Cond.selects RX0 yX0_empty yX0_empty, Cond.initialized RX0, Cond.code yX0_empty cX0_empty 1 none, Cond.fieldLink RX0 9 "MakeupGas$Stock" "left" "[I", Cond.fieldLink RX0 25 "MakeupGas$Stock" "lapsedSum" "I", Cond.methodLink RX0 19 yJ7_fill_53178, Cond.static yJ7_fill_53178, Cond.initialized RJ7, Cond.code yJ7_fill_53178 cJ7_fill_53178 4 none, Cond.methodLink RX1 151 yX0_lapseBefore, Cond.instanceMethod yX0_lapseBefore, Cond.selects RX0 yX0_lapseBefore yX0_lapseBefore, Cond.code yX0_lapseBefore cX0_lapseBefore 3 none, Cond.fieldLink RX0 15 "MakeupGas$Stock" "yearsKept" "I", Cond.methodLink RX1 114 yX1_leastQuantity, Cond.instanceMethod yX1_leastQuantity, Cond.selects RX1 yX1_leastQuantity yX1_leastQuantity, Cond.initialized RX1]
def wsX1_settleClosedYears_r2 : List Cond := [Cond.code yX1_leastQuantity cX1_leastQuantity 4 (some .int), Cond.fieldLink RX1 10 "MakeupGas" "yearlyQuantity" "I", Cond.fieldLink RX1 14 "MakeupGas" "leastPercent" "I", Cond.fieldLink RX1 30 "MakeupGas" "excusedDays" "[I", Cond.constantLong RX1 146 (36000), Cond.methodLink RX1 154 yX1_settleGap, Cond.instanceMethod yX1_settleGap, Cond.selects RX1 yX1_settleGap yX1_settleGap, Cond.code yX1_settleGap cX1_settleGap 5 none, Cond.fieldLink RX1 57 "MakeupGas" "coveredPerYear" "[I", Cond.fieldLink RX1 51 "MakeupGas" "shortfallPerYear" "[I", Cond.fieldLink RX1 54 "MakeupGas" "madeUpPerYear" "[I", Cond.fieldLink RX1 60 "MakeupGas" "surplusPerYear" "[I", Cond.fieldLink RX1 63 "MakeupGas" "duePerYear" "[J", Cond.fieldLink RX1 20 "MakeupGas" "pricePerYear" "[I", Cond.methodLink RX1 160 yX1_drawSurplus, Cond.instanceMethod yX1_drawSurplus, Cond.selects RX1 yX1_drawSurplus yX1_drawSurplus, Cond.code yX1_drawSurplus cX1_drawSurplus 5 (some .int), Cond.methodLink RX1 170 yX0_drawFrom, Cond.instanceMethod yX0_drawFrom, Cond.selects RX0 yX0_drawFrom yX0_drawFrom, Cond.code yX0_drawFrom cX0_drawFrom 4 (some .int), Cond.methodLink RX0 28 Lib.Math.min.name]
def wsX1_settleClosedYears_r3 : List Cond := [Cond.static Lib.Math.min.name, Cond.initialized "java/lang/Math", Cond.code Lib.Math.min.name Lib.Math.min.code 2 (some .int), Cond.methodLink RX1 164 yX0_put, Cond.instanceMethod yX0_put, Cond.selects RX0 yX0_put yX0_put, Cond.code yX0_put cX0_put 3 none, Cond.methodLink RX1 167 yX1_shortfallPrice, Cond.instanceMethod yX1_shortfallPrice, Cond.selects RX1 yX1_shortfallPrice yX1_shortfallPrice, Cond.code yX1_shortfallPrice cX1_shortfallPrice 2 (some .int), Cond.fieldLink RX1 17 "MakeupGas" "shortfallPercent" "I", Cond.methodLink RX1 157 yX1_settleEnough, Cond.instanceMethod yX1_settleEnough, Cond.selects RX1 yX1_settleEnough yX1_settleEnough, Cond.code yX1_settleEnough cX1_settleEnough 8 none, Cond.methodLink RX1 173 Lib.Math.max.name, Cond.static Lib.Math.max.name, Cond.code Lib.Math.max.name Lib.Math.max.code 2 (some .int)]
def wsX1_settleClosedYears : List Cond := .code yX1_settleClosedYears cX1_settleClosedYears 2 none :: ((wsX1_settleClosedYears_r1 ++ (wsX1_settleClosedYears_r2 ++ wsX1_settleClosedYears_r3)) ++ wsX10 ++ wsX00)
def wsX1_review_r1 : List Cond := [Cond.fieldLink RX1 20 "MakeupGas" "pricePerYear" "[I", Cond.methodLink RX1 81 yX1_requireYear, Cond.static yX1_requireYear, Cond.initialized RX1, Cond.code yX1_requireYear cX1_requireYear 1 none, Cond.methodLink RX1 71 yX1_requireRange, Cond.static yX1_requireRange, Cond.code yX1_requireRange cX1_requireRange 3 none, Cond.classLink RX1 128 "java/lang/IllegalArgumentException", Cond.initialized "java/lang/IllegalArgumentException", Cond.methodLink RX1 84 yX1_settleClosedYears, Cond.instanceMethod yX1_settleClosedYears, Cond.selects RX1 yX1_settleClosedYears yX1_settleClosedYears, Cond.code yX1_settleClosedYears cX1_settleClosedYears 2 none, Cond.fieldLink RX1 44 "MakeupGas" "makeUpStock" "LMakeupGas$Stock;", Cond.fieldLink RX1 48 "MakeupGas" "surplusStock" "LMakeupGas$Stock;", Cond.fieldLink RX1 103 "MakeupGas" "closedYears" "I", Cond.fieldLink RX1 36 "MakeupGas" "takenPerYear" "[I", Cond.methodLink RX1 148 yX0_empty, Cond.instanceMethod yX0_empty, Cond.selects RX0 yX0_empty yX0_empty, Cond.initialized RX0, Cond.code yX0_empty cX0_empty 1 none, Cond.fieldLink RX0 9 "MakeupGas$Stock" "left" "[I"]
def wsX1_review_r2 : List Cond := [Cond.fieldLink RX0 25 "MakeupGas$Stock" "lapsedSum" "I", Cond.methodLink RX0 19 yJ7_fill_53178, Cond.static yJ7_fill_53178, Cond.initialized RJ7, Cond.code yJ7_fill_53178 cJ7_fill_53178 4 none, Cond.methodLink RX1 151 yX0_lapseBefore, Cond.instanceMethod yX0_lapseBefore, Cond.selects RX0 yX0_lapseBefore yX0_lapseBefore, Cond.code yX0_lapseBefore cX0_lapseBefore 3 none, Cond.fieldLink RX0 15 "MakeupGas$Stock" "yearsKept" "I", Cond.methodLink RX1 114 yX1_leastQuantity, Cond.instanceMethod yX1_leastQuantity, Cond.selects RX1 yX1_leastQuantity yX1_leastQuantity, Cond.code yX1_leastQuantity cX1_leastQuantity 4 (some .int), Cond.fieldLink RX1 10 "MakeupGas" "yearlyQuantity" "I", Cond.fieldLink RX1 14 "MakeupGas" "leastPercent" "I", Cond.fieldLink RX1 30 "MakeupGas" "excusedDays" "[I", Cond.constantLong RX1 146 (36000), Cond.methodLink RX1 154 yX1_settleGap, Cond.instanceMethod yX1_settleGap, Cond.selects RX1 yX1_settleGap yX1_settleGap, Cond.code yX1_settleGap cX1_settleGap 5 none, Cond.fieldLink RX1 57 "MakeupGas" "coveredPerYear" "[I", Cond.fieldLink RX1 51 "MakeupGas" "shortfallPerYear" "[I"]
def wsX1_review_r3 : List Cond := [Cond.fieldLink RX1 54 "MakeupGas" "madeUpPerYear" "[I", Cond.fieldLink RX1 60 "MakeupGas" "surplusPerYear" "[I", Cond.fieldLink RX1 63 "MakeupGas" "duePerYear" "[J", Cond.methodLink RX1 160 yX1_drawSurplus, Cond.instanceMethod yX1_drawSurplus, Cond.selects RX1 yX1_drawSurplus yX1_drawSurplus, Cond.code yX1_drawSurplus cX1_drawSurplus 5 (some .int), Cond.methodLink RX1 170 yX0_drawFrom, Cond.instanceMethod yX0_drawFrom, Cond.selects RX0 yX0_drawFrom yX0_drawFrom, Cond.code yX0_drawFrom cX0_drawFrom 4 (some .int), Cond.methodLink RX0 28 Lib.Math.min.name, Cond.static Lib.Math.min.name, Cond.initialized "java/lang/Math", Cond.code Lib.Math.min.name Lib.Math.min.code 2 (some .int), Cond.methodLink RX1 164 yX0_put, Cond.instanceMethod yX0_put, Cond.selects RX0 yX0_put yX0_put, Cond.code yX0_put cX0_put 3 none, Cond.methodLink RX1 167 yX1_shortfallPrice, Cond.instanceMethod yX1_shortfallPrice, Cond.selects RX1 yX1_shortfallPrice yX1_shortfallPrice, Cond.code yX1_shortfallPrice cX1_shortfallPrice 2 (some .int), Cond.fieldLink RX1 17 "MakeupGas" "shortfallPercent" "I"]
def wsX1_review_r4 : List Cond := [Cond.methodLink RX1 157 yX1_settleEnough, Cond.instanceMethod yX1_settleEnough, Cond.selects RX1 yX1_settleEnough yX1_settleEnough, Cond.code yX1_settleEnough cX1_settleEnough 8 none, Cond.methodLink RX1 173 Lib.Math.max.name, Cond.static Lib.Math.max.name, Cond.code Lib.Math.max.name Lib.Math.max.code 2 (some .int)]
def wsX1_review : List Cond := .code yX1_review cX1_review 5 (some .int) :: ((wsX1_review_r1 ++ (wsX1_review_r2 ++ (wsX1_review_r3 ++ wsX1_review_r4))) ++ wsX10 ++ wsX00 ++ (vx_atS RX1 132 "java/lang/IllegalArgumentException" ["java/lang/RuntimeException", "java/lang/Exception"]).filter goodWord)
def wsX1_excuse_r1 : List Cond := [Cond.fieldLink RX1 30 "MakeupGas" "excusedDays" "[I", Cond.methodLink RX1 81 yX1_requireYear, Cond.static yX1_requireYear, Cond.initialized RX1, Cond.code yX1_requireYear cX1_requireYear 1 none, Cond.methodLink RX1 71 yX1_requireRange, Cond.static yX1_requireRange, Cond.code yX1_requireRange cX1_requireRange 3 none, Cond.classLink RX1 128 "java/lang/IllegalArgumentException", Cond.initialized "java/lang/IllegalArgumentException", Cond.methodLink RX1 84 yX1_settleClosedYears, Cond.instanceMethod yX1_settleClosedYears, Cond.selects RX1 yX1_settleClosedYears yX1_settleClosedYears, Cond.code yX1_settleClosedYears cX1_settleClosedYears 2 none, Cond.fieldLink RX1 44 "MakeupGas" "makeUpStock" "LMakeupGas$Stock;", Cond.fieldLink RX1 48 "MakeupGas" "surplusStock" "LMakeupGas$Stock;", Cond.fieldLink RX1 103 "MakeupGas" "closedYears" "I", Cond.fieldLink RX1 36 "MakeupGas" "takenPerYear" "[I", Cond.methodLink RX1 148 yX0_empty, Cond.instanceMethod yX0_empty, Cond.selects RX0 yX0_empty yX0_empty, Cond.initialized RX0, Cond.code yX0_empty cX0_empty 1 none, Cond.fieldLink RX0 9 "MakeupGas$Stock" "left" "[I"]
def wsX1_excuse_r2 : List Cond := [Cond.fieldLink RX0 25 "MakeupGas$Stock" "lapsedSum" "I", Cond.methodLink RX0 19 yJ7_fill_53178, Cond.static yJ7_fill_53178, Cond.initialized RJ7, Cond.code yJ7_fill_53178 cJ7_fill_53178 4 none, Cond.methodLink RX1 151 yX0_lapseBefore, Cond.instanceMethod yX0_lapseBefore, Cond.selects RX0 yX0_lapseBefore yX0_lapseBefore, Cond.code yX0_lapseBefore cX0_lapseBefore 3 none, Cond.fieldLink RX0 15 "MakeupGas$Stock" "yearsKept" "I", Cond.methodLink RX1 114 yX1_leastQuantity, Cond.instanceMethod yX1_leastQuantity, Cond.selects RX1 yX1_leastQuantity yX1_leastQuantity, Cond.code yX1_leastQuantity cX1_leastQuantity 4 (some .int), Cond.fieldLink RX1 10 "MakeupGas" "yearlyQuantity" "I", Cond.fieldLink RX1 14 "MakeupGas" "leastPercent" "I", Cond.constantLong RX1 146 (36000), Cond.methodLink RX1 154 yX1_settleGap, Cond.instanceMethod yX1_settleGap, Cond.selects RX1 yX1_settleGap yX1_settleGap, Cond.code yX1_settleGap cX1_settleGap 5 none, Cond.fieldLink RX1 57 "MakeupGas" "coveredPerYear" "[I", Cond.fieldLink RX1 51 "MakeupGas" "shortfallPerYear" "[I", Cond.fieldLink RX1 54 "MakeupGas" "madeUpPerYear" "[I"]
def wsX1_excuse_r3 : List Cond := [Cond.fieldLink RX1 60 "MakeupGas" "surplusPerYear" "[I", Cond.fieldLink RX1 63 "MakeupGas" "duePerYear" "[J", Cond.fieldLink RX1 20 "MakeupGas" "pricePerYear" "[I", Cond.methodLink RX1 160 yX1_drawSurplus, Cond.instanceMethod yX1_drawSurplus, Cond.selects RX1 yX1_drawSurplus yX1_drawSurplus, Cond.code yX1_drawSurplus cX1_drawSurplus 5 (some .int), Cond.methodLink RX1 170 yX0_drawFrom, Cond.instanceMethod yX0_drawFrom, Cond.selects RX0 yX0_drawFrom yX0_drawFrom, Cond.code yX0_drawFrom cX0_drawFrom 4 (some .int), Cond.methodLink RX0 28 Lib.Math.min.name, Cond.static Lib.Math.min.name, Cond.initialized "java/lang/Math", Cond.code Lib.Math.min.name Lib.Math.min.code 2 (some .int), Cond.methodLink RX1 164 yX0_put, Cond.instanceMethod yX0_put, Cond.selects RX0 yX0_put yX0_put, Cond.code yX0_put cX0_put 3 none, Cond.methodLink RX1 167 yX1_shortfallPrice, Cond.instanceMethod yX1_shortfallPrice, Cond.selects RX1 yX1_shortfallPrice yX1_shortfallPrice, Cond.code yX1_shortfallPrice cX1_shortfallPrice 2 (some .int), Cond.fieldLink RX1 17 "MakeupGas" "shortfallPercent" "I"]
def wsX1_excuse_r4 : List Cond := [Cond.methodLink RX1 157 yX1_settleEnough, Cond.instanceMethod yX1_settleEnough, Cond.selects RX1 yX1_settleEnough yX1_settleEnough, Cond.code yX1_settleEnough cX1_settleEnough 8 none, Cond.methodLink RX1 173 Lib.Math.max.name, Cond.static Lib.Math.max.name, Cond.code Lib.Math.max.name Lib.Math.max.code 2 (some .int)]
def wsX1_excuse : List Cond := .code yX1_excuse cX1_excuse 4 (some .int) :: ((wsX1_excuse_r1 ++ (wsX1_excuse_r2 ++ (wsX1_excuse_r3 ++ wsX1_excuse_r4))) ++ wsX10 ++ wsX00 ++ (vx_atS RX1 132 "java/lang/IllegalArgumentException" ["java/lang/RuntimeException", "java/lang/Exception"]).filter goodWord)
def wsX1_requireDay : List Cond := .code yX1_requireDay cX1_requireDay 1 none :: ([.methodLink RX1 71 yX1_requireRange, .static yX1_requireRange, .initialized RX1, .code yX1_requireRange cX1_requireRange 3 none, .classLink RX1 128 "java/lang/IllegalArgumentException", .initialized "java/lang/IllegalArgumentException"] ++ (vx_atS RX1 132 "java/lang/IllegalArgumentException" ["java/lang/RuntimeException", "java/lang/Exception"]).filter goodWord)
def wsX1_requireYearGoingOn : List Cond := .code yX1_requireYearGoingOn cX1_requireYearGoingOn 1 none :: ([.classLink RX1 135 "java/lang/IllegalStateException", .initialized "java/lang/IllegalStateException", .fieldLink RX1 103 "MakeupGas" "closedYears" "I"] ++ wsX10 ++ (vx_atS RX1 139 "java/lang/IllegalStateException" ["java/lang/RuntimeException", "java/lang/Exception"]).filter goodWord)
def wsX1_requireRoom : List Cond := .code yX1_requireRoom cX1_requireRoom 5 none :: ([.classLink RX1 135 "java/lang/IllegalStateException", .initialized "java/lang/IllegalStateException", .fieldLink RX1 33 "MakeupGas" "takenPerDay" "[I"] ++ wsX10 ++ (vx_atS RX1 139 "java/lang/IllegalStateException" ["java/lang/RuntimeException", "java/lang/Exception"]).filter goodWord)
def wsX1_addTakes : List Cond := .code yX1_addTakes cX1_addTakes 5 none :: ([.fieldLink RX1 33 "MakeupGas" "takenPerDay" "[I", .fieldLink RX1 36 "MakeupGas" "takenPerYear" "[I", .fieldLink RX1 103 "MakeupGas" "closedYears" "I"] ++ wsX10)
def wsX1_take_r1 : List Cond := [Cond.fieldLink RX1 33 "MakeupGas" "takenPerDay" "[I", Cond.methodLink RX1 87 yX1_requireDay, Cond.static yX1_requireDay, Cond.initialized RX1, Cond.code yX1_requireDay cX1_requireDay 1 none, Cond.methodLink RX1 71 yX1_requireRange, Cond.static yX1_requireRange, Cond.code yX1_requireRange cX1_requireRange 3 none, Cond.classLink RX1 128 "java/lang/IllegalArgumentException", Cond.initialized "java/lang/IllegalArgumentException", Cond.methodLink RX1 90 yX1_requireYearGoingOn, Cond.instanceMethod yX1_requireYearGoingOn, Cond.selects RX1 yX1_requireYearGoingOn yX1_requireYearGoingOn, Cond.code yX1_requireYearGoingOn cX1_requireYearGoingOn 1 none, Cond.classLink RX1 135 "java/lang/IllegalStateException", Cond.initialized "java/lang/IllegalStateException", Cond.fieldLink RX1 103 "MakeupGas" "closedYears" "I", Cond.methodLink RX1 93 yX1_requireRoom, Cond.instanceMethod yX1_requireRoom, Cond.selects RX1 yX1_requireRoom yX1_requireRoom, Cond.code yX1_requireRoom cX1_requireRoom 5 none, Cond.methodLink RX1 96 yX1_addTakes, Cond.instanceMethod yX1_addTakes, Cond.selects RX1 yX1_addTakes yX1_addTakes]
def wsX1_take_r2 : List Cond := [Cond.code yX1_addTakes cX1_addTakes 5 none, Cond.fieldLink RX1 36 "MakeupGas" "takenPerYear" "[I"]
def wsX1_take : List Cond := .code yX1_take cX1_take 3 (some .int) :: ((wsX1_take_r1 ++ wsX1_take_r2) ++ wsX10 ++ (vx_atS RX1 132 "java/lang/IllegalArgumentException" ["java/lang/RuntimeException", "java/lang/Exception"]).filter goodWord ++ (vx_atS RX1 139 "java/lang/IllegalStateException" ["java/lang/RuntimeException", "java/lang/Exception"]).filter goodWord)
def wsX1_requireDays : List Cond := .code yX1_requireDays cX1_requireDays 2 none :: ([.methodLink RX1 87 yX1_requireDay, .static yX1_requireDay, .initialized RX1, .code yX1_requireDay cX1_requireDay 1 none, .methodLink RX1 71 yX1_requireRange, .static yX1_requireRange, .code yX1_requireRange cX1_requireRange 3 none, .classLink RX1 128 "java/lang/IllegalArgumentException", .initialized "java/lang/IllegalArgumentException"] ++ (vx_atS RX1 132 "java/lang/IllegalArgumentException" ["java/lang/RuntimeException", "java/lang/Exception"]).filter goodWord)
def wsX1_takeDaily_r1 : List Cond := [Cond.fieldLink RX1 36 "MakeupGas" "takenPerYear" "[I", Cond.fieldLink RX1 103 "MakeupGas" "closedYears" "I", Cond.methodLink RX1 99 yX1_requireDays, Cond.static yX1_requireDays, Cond.initialized RX1, Cond.code yX1_requireDays cX1_requireDays 2 none, Cond.methodLink RX1 87 yX1_requireDay, Cond.static yX1_requireDay, Cond.code yX1_requireDay cX1_requireDay 1 none, Cond.methodLink RX1 71 yX1_requireRange, Cond.static yX1_requireRange, Cond.code yX1_requireRange cX1_requireRange 3 none, Cond.classLink RX1 128 "java/lang/IllegalArgumentException", Cond.initialized "java/lang/IllegalArgumentException", Cond.methodLink RX1 90 yX1_requireYearGoingOn, Cond.instanceMethod yX1_requireYearGoingOn, Cond.selects RX1 yX1_requireYearGoingOn yX1_requireYearGoingOn, Cond.code yX1_requireYearGoingOn cX1_requireYearGoingOn 1 none, Cond.classLink RX1 135 "java/lang/IllegalStateException", Cond.initialized "java/lang/IllegalStateException", Cond.methodLink RX1 93 yX1_requireRoom, Cond.instanceMethod yX1_requireRoom, Cond.selects RX1 yX1_requireRoom yX1_requireRoom, Cond.code yX1_requireRoom cX1_requireRoom 5 none]
def wsX1_takeDaily_r2 : List Cond := [Cond.fieldLink RX1 33 "MakeupGas" "takenPerDay" "[I", Cond.methodLink RX1 96 yX1_addTakes, Cond.instanceMethod yX1_addTakes, Cond.selects RX1 yX1_addTakes yX1_addTakes, Cond.code yX1_addTakes cX1_addTakes 5 none]
def wsX1_takeDaily : List Cond := .code yX1_takeDaily cX1_takeDaily 4 (some .int) :: ((wsX1_takeDaily_r1 ++ wsX1_takeDaily_r2) ++ wsX10 ++ (vx_atS RX1 132 "java/lang/IllegalArgumentException" ["java/lang/RuntimeException", "java/lang/Exception"]).filter goodWord ++ (vx_atS RX1 139 "java/lang/IllegalStateException" ["java/lang/RuntimeException", "java/lang/Exception"]).filter goodWord)
def wsX1_dueInAll : List Cond := .code yX1_dueInAll cX1_dueInAll 4 (some .long) :: ([.fieldLink RX1 103 "MakeupGas" "closedYears" "I", .fieldLink RX1 63 "MakeupGas" "duePerYear" "[J"] ++ wsX10)
def wsX1_close_r1 : List Cond := [Cond.fieldLink RX1 103 "MakeupGas" "closedYears" "I", Cond.fieldLink RX1 33 "MakeupGas" "takenPerDay" "[I", Cond.fieldLink RX1 110 "MakeupGas" "billedInAll" "J", Cond.fieldLink RX1 67 "MakeupGas" "billPerYear" "[J", Cond.methodLink RX1 90 yX1_requireYearGoingOn, Cond.instanceMethod yX1_requireYearGoingOn, Cond.selects RX1 yX1_requireYearGoingOn yX1_requireYearGoingOn, Cond.initialized RX1, Cond.code yX1_requireYearGoingOn cX1_requireYearGoingOn 1 none, Cond.classLink RX1 135 "java/lang/IllegalStateException", Cond.initialized "java/lang/IllegalStateException", Cond.methodLink RX1 24 yJ7_fill_53178, Cond.static yJ7_fill_53178, Cond.initialized RJ7, Cond.code yJ7_fill_53178 cJ7_fill_53178 4 none, Cond.methodLink RX1 84 yX1_settleClosedYears, Cond.instanceMethod yX1_settleClosedYears, Cond.selects RX1 yX1_settleClosedYears yX1_settleClosedYears, Cond.code yX1_settleClosedYears cX1_settleClosedYears 2 none, Cond.fieldLink RX1 44 "MakeupGas" "makeUpStock" "LMakeupGas$Stock;", Cond.fieldLink RX1 48 "MakeupGas" "surplusStock" "LMakeupGas$Stock;", Cond.fieldLink RX1 36 "MakeupGas" "takenPerYear" "[I", Cond.methodLink RX1 148 yX0_empty, Cond.instanceMethod yX0_empty]
def wsX1_close_r2 : List Cond := [Cond.selects RX0 yX0_empty yX0_empty, Cond.initialized RX0, Cond.code yX0_empty cX0_empty 1 none, Cond.fieldLink RX0 9 "MakeupGas$Stock" "left" "[I", Cond.fieldLink RX0 25 "MakeupGas$Stock" "lapsedSum" "I", Cond.methodLink RX0 19 yJ7_fill_53178, Cond.methodLink RX1 151 yX0_lapseBefore, Cond.instanceMethod yX0_lapseBefore, Cond.selects RX0 yX0_lapseBefore yX0_lapseBefore, Cond.code yX0_lapseBefore cX0_lapseBefore 3 none, Cond.fieldLink RX0 15 "MakeupGas$Stock" "yearsKept" "I", Cond.methodLink RX1 114 yX1_leastQuantity, Cond.instanceMethod yX1_leastQuantity, Cond.selects RX1 yX1_leastQuantity yX1_leastQuantity, Cond.code yX1_leastQuantity cX1_leastQuantity 4 (some .int), Cond.fieldLink RX1 10 "MakeupGas" "yearlyQuantity" "I", Cond.fieldLink RX1 14 "MakeupGas" "leastPercent" "I", Cond.fieldLink RX1 30 "MakeupGas" "excusedDays" "[I", Cond.constantLong RX1 146 (36000), Cond.methodLink RX1 154 yX1_settleGap, Cond.instanceMethod yX1_settleGap, Cond.selects RX1 yX1_settleGap yX1_settleGap, Cond.code yX1_settleGap cX1_settleGap 5 none, Cond.fieldLink RX1 57 "MakeupGas" "coveredPerYear" "[I"]
def wsX1_close_r3 : List Cond := [Cond.fieldLink RX1 51 "MakeupGas" "shortfallPerYear" "[I", Cond.fieldLink RX1 54 "MakeupGas" "madeUpPerYear" "[I", Cond.fieldLink RX1 60 "MakeupGas" "surplusPerYear" "[I", Cond.fieldLink RX1 63 "MakeupGas" "duePerYear" "[J", Cond.fieldLink RX1 20 "MakeupGas" "pricePerYear" "[I", Cond.methodLink RX1 160 yX1_drawSurplus, Cond.instanceMethod yX1_drawSurplus, Cond.selects RX1 yX1_drawSurplus yX1_drawSurplus, Cond.code yX1_drawSurplus cX1_drawSurplus 5 (some .int), Cond.methodLink RX1 170 yX0_drawFrom, Cond.instanceMethod yX0_drawFrom, Cond.selects RX0 yX0_drawFrom yX0_drawFrom, Cond.code yX0_drawFrom cX0_drawFrom 4 (some .int), Cond.methodLink RX0 28 Lib.Math.min.name, Cond.static Lib.Math.min.name, Cond.initialized "java/lang/Math", Cond.code Lib.Math.min.name Lib.Math.min.code 2 (some .int), Cond.methodLink RX1 164 yX0_put, Cond.instanceMethod yX0_put, Cond.selects RX0 yX0_put yX0_put, Cond.code yX0_put cX0_put 3 none, Cond.methodLink RX1 167 yX1_shortfallPrice, Cond.instanceMethod yX1_shortfallPrice, Cond.selects RX1 yX1_shortfallPrice yX1_shortfallPrice]
def wsX1_close_r4 : List Cond := [Cond.code yX1_shortfallPrice cX1_shortfallPrice 2 (some .int), Cond.fieldLink RX1 17 "MakeupGas" "shortfallPercent" "I", Cond.methodLink RX1 157 yX1_settleEnough, Cond.instanceMethod yX1_settleEnough, Cond.selects RX1 yX1_settleEnough yX1_settleEnough, Cond.code yX1_settleEnough cX1_settleEnough 8 none, Cond.methodLink RX1 173 Lib.Math.max.name, Cond.static Lib.Math.max.name, Cond.code Lib.Math.max.name Lib.Math.max.code 2 (some .int), Cond.methodLink RX1 106 yX1_dueInAll, Cond.instanceMethod yX1_dueInAll, Cond.selects RX1 yX1_dueInAll yX1_dueInAll, Cond.code yX1_dueInAll cX1_dueInAll 4 (some .long)]
def wsX1_close : List Cond := .code yX1_close cX1_close 4 (some .long) :: ((wsX1_close_r1 ++ (wsX1_close_r2 ++ (wsX1_close_r3 ++ wsX1_close_r4))) ++ wsX10 ++ wsX00 ++ (vx_atS RX1 139 "java/lang/IllegalStateException" ["java/lang/RuntimeException", "java/lang/Exception"]).filter goodWord)
def wsX1_closed : List Cond := .code yX1_closed cX1_closed 1 (some .int) :: ([.fieldLink RX1 103 "MakeupGas" "closedYears" "I"] ++ wsX10)
def wsX1_taken : List Cond := .code yX1_taken cX1_taken 2 (some .int) :: ([.fieldLink RX1 36 "MakeupGas" "takenPerYear" "[I", .methodLink RX1 81 yX1_requireYear, .static yX1_requireYear, .initialized RX1, .code yX1_requireYear cX1_requireYear 1 none, .methodLink RX1 71 yX1_requireRange, .static yX1_requireRange, .code yX1_requireRange cX1_requireRange 3 none, .classLink RX1 128 "java/lang/IllegalArgumentException", .initialized "java/lang/IllegalArgumentException"] ++ wsX10 ++ (vx_atS RX1 132 "java/lang/IllegalArgumentException" ["java/lang/RuntimeException", "java/lang/Exception"]).filter goodWord)
def wsX1_takenFrom : List Cond := .code yX1_takenFrom cX1_takenFrom 5 (some .int) :: ([.fieldLink RX1 33 "MakeupGas" "takenPerDay" "[I", .methodLink RX1 99 yX1_requireDays, .static yX1_requireDays, .initialized RX1, .code yX1_requireDays cX1_requireDays 2 none, .methodLink RX1 87 yX1_requireDay, .static yX1_requireDay, .code yX1_requireDay cX1_requireDay 1 none, .methodLink RX1 71 yX1_requireRange, .static yX1_requireRange, .code yX1_requireRange cX1_requireRange 3 none, .classLink RX1 128 "java/lang/IllegalArgumentException", .initialized "java/lang/IllegalArgumentException"] ++ wsX10 ++ (vx_atS RX1 132 "java/lang/IllegalArgumentException" ["java/lang/RuntimeException", "java/lang/Exception"]).filter goodWord)
def wsX1_price : List Cond := .code yX1_price cX1_price 2 (some .int) :: ([.fieldLink RX1 20 "MakeupGas" "pricePerYear" "[I", .methodLink RX1 81 yX1_requireYear, .static yX1_requireYear, .initialized RX1, .code yX1_requireYear cX1_requireYear 1 none, .methodLink RX1 71 yX1_requireRange, .static yX1_requireRange, .code yX1_requireRange cX1_requireRange 3 none, .classLink RX1 128 "java/lang/IllegalArgumentException", .initialized "java/lang/IllegalArgumentException"] ++ wsX10 ++ (vx_atS RX1 132 "java/lang/IllegalArgumentException" ["java/lang/RuntimeException", "java/lang/Exception"]).filter goodWord)
def wsX1_least : List Cond := .code yX1_least cX1_least 2 (some .int) :: ([.methodLink RX1 81 yX1_requireYear, .static yX1_requireYear, .initialized RX1, .code yX1_requireYear cX1_requireYear 1 none, .methodLink RX1 71 yX1_requireRange, .static yX1_requireRange, .code yX1_requireRange cX1_requireRange 3 none, .classLink RX1 128 "java/lang/IllegalArgumentException", .initialized "java/lang/IllegalArgumentException", .methodLink RX1 114 yX1_leastQuantity, .instanceMethod yX1_leastQuantity, .selects RX1 yX1_leastQuantity yX1_leastQuantity, .code yX1_leastQuantity cX1_leastQuantity 4 (some .int), .fieldLink RX1 10 "MakeupGas" "yearlyQuantity" "I", .fieldLink RX1 14 "MakeupGas" "leastPercent" "I", .fieldLink RX1 30 "MakeupGas" "excusedDays" "[I", .constantLong RX1 146 (36000)] ++ wsX10 ++ (vx_atS RX1 132 "java/lang/IllegalArgumentException" ["java/lang/RuntimeException", "java/lang/Exception"]).filter goodWord)
def wsX1_requireClosedYear : List Cond := .code yX1_requireClosedYear cX1_requireClosedYear 2 none :: ([.classLink RX1 135 "java/lang/IllegalStateException", .initialized "java/lang/IllegalStateException", .fieldLink RX1 103 "MakeupGas" "closedYears" "I", .methodLink RX1 81 yX1_requireYear, .static yX1_requireYear, .initialized RX1, .code yX1_requireYear cX1_requireYear 1 none, .methodLink RX1 71 yX1_requireRange, .static yX1_requireRange, .code yX1_requireRange cX1_requireRange 3 none, .classLink RX1 128 "java/lang/IllegalArgumentException", .initialized "java/lang/IllegalArgumentException"] ++ wsX10 ++ (vx_atS RX1 139 "java/lang/IllegalStateException" ["java/lang/RuntimeException", "java/lang/Exception"]).filter goodWord ++ (vx_atS RX1 132 "java/lang/IllegalArgumentException" ["java/lang/RuntimeException", "java/lang/Exception"]).filter goodWord)
def wsX1_shortfall : List Cond := .code yX1_shortfall cX1_shortfall 2 (some .int) :: ([.fieldLink RX1 51 "MakeupGas" "shortfallPerYear" "[I", .methodLink RX1 118 yX1_requireClosedYear, .instanceMethod yX1_requireClosedYear, .selects RX1 yX1_requireClosedYear yX1_requireClosedYear, .initialized RX1, .code yX1_requireClosedYear cX1_requireClosedYear 2 none, .classLink RX1 135 "java/lang/IllegalStateException", .initialized "java/lang/IllegalStateException", .fieldLink RX1 103 "MakeupGas" "closedYears" "I", .methodLink RX1 81 yX1_requireYear, .static yX1_requireYear, .code yX1_requireYear cX1_requireYear 1 none, .methodLink RX1 71 yX1_requireRange, .static yX1_requireRange, .code yX1_requireRange cX1_requireRange 3 none, .classLink RX1 128 "java/lang/IllegalArgumentException", .initialized "java/lang/IllegalArgumentException"] ++ wsX10 ++ (vx_atS RX1 139 "java/lang/IllegalStateException" ["java/lang/RuntimeException", "java/lang/Exception"]).filter goodWord ++ (vx_atS RX1 132 "java/lang/IllegalArgumentException" ["java/lang/RuntimeException", "java/lang/Exception"]).filter goodWord)
def wsX1_madeUp : List Cond := .code yX1_madeUp cX1_madeUp 2 (some .int) :: ([.fieldLink RX1 54 "MakeupGas" "madeUpPerYear" "[I", .methodLink RX1 118 yX1_requireClosedYear, .instanceMethod yX1_requireClosedYear, .selects RX1 yX1_requireClosedYear yX1_requireClosedYear, .initialized RX1, .code yX1_requireClosedYear cX1_requireClosedYear 2 none, .classLink RX1 135 "java/lang/IllegalStateException", .initialized "java/lang/IllegalStateException", .fieldLink RX1 103 "MakeupGas" "closedYears" "I", .methodLink RX1 81 yX1_requireYear, .static yX1_requireYear, .code yX1_requireYear cX1_requireYear 1 none, .methodLink RX1 71 yX1_requireRange, .static yX1_requireRange, .code yX1_requireRange cX1_requireRange 3 none, .classLink RX1 128 "java/lang/IllegalArgumentException", .initialized "java/lang/IllegalArgumentException"] ++ wsX10 ++ (vx_atS RX1 139 "java/lang/IllegalStateException" ["java/lang/RuntimeException", "java/lang/Exception"]).filter goodWord ++ (vx_atS RX1 132 "java/lang/IllegalArgumentException" ["java/lang/RuntimeException", "java/lang/Exception"]).filter goodWord)
def wsX1_covered : List Cond := .code yX1_covered cX1_covered 2 (some .int) :: ([.fieldLink RX1 57 "MakeupGas" "coveredPerYear" "[I", .methodLink RX1 118 yX1_requireClosedYear, .instanceMethod yX1_requireClosedYear, .selects RX1 yX1_requireClosedYear yX1_requireClosedYear, .initialized RX1, .code yX1_requireClosedYear cX1_requireClosedYear 2 none, .classLink RX1 135 "java/lang/IllegalStateException", .initialized "java/lang/IllegalStateException", .fieldLink RX1 103 "MakeupGas" "closedYears" "I", .methodLink RX1 81 yX1_requireYear, .static yX1_requireYear, .code yX1_requireYear cX1_requireYear 1 none, .methodLink RX1 71 yX1_requireRange, .static yX1_requireRange, .code yX1_requireRange cX1_requireRange 3 none, .classLink RX1 128 "java/lang/IllegalArgumentException", .initialized "java/lang/IllegalArgumentException"] ++ wsX10 ++ (vx_atS RX1 139 "java/lang/IllegalStateException" ["java/lang/RuntimeException", "java/lang/Exception"]).filter goodWord ++ (vx_atS RX1 132 "java/lang/IllegalArgumentException" ["java/lang/RuntimeException", "java/lang/Exception"]).filter goodWord)
def wsX1_surplus : List Cond := .code yX1_surplus cX1_surplus 2 (some .int) :: ([.fieldLink RX1 60 "MakeupGas" "surplusPerYear" "[I", .methodLink RX1 118 yX1_requireClosedYear, .instanceMethod yX1_requireClosedYear, .selects RX1 yX1_requireClosedYear yX1_requireClosedYear, .initialized RX1, .code yX1_requireClosedYear cX1_requireClosedYear 2 none, .classLink RX1 135 "java/lang/IllegalStateException", .initialized "java/lang/IllegalStateException", .fieldLink RX1 103 "MakeupGas" "closedYears" "I", .methodLink RX1 81 yX1_requireYear, .static yX1_requireYear, .code yX1_requireYear cX1_requireYear 1 none, .methodLink RX1 71 yX1_requireRange, .static yX1_requireRange, .code yX1_requireRange cX1_requireRange 3 none, .classLink RX1 128 "java/lang/IllegalArgumentException", .initialized "java/lang/IllegalArgumentException"] ++ wsX10 ++ (vx_atS RX1 139 "java/lang/IllegalStateException" ["java/lang/RuntimeException", "java/lang/Exception"]).filter goodWord ++ (vx_atS RX1 132 "java/lang/IllegalArgumentException" ["java/lang/RuntimeException", "java/lang/Exception"]).filter goodWord)
def wsX1_due : List Cond := .code yX1_due cX1_due 2 (some .long) :: ([.fieldLink RX1 63 "MakeupGas" "duePerYear" "[J", .methodLink RX1 118 yX1_requireClosedYear, .instanceMethod yX1_requireClosedYear, .selects RX1 yX1_requireClosedYear yX1_requireClosedYear, .initialized RX1, .code yX1_requireClosedYear cX1_requireClosedYear 2 none, .classLink RX1 135 "java/lang/IllegalStateException", .initialized "java/lang/IllegalStateException", .fieldLink RX1 103 "MakeupGas" "closedYears" "I", .methodLink RX1 81 yX1_requireYear, .static yX1_requireYear, .code yX1_requireYear cX1_requireYear 1 none, .methodLink RX1 71 yX1_requireRange, .static yX1_requireRange, .code yX1_requireRange cX1_requireRange 3 none, .classLink RX1 128 "java/lang/IllegalArgumentException", .initialized "java/lang/IllegalArgumentException"] ++ wsX10 ++ (vx_atS RX1 139 "java/lang/IllegalStateException" ["java/lang/RuntimeException", "java/lang/Exception"]).filter goodWord ++ (vx_atS RX1 132 "java/lang/IllegalArgumentException" ["java/lang/RuntimeException", "java/lang/Exception"]).filter goodWord)
def wsX1_bill : List Cond := .code yX1_bill cX1_bill 2 (some .long) :: ([.fieldLink RX1 67 "MakeupGas" "billPerYear" "[J", .methodLink RX1 118 yX1_requireClosedYear, .instanceMethod yX1_requireClosedYear, .selects RX1 yX1_requireClosedYear yX1_requireClosedYear, .initialized RX1, .code yX1_requireClosedYear cX1_requireClosedYear 2 none, .classLink RX1 135 "java/lang/IllegalStateException", .initialized "java/lang/IllegalStateException", .fieldLink RX1 103 "MakeupGas" "closedYears" "I", .methodLink RX1 81 yX1_requireYear, .static yX1_requireYear, .code yX1_requireYear cX1_requireYear 1 none, .methodLink RX1 71 yX1_requireRange, .static yX1_requireRange, .code yX1_requireRange cX1_requireRange 3 none, .classLink RX1 128 "java/lang/IllegalArgumentException", .initialized "java/lang/IllegalArgumentException"] ++ wsX10 ++ (vx_atS RX1 139 "java/lang/IllegalStateException" ["java/lang/RuntimeException", "java/lang/Exception"]).filter goodWord ++ (vx_atS RX1 132 "java/lang/IllegalArgumentException" ["java/lang/RuntimeException", "java/lang/Exception"]).filter goodWord)
def wsX1_makeUpLeft : List Cond := .code yX1_makeUpLeft cX1_makeUpLeft 2 (some .int) :: ([.fieldLink RX1 44 "MakeupGas" "makeUpStock" "LMakeupGas$Stock;", .methodLink RX1 118 yX1_requireClosedYear, .instanceMethod yX1_requireClosedYear, .selects RX1 yX1_requireClosedYear yX1_requireClosedYear, .initialized RX1, .code yX1_requireClosedYear cX1_requireClosedYear 2 none, .classLink RX1 135 "java/lang/IllegalStateException", .initialized "java/lang/IllegalStateException", .fieldLink RX1 103 "MakeupGas" "closedYears" "I", .methodLink RX1 81 yX1_requireYear, .static yX1_requireYear, .code yX1_requireYear cX1_requireYear 1 none, .methodLink RX1 71 yX1_requireRange, .static yX1_requireRange, .code yX1_requireRange cX1_requireRange 3 none, .classLink RX1 128 "java/lang/IllegalArgumentException", .initialized "java/lang/IllegalArgumentException", .methodLink RX1 121 yX0_leftFrom, .instanceMethod yX0_leftFrom, .selects RX0 yX0_leftFrom yX0_leftFrom, .initialized RX0, .code yX0_leftFrom cX0_leftFrom 2 (some .int), .fieldLink RX0 9 "MakeupGas$Stock" "left" "[I"] ++ wsX10 ++ wsX00 ++ (vx_atS RX1 139 "java/lang/IllegalStateException" ["java/lang/RuntimeException", "java/lang/Exception"]).filter goodWord ++ (vx_atS RX1 132 "java/lang/IllegalArgumentException" ["java/lang/RuntimeException", "java/lang/Exception"]).filter goodWord)
def wsX1_surplusLeft : List Cond := .code yX1_surplusLeft cX1_surplusLeft 2 (some .int) :: ([.fieldLink RX1 48 "MakeupGas" "surplusStock" "LMakeupGas$Stock;", .methodLink RX1 118 yX1_requireClosedYear, .instanceMethod yX1_requireClosedYear, .selects RX1 yX1_requireClosedYear yX1_requireClosedYear, .initialized RX1, .code yX1_requireClosedYear cX1_requireClosedYear 2 none, .classLink RX1 135 "java/lang/IllegalStateException", .initialized "java/lang/IllegalStateException", .fieldLink RX1 103 "MakeupGas" "closedYears" "I", .methodLink RX1 81 yX1_requireYear, .static yX1_requireYear, .code yX1_requireYear cX1_requireYear 1 none, .methodLink RX1 71 yX1_requireRange, .static yX1_requireRange, .code yX1_requireRange cX1_requireRange 3 none, .classLink RX1 128 "java/lang/IllegalArgumentException", .initialized "java/lang/IllegalArgumentException", .methodLink RX1 121 yX0_leftFrom, .instanceMethod yX0_leftFrom, .selects RX0 yX0_leftFrom yX0_leftFrom, .initialized RX0, .code yX0_leftFrom cX0_leftFrom 2 (some .int), .fieldLink RX0 9 "MakeupGas$Stock" "left" "[I"] ++ wsX10 ++ wsX00 ++ (vx_atS RX1 139 "java/lang/IllegalStateException" ["java/lang/RuntimeException", "java/lang/Exception"]).filter goodWord ++ (vx_atS RX1 132 "java/lang/IllegalArgumentException" ["java/lang/RuntimeException", "java/lang/Exception"]).filter goodWord)
def wsX1_lapsed : List Cond := .code yX1_lapsed cX1_lapsed 1 (some .int) :: ([.fieldLink RX1 44 "MakeupGas" "makeUpStock" "LMakeupGas$Stock;", .methodLink RX1 124 yX0_lapsedInAll, .instanceMethod yX0_lapsedInAll, .selects RX0 yX0_lapsedInAll yX0_lapsedInAll, .initialized RX0, .code yX0_lapsedInAll cX0_lapsedInAll 1 (some .int), .fieldLink RX0 25 "MakeupGas$Stock" "lapsedSum" "I"] ++ wsX10 ++ wsX00)
def wsX1_open : List Cond := .code yX1_open cX1_open 1 (some .long) :: ([.fieldLink RX1 110 "MakeupGas" "billedInAll" "J", .methodLink RX1 106 yX1_dueInAll, .instanceMethod yX1_dueInAll, .selects RX1 yX1_dueInAll yX1_dueInAll, .initialized RX1, .code yX1_dueInAll cX1_dueInAll 4 (some .long), .fieldLink RX1 103 "MakeupGas" "closedYears" "I", .fieldLink RX1 63 "MakeupGas" "duePerYear" "[J"] ++ wsX10)
def wsX2_init : List Cond := .code yX2_init cX2_init 2 none :: ([.methodLink RX2 1 objectInit, .instanceMethod objectInit, .code objectInit ⟨#[0xb1]⟩ 1 none, .constant RX2 7 (36000), .fieldLink RX2 8 "MakeupGasModel" "quantity" "I", .fieldLink RX2 14 "MakeupGasModel" "percent" "I", .fieldLink RX2 17 "MakeupGasModel" "share" "I", .fieldLink RX2 20 "MakeupGasModel" "makeUpYears" "I", .fieldLink RX2 23 "MakeupGasModel" "surplusYears" "I", .arrayClass .int, .fieldLink RX2 26 "MakeupGasModel" "prices" "[I", .fieldLink RX2 30 "MakeupGasModel" "excused" "[I", .fieldLink RX2 33 "MakeupGasModel" "days" "[I", .fieldLink RX2 36 "MakeupGasModel" "taken" "[I", .arrayClass .long, .fieldLink RX2 39 "MakeupGasModel" "bills" "[J", .fieldLink RX2 43 "MakeupGasModel" "shortfalls" "[I", .fieldLink RX2 46 "MakeupGasModel" "surpluses" "[I", .fieldLink RX2 49 "MakeupGasModel" "makeUpLeft" "[I", .fieldLink RX2 52 "MakeupGasModel" "surplusLeft" "[I", .fieldLink RX2 55 "MakeupGasModel" "madeUp" "[I", .fieldLink RX2 58 "MakeupGasModel" "covered" "[I", .fieldLink RX2 61 "MakeupGasModel" "dues" "[J"] ++ wsX20)
def wsX2_thrown : List Cond := .code yX2_thrown cX2_thrown 1 (some .int) :: ([.fieldLink RX2 64 "MakeupGasModel" "thrown" "I"] ++ wsX20)
def wsX2_holds : List Cond := .code yX2_holds cX2_holds 2 (some .boolean) :: ([.fieldLink RX2 64 "MakeupGasModel" "thrown" "I"] ++ wsX20)
def wsX2_isIn : List Cond := .code yX2_isIn cX2_isIn 3 (some .boolean) :: ([])
def wsX2_isYear : List Cond := .code yX2_isYear cX2_isYear 1 (some .boolean) :: ([.methodLink RX2 67 yX2_isIn, .static yX2_isIn, .initialized RX2, .code yX2_isIn cX2_isIn 3 (some .boolean)])
def wsX2_leastOf : List Cond := .code yX2_leastOf cX2_leastOf 2 (some .int) :: ([.fieldLink RX2 8 "MakeupGasModel" "quantity" "I", .fieldLink RX2 14 "MakeupGasModel" "percent" "I", .fieldLink RX2 30 "MakeupGasModel" "excused" "[I", .constantLong RX2 71 (36000)] ++ wsX20)
def wsX2_shortfallPrice : List Cond := .code yX2_shortfallPrice cX2_shortfallPrice 2 (some .int) :: ([.fieldLink RX2 26 "MakeupGasModel" "prices" "[I", .fieldLink RX2 17 "MakeupGasModel" "share" "I"] ++ wsX20)
def wsX2_lapses : List Cond := .code yX2_lapses cX2_lapses 3 none :: ([.fieldLink RX2 20 "MakeupGasModel" "makeUpYears" "I", .fieldLink RX2 73 "MakeupGasModel" "lapsed" "I", .fieldLink RX2 49 "MakeupGasModel" "makeUpLeft" "[I", .fieldLink RX2 23 "MakeupGasModel" "surplusYears" "I", .fieldLink RX2 52 "MakeupGasModel" "surplusLeft" "[I"] ++ wsX20)
def wsX2_covers : List Cond := .code yX2_covers cX2_covers 6 none :: ([.fieldLink RX2 52 "MakeupGasModel" "surplusLeft" "[I", .fieldLink RX2 58 "MakeupGasModel" "covered" "[I", .fieldLink RX2 43 "MakeupGasModel" "shortfalls" "[I", .fieldLink RX2 49 "MakeupGasModel" "makeUpLeft" "[I", .fieldLink RX2 61 "MakeupGasModel" "dues" "[J", .fieldLink RX2 36 "MakeupGasModel" "taken" "[I", .fieldLink RX2 26 "MakeupGasModel" "prices" "[I", .methodLink RX2 76 yX2_shortfallPrice, .instanceMethod yX2_shortfallPrice, .selects RX2 yX2_shortfallPrice yX2_shortfallPrice, .initialized RX2, .code yX2_shortfallPrice cX2_shortfallPrice 2 (some .int), .fieldLink RX2 17 "MakeupGasModel" "share" "I"] ++ wsX20)
def wsX2_makesUp : List Cond := .code yX2_makesUp cX2_makesUp 9 none :: ([.fieldLink RX2 49 "MakeupGasModel" "makeUpLeft" "[I", .fieldLink RX2 26 "MakeupGasModel" "prices" "[I", .fieldLink RX2 55 "MakeupGasModel" "madeUp" "[I", .fieldLink RX2 36 "MakeupGasModel" "taken" "[I", .fieldLink RX2 46 "MakeupGasModel" "surpluses" "[I", .fieldLink RX2 8 "MakeupGasModel" "quantity" "I", .fieldLink RX2 52 "MakeupGasModel" "surplusLeft" "[I", .fieldLink RX2 61 "MakeupGasModel" "dues" "[J", .methodLink RX2 76 yX2_shortfallPrice, .instanceMethod yX2_shortfallPrice, .selects RX2 yX2_shortfallPrice yX2_shortfallPrice, .initialized RX2, .code yX2_shortfallPrice cX2_shortfallPrice 2 (some .int), .fieldLink RX2 17 "MakeupGasModel" "share" "I"] ++ wsX20)
def wsX2_goesThrough_r1 : List Cond := [Cond.fieldLink RX2 73 "MakeupGasModel" "lapsed" "I", Cond.fieldLink RX2 80 "MakeupGasModel" "closed" "I", Cond.fieldLink RX2 43 "MakeupGasModel" "shortfalls" "[I", Cond.fieldLink RX2 46 "MakeupGasModel" "surpluses" "[I", Cond.fieldLink RX2 49 "MakeupGasModel" "makeUpLeft" "[I", Cond.fieldLink RX2 52 "MakeupGasModel" "surplusLeft" "[I", Cond.fieldLink RX2 55 "MakeupGasModel" "madeUp" "[I", Cond.fieldLink RX2 58 "MakeupGasModel" "covered" "[I", Cond.fieldLink RX2 36 "MakeupGasModel" "taken" "[I", Cond.methodLink RX2 83 yX2_lapses, Cond.instanceMethod yX2_lapses, Cond.selects RX2 yX2_lapses yX2_lapses, Cond.initialized RX2, Cond.code yX2_lapses cX2_lapses 3 none, Cond.fieldLink RX2 20 "MakeupGasModel" "makeUpYears" "I", Cond.fieldLink RX2 23 "MakeupGasModel" "surplusYears" "I", Cond.methodLink RX2 87 yX2_leastOf, Cond.instanceMethod yX2_leastOf, Cond.selects RX2 yX2_leastOf yX2_leastOf, Cond.code yX2_leastOf cX2_leastOf 2 (some .int), Cond.fieldLink RX2 8 "MakeupGasModel" "quantity" "I", Cond.fieldLink RX2 14 "MakeupGasModel" "percent" "I", Cond.fieldLink RX2 30 "MakeupGasModel" "excused" "[I", Cond.constantLong RX2 71 (36000)]
def wsX2_goesThrough_r2 : List Cond := [Cond.methodLink RX2 90 yX2_covers, Cond.instanceMethod yX2_covers, Cond.selects RX2 yX2_covers yX2_covers, Cond.code yX2_covers cX2_covers 6 none, Cond.fieldLink RX2 61 "MakeupGasModel" "dues" "[J", Cond.fieldLink RX2 26 "MakeupGasModel" "prices" "[I", Cond.methodLink RX2 76 yX2_shortfallPrice, Cond.instanceMethod yX2_shortfallPrice, Cond.selects RX2 yX2_shortfallPrice yX2_shortfallPrice, Cond.code yX2_shortfallPrice cX2_shortfallPrice 2 (some .int), Cond.fieldLink RX2 17 "MakeupGasModel" "share" "I", Cond.methodLink RX2 94 yX2_makesUp, Cond.instanceMethod yX2_makesUp, Cond.selects RX2 yX2_makesUp yX2_makesUp, Cond.code yX2_makesUp cX2_makesUp 9 none]
def wsX2_goesThrough : List Cond := .code yX2_goesThrough cX2_goesThrough 3 none :: ((wsX2_goesThrough_r1 ++ wsX2_goesThrough_r2) ++ wsX20)
def wsX2_openNow_r1 : List Cond := [Cond.fieldLink RX2 80 "MakeupGasModel" "closed" "I", Cond.fieldLink RX2 61 "MakeupGasModel" "dues" "[J", Cond.fieldLink RX2 39 "MakeupGasModel" "bills" "[J", Cond.methodLink RX2 97 yX2_goesThrough, Cond.instanceMethod yX2_goesThrough, Cond.selects RX2 yX2_goesThrough yX2_goesThrough, Cond.initialized RX2, Cond.code yX2_goesThrough cX2_goesThrough 3 none, Cond.fieldLink RX2 73 "MakeupGasModel" "lapsed" "I", Cond.fieldLink RX2 43 "MakeupGasModel" "shortfalls" "[I", Cond.fieldLink RX2 46 "MakeupGasModel" "surpluses" "[I", Cond.fieldLink RX2 49 "MakeupGasModel" "makeUpLeft" "[I", Cond.fieldLink RX2 52 "MakeupGasModel" "surplusLeft" "[I", Cond.fieldLink RX2 55 "MakeupGasModel" "madeUp" "[I", Cond.fieldLink RX2 58 "MakeupGasModel" "covered" "[I", Cond.fieldLink RX2 36 "MakeupGasModel" "taken" "[I", Cond.methodLink RX2 83 yX2_lapses, Cond.instanceMethod yX2_lapses, Cond.selects RX2 yX2_lapses yX2_lapses, Cond.code yX2_lapses cX2_lapses 3 none, Cond.fieldLink RX2 20 "MakeupGasModel" "makeUpYears" "I", Cond.fieldLink RX2 23 "MakeupGasModel" "surplusYears" "I", Cond.methodLink RX2 87 yX2_leastOf, Cond.instanceMethod yX2_leastOf]
def wsX2_openNow_r2 : List Cond := [Cond.selects RX2 yX2_leastOf yX2_leastOf, Cond.code yX2_leastOf cX2_leastOf 2 (some .int), Cond.fieldLink RX2 8 "MakeupGasModel" "quantity" "I", Cond.fieldLink RX2 14 "MakeupGasModel" "percent" "I", Cond.fieldLink RX2 30 "MakeupGasModel" "excused" "[I", Cond.constantLong RX2 71 (36000), Cond.methodLink RX2 90 yX2_covers, Cond.instanceMethod yX2_covers, Cond.selects RX2 yX2_covers yX2_covers, Cond.code yX2_covers cX2_covers 6 none, Cond.fieldLink RX2 26 "MakeupGasModel" "prices" "[I", Cond.methodLink RX2 76 yX2_shortfallPrice, Cond.instanceMethod yX2_shortfallPrice, Cond.selects RX2 yX2_shortfallPrice yX2_shortfallPrice, Cond.code yX2_shortfallPrice cX2_shortfallPrice 2 (some .int), Cond.fieldLink RX2 17 "MakeupGasModel" "share" "I", Cond.methodLink RX2 94 yX2_makesUp, Cond.instanceMethod yX2_makesUp, Cond.selects RX2 yX2_makesUp yX2_makesUp, Cond.code yX2_makesUp cX2_makesUp 9 none]
def wsX2_openNow : List Cond := .code yX2_openNow cX2_openNow 4 (some .long) :: ((wsX2_openNow_r1 ++ wsX2_openNow_r2) ++ wsX20)
def wsX2_set : List Cond := .code yX2_set cX2_set 7 none :: ([.constant RX2 100 (100000), .fieldLink RX2 80 "MakeupGasModel" "closed" "I", .fieldLink RX2 36 "MakeupGasModel" "taken" "[I", .fieldLink RX2 8 "MakeupGasModel" "quantity" "I", .fieldLink RX2 14 "MakeupGasModel" "percent" "I", .fieldLink RX2 17 "MakeupGasModel" "share" "I", .fieldLink RX2 20 "MakeupGasModel" "makeUpYears" "I", .fieldLink RX2 23 "MakeupGasModel" "surplusYears" "I", .methodLink RX2 67 yX2_isIn, .static yX2_isIn, .initialized RX2, .code yX2_isIn cX2_isIn 3 (some .boolean), .methodLink RX2 101 yX2_holds, .instanceMethod yX2_holds, .selects RX2 yX2_holds yX2_holds, .code yX2_holds cX2_holds 2 (some .boolean), .fieldLink RX2 64 "MakeupGasModel" "thrown" "I"] ++ wsX20)
def wsX2_review : List Cond := .code yX2_review cX2_review 5 (some .int) :: ([.fieldLink RX2 26 "MakeupGasModel" "prices" "[I", .methodLink RX2 105 yX2_isYear, .static yX2_isYear, .initialized RX2, .code yX2_isYear cX2_isYear 1 (some .boolean), .methodLink RX2 67 yX2_isIn, .static yX2_isIn, .code yX2_isIn cX2_isIn 3 (some .boolean), .methodLink RX2 101 yX2_holds, .instanceMethod yX2_holds, .selects RX2 yX2_holds yX2_holds, .code yX2_holds cX2_holds 2 (some .boolean), .fieldLink RX2 64 "MakeupGasModel" "thrown" "I"] ++ wsX20)
def wsX2_excuse : List Cond := .code yX2_excuse cX2_excuse 4 (some .int) :: ([.fieldLink RX2 30 "MakeupGasModel" "excused" "[I", .methodLink RX2 105 yX2_isYear, .static yX2_isYear, .initialized RX2, .code yX2_isYear cX2_isYear 1 (some .boolean), .methodLink RX2 67 yX2_isIn, .static yX2_isIn, .code yX2_isIn cX2_isIn 3 (some .boolean), .methodLink RX2 101 yX2_holds, .instanceMethod yX2_holds, .selects RX2 yX2_holds yX2_holds, .code yX2_holds cX2_holds 2 (some .boolean), .fieldLink RX2 64 "MakeupGasModel" "thrown" "I"] ++ wsX20)
def wsX2_isRange : List Cond := .code yX2_isRange cX2_isRange 2 (some .boolean) :: ([])
def wsX2_isTooMuch : List Cond := .code yX2_isTooMuch cX2_isTooMuch 6 (some .boolean) :: ([.fieldLink RX2 33 "MakeupGasModel" "days" "[I"] ++ wsX20)
def wsX2_canTake : List Cond := .code yX2_canTake cX2_canTake 5 (some .boolean) :: ([.fieldLink RX2 80 "MakeupGasModel" "closed" "I", .methodLink RX2 108 yX2_isRange, .static yX2_isRange, .initialized RX2, .code yX2_isRange cX2_isRange 2 (some .boolean), .methodLink RX2 67 yX2_isIn, .static yX2_isIn, .code yX2_isIn cX2_isIn 3 (some .boolean), .methodLink RX2 112 yX2_isTooMuch, .instanceMethod yX2_isTooMuch, .selects RX2 yX2_isTooMuch yX2_isTooMuch, .code yX2_isTooMuch cX2_isTooMuch 6 (some .boolean), .fieldLink RX2 33 "MakeupGasModel" "days" "[I", .methodLink RX2 101 yX2_holds, .instanceMethod yX2_holds, .selects RX2 yX2_holds yX2_holds, .code yX2_holds cX2_holds 2 (some .boolean), .fieldLink RX2 64 "MakeupGasModel" "thrown" "I"] ++ wsX20)
def wsX2_takes : List Cond := .code yX2_takes cX2_takes 5 none :: ([.fieldLink RX2 33 "MakeupGasModel" "days" "[I", .fieldLink RX2 36 "MakeupGasModel" "taken" "[I", .fieldLink RX2 80 "MakeupGasModel" "closed" "I"] ++ wsX20)
def wsX2_take_r1 : List Cond := [Cond.fieldLink RX2 33 "MakeupGasModel" "days" "[I", Cond.methodLink RX2 115 yX2_canTake, Cond.instanceMethod yX2_canTake, Cond.selects RX2 yX2_canTake yX2_canTake, Cond.initialized RX2, Cond.code yX2_canTake cX2_canTake 5 (some .boolean), Cond.fieldLink RX2 80 "MakeupGasModel" "closed" "I", Cond.methodLink RX2 108 yX2_isRange, Cond.static yX2_isRange, Cond.code yX2_isRange cX2_isRange 2 (some .boolean), Cond.methodLink RX2 67 yX2_isIn, Cond.static yX2_isIn, Cond.code yX2_isIn cX2_isIn 3 (some .boolean), Cond.methodLink RX2 112 yX2_isTooMuch, Cond.instanceMethod yX2_isTooMuch, Cond.selects RX2 yX2_isTooMuch yX2_isTooMuch, Cond.code yX2_isTooMuch cX2_isTooMuch 6 (some .boolean), Cond.methodLink RX2 101 yX2_holds, Cond.instanceMethod yX2_holds, Cond.selects RX2 yX2_holds yX2_holds, Cond.code yX2_holds cX2_holds 2 (some .boolean), Cond.fieldLink RX2 64 "MakeupGasModel" "thrown" "I", Cond.methodLink RX2 118 yX2_takes, Cond.instanceMethod yX2_takes]
def wsX2_take_r2 : List Cond := [Cond.selects RX2 yX2_takes yX2_takes, Cond.code yX2_takes cX2_takes 5 none, Cond.fieldLink RX2 36 "MakeupGasModel" "taken" "[I"]
def wsX2_take : List Cond := .code yX2_take cX2_take 3 (some .int) :: ((wsX2_take_r1 ++ wsX2_take_r2) ++ wsX20)
def wsX2_takeDaily_r1 : List Cond := [Cond.fieldLink RX2 36 "MakeupGasModel" "taken" "[I", Cond.fieldLink RX2 80 "MakeupGasModel" "closed" "I", Cond.methodLink RX2 115 yX2_canTake, Cond.instanceMethod yX2_canTake, Cond.selects RX2 yX2_canTake yX2_canTake, Cond.initialized RX2, Cond.code yX2_canTake cX2_canTake 5 (some .boolean), Cond.methodLink RX2 108 yX2_isRange, Cond.static yX2_isRange, Cond.code yX2_isRange cX2_isRange 2 (some .boolean), Cond.methodLink RX2 67 yX2_isIn, Cond.static yX2_isIn, Cond.code yX2_isIn cX2_isIn 3 (some .boolean), Cond.methodLink RX2 112 yX2_isTooMuch, Cond.instanceMethod yX2_isTooMuch, Cond.selects RX2 yX2_isTooMuch yX2_isTooMuch, Cond.code yX2_isTooMuch cX2_isTooMuch 6 (some .boolean), Cond.fieldLink RX2 33 "MakeupGasModel" "days" "[I", Cond.methodLink RX2 101 yX2_holds, Cond.instanceMethod yX2_holds, Cond.selects RX2 yX2_holds yX2_holds, Cond.code yX2_holds cX2_holds 2 (some .boolean), Cond.fieldLink RX2 64 "MakeupGasModel" "thrown" "I", Cond.methodLink RX2 118 yX2_takes]
def wsX2_takeDaily_r2 : List Cond := [Cond.instanceMethod yX2_takes, Cond.selects RX2 yX2_takes yX2_takes, Cond.code yX2_takes cX2_takes 5 none]
def wsX2_takeDaily : List Cond := .code yX2_takeDaily cX2_takeDaily 4 (some .int) :: ((wsX2_takeDaily_r1 ++ wsX2_takeDaily_r2) ++ wsX20)
def wsX2_close_r1 : List Cond := [Cond.fieldLink RX2 80 "MakeupGasModel" "closed" "I", Cond.fieldLink RX2 39 "MakeupGasModel" "bills" "[J", Cond.fieldLink RX2 33 "MakeupGasModel" "days" "[I", Cond.methodLink RX2 101 yX2_holds, Cond.instanceMethod yX2_holds, Cond.selects RX2 yX2_holds yX2_holds, Cond.initialized RX2, Cond.code yX2_holds cX2_holds 2 (some .boolean), Cond.fieldLink RX2 64 "MakeupGasModel" "thrown" "I", Cond.methodLink RX2 122 yX2_openNow, Cond.instanceMethod yX2_openNow, Cond.selects RX2 yX2_openNow yX2_openNow, Cond.code yX2_openNow cX2_openNow 4 (some .long), Cond.fieldLink RX2 61 "MakeupGasModel" "dues" "[J", Cond.methodLink RX2 97 yX2_goesThrough, Cond.instanceMethod yX2_goesThrough, Cond.selects RX2 yX2_goesThrough yX2_goesThrough, Cond.code yX2_goesThrough cX2_goesThrough 3 none, Cond.fieldLink RX2 73 "MakeupGasModel" "lapsed" "I", Cond.fieldLink RX2 43 "MakeupGasModel" "shortfalls" "[I", Cond.fieldLink RX2 46 "MakeupGasModel" "surpluses" "[I", Cond.fieldLink RX2 49 "MakeupGasModel" "makeUpLeft" "[I", Cond.fieldLink RX2 52 "MakeupGasModel" "surplusLeft" "[I", Cond.fieldLink RX2 55 "MakeupGasModel" "madeUp" "[I"]
def wsX2_close_r2 : List Cond := [Cond.fieldLink RX2 58 "MakeupGasModel" "covered" "[I", Cond.fieldLink RX2 36 "MakeupGasModel" "taken" "[I", Cond.methodLink RX2 83 yX2_lapses, Cond.instanceMethod yX2_lapses, Cond.selects RX2 yX2_lapses yX2_lapses, Cond.code yX2_lapses cX2_lapses 3 none, Cond.fieldLink RX2 20 "MakeupGasModel" "makeUpYears" "I", Cond.fieldLink RX2 23 "MakeupGasModel" "surplusYears" "I", Cond.methodLink RX2 87 yX2_leastOf, Cond.instanceMethod yX2_leastOf, Cond.selects RX2 yX2_leastOf yX2_leastOf, Cond.code yX2_leastOf cX2_leastOf 2 (some .int), Cond.fieldLink RX2 8 "MakeupGasModel" "quantity" "I", Cond.fieldLink RX2 14 "MakeupGasModel" "percent" "I", Cond.fieldLink RX2 30 "MakeupGasModel" "excused" "[I", Cond.constantLong RX2 71 (36000), Cond.methodLink RX2 90 yX2_covers, Cond.instanceMethod yX2_covers, Cond.selects RX2 yX2_covers yX2_covers, Cond.code yX2_covers cX2_covers 6 none, Cond.fieldLink RX2 26 "MakeupGasModel" "prices" "[I", Cond.methodLink RX2 76 yX2_shortfallPrice, Cond.instanceMethod yX2_shortfallPrice, Cond.selects RX2 yX2_shortfallPrice yX2_shortfallPrice]
def wsX2_close_r3 : List Cond := [Cond.code yX2_shortfallPrice cX2_shortfallPrice 2 (some .int), Cond.fieldLink RX2 17 "MakeupGasModel" "share" "I", Cond.methodLink RX2 94 yX2_makesUp, Cond.instanceMethod yX2_makesUp, Cond.selects RX2 yX2_makesUp yX2_makesUp, Cond.code yX2_makesUp cX2_makesUp 9 none]
def wsX2_close : List Cond := .code yX2_close cX2_close 2 (some .long) :: ((wsX2_close_r1 ++ (wsX2_close_r2 ++ wsX2_close_r3)) ++ wsX20)
def wsX2_closed : List Cond := .code yX2_closed cX2_closed 1 (some .int) :: ([.fieldLink RX2 64 "MakeupGasModel" "thrown" "I", .fieldLink RX2 80 "MakeupGasModel" "closed" "I"] ++ wsX20)
def wsX2_taken : List Cond := .code yX2_taken cX2_taken 2 (some .int) :: ([.fieldLink RX2 36 "MakeupGasModel" "taken" "[I", .methodLink RX2 105 yX2_isYear, .static yX2_isYear, .initialized RX2, .code yX2_isYear cX2_isYear 1 (some .boolean), .methodLink RX2 67 yX2_isIn, .static yX2_isIn, .code yX2_isIn cX2_isIn 3 (some .boolean), .methodLink RX2 101 yX2_holds, .instanceMethod yX2_holds, .selects RX2 yX2_holds yX2_holds, .code yX2_holds cX2_holds 2 (some .boolean), .fieldLink RX2 64 "MakeupGasModel" "thrown" "I"] ++ wsX20)
def wsX2_takenFrom : List Cond := .code yX2_takenFrom cX2_takenFrom 5 (some .int) :: ([.fieldLink RX2 33 "MakeupGasModel" "days" "[I", .methodLink RX2 108 yX2_isRange, .static yX2_isRange, .initialized RX2, .code yX2_isRange cX2_isRange 2 (some .boolean), .methodLink RX2 101 yX2_holds, .instanceMethod yX2_holds, .selects RX2 yX2_holds yX2_holds, .code yX2_holds cX2_holds 2 (some .boolean), .fieldLink RX2 64 "MakeupGasModel" "thrown" "I"] ++ wsX20)
def wsX2_price : List Cond := .code yX2_price cX2_price 2 (some .int) :: ([.fieldLink RX2 26 "MakeupGasModel" "prices" "[I", .methodLink RX2 105 yX2_isYear, .static yX2_isYear, .initialized RX2, .code yX2_isYear cX2_isYear 1 (some .boolean), .methodLink RX2 67 yX2_isIn, .static yX2_isIn, .code yX2_isIn cX2_isIn 3 (some .boolean), .methodLink RX2 101 yX2_holds, .instanceMethod yX2_holds, .selects RX2 yX2_holds yX2_holds, .code yX2_holds cX2_holds 2 (some .boolean), .fieldLink RX2 64 "MakeupGasModel" "thrown" "I"] ++ wsX20)
def wsX2_least : List Cond := .code yX2_least cX2_least 2 (some .int) :: ([.methodLink RX2 105 yX2_isYear, .static yX2_isYear, .initialized RX2, .code yX2_isYear cX2_isYear 1 (some .boolean), .methodLink RX2 67 yX2_isIn, .static yX2_isIn, .code yX2_isIn cX2_isIn 3 (some .boolean), .methodLink RX2 101 yX2_holds, .instanceMethod yX2_holds, .selects RX2 yX2_holds yX2_holds, .code yX2_holds cX2_holds 2 (some .boolean), .fieldLink RX2 64 "MakeupGasModel" "thrown" "I", .methodLink RX2 87 yX2_leastOf, .instanceMethod yX2_leastOf, .selects RX2 yX2_leastOf yX2_leastOf, .code yX2_leastOf cX2_leastOf 2 (some .int), .fieldLink RX2 8 "MakeupGasModel" "quantity" "I", .fieldLink RX2 14 "MakeupGasModel" "percent" "I", .fieldLink RX2 30 "MakeupGasModel" "excused" "[I", .constantLong RX2 71 (36000)] ++ wsX20)
def wsX2_isClosed_r1 : List Cond := [Cond.fieldLink RX2 80 "MakeupGasModel" "closed" "I", Cond.methodLink RX2 105 yX2_isYear, Cond.static yX2_isYear, Cond.initialized RX2, Cond.code yX2_isYear cX2_isYear 1 (some .boolean), Cond.methodLink RX2 67 yX2_isIn, Cond.static yX2_isIn, Cond.code yX2_isIn cX2_isIn 3 (some .boolean), Cond.methodLink RX2 101 yX2_holds, Cond.instanceMethod yX2_holds, Cond.selects RX2 yX2_holds yX2_holds, Cond.code yX2_holds cX2_holds 2 (some .boolean), Cond.fieldLink RX2 64 "MakeupGasModel" "thrown" "I", Cond.methodLink RX2 97 yX2_goesThrough, Cond.instanceMethod yX2_goesThrough, Cond.selects RX2 yX2_goesThrough yX2_goesThrough, Cond.code yX2_goesThrough cX2_goesThrough 3 none, Cond.fieldLink RX2 73 "MakeupGasModel" "lapsed" "I", Cond.fieldLink RX2 43 "MakeupGasModel" "shortfalls" "[I", Cond.fieldLink RX2 46 "MakeupGasModel" "surpluses" "[I", Cond.fieldLink RX2 49 "MakeupGasModel" "makeUpLeft" "[I", Cond.fieldLink RX2 52 "MakeupGasModel" "surplusLeft" "[I", Cond.fieldLink RX2 55 "MakeupGasModel" "madeUp" "[I", Cond.fieldLink RX2 58 "MakeupGasModel" "covered" "[I"]
def wsX2_isClosed_r2 : List Cond := [Cond.fieldLink RX2 36 "MakeupGasModel" "taken" "[I", Cond.methodLink RX2 83 yX2_lapses, Cond.instanceMethod yX2_lapses, Cond.selects RX2 yX2_lapses yX2_lapses, Cond.code yX2_lapses cX2_lapses 3 none, Cond.fieldLink RX2 20 "MakeupGasModel" "makeUpYears" "I", Cond.fieldLink RX2 23 "MakeupGasModel" "surplusYears" "I", Cond.methodLink RX2 87 yX2_leastOf, Cond.instanceMethod yX2_leastOf, Cond.selects RX2 yX2_leastOf yX2_leastOf, Cond.code yX2_leastOf cX2_leastOf 2 (some .int), Cond.fieldLink RX2 8 "MakeupGasModel" "quantity" "I", Cond.fieldLink RX2 14 "MakeupGasModel" "percent" "I", Cond.fieldLink RX2 30 "MakeupGasModel" "excused" "[I", Cond.constantLong RX2 71 (36000), Cond.methodLink RX2 90 yX2_covers, Cond.instanceMethod yX2_covers, Cond.selects RX2 yX2_covers yX2_covers, Cond.code yX2_covers cX2_covers 6 none, Cond.fieldLink RX2 61 "MakeupGasModel" "dues" "[J", Cond.fieldLink RX2 26 "MakeupGasModel" "prices" "[I", Cond.methodLink RX2 76 yX2_shortfallPrice, Cond.instanceMethod yX2_shortfallPrice, Cond.selects RX2 yX2_shortfallPrice yX2_shortfallPrice]
def wsX2_isClosed_r3 : List Cond := [Cond.code yX2_shortfallPrice cX2_shortfallPrice 2 (some .int), Cond.fieldLink RX2 17 "MakeupGasModel" "share" "I", Cond.methodLink RX2 94 yX2_makesUp, Cond.instanceMethod yX2_makesUp, Cond.selects RX2 yX2_makesUp yX2_makesUp, Cond.code yX2_makesUp cX2_makesUp 9 none]
def wsX2_isClosed : List Cond := .code yX2_isClosed cX2_isClosed 2 (some .boolean) :: ((wsX2_isClosed_r1 ++ (wsX2_isClosed_r2 ++ wsX2_isClosed_r3)) ++ wsX20)
def wsX2_shortfall_r1 : List Cond := [Cond.fieldLink RX2 43 "MakeupGasModel" "shortfalls" "[I", Cond.methodLink RX2 126 yX2_isClosed, Cond.instanceMethod yX2_isClosed, Cond.selects RX2 yX2_isClosed yX2_isClosed, Cond.initialized RX2, Cond.code yX2_isClosed cX2_isClosed 2 (some .boolean), Cond.fieldLink RX2 80 "MakeupGasModel" "closed" "I", Cond.methodLink RX2 105 yX2_isYear, Cond.static yX2_isYear, Cond.code yX2_isYear cX2_isYear 1 (some .boolean), Cond.methodLink RX2 67 yX2_isIn, Cond.static yX2_isIn, Cond.code yX2_isIn cX2_isIn 3 (some .boolean), Cond.methodLink RX2 101 yX2_holds, Cond.instanceMethod yX2_holds, Cond.selects RX2 yX2_holds yX2_holds, Cond.code yX2_holds cX2_holds 2 (some .boolean), Cond.fieldLink RX2 64 "MakeupGasModel" "thrown" "I", Cond.methodLink RX2 97 yX2_goesThrough, Cond.instanceMethod yX2_goesThrough, Cond.selects RX2 yX2_goesThrough yX2_goesThrough, Cond.code yX2_goesThrough cX2_goesThrough 3 none, Cond.fieldLink RX2 73 "MakeupGasModel" "lapsed" "I", Cond.fieldLink RX2 46 "MakeupGasModel" "surpluses" "[I"]
def wsX2_shortfall_r2 : List Cond := [Cond.fieldLink RX2 49 "MakeupGasModel" "makeUpLeft" "[I", Cond.fieldLink RX2 52 "MakeupGasModel" "surplusLeft" "[I", Cond.fieldLink RX2 55 "MakeupGasModel" "madeUp" "[I", Cond.fieldLink RX2 58 "MakeupGasModel" "covered" "[I", Cond.fieldLink RX2 36 "MakeupGasModel" "taken" "[I", Cond.methodLink RX2 83 yX2_lapses, Cond.instanceMethod yX2_lapses, Cond.selects RX2 yX2_lapses yX2_lapses, Cond.code yX2_lapses cX2_lapses 3 none, Cond.fieldLink RX2 20 "MakeupGasModel" "makeUpYears" "I", Cond.fieldLink RX2 23 "MakeupGasModel" "surplusYears" "I", Cond.methodLink RX2 87 yX2_leastOf, Cond.instanceMethod yX2_leastOf, Cond.selects RX2 yX2_leastOf yX2_leastOf, Cond.code yX2_leastOf cX2_leastOf 2 (some .int), Cond.fieldLink RX2 8 "MakeupGasModel" "quantity" "I", Cond.fieldLink RX2 14 "MakeupGasModel" "percent" "I", Cond.fieldLink RX2 30 "MakeupGasModel" "excused" "[I", Cond.constantLong RX2 71 (36000), Cond.methodLink RX2 90 yX2_covers, Cond.instanceMethod yX2_covers, Cond.selects RX2 yX2_covers yX2_covers, Cond.code yX2_covers cX2_covers 6 none, Cond.fieldLink RX2 61 "MakeupGasModel" "dues" "[J"]
def wsX2_shortfall_r3 : List Cond := [Cond.fieldLink RX2 26 "MakeupGasModel" "prices" "[I", Cond.methodLink RX2 76 yX2_shortfallPrice, Cond.instanceMethod yX2_shortfallPrice, Cond.selects RX2 yX2_shortfallPrice yX2_shortfallPrice, Cond.code yX2_shortfallPrice cX2_shortfallPrice 2 (some .int), Cond.fieldLink RX2 17 "MakeupGasModel" "share" "I", Cond.methodLink RX2 94 yX2_makesUp, Cond.instanceMethod yX2_makesUp, Cond.selects RX2 yX2_makesUp yX2_makesUp, Cond.code yX2_makesUp cX2_makesUp 9 none]
def wsX2_shortfall : List Cond := .code yX2_shortfall cX2_shortfall 2 (some .int) :: ((wsX2_shortfall_r1 ++ (wsX2_shortfall_r2 ++ wsX2_shortfall_r3)) ++ wsX20)
def wsX2_madeUp_r1 : List Cond := [Cond.fieldLink RX2 55 "MakeupGasModel" "madeUp" "[I", Cond.methodLink RX2 126 yX2_isClosed, Cond.instanceMethod yX2_isClosed, Cond.selects RX2 yX2_isClosed yX2_isClosed, Cond.initialized RX2, Cond.code yX2_isClosed cX2_isClosed 2 (some .boolean), Cond.fieldLink RX2 80 "MakeupGasModel" "closed" "I", Cond.methodLink RX2 105 yX2_isYear, Cond.static yX2_isYear, Cond.code yX2_isYear cX2_isYear 1 (some .boolean), Cond.methodLink RX2 67 yX2_isIn, Cond.static yX2_isIn, Cond.code yX2_isIn cX2_isIn 3 (some .boolean), Cond.methodLink RX2 101 yX2_holds, Cond.instanceMethod yX2_holds, Cond.selects RX2 yX2_holds yX2_holds, Cond.code yX2_holds cX2_holds 2 (some .boolean), Cond.fieldLink RX2 64 "MakeupGasModel" "thrown" "I", Cond.methodLink RX2 97 yX2_goesThrough, Cond.instanceMethod yX2_goesThrough, Cond.selects RX2 yX2_goesThrough yX2_goesThrough, Cond.code yX2_goesThrough cX2_goesThrough 3 none, Cond.fieldLink RX2 73 "MakeupGasModel" "lapsed" "I", Cond.fieldLink RX2 43 "MakeupGasModel" "shortfalls" "[I"]
def wsX2_madeUp_r2 : List Cond := [Cond.fieldLink RX2 46 "MakeupGasModel" "surpluses" "[I", Cond.fieldLink RX2 49 "MakeupGasModel" "makeUpLeft" "[I", Cond.fieldLink RX2 52 "MakeupGasModel" "surplusLeft" "[I", Cond.fieldLink RX2 58 "MakeupGasModel" "covered" "[I", Cond.fieldLink RX2 36 "MakeupGasModel" "taken" "[I", Cond.methodLink RX2 83 yX2_lapses, Cond.instanceMethod yX2_lapses, Cond.selects RX2 yX2_lapses yX2_lapses, Cond.code yX2_lapses cX2_lapses 3 none, Cond.fieldLink RX2 20 "MakeupGasModel" "makeUpYears" "I", Cond.fieldLink RX2 23 "MakeupGasModel" "surplusYears" "I", Cond.methodLink RX2 87 yX2_leastOf, Cond.instanceMethod yX2_leastOf, Cond.selects RX2 yX2_leastOf yX2_leastOf, Cond.code yX2_leastOf cX2_leastOf 2 (some .int), Cond.fieldLink RX2 8 "MakeupGasModel" "quantity" "I", Cond.fieldLink RX2 14 "MakeupGasModel" "percent" "I", Cond.fieldLink RX2 30 "MakeupGasModel" "excused" "[I", Cond.constantLong RX2 71 (36000), Cond.methodLink RX2 90 yX2_covers, Cond.instanceMethod yX2_covers, Cond.selects RX2 yX2_covers yX2_covers, Cond.code yX2_covers cX2_covers 6 none, Cond.fieldLink RX2 61 "MakeupGasModel" "dues" "[J"]
def wsX2_madeUp_r3 : List Cond := [Cond.fieldLink RX2 26 "MakeupGasModel" "prices" "[I", Cond.methodLink RX2 76 yX2_shortfallPrice, Cond.instanceMethod yX2_shortfallPrice, Cond.selects RX2 yX2_shortfallPrice yX2_shortfallPrice, Cond.code yX2_shortfallPrice cX2_shortfallPrice 2 (some .int), Cond.fieldLink RX2 17 "MakeupGasModel" "share" "I", Cond.methodLink RX2 94 yX2_makesUp, Cond.instanceMethod yX2_makesUp, Cond.selects RX2 yX2_makesUp yX2_makesUp, Cond.code yX2_makesUp cX2_makesUp 9 none]
def wsX2_madeUp : List Cond := .code yX2_madeUp cX2_madeUp 2 (some .int) :: ((wsX2_madeUp_r1 ++ (wsX2_madeUp_r2 ++ wsX2_madeUp_r3)) ++ wsX20)
def wsX2_covered_r1 : List Cond := [Cond.fieldLink RX2 58 "MakeupGasModel" "covered" "[I", Cond.methodLink RX2 126 yX2_isClosed, Cond.instanceMethod yX2_isClosed, Cond.selects RX2 yX2_isClosed yX2_isClosed, Cond.initialized RX2, Cond.code yX2_isClosed cX2_isClosed 2 (some .boolean), Cond.fieldLink RX2 80 "MakeupGasModel" "closed" "I", Cond.methodLink RX2 105 yX2_isYear, Cond.static yX2_isYear, Cond.code yX2_isYear cX2_isYear 1 (some .boolean), Cond.methodLink RX2 67 yX2_isIn, Cond.static yX2_isIn, Cond.code yX2_isIn cX2_isIn 3 (some .boolean), Cond.methodLink RX2 101 yX2_holds, Cond.instanceMethod yX2_holds, Cond.selects RX2 yX2_holds yX2_holds, Cond.code yX2_holds cX2_holds 2 (some .boolean), Cond.fieldLink RX2 64 "MakeupGasModel" "thrown" "I", Cond.methodLink RX2 97 yX2_goesThrough, Cond.instanceMethod yX2_goesThrough, Cond.selects RX2 yX2_goesThrough yX2_goesThrough, Cond.code yX2_goesThrough cX2_goesThrough 3 none, Cond.fieldLink RX2 73 "MakeupGasModel" "lapsed" "I", Cond.fieldLink RX2 43 "MakeupGasModel" "shortfalls" "[I"]
def wsX2_covered_r2 : List Cond := [Cond.fieldLink RX2 46 "MakeupGasModel" "surpluses" "[I", Cond.fieldLink RX2 49 "MakeupGasModel" "makeUpLeft" "[I", Cond.fieldLink RX2 52 "MakeupGasModel" "surplusLeft" "[I", Cond.fieldLink RX2 55 "MakeupGasModel" "madeUp" "[I", Cond.fieldLink RX2 36 "MakeupGasModel" "taken" "[I", Cond.methodLink RX2 83 yX2_lapses, Cond.instanceMethod yX2_lapses, Cond.selects RX2 yX2_lapses yX2_lapses, Cond.code yX2_lapses cX2_lapses 3 none, Cond.fieldLink RX2 20 "MakeupGasModel" "makeUpYears" "I", Cond.fieldLink RX2 23 "MakeupGasModel" "surplusYears" "I", Cond.methodLink RX2 87 yX2_leastOf, Cond.instanceMethod yX2_leastOf, Cond.selects RX2 yX2_leastOf yX2_leastOf, Cond.code yX2_leastOf cX2_leastOf 2 (some .int), Cond.fieldLink RX2 8 "MakeupGasModel" "quantity" "I", Cond.fieldLink RX2 14 "MakeupGasModel" "percent" "I", Cond.fieldLink RX2 30 "MakeupGasModel" "excused" "[I", Cond.constantLong RX2 71 (36000), Cond.methodLink RX2 90 yX2_covers, Cond.instanceMethod yX2_covers, Cond.selects RX2 yX2_covers yX2_covers, Cond.code yX2_covers cX2_covers 6 none, Cond.fieldLink RX2 61 "MakeupGasModel" "dues" "[J"]
def wsX2_covered_r3 : List Cond := [Cond.fieldLink RX2 26 "MakeupGasModel" "prices" "[I", Cond.methodLink RX2 76 yX2_shortfallPrice, Cond.instanceMethod yX2_shortfallPrice, Cond.selects RX2 yX2_shortfallPrice yX2_shortfallPrice, Cond.code yX2_shortfallPrice cX2_shortfallPrice 2 (some .int), Cond.fieldLink RX2 17 "MakeupGasModel" "share" "I", Cond.methodLink RX2 94 yX2_makesUp, Cond.instanceMethod yX2_makesUp, Cond.selects RX2 yX2_makesUp yX2_makesUp, Cond.code yX2_makesUp cX2_makesUp 9 none]
def wsX2_covered : List Cond := .code yX2_covered cX2_covered 2 (some .int) :: ((wsX2_covered_r1 ++ (wsX2_covered_r2 ++ wsX2_covered_r3)) ++ wsX20)
def wsX2_surplus_r1 : List Cond := [Cond.fieldLink RX2 46 "MakeupGasModel" "surpluses" "[I", Cond.methodLink RX2 126 yX2_isClosed, Cond.instanceMethod yX2_isClosed, Cond.selects RX2 yX2_isClosed yX2_isClosed, Cond.initialized RX2, Cond.code yX2_isClosed cX2_isClosed 2 (some .boolean), Cond.fieldLink RX2 80 "MakeupGasModel" "closed" "I", Cond.methodLink RX2 105 yX2_isYear, Cond.static yX2_isYear, Cond.code yX2_isYear cX2_isYear 1 (some .boolean), Cond.methodLink RX2 67 yX2_isIn, Cond.static yX2_isIn, Cond.code yX2_isIn cX2_isIn 3 (some .boolean), Cond.methodLink RX2 101 yX2_holds, Cond.instanceMethod yX2_holds, Cond.selects RX2 yX2_holds yX2_holds, Cond.code yX2_holds cX2_holds 2 (some .boolean), Cond.fieldLink RX2 64 "MakeupGasModel" "thrown" "I", Cond.methodLink RX2 97 yX2_goesThrough, Cond.instanceMethod yX2_goesThrough, Cond.selects RX2 yX2_goesThrough yX2_goesThrough, Cond.code yX2_goesThrough cX2_goesThrough 3 none, Cond.fieldLink RX2 73 "MakeupGasModel" "lapsed" "I", Cond.fieldLink RX2 43 "MakeupGasModel" "shortfalls" "[I"]
def wsX2_surplus_r2 : List Cond := [Cond.fieldLink RX2 49 "MakeupGasModel" "makeUpLeft" "[I", Cond.fieldLink RX2 52 "MakeupGasModel" "surplusLeft" "[I", Cond.fieldLink RX2 55 "MakeupGasModel" "madeUp" "[I", Cond.fieldLink RX2 58 "MakeupGasModel" "covered" "[I", Cond.fieldLink RX2 36 "MakeupGasModel" "taken" "[I", Cond.methodLink RX2 83 yX2_lapses, Cond.instanceMethod yX2_lapses, Cond.selects RX2 yX2_lapses yX2_lapses, Cond.code yX2_lapses cX2_lapses 3 none, Cond.fieldLink RX2 20 "MakeupGasModel" "makeUpYears" "I", Cond.fieldLink RX2 23 "MakeupGasModel" "surplusYears" "I", Cond.methodLink RX2 87 yX2_leastOf, Cond.instanceMethod yX2_leastOf, Cond.selects RX2 yX2_leastOf yX2_leastOf, Cond.code yX2_leastOf cX2_leastOf 2 (some .int), Cond.fieldLink RX2 8 "MakeupGasModel" "quantity" "I", Cond.fieldLink RX2 14 "MakeupGasModel" "percent" "I", Cond.fieldLink RX2 30 "MakeupGasModel" "excused" "[I", Cond.constantLong RX2 71 (36000), Cond.methodLink RX2 90 yX2_covers, Cond.instanceMethod yX2_covers, Cond.selects RX2 yX2_covers yX2_covers, Cond.code yX2_covers cX2_covers 6 none, Cond.fieldLink RX2 61 "MakeupGasModel" "dues" "[J"]
def wsX2_surplus_r3 : List Cond := [Cond.fieldLink RX2 26 "MakeupGasModel" "prices" "[I", Cond.methodLink RX2 76 yX2_shortfallPrice, Cond.instanceMethod yX2_shortfallPrice, Cond.selects RX2 yX2_shortfallPrice yX2_shortfallPrice, Cond.code yX2_shortfallPrice cX2_shortfallPrice 2 (some .int), Cond.fieldLink RX2 17 "MakeupGasModel" "share" "I", Cond.methodLink RX2 94 yX2_makesUp, Cond.instanceMethod yX2_makesUp, Cond.selects RX2 yX2_makesUp yX2_makesUp, Cond.code yX2_makesUp cX2_makesUp 9 none]
def wsX2_surplus : List Cond := .code yX2_surplus cX2_surplus 2 (some .int) :: ((wsX2_surplus_r1 ++ (wsX2_surplus_r2 ++ wsX2_surplus_r3)) ++ wsX20)
def wsX2_due_r1 : List Cond := [Cond.fieldLink RX2 61 "MakeupGasModel" "dues" "[J", Cond.methodLink RX2 126 yX2_isClosed, Cond.instanceMethod yX2_isClosed, Cond.selects RX2 yX2_isClosed yX2_isClosed, Cond.initialized RX2, Cond.code yX2_isClosed cX2_isClosed 2 (some .boolean), Cond.fieldLink RX2 80 "MakeupGasModel" "closed" "I", Cond.methodLink RX2 105 yX2_isYear, Cond.static yX2_isYear, Cond.code yX2_isYear cX2_isYear 1 (some .boolean), Cond.methodLink RX2 67 yX2_isIn, Cond.static yX2_isIn, Cond.code yX2_isIn cX2_isIn 3 (some .boolean), Cond.methodLink RX2 101 yX2_holds, Cond.instanceMethod yX2_holds, Cond.selects RX2 yX2_holds yX2_holds, Cond.code yX2_holds cX2_holds 2 (some .boolean), Cond.fieldLink RX2 64 "MakeupGasModel" "thrown" "I", Cond.methodLink RX2 97 yX2_goesThrough, Cond.instanceMethod yX2_goesThrough, Cond.selects RX2 yX2_goesThrough yX2_goesThrough, Cond.code yX2_goesThrough cX2_goesThrough 3 none, Cond.fieldLink RX2 73 "MakeupGasModel" "lapsed" "I", Cond.fieldLink RX2 43 "MakeupGasModel" "shortfalls" "[I"]
def wsX2_due_r2 : List Cond := [Cond.fieldLink RX2 46 "MakeupGasModel" "surpluses" "[I", Cond.fieldLink RX2 49 "MakeupGasModel" "makeUpLeft" "[I", Cond.fieldLink RX2 52 "MakeupGasModel" "surplusLeft" "[I", Cond.fieldLink RX2 55 "MakeupGasModel" "madeUp" "[I", Cond.fieldLink RX2 58 "MakeupGasModel" "covered" "[I", Cond.fieldLink RX2 36 "MakeupGasModel" "taken" "[I", Cond.methodLink RX2 83 yX2_lapses, Cond.instanceMethod yX2_lapses, Cond.selects RX2 yX2_lapses yX2_lapses, Cond.code yX2_lapses cX2_lapses 3 none, Cond.fieldLink RX2 20 "MakeupGasModel" "makeUpYears" "I", Cond.fieldLink RX2 23 "MakeupGasModel" "surplusYears" "I", Cond.methodLink RX2 87 yX2_leastOf, Cond.instanceMethod yX2_leastOf, Cond.selects RX2 yX2_leastOf yX2_leastOf, Cond.code yX2_leastOf cX2_leastOf 2 (some .int), Cond.fieldLink RX2 8 "MakeupGasModel" "quantity" "I", Cond.fieldLink RX2 14 "MakeupGasModel" "percent" "I", Cond.fieldLink RX2 30 "MakeupGasModel" "excused" "[I", Cond.constantLong RX2 71 (36000), Cond.methodLink RX2 90 yX2_covers, Cond.instanceMethod yX2_covers, Cond.selects RX2 yX2_covers yX2_covers, Cond.code yX2_covers cX2_covers 6 none]
def wsX2_due_r3 : List Cond := [Cond.fieldLink RX2 26 "MakeupGasModel" "prices" "[I", Cond.methodLink RX2 76 yX2_shortfallPrice, Cond.instanceMethod yX2_shortfallPrice, Cond.selects RX2 yX2_shortfallPrice yX2_shortfallPrice, Cond.code yX2_shortfallPrice cX2_shortfallPrice 2 (some .int), Cond.fieldLink RX2 17 "MakeupGasModel" "share" "I", Cond.methodLink RX2 94 yX2_makesUp, Cond.instanceMethod yX2_makesUp, Cond.selects RX2 yX2_makesUp yX2_makesUp, Cond.code yX2_makesUp cX2_makesUp 9 none]
def wsX2_due : List Cond := .code yX2_due cX2_due 2 (some .long) :: ((wsX2_due_r1 ++ (wsX2_due_r2 ++ wsX2_due_r3)) ++ wsX20)
def wsX2_bill_r1 : List Cond := [Cond.fieldLink RX2 39 "MakeupGasModel" "bills" "[J", Cond.methodLink RX2 126 yX2_isClosed, Cond.instanceMethod yX2_isClosed, Cond.selects RX2 yX2_isClosed yX2_isClosed, Cond.initialized RX2, Cond.code yX2_isClosed cX2_isClosed 2 (some .boolean), Cond.fieldLink RX2 80 "MakeupGasModel" "closed" "I", Cond.methodLink RX2 105 yX2_isYear, Cond.static yX2_isYear, Cond.code yX2_isYear cX2_isYear 1 (some .boolean), Cond.methodLink RX2 67 yX2_isIn, Cond.static yX2_isIn, Cond.code yX2_isIn cX2_isIn 3 (some .boolean), Cond.methodLink RX2 101 yX2_holds, Cond.instanceMethod yX2_holds, Cond.selects RX2 yX2_holds yX2_holds, Cond.code yX2_holds cX2_holds 2 (some .boolean), Cond.fieldLink RX2 64 "MakeupGasModel" "thrown" "I", Cond.methodLink RX2 97 yX2_goesThrough, Cond.instanceMethod yX2_goesThrough, Cond.selects RX2 yX2_goesThrough yX2_goesThrough, Cond.code yX2_goesThrough cX2_goesThrough 3 none, Cond.fieldLink RX2 73 "MakeupGasModel" "lapsed" "I", Cond.fieldLink RX2 43 "MakeupGasModel" "shortfalls" "[I"]
def wsX2_bill_r2 : List Cond := [Cond.fieldLink RX2 46 "MakeupGasModel" "surpluses" "[I", Cond.fieldLink RX2 49 "MakeupGasModel" "makeUpLeft" "[I", Cond.fieldLink RX2 52 "MakeupGasModel" "surplusLeft" "[I", Cond.fieldLink RX2 55 "MakeupGasModel" "madeUp" "[I", Cond.fieldLink RX2 58 "MakeupGasModel" "covered" "[I", Cond.fieldLink RX2 36 "MakeupGasModel" "taken" "[I", Cond.methodLink RX2 83 yX2_lapses, Cond.instanceMethod yX2_lapses, Cond.selects RX2 yX2_lapses yX2_lapses, Cond.code yX2_lapses cX2_lapses 3 none, Cond.fieldLink RX2 20 "MakeupGasModel" "makeUpYears" "I", Cond.fieldLink RX2 23 "MakeupGasModel" "surplusYears" "I", Cond.methodLink RX2 87 yX2_leastOf, Cond.instanceMethod yX2_leastOf, Cond.selects RX2 yX2_leastOf yX2_leastOf, Cond.code yX2_leastOf cX2_leastOf 2 (some .int), Cond.fieldLink RX2 8 "MakeupGasModel" "quantity" "I", Cond.fieldLink RX2 14 "MakeupGasModel" "percent" "I", Cond.fieldLink RX2 30 "MakeupGasModel" "excused" "[I", Cond.constantLong RX2 71 (36000), Cond.methodLink RX2 90 yX2_covers, Cond.instanceMethod yX2_covers, Cond.selects RX2 yX2_covers yX2_covers, Cond.code yX2_covers cX2_covers 6 none]
def wsX2_bill_r3 : List Cond := [Cond.fieldLink RX2 61 "MakeupGasModel" "dues" "[J", Cond.fieldLink RX2 26 "MakeupGasModel" "prices" "[I", Cond.methodLink RX2 76 yX2_shortfallPrice, Cond.instanceMethod yX2_shortfallPrice, Cond.selects RX2 yX2_shortfallPrice yX2_shortfallPrice, Cond.code yX2_shortfallPrice cX2_shortfallPrice 2 (some .int), Cond.fieldLink RX2 17 "MakeupGasModel" "share" "I", Cond.methodLink RX2 94 yX2_makesUp, Cond.instanceMethod yX2_makesUp, Cond.selects RX2 yX2_makesUp yX2_makesUp, Cond.code yX2_makesUp cX2_makesUp 9 none]
def wsX2_bill : List Cond := .code yX2_bill cX2_bill 2 (some .long) :: ((wsX2_bill_r1 ++ (wsX2_bill_r2 ++ wsX2_bill_r3)) ++ wsX20)
def wsX2_makeUpLeft_r1 : List Cond := [Cond.fieldLink RX2 49 "MakeupGasModel" "makeUpLeft" "[I", Cond.methodLink RX2 126 yX2_isClosed, Cond.instanceMethod yX2_isClosed, Cond.selects RX2 yX2_isClosed yX2_isClosed, Cond.initialized RX2, Cond.code yX2_isClosed cX2_isClosed 2 (some .boolean), Cond.fieldLink RX2 80 "MakeupGasModel" "closed" "I", Cond.methodLink RX2 105 yX2_isYear, Cond.static yX2_isYear, Cond.code yX2_isYear cX2_isYear 1 (some .boolean), Cond.methodLink RX2 67 yX2_isIn, Cond.static yX2_isIn, Cond.code yX2_isIn cX2_isIn 3 (some .boolean), Cond.methodLink RX2 101 yX2_holds, Cond.instanceMethod yX2_holds, Cond.selects RX2 yX2_holds yX2_holds, Cond.code yX2_holds cX2_holds 2 (some .boolean), Cond.fieldLink RX2 64 "MakeupGasModel" "thrown" "I", Cond.methodLink RX2 97 yX2_goesThrough, Cond.instanceMethod yX2_goesThrough, Cond.selects RX2 yX2_goesThrough yX2_goesThrough, Cond.code yX2_goesThrough cX2_goesThrough 3 none, Cond.fieldLink RX2 73 "MakeupGasModel" "lapsed" "I", Cond.fieldLink RX2 43 "MakeupGasModel" "shortfalls" "[I"]
def wsX2_makeUpLeft_r2 : List Cond := [Cond.fieldLink RX2 46 "MakeupGasModel" "surpluses" "[I", Cond.fieldLink RX2 52 "MakeupGasModel" "surplusLeft" "[I", Cond.fieldLink RX2 55 "MakeupGasModel" "madeUp" "[I", Cond.fieldLink RX2 58 "MakeupGasModel" "covered" "[I", Cond.fieldLink RX2 36 "MakeupGasModel" "taken" "[I", Cond.methodLink RX2 83 yX2_lapses, Cond.instanceMethod yX2_lapses, Cond.selects RX2 yX2_lapses yX2_lapses, Cond.code yX2_lapses cX2_lapses 3 none, Cond.fieldLink RX2 20 "MakeupGasModel" "makeUpYears" "I", Cond.fieldLink RX2 23 "MakeupGasModel" "surplusYears" "I", Cond.methodLink RX2 87 yX2_leastOf, Cond.instanceMethod yX2_leastOf, Cond.selects RX2 yX2_leastOf yX2_leastOf, Cond.code yX2_leastOf cX2_leastOf 2 (some .int), Cond.fieldLink RX2 8 "MakeupGasModel" "quantity" "I", Cond.fieldLink RX2 14 "MakeupGasModel" "percent" "I", Cond.fieldLink RX2 30 "MakeupGasModel" "excused" "[I", Cond.constantLong RX2 71 (36000), Cond.methodLink RX2 90 yX2_covers, Cond.instanceMethod yX2_covers, Cond.selects RX2 yX2_covers yX2_covers, Cond.code yX2_covers cX2_covers 6 none, Cond.fieldLink RX2 61 "MakeupGasModel" "dues" "[J"]
def wsX2_makeUpLeft_r3 : List Cond := [Cond.fieldLink RX2 26 "MakeupGasModel" "prices" "[I", Cond.methodLink RX2 76 yX2_shortfallPrice, Cond.instanceMethod yX2_shortfallPrice, Cond.selects RX2 yX2_shortfallPrice yX2_shortfallPrice, Cond.code yX2_shortfallPrice cX2_shortfallPrice 2 (some .int), Cond.fieldLink RX2 17 "MakeupGasModel" "share" "I", Cond.methodLink RX2 94 yX2_makesUp, Cond.instanceMethod yX2_makesUp, Cond.selects RX2 yX2_makesUp yX2_makesUp, Cond.code yX2_makesUp cX2_makesUp 9 none]
def wsX2_makeUpLeft : List Cond := .code yX2_makeUpLeft cX2_makeUpLeft 2 (some .int) :: ((wsX2_makeUpLeft_r1 ++ (wsX2_makeUpLeft_r2 ++ wsX2_makeUpLeft_r3)) ++ wsX20)
def wsX2_surplusLeft_r1 : List Cond := [Cond.fieldLink RX2 52 "MakeupGasModel" "surplusLeft" "[I", Cond.methodLink RX2 126 yX2_isClosed, Cond.instanceMethod yX2_isClosed, Cond.selects RX2 yX2_isClosed yX2_isClosed, Cond.initialized RX2, Cond.code yX2_isClosed cX2_isClosed 2 (some .boolean), Cond.fieldLink RX2 80 "MakeupGasModel" "closed" "I", Cond.methodLink RX2 105 yX2_isYear, Cond.static yX2_isYear, Cond.code yX2_isYear cX2_isYear 1 (some .boolean), Cond.methodLink RX2 67 yX2_isIn, Cond.static yX2_isIn, Cond.code yX2_isIn cX2_isIn 3 (some .boolean), Cond.methodLink RX2 101 yX2_holds, Cond.instanceMethod yX2_holds, Cond.selects RX2 yX2_holds yX2_holds, Cond.code yX2_holds cX2_holds 2 (some .boolean), Cond.fieldLink RX2 64 "MakeupGasModel" "thrown" "I", Cond.methodLink RX2 97 yX2_goesThrough, Cond.instanceMethod yX2_goesThrough, Cond.selects RX2 yX2_goesThrough yX2_goesThrough, Cond.code yX2_goesThrough cX2_goesThrough 3 none, Cond.fieldLink RX2 73 "MakeupGasModel" "lapsed" "I", Cond.fieldLink RX2 43 "MakeupGasModel" "shortfalls" "[I"]
def wsX2_surplusLeft_r2 : List Cond := [Cond.fieldLink RX2 46 "MakeupGasModel" "surpluses" "[I", Cond.fieldLink RX2 49 "MakeupGasModel" "makeUpLeft" "[I", Cond.fieldLink RX2 55 "MakeupGasModel" "madeUp" "[I", Cond.fieldLink RX2 58 "MakeupGasModel" "covered" "[I", Cond.fieldLink RX2 36 "MakeupGasModel" "taken" "[I", Cond.methodLink RX2 83 yX2_lapses, Cond.instanceMethod yX2_lapses, Cond.selects RX2 yX2_lapses yX2_lapses, Cond.code yX2_lapses cX2_lapses 3 none, Cond.fieldLink RX2 20 "MakeupGasModel" "makeUpYears" "I", Cond.fieldLink RX2 23 "MakeupGasModel" "surplusYears" "I", Cond.methodLink RX2 87 yX2_leastOf, Cond.instanceMethod yX2_leastOf, Cond.selects RX2 yX2_leastOf yX2_leastOf, Cond.code yX2_leastOf cX2_leastOf 2 (some .int), Cond.fieldLink RX2 8 "MakeupGasModel" "quantity" "I", Cond.fieldLink RX2 14 "MakeupGasModel" "percent" "I", Cond.fieldLink RX2 30 "MakeupGasModel" "excused" "[I", Cond.constantLong RX2 71 (36000), Cond.methodLink RX2 90 yX2_covers, Cond.instanceMethod yX2_covers, Cond.selects RX2 yX2_covers yX2_covers, Cond.code yX2_covers cX2_covers 6 none, Cond.fieldLink RX2 61 "MakeupGasModel" "dues" "[J"]
def wsX2_surplusLeft_r3 : List Cond := [Cond.fieldLink RX2 26 "MakeupGasModel" "prices" "[I", Cond.methodLink RX2 76 yX2_shortfallPrice, Cond.instanceMethod yX2_shortfallPrice, Cond.selects RX2 yX2_shortfallPrice yX2_shortfallPrice, Cond.code yX2_shortfallPrice cX2_shortfallPrice 2 (some .int), Cond.fieldLink RX2 17 "MakeupGasModel" "share" "I", Cond.methodLink RX2 94 yX2_makesUp, Cond.instanceMethod yX2_makesUp, Cond.selects RX2 yX2_makesUp yX2_makesUp, Cond.code yX2_makesUp cX2_makesUp 9 none]
def wsX2_surplusLeft : List Cond := .code yX2_surplusLeft cX2_surplusLeft 2 (some .int) :: ((wsX2_surplusLeft_r1 ++ (wsX2_surplusLeft_r2 ++ wsX2_surplusLeft_r3)) ++ wsX20)
def wsX2_lapsed_r1 : List Cond := [Cond.fieldLink RX2 64 "MakeupGasModel" "thrown" "I", Cond.fieldLink RX2 73 "MakeupGasModel" "lapsed" "I", Cond.methodLink RX2 97 yX2_goesThrough, Cond.instanceMethod yX2_goesThrough, Cond.selects RX2 yX2_goesThrough yX2_goesThrough, Cond.initialized RX2, Cond.code yX2_goesThrough cX2_goesThrough 3 none, Cond.fieldLink RX2 80 "MakeupGasModel" "closed" "I", Cond.fieldLink RX2 43 "MakeupGasModel" "shortfalls" "[I", Cond.fieldLink RX2 46 "MakeupGasModel" "surpluses" "[I", Cond.fieldLink RX2 49 "MakeupGasModel" "makeUpLeft" "[I", Cond.fieldLink RX2 52 "MakeupGasModel" "surplusLeft" "[I", Cond.fieldLink RX2 55 "MakeupGasModel" "madeUp" "[I", Cond.fieldLink RX2 58 "MakeupGasModel" "covered" "[I", Cond.fieldLink RX2 36 "MakeupGasModel" "taken" "[I", Cond.methodLink RX2 83 yX2_lapses, Cond.instanceMethod yX2_lapses, Cond.selects RX2 yX2_lapses yX2_lapses, Cond.code yX2_lapses cX2_lapses 3 none, Cond.fieldLink RX2 20 "MakeupGasModel" "makeUpYears" "I", Cond.fieldLink RX2 23 "MakeupGasModel" "surplusYears" "I", Cond.methodLink RX2 87 yX2_leastOf, Cond.instanceMethod yX2_leastOf, Cond.selects RX2 yX2_leastOf yX2_leastOf]
def wsX2_lapsed_r2 : List Cond := [Cond.code yX2_leastOf cX2_leastOf 2 (some .int), Cond.fieldLink RX2 8 "MakeupGasModel" "quantity" "I", Cond.fieldLink RX2 14 "MakeupGasModel" "percent" "I", Cond.fieldLink RX2 30 "MakeupGasModel" "excused" "[I", Cond.constantLong RX2 71 (36000), Cond.methodLink RX2 90 yX2_covers, Cond.instanceMethod yX2_covers, Cond.selects RX2 yX2_covers yX2_covers, Cond.code yX2_covers cX2_covers 6 none, Cond.fieldLink RX2 61 "MakeupGasModel" "dues" "[J", Cond.fieldLink RX2 26 "MakeupGasModel" "prices" "[I", Cond.methodLink RX2 76 yX2_shortfallPrice, Cond.instanceMethod yX2_shortfallPrice, Cond.selects RX2 yX2_shortfallPrice yX2_shortfallPrice, Cond.code yX2_shortfallPrice cX2_shortfallPrice 2 (some .int), Cond.fieldLink RX2 17 "MakeupGasModel" "share" "I", Cond.methodLink RX2 94 yX2_makesUp, Cond.instanceMethod yX2_makesUp, Cond.selects RX2 yX2_makesUp yX2_makesUp, Cond.code yX2_makesUp cX2_makesUp 9 none]
def wsX2_lapsed : List Cond := .code yX2_lapsed cX2_lapsed 1 (some .int) :: ((wsX2_lapsed_r1 ++ wsX2_lapsed_r2) ++ wsX20)
def wsX2_open_r1 : List Cond := [Cond.fieldLink RX2 64 "MakeupGasModel" "thrown" "I", Cond.methodLink RX2 122 yX2_openNow, Cond.instanceMethod yX2_openNow, Cond.selects RX2 yX2_openNow yX2_openNow, Cond.initialized RX2, Cond.code yX2_openNow cX2_openNow 4 (some .long), Cond.fieldLink RX2 80 "MakeupGasModel" "closed" "I", Cond.fieldLink RX2 61 "MakeupGasModel" "dues" "[J", Cond.fieldLink RX2 39 "MakeupGasModel" "bills" "[J", Cond.methodLink RX2 97 yX2_goesThrough, Cond.instanceMethod yX2_goesThrough, Cond.selects RX2 yX2_goesThrough yX2_goesThrough, Cond.code yX2_goesThrough cX2_goesThrough 3 none, Cond.fieldLink RX2 73 "MakeupGasModel" "lapsed" "I", Cond.fieldLink RX2 43 "MakeupGasModel" "shortfalls" "[I", Cond.fieldLink RX2 46 "MakeupGasModel" "surpluses" "[I", Cond.fieldLink RX2 49 "MakeupGasModel" "makeUpLeft" "[I", Cond.fieldLink RX2 52 "MakeupGasModel" "surplusLeft" "[I", Cond.fieldLink RX2 55 "MakeupGasModel" "madeUp" "[I", Cond.fieldLink RX2 58 "MakeupGasModel" "covered" "[I", Cond.fieldLink RX2 36 "MakeupGasModel" "taken" "[I", Cond.methodLink RX2 83 yX2_lapses, Cond.instanceMethod yX2_lapses, Cond.selects RX2 yX2_lapses yX2_lapses]
def wsX2_open_r2 : List Cond := [Cond.code yX2_lapses cX2_lapses 3 none, Cond.fieldLink RX2 20 "MakeupGasModel" "makeUpYears" "I", Cond.fieldLink RX2 23 "MakeupGasModel" "surplusYears" "I", Cond.methodLink RX2 87 yX2_leastOf, Cond.instanceMethod yX2_leastOf, Cond.selects RX2 yX2_leastOf yX2_leastOf, Cond.code yX2_leastOf cX2_leastOf 2 (some .int), Cond.fieldLink RX2 8 "MakeupGasModel" "quantity" "I", Cond.fieldLink RX2 14 "MakeupGasModel" "percent" "I", Cond.fieldLink RX2 30 "MakeupGasModel" "excused" "[I", Cond.constantLong RX2 71 (36000), Cond.methodLink RX2 90 yX2_covers, Cond.instanceMethod yX2_covers, Cond.selects RX2 yX2_covers yX2_covers, Cond.code yX2_covers cX2_covers 6 none, Cond.fieldLink RX2 26 "MakeupGasModel" "prices" "[I", Cond.methodLink RX2 76 yX2_shortfallPrice, Cond.instanceMethod yX2_shortfallPrice, Cond.selects RX2 yX2_shortfallPrice yX2_shortfallPrice, Cond.code yX2_shortfallPrice cX2_shortfallPrice 2 (some .int), Cond.fieldLink RX2 17 "MakeupGasModel" "share" "I", Cond.methodLink RX2 94 yX2_makesUp, Cond.instanceMethod yX2_makesUp, Cond.selects RX2 yX2_makesUp yX2_makesUp]
def wsX2_open_r3 : List Cond := [Cond.code yX2_makesUp cX2_makesUp 9 none]
def wsX2_open : List Cond := .code yX2_open cX2_open 1 (some .long) :: ((wsX2_open_r1 ++ (wsX2_open_r2 ++ wsX2_open_r3)) ++ wsX20)
def wsJ9_max_7cf53 : List Cond := .code yJ9_max_7cf53 cJ9_max_7cf53 2 (some .int) :: ([])
def wsJ9_min_7cf53 : List Cond := .code yJ9_min_7cf53 cJ9_min_7cf53 2 (some .int) :: ([])
def wsL_set_r1 : List Cond := [Cond.classLink RL 13 "java/lang/IllegalArgumentException", Cond.classLink RL 15 "java/lang/IllegalStateException", Cond.methodLink RL 7 yX1_set, Cond.instanceMethod yX1_set, Cond.selects RX1 yX1_set yX1_set, Cond.initialized RX1, Cond.code yX1_set cX1_set 6 none, Cond.constant RX1 70 (100000), Cond.fieldLink RX1 10 "MakeupGas" "yearlyQuantity" "I", Cond.fieldLink RX1 14 "MakeupGas" "leastPercent" "I", Cond.fieldLink RX1 17 "MakeupGas" "shortfallPercent" "I", Cond.fieldLink RX1 44 "MakeupGas" "makeUpStock" "LMakeupGas$Stock;", Cond.fieldLink RX1 48 "MakeupGas" "surplusStock" "LMakeupGas$Stock;", Cond.methodLink RX1 71 yX1_requireRange, Cond.static yX1_requireRange, Cond.code yX1_requireRange cX1_requireRange 3 none, Cond.classLink RX1 128 "java/lang/IllegalArgumentException", Cond.initialized "java/lang/IllegalArgumentException", Cond.methodLink RX1 75 yX1_requireUnused, Cond.instanceMethod yX1_requireUnused, Cond.selects RX1 yX1_requireUnused yX1_requireUnused, Cond.code yX1_requireUnused cX1_requireUnused 1 none, Cond.classLink RX1 135 "java/lang/IllegalStateException", Cond.initialized "java/lang/IllegalStateException"]
def wsL_set_r2 : List Cond := [Cond.fieldLink RX1 103 "MakeupGas" "closedYears" "I", Cond.fieldLink RX1 36 "MakeupGas" "takenPerYear" "[I", Cond.methodLink RX1 78 yX0_keepFor, Cond.instanceMethod yX0_keepFor, Cond.selects RX0 yX0_keepFor yX0_keepFor, Cond.initialized RX0, Cond.code yX0_keepFor cX0_keepFor 2 none, Cond.fieldLink RX0 15 "MakeupGas$Stock" "yearsKept" "I"]
def wsL_set : List Cond := .codeWith yL_set cL_set 7 (some .int) [(0, 11, 14, 13), (0, 11, 18, 15)] :: ((wsL_set_r1 ++ wsL_set_r2) ++ wsX10 ++ wsX00 ++ (vx_atS RX1 132 "java/lang/IllegalArgumentException" ["java/lang/RuntimeException", "java/lang/Exception"]).filter goodWord ++ (vx_atS RX1 139 "java/lang/IllegalStateException" ["java/lang/RuntimeException", "java/lang/Exception"]).filter goodWord)
def wsL_review_r1 : List Cond := [Cond.classLink RL 13 "java/lang/IllegalArgumentException", Cond.methodLink RL 17 yX1_review, Cond.instanceMethod yX1_review, Cond.selects RX1 yX1_review yX1_review, Cond.initialized RX1, Cond.code yX1_review cX1_review 5 (some .int), Cond.fieldLink RX1 20 "MakeupGas" "pricePerYear" "[I", Cond.methodLink RX1 81 yX1_requireYear, Cond.static yX1_requireYear, Cond.code yX1_requireYear cX1_requireYear 1 none, Cond.methodLink RX1 71 yX1_requireRange, Cond.static yX1_requireRange, Cond.code yX1_requireRange cX1_requireRange 3 none, Cond.classLink RX1 128 "java/lang/IllegalArgumentException", Cond.initialized "java/lang/IllegalArgumentException", Cond.methodLink RX1 84 yX1_settleClosedYears, Cond.instanceMethod yX1_settleClosedYears, Cond.selects RX1 yX1_settleClosedYears yX1_settleClosedYears, Cond.code yX1_settleClosedYears cX1_settleClosedYears 2 none, Cond.fieldLink RX1 44 "MakeupGas" "makeUpStock" "LMakeupGas$Stock;", Cond.fieldLink RX1 48 "MakeupGas" "surplusStock" "LMakeupGas$Stock;", Cond.fieldLink RX1 103 "MakeupGas" "closedYears" "I", Cond.fieldLink RX1 36 "MakeupGas" "takenPerYear" "[I", Cond.methodLink RX1 148 yX0_empty]
def wsL_review_r2 : List Cond := [Cond.instanceMethod yX0_empty, Cond.selects RX0 yX0_empty yX0_empty, Cond.initialized RX0, Cond.code yX0_empty cX0_empty 1 none, Cond.fieldLink RX0 9 "MakeupGas$Stock" "left" "[I", Cond.fieldLink RX0 25 "MakeupGas$Stock" "lapsedSum" "I", Cond.methodLink RX0 19 yJ7_fill_53178, Cond.static yJ7_fill_53178, Cond.initialized RJ7, Cond.code yJ7_fill_53178 cJ7_fill_53178 4 none, Cond.methodLink RX1 151 yX0_lapseBefore, Cond.instanceMethod yX0_lapseBefore, Cond.selects RX0 yX0_lapseBefore yX0_lapseBefore, Cond.code yX0_lapseBefore cX0_lapseBefore 3 none, Cond.fieldLink RX0 15 "MakeupGas$Stock" "yearsKept" "I", Cond.methodLink RX1 114 yX1_leastQuantity, Cond.instanceMethod yX1_leastQuantity, Cond.selects RX1 yX1_leastQuantity yX1_leastQuantity, Cond.code yX1_leastQuantity cX1_leastQuantity 4 (some .int), Cond.fieldLink RX1 10 "MakeupGas" "yearlyQuantity" "I", Cond.fieldLink RX1 14 "MakeupGas" "leastPercent" "I", Cond.fieldLink RX1 30 "MakeupGas" "excusedDays" "[I", Cond.constantLong RX1 146 (36000), Cond.methodLink RX1 154 yX1_settleGap]
def wsL_review_r3 : List Cond := [Cond.instanceMethod yX1_settleGap, Cond.selects RX1 yX1_settleGap yX1_settleGap, Cond.code yX1_settleGap cX1_settleGap 5 none, Cond.fieldLink RX1 57 "MakeupGas" "coveredPerYear" "[I", Cond.fieldLink RX1 51 "MakeupGas" "shortfallPerYear" "[I", Cond.fieldLink RX1 54 "MakeupGas" "madeUpPerYear" "[I", Cond.fieldLink RX1 60 "MakeupGas" "surplusPerYear" "[I", Cond.fieldLink RX1 63 "MakeupGas" "duePerYear" "[J", Cond.methodLink RX1 160 yX1_drawSurplus, Cond.instanceMethod yX1_drawSurplus, Cond.selects RX1 yX1_drawSurplus yX1_drawSurplus, Cond.code yX1_drawSurplus cX1_drawSurplus 5 (some .int), Cond.methodLink RX1 170 yX0_drawFrom, Cond.instanceMethod yX0_drawFrom, Cond.selects RX0 yX0_drawFrom yX0_drawFrom, Cond.code yX0_drawFrom cX0_drawFrom 4 (some .int), Cond.methodLink RX0 28 Lib.Math.min.name, Cond.static Lib.Math.min.name, Cond.initialized "java/lang/Math", Cond.code Lib.Math.min.name Lib.Math.min.code 2 (some .int), Cond.methodLink RX1 164 yX0_put, Cond.instanceMethod yX0_put, Cond.selects RX0 yX0_put yX0_put, Cond.code yX0_put cX0_put 3 none]
def wsL_review_r4 : List Cond := [Cond.methodLink RX1 167 yX1_shortfallPrice, Cond.instanceMethod yX1_shortfallPrice, Cond.selects RX1 yX1_shortfallPrice yX1_shortfallPrice, Cond.code yX1_shortfallPrice cX1_shortfallPrice 2 (some .int), Cond.fieldLink RX1 17 "MakeupGas" "shortfallPercent" "I", Cond.methodLink RX1 157 yX1_settleEnough, Cond.instanceMethod yX1_settleEnough, Cond.selects RX1 yX1_settleEnough yX1_settleEnough, Cond.code yX1_settleEnough cX1_settleEnough 8 none, Cond.methodLink RX1 173 Lib.Math.max.name, Cond.static Lib.Math.max.name, Cond.code Lib.Math.max.name Lib.Math.max.code 2 (some .int)]
def wsL_review : List Cond := .codeWith yL_review cL_review 5 (some .int) [(0, 10, 13, 13)] :: ((wsL_review_r1 ++ (wsL_review_r2 ++ (wsL_review_r3 ++ wsL_review_r4))) ++ wsX10 ++ wsX00 ++ (vx_atS RX1 132 "java/lang/IllegalArgumentException" ["java/lang/RuntimeException", "java/lang/Exception"]).filter goodWord)
def wsL_excuse_r1 : List Cond := [Cond.classLink RL 13 "java/lang/IllegalArgumentException", Cond.methodLink RL 21 yX1_excuse, Cond.instanceMethod yX1_excuse, Cond.selects RX1 yX1_excuse yX1_excuse, Cond.initialized RX1, Cond.code yX1_excuse cX1_excuse 4 (some .int), Cond.fieldLink RX1 30 "MakeupGas" "excusedDays" "[I", Cond.methodLink RX1 81 yX1_requireYear, Cond.static yX1_requireYear, Cond.code yX1_requireYear cX1_requireYear 1 none, Cond.methodLink RX1 71 yX1_requireRange, Cond.static yX1_requireRange, Cond.code yX1_requireRange cX1_requireRange 3 none, Cond.classLink RX1 128 "java/lang/IllegalArgumentException", Cond.initialized "java/lang/IllegalArgumentException", Cond.methodLink RX1 84 yX1_settleClosedYears, Cond.instanceMethod yX1_settleClosedYears, Cond.selects RX1 yX1_settleClosedYears yX1_settleClosedYears, Cond.code yX1_settleClosedYears cX1_settleClosedYears 2 none, Cond.fieldLink RX1 44 "MakeupGas" "makeUpStock" "LMakeupGas$Stock;", Cond.fieldLink RX1 48 "MakeupGas" "surplusStock" "LMakeupGas$Stock;", Cond.fieldLink RX1 103 "MakeupGas" "closedYears" "I", Cond.fieldLink RX1 36 "MakeupGas" "takenPerYear" "[I", Cond.methodLink RX1 148 yX0_empty]
def wsL_excuse_r2 : List Cond := [Cond.instanceMethod yX0_empty, Cond.selects RX0 yX0_empty yX0_empty, Cond.initialized RX0, Cond.code yX0_empty cX0_empty 1 none, Cond.fieldLink RX0 9 "MakeupGas$Stock" "left" "[I", Cond.fieldLink RX0 25 "MakeupGas$Stock" "lapsedSum" "I", Cond.methodLink RX0 19 yJ7_fill_53178, Cond.static yJ7_fill_53178, Cond.initialized RJ7, Cond.code yJ7_fill_53178 cJ7_fill_53178 4 none, Cond.methodLink RX1 151 yX0_lapseBefore, Cond.instanceMethod yX0_lapseBefore, Cond.selects RX0 yX0_lapseBefore yX0_lapseBefore, Cond.code yX0_lapseBefore cX0_lapseBefore 3 none, Cond.fieldLink RX0 15 "MakeupGas$Stock" "yearsKept" "I", Cond.methodLink RX1 114 yX1_leastQuantity, Cond.instanceMethod yX1_leastQuantity, Cond.selects RX1 yX1_leastQuantity yX1_leastQuantity, Cond.code yX1_leastQuantity cX1_leastQuantity 4 (some .int), Cond.fieldLink RX1 10 "MakeupGas" "yearlyQuantity" "I", Cond.fieldLink RX1 14 "MakeupGas" "leastPercent" "I", Cond.constantLong RX1 146 (36000), Cond.methodLink RX1 154 yX1_settleGap, Cond.instanceMethod yX1_settleGap]
def wsL_excuse_r3 : List Cond := [Cond.selects RX1 yX1_settleGap yX1_settleGap, Cond.code yX1_settleGap cX1_settleGap 5 none, Cond.fieldLink RX1 57 "MakeupGas" "coveredPerYear" "[I", Cond.fieldLink RX1 51 "MakeupGas" "shortfallPerYear" "[I", Cond.fieldLink RX1 54 "MakeupGas" "madeUpPerYear" "[I", Cond.fieldLink RX1 60 "MakeupGas" "surplusPerYear" "[I", Cond.fieldLink RX1 63 "MakeupGas" "duePerYear" "[J", Cond.fieldLink RX1 20 "MakeupGas" "pricePerYear" "[I", Cond.methodLink RX1 160 yX1_drawSurplus, Cond.instanceMethod yX1_drawSurplus, Cond.selects RX1 yX1_drawSurplus yX1_drawSurplus, Cond.code yX1_drawSurplus cX1_drawSurplus 5 (some .int), Cond.methodLink RX1 170 yX0_drawFrom, Cond.instanceMethod yX0_drawFrom, Cond.selects RX0 yX0_drawFrom yX0_drawFrom, Cond.code yX0_drawFrom cX0_drawFrom 4 (some .int), Cond.methodLink RX0 28 Lib.Math.min.name, Cond.static Lib.Math.min.name, Cond.initialized "java/lang/Math", Cond.code Lib.Math.min.name Lib.Math.min.code 2 (some .int), Cond.methodLink RX1 164 yX0_put, Cond.instanceMethod yX0_put, Cond.selects RX0 yX0_put yX0_put, Cond.code yX0_put cX0_put 3 none]
def wsL_excuse_r4 : List Cond := [Cond.methodLink RX1 167 yX1_shortfallPrice, Cond.instanceMethod yX1_shortfallPrice, Cond.selects RX1 yX1_shortfallPrice yX1_shortfallPrice, Cond.code yX1_shortfallPrice cX1_shortfallPrice 2 (some .int), Cond.fieldLink RX1 17 "MakeupGas" "shortfallPercent" "I", Cond.methodLink RX1 157 yX1_settleEnough, Cond.instanceMethod yX1_settleEnough, Cond.selects RX1 yX1_settleEnough yX1_settleEnough, Cond.code yX1_settleEnough cX1_settleEnough 8 none, Cond.methodLink RX1 173 Lib.Math.max.name, Cond.static Lib.Math.max.name, Cond.code Lib.Math.max.name Lib.Math.max.code 2 (some .int)]
def wsL_excuse : List Cond := .codeWith yL_excuse cL_excuse 5 (some .int) [(0, 10, 13, 13)] :: ((wsL_excuse_r1 ++ (wsL_excuse_r2 ++ (wsL_excuse_r3 ++ wsL_excuse_r4))) ++ wsX10 ++ wsX00 ++ (vx_atS RX1 132 "java/lang/IllegalArgumentException" ["java/lang/RuntimeException", "java/lang/Exception"]).filter goodWord)
def wsL_take_r1 : List Cond := [Cond.classLink RL 13 "java/lang/IllegalArgumentException", Cond.classLink RL 15 "java/lang/IllegalStateException", Cond.methodLink RL 24 yX1_take, Cond.instanceMethod yX1_take, Cond.selects RX1 yX1_take yX1_take, Cond.initialized RX1, Cond.code yX1_take cX1_take 3 (some .int), Cond.fieldLink RX1 33 "MakeupGas" "takenPerDay" "[I", Cond.methodLink RX1 87 yX1_requireDay, Cond.static yX1_requireDay, Cond.code yX1_requireDay cX1_requireDay 1 none, Cond.methodLink RX1 71 yX1_requireRange, Cond.static yX1_requireRange, Cond.code yX1_requireRange cX1_requireRange 3 none, Cond.classLink RX1 128 "java/lang/IllegalArgumentException", Cond.initialized "java/lang/IllegalArgumentException", Cond.methodLink RX1 90 yX1_requireYearGoingOn, Cond.instanceMethod yX1_requireYearGoingOn, Cond.selects RX1 yX1_requireYearGoingOn yX1_requireYearGoingOn, Cond.code yX1_requireYearGoingOn cX1_requireYearGoingOn 1 none, Cond.classLink RX1 135 "java/lang/IllegalStateException", Cond.initialized "java/lang/IllegalStateException", Cond.fieldLink RX1 103 "MakeupGas" "closedYears" "I", Cond.methodLink RX1 93 yX1_requireRoom]
def wsL_take_r2 : List Cond := [Cond.instanceMethod yX1_requireRoom, Cond.selects RX1 yX1_requireRoom yX1_requireRoom, Cond.code yX1_requireRoom cX1_requireRoom 5 none, Cond.methodLink RX1 96 yX1_addTakes, Cond.instanceMethod yX1_addTakes, Cond.selects RX1 yX1_addTakes yX1_addTakes, Cond.code yX1_addTakes cX1_addTakes 5 none, Cond.fieldLink RX1 36 "MakeupGas" "takenPerYear" "[I"]
def wsL_take : List Cond := .codeWith yL_take cL_take 5 (some .int) [(0, 10, 13, 13), (0, 10, 17, 15)] :: ((wsL_take_r1 ++ wsL_take_r2) ++ wsX10 ++ (vx_atS RX1 132 "java/lang/IllegalArgumentException" ["java/lang/RuntimeException", "java/lang/Exception"]).filter goodWord ++ (vx_atS RX1 139 "java/lang/IllegalStateException" ["java/lang/RuntimeException", "java/lang/Exception"]).filter goodWord)
def wsL_takeDaily_r1 : List Cond := [Cond.classLink RL 13 "java/lang/IllegalArgumentException", Cond.classLink RL 15 "java/lang/IllegalStateException", Cond.methodLink RL 27 yX1_takeDaily, Cond.instanceMethod yX1_takeDaily, Cond.selects RX1 yX1_takeDaily yX1_takeDaily, Cond.initialized RX1, Cond.code yX1_takeDaily cX1_takeDaily 4 (some .int), Cond.fieldLink RX1 36 "MakeupGas" "takenPerYear" "[I", Cond.fieldLink RX1 103 "MakeupGas" "closedYears" "I", Cond.methodLink RX1 99 yX1_requireDays, Cond.static yX1_requireDays, Cond.code yX1_requireDays cX1_requireDays 2 none, Cond.methodLink RX1 87 yX1_requireDay, Cond.static yX1_requireDay, Cond.code yX1_requireDay cX1_requireDay 1 none, Cond.methodLink RX1 71 yX1_requireRange, Cond.static yX1_requireRange, Cond.code yX1_requireRange cX1_requireRange 3 none, Cond.classLink RX1 128 "java/lang/IllegalArgumentException", Cond.initialized "java/lang/IllegalArgumentException", Cond.methodLink RX1 90 yX1_requireYearGoingOn, Cond.instanceMethod yX1_requireYearGoingOn, Cond.selects RX1 yX1_requireYearGoingOn yX1_requireYearGoingOn, Cond.code yX1_requireYearGoingOn cX1_requireYearGoingOn 1 none]
def wsL_takeDaily_r2 : List Cond := [Cond.classLink RX1 135 "java/lang/IllegalStateException", Cond.initialized "java/lang/IllegalStateException", Cond.methodLink RX1 93 yX1_requireRoom, Cond.instanceMethod yX1_requireRoom, Cond.selects RX1 yX1_requireRoom yX1_requireRoom, Cond.code yX1_requireRoom cX1_requireRoom 5 none, Cond.fieldLink RX1 33 "MakeupGas" "takenPerDay" "[I", Cond.methodLink RX1 96 yX1_addTakes, Cond.instanceMethod yX1_addTakes, Cond.selects RX1 yX1_addTakes yX1_addTakes, Cond.code yX1_addTakes cX1_addTakes 5 none]
def wsL_takeDaily : List Cond := .codeWith yL_takeDaily cL_takeDaily 6 (some .int) [(0, 12, 15, 13), (0, 12, 19, 15)] :: ((wsL_takeDaily_r1 ++ wsL_takeDaily_r2) ++ wsX10 ++ (vx_atS RX1 132 "java/lang/IllegalArgumentException" ["java/lang/RuntimeException", "java/lang/Exception"]).filter goodWord ++ (vx_atS RX1 139 "java/lang/IllegalStateException" ["java/lang/RuntimeException", "java/lang/Exception"]).filter goodWord)
def wsL_close_r1 : List Cond := [Cond.classLink RL 15 "java/lang/IllegalStateException", Cond.methodLink RL 31 yX1_close, Cond.instanceMethod yX1_close, Cond.selects RX1 yX1_close yX1_close, Cond.initialized RX1, Cond.code yX1_close cX1_close 4 (some .long), Cond.fieldLink RX1 103 "MakeupGas" "closedYears" "I", Cond.fieldLink RX1 33 "MakeupGas" "takenPerDay" "[I", Cond.fieldLink RX1 110 "MakeupGas" "billedInAll" "J", Cond.fieldLink RX1 67 "MakeupGas" "billPerYear" "[J", Cond.methodLink RX1 90 yX1_requireYearGoingOn, Cond.instanceMethod yX1_requireYearGoingOn, Cond.selects RX1 yX1_requireYearGoingOn yX1_requireYearGoingOn, Cond.code yX1_requireYearGoingOn cX1_requireYearGoingOn 1 none, Cond.classLink RX1 135 "java/lang/IllegalStateException", Cond.initialized "java/lang/IllegalStateException", Cond.methodLink RX1 24 yJ7_fill_53178, Cond.static yJ7_fill_53178, Cond.initialized RJ7, Cond.code yJ7_fill_53178 cJ7_fill_53178 4 none, Cond.methodLink RX1 84 yX1_settleClosedYears, Cond.instanceMethod yX1_settleClosedYears, Cond.selects RX1 yX1_settleClosedYears yX1_settleClosedYears, Cond.code yX1_settleClosedYears cX1_settleClosedYears 2 none]
def wsL_close_r2 : List Cond := [Cond.fieldLink RX1 44 "MakeupGas" "makeUpStock" "LMakeupGas$Stock;", Cond.fieldLink RX1 48 "MakeupGas" "surplusStock" "LMakeupGas$Stock;", Cond.fieldLink RX1 36 "MakeupGas" "takenPerYear" "[I", Cond.methodLink RX1 148 yX0_empty, Cond.instanceMethod yX0_empty, Cond.selects RX0 yX0_empty yX0_empty, Cond.initialized RX0, Cond.code yX0_empty cX0_empty 1 none, Cond.fieldLink RX0 9 "MakeupGas$Stock" "left" "[I", Cond.fieldLink RX0 25 "MakeupGas$Stock" "lapsedSum" "I", Cond.methodLink RX0 19 yJ7_fill_53178, Cond.methodLink RX1 151 yX0_lapseBefore, Cond.instanceMethod yX0_lapseBefore, Cond.selects RX0 yX0_lapseBefore yX0_lapseBefore, Cond.code yX0_lapseBefore cX0_lapseBefore 3 none, Cond.fieldLink RX0 15 "MakeupGas$Stock" "yearsKept" "I", Cond.methodLink RX1 114 yX1_leastQuantity, Cond.instanceMethod yX1_leastQuantity, Cond.selects RX1 yX1_leastQuantity yX1_leastQuantity, Cond.code yX1_leastQuantity cX1_leastQuantity 4 (some .int), Cond.fieldLink RX1 10 "MakeupGas" "yearlyQuantity" "I", Cond.fieldLink RX1 14 "MakeupGas" "leastPercent" "I", Cond.fieldLink RX1 30 "MakeupGas" "excusedDays" "[I", Cond.constantLong RX1 146 (36000)]
def wsL_close_r3 : List Cond := [Cond.methodLink RX1 154 yX1_settleGap, Cond.instanceMethod yX1_settleGap, Cond.selects RX1 yX1_settleGap yX1_settleGap, Cond.code yX1_settleGap cX1_settleGap 5 none, Cond.fieldLink RX1 57 "MakeupGas" "coveredPerYear" "[I", Cond.fieldLink RX1 51 "MakeupGas" "shortfallPerYear" "[I", Cond.fieldLink RX1 54 "MakeupGas" "madeUpPerYear" "[I", Cond.fieldLink RX1 60 "MakeupGas" "surplusPerYear" "[I", Cond.fieldLink RX1 63 "MakeupGas" "duePerYear" "[J", Cond.fieldLink RX1 20 "MakeupGas" "pricePerYear" "[I", Cond.methodLink RX1 160 yX1_drawSurplus, Cond.instanceMethod yX1_drawSurplus, Cond.selects RX1 yX1_drawSurplus yX1_drawSurplus, Cond.code yX1_drawSurplus cX1_drawSurplus 5 (some .int), Cond.methodLink RX1 170 yX0_drawFrom, Cond.instanceMethod yX0_drawFrom, Cond.selects RX0 yX0_drawFrom yX0_drawFrom, Cond.code yX0_drawFrom cX0_drawFrom 4 (some .int), Cond.methodLink RX0 28 Lib.Math.min.name, Cond.static Lib.Math.min.name, Cond.initialized "java/lang/Math", Cond.code Lib.Math.min.name Lib.Math.min.code 2 (some .int), Cond.methodLink RX1 164 yX0_put, Cond.instanceMethod yX0_put]
def wsL_close_r4 : List Cond := [Cond.selects RX0 yX0_put yX0_put, Cond.code yX0_put cX0_put 3 none, Cond.methodLink RX1 167 yX1_shortfallPrice, Cond.instanceMethod yX1_shortfallPrice, Cond.selects RX1 yX1_shortfallPrice yX1_shortfallPrice, Cond.code yX1_shortfallPrice cX1_shortfallPrice 2 (some .int), Cond.fieldLink RX1 17 "MakeupGas" "shortfallPercent" "I", Cond.methodLink RX1 157 yX1_settleEnough, Cond.instanceMethod yX1_settleEnough, Cond.selects RX1 yX1_settleEnough yX1_settleEnough, Cond.code yX1_settleEnough cX1_settleEnough 8 none, Cond.methodLink RX1 173 Lib.Math.max.name, Cond.static Lib.Math.max.name, Cond.code Lib.Math.max.name Lib.Math.max.code 2 (some .int), Cond.methodLink RX1 106 yX1_dueInAll, Cond.instanceMethod yX1_dueInAll, Cond.selects RX1 yX1_dueInAll yX1_dueInAll, Cond.code yX1_dueInAll cX1_dueInAll 4 (some .long)]
def wsL_close : List Cond := .codeWith yL_close cL_close 3 (some .int) [(0, 7, 10, 15)] :: ((wsL_close_r1 ++ (wsL_close_r2 ++ (wsL_close_r3 ++ wsL_close_r4))) ++ wsX10 ++ wsX00 ++ (vx_atS RX1 139 "java/lang/IllegalStateException" ["java/lang/RuntimeException", "java/lang/Exception"]).filter goodWord)
def wsL_taken : List Cond := .codeWith yL_taken cL_taken 4 (some .int) [(0, 9, 12, 13)] :: ([.classLink RL 13 "java/lang/IllegalArgumentException", .methodLink RL 35 yX1_taken, .instanceMethod yX1_taken, .selects RX1 yX1_taken yX1_taken, .initialized RX1, .code yX1_taken cX1_taken 2 (some .int), .fieldLink RX1 36 "MakeupGas" "takenPerYear" "[I", .methodLink RX1 81 yX1_requireYear, .static yX1_requireYear, .code yX1_requireYear cX1_requireYear 1 none, .methodLink RX1 71 yX1_requireRange, .static yX1_requireRange, .code yX1_requireRange cX1_requireRange 3 none, .classLink RX1 128 "java/lang/IllegalArgumentException", .initialized "java/lang/IllegalArgumentException"] ++ wsX10 ++ (vx_atS RX1 132 "java/lang/IllegalArgumentException" ["java/lang/RuntimeException", "java/lang/Exception"]).filter goodWord)
def wsL_takenFrom : List Cond := .codeWith yL_takenFrom cL_takenFrom 5 (some .int) [(0, 10, 13, 13)] :: ([.classLink RL 13 "java/lang/IllegalArgumentException", .methodLink RL 39 yX1_takenFrom, .instanceMethod yX1_takenFrom, .selects RX1 yX1_takenFrom yX1_takenFrom, .initialized RX1, .code yX1_takenFrom cX1_takenFrom 5 (some .int), .fieldLink RX1 33 "MakeupGas" "takenPerDay" "[I", .methodLink RX1 99 yX1_requireDays, .static yX1_requireDays, .code yX1_requireDays cX1_requireDays 2 none, .methodLink RX1 87 yX1_requireDay, .static yX1_requireDay, .code yX1_requireDay cX1_requireDay 1 none, .methodLink RX1 71 yX1_requireRange, .static yX1_requireRange, .code yX1_requireRange cX1_requireRange 3 none, .classLink RX1 128 "java/lang/IllegalArgumentException", .initialized "java/lang/IllegalArgumentException"] ++ wsX10 ++ (vx_atS RX1 132 "java/lang/IllegalArgumentException" ["java/lang/RuntimeException", "java/lang/Exception"]).filter goodWord)
def wsL_price : List Cond := .codeWith yL_price cL_price 4 (some .int) [(0, 9, 12, 13)] :: ([.classLink RL 13 "java/lang/IllegalArgumentException", .methodLink RL 42 yX1_price, .instanceMethod yX1_price, .selects RX1 yX1_price yX1_price, .initialized RX1, .code yX1_price cX1_price 2 (some .int), .fieldLink RX1 20 "MakeupGas" "pricePerYear" "[I", .methodLink RX1 81 yX1_requireYear, .static yX1_requireYear, .code yX1_requireYear cX1_requireYear 1 none, .methodLink RX1 71 yX1_requireRange, .static yX1_requireRange, .code yX1_requireRange cX1_requireRange 3 none, .classLink RX1 128 "java/lang/IllegalArgumentException", .initialized "java/lang/IllegalArgumentException"] ++ wsX10 ++ (vx_atS RX1 132 "java/lang/IllegalArgumentException" ["java/lang/RuntimeException", "java/lang/Exception"]).filter goodWord)
def wsL_least : List Cond := .codeWith yL_least cL_least 4 (some .int) [(0, 9, 12, 13)] :: ([.classLink RL 13 "java/lang/IllegalArgumentException", .methodLink RL 45 yX1_least, .instanceMethod yX1_least, .selects RX1 yX1_least yX1_least, .initialized RX1, .code yX1_least cX1_least 2 (some .int), .methodLink RX1 81 yX1_requireYear, .static yX1_requireYear, .code yX1_requireYear cX1_requireYear 1 none, .methodLink RX1 71 yX1_requireRange, .static yX1_requireRange, .code yX1_requireRange cX1_requireRange 3 none, .classLink RX1 128 "java/lang/IllegalArgumentException", .initialized "java/lang/IllegalArgumentException", .methodLink RX1 114 yX1_leastQuantity, .instanceMethod yX1_leastQuantity, .selects RX1 yX1_leastQuantity yX1_leastQuantity, .code yX1_leastQuantity cX1_leastQuantity 4 (some .int), .fieldLink RX1 10 "MakeupGas" "yearlyQuantity" "I", .fieldLink RX1 14 "MakeupGas" "leastPercent" "I", .fieldLink RX1 30 "MakeupGas" "excusedDays" "[I", .constantLong RX1 146 (36000)] ++ wsX10 ++ (vx_atS RX1 132 "java/lang/IllegalArgumentException" ["java/lang/RuntimeException", "java/lang/Exception"]).filter goodWord)
def wsL_shortfall : List Cond := .codeWith yL_shortfall cL_shortfall 4 (some .int) [(0, 9, 12, 13), (0, 9, 15, 15)] :: ([.classLink RL 13 "java/lang/IllegalArgumentException", .classLink RL 15 "java/lang/IllegalStateException", .methodLink RL 48 yX1_shortfall, .instanceMethod yX1_shortfall, .selects RX1 yX1_shortfall yX1_shortfall, .initialized RX1, .code yX1_shortfall cX1_shortfall 2 (some .int), .fieldLink RX1 51 "MakeupGas" "shortfallPerYear" "[I", .methodLink RX1 118 yX1_requireClosedYear, .instanceMethod yX1_requireClosedYear, .selects RX1 yX1_requireClosedYear yX1_requireClosedYear, .code yX1_requireClosedYear cX1_requireClosedYear 2 none, .classLink RX1 135 "java/lang/IllegalStateException", .initialized "java/lang/IllegalStateException", .fieldLink RX1 103 "MakeupGas" "closedYears" "I", .methodLink RX1 81 yX1_requireYear, .static yX1_requireYear, .code yX1_requireYear cX1_requireYear 1 none, .methodLink RX1 71 yX1_requireRange, .static yX1_requireRange, .code yX1_requireRange cX1_requireRange 3 none, .classLink RX1 128 "java/lang/IllegalArgumentException", .initialized "java/lang/IllegalArgumentException"] ++ wsX10 ++ (vx_atS RX1 139 "java/lang/IllegalStateException" ["java/lang/RuntimeException", "java/lang/Exception"]).filter goodWord ++ (vx_atS RX1 132 "java/lang/IllegalArgumentException" ["java/lang/RuntimeException", "java/lang/Exception"]).filter goodWord)
def wsL_madeUp : List Cond := .codeWith yL_madeUp cL_madeUp 4 (some .int) [(0, 9, 12, 13), (0, 9, 15, 15)] :: ([.classLink RL 13 "java/lang/IllegalArgumentException", .classLink RL 15 "java/lang/IllegalStateException", .methodLink RL 51 yX1_madeUp, .instanceMethod yX1_madeUp, .selects RX1 yX1_madeUp yX1_madeUp, .initialized RX1, .code yX1_madeUp cX1_madeUp 2 (some .int), .fieldLink RX1 54 "MakeupGas" "madeUpPerYear" "[I", .methodLink RX1 118 yX1_requireClosedYear, .instanceMethod yX1_requireClosedYear, .selects RX1 yX1_requireClosedYear yX1_requireClosedYear, .code yX1_requireClosedYear cX1_requireClosedYear 2 none, .classLink RX1 135 "java/lang/IllegalStateException", .initialized "java/lang/IllegalStateException", .fieldLink RX1 103 "MakeupGas" "closedYears" "I", .methodLink RX1 81 yX1_requireYear, .static yX1_requireYear, .code yX1_requireYear cX1_requireYear 1 none, .methodLink RX1 71 yX1_requireRange, .static yX1_requireRange, .code yX1_requireRange cX1_requireRange 3 none, .classLink RX1 128 "java/lang/IllegalArgumentException", .initialized "java/lang/IllegalArgumentException"] ++ wsX10 ++ (vx_atS RX1 139 "java/lang/IllegalStateException" ["java/lang/RuntimeException", "java/lang/Exception"]).filter goodWord ++ (vx_atS RX1 132 "java/lang/IllegalArgumentException" ["java/lang/RuntimeException", "java/lang/Exception"]).filter goodWord)
def wsL_covered : List Cond := .codeWith yL_covered cL_covered 4 (some .int) [(0, 9, 12, 13), (0, 9, 15, 15)] :: ([.classLink RL 13 "java/lang/IllegalArgumentException", .classLink RL 15 "java/lang/IllegalStateException", .methodLink RL 54 yX1_covered, .instanceMethod yX1_covered, .selects RX1 yX1_covered yX1_covered, .initialized RX1, .code yX1_covered cX1_covered 2 (some .int), .fieldLink RX1 57 "MakeupGas" "coveredPerYear" "[I", .methodLink RX1 118 yX1_requireClosedYear, .instanceMethod yX1_requireClosedYear, .selects RX1 yX1_requireClosedYear yX1_requireClosedYear, .code yX1_requireClosedYear cX1_requireClosedYear 2 none, .classLink RX1 135 "java/lang/IllegalStateException", .initialized "java/lang/IllegalStateException", .fieldLink RX1 103 "MakeupGas" "closedYears" "I", .methodLink RX1 81 yX1_requireYear, .static yX1_requireYear, .code yX1_requireYear cX1_requireYear 1 none, .methodLink RX1 71 yX1_requireRange, .static yX1_requireRange, .code yX1_requireRange cX1_requireRange 3 none, .classLink RX1 128 "java/lang/IllegalArgumentException", .initialized "java/lang/IllegalArgumentException"] ++ wsX10 ++ (vx_atS RX1 139 "java/lang/IllegalStateException" ["java/lang/RuntimeException", "java/lang/Exception"]).filter goodWord ++ (vx_atS RX1 132 "java/lang/IllegalArgumentException" ["java/lang/RuntimeException", "java/lang/Exception"]).filter goodWord)
def wsL_surplus : List Cond := .codeWith yL_surplus cL_surplus 4 (some .int) [(0, 9, 12, 13), (0, 9, 15, 15)] :: ([.classLink RL 13 "java/lang/IllegalArgumentException", .classLink RL 15 "java/lang/IllegalStateException", .methodLink RL 57 yX1_surplus, .instanceMethod yX1_surplus, .selects RX1 yX1_surplus yX1_surplus, .initialized RX1, .code yX1_surplus cX1_surplus 2 (some .int), .fieldLink RX1 60 "MakeupGas" "surplusPerYear" "[I", .methodLink RX1 118 yX1_requireClosedYear, .instanceMethod yX1_requireClosedYear, .selects RX1 yX1_requireClosedYear yX1_requireClosedYear, .code yX1_requireClosedYear cX1_requireClosedYear 2 none, .classLink RX1 135 "java/lang/IllegalStateException", .initialized "java/lang/IllegalStateException", .fieldLink RX1 103 "MakeupGas" "closedYears" "I", .methodLink RX1 81 yX1_requireYear, .static yX1_requireYear, .code yX1_requireYear cX1_requireYear 1 none, .methodLink RX1 71 yX1_requireRange, .static yX1_requireRange, .code yX1_requireRange cX1_requireRange 3 none, .classLink RX1 128 "java/lang/IllegalArgumentException", .initialized "java/lang/IllegalArgumentException"] ++ wsX10 ++ (vx_atS RX1 139 "java/lang/IllegalStateException" ["java/lang/RuntimeException", "java/lang/Exception"]).filter goodWord ++ (vx_atS RX1 132 "java/lang/IllegalArgumentException" ["java/lang/RuntimeException", "java/lang/Exception"]).filter goodWord)
def wsL_due : List Cond := .codeWith yL_due cL_due 4 (some .int) [(0, 8, 11, 13), (0, 8, 14, 15)] :: ([.classLink RL 13 "java/lang/IllegalArgumentException", .classLink RL 15 "java/lang/IllegalStateException", .methodLink RL 60 yX1_due, .instanceMethod yX1_due, .selects RX1 yX1_due yX1_due, .initialized RX1, .code yX1_due cX1_due 2 (some .long), .fieldLink RX1 63 "MakeupGas" "duePerYear" "[J", .methodLink RX1 118 yX1_requireClosedYear, .instanceMethod yX1_requireClosedYear, .selects RX1 yX1_requireClosedYear yX1_requireClosedYear, .code yX1_requireClosedYear cX1_requireClosedYear 2 none, .classLink RX1 135 "java/lang/IllegalStateException", .initialized "java/lang/IllegalStateException", .fieldLink RX1 103 "MakeupGas" "closedYears" "I", .methodLink RX1 81 yX1_requireYear, .static yX1_requireYear, .code yX1_requireYear cX1_requireYear 1 none, .methodLink RX1 71 yX1_requireRange, .static yX1_requireRange, .code yX1_requireRange cX1_requireRange 3 none, .classLink RX1 128 "java/lang/IllegalArgumentException", .initialized "java/lang/IllegalArgumentException"] ++ wsX10 ++ (vx_atS RX1 139 "java/lang/IllegalStateException" ["java/lang/RuntimeException", "java/lang/Exception"]).filter goodWord ++ (vx_atS RX1 132 "java/lang/IllegalArgumentException" ["java/lang/RuntimeException", "java/lang/Exception"]).filter goodWord)
def wsL_bill : List Cond := .codeWith yL_bill cL_bill 4 (some .int) [(0, 8, 11, 13), (0, 8, 14, 15)] :: ([.classLink RL 13 "java/lang/IllegalArgumentException", .classLink RL 15 "java/lang/IllegalStateException", .methodLink RL 64 yX1_bill, .instanceMethod yX1_bill, .selects RX1 yX1_bill yX1_bill, .initialized RX1, .code yX1_bill cX1_bill 2 (some .long), .fieldLink RX1 67 "MakeupGas" "billPerYear" "[J", .methodLink RX1 118 yX1_requireClosedYear, .instanceMethod yX1_requireClosedYear, .selects RX1 yX1_requireClosedYear yX1_requireClosedYear, .code yX1_requireClosedYear cX1_requireClosedYear 2 none, .classLink RX1 135 "java/lang/IllegalStateException", .initialized "java/lang/IllegalStateException", .fieldLink RX1 103 "MakeupGas" "closedYears" "I", .methodLink RX1 81 yX1_requireYear, .static yX1_requireYear, .code yX1_requireYear cX1_requireYear 1 none, .methodLink RX1 71 yX1_requireRange, .static yX1_requireRange, .code yX1_requireRange cX1_requireRange 3 none, .classLink RX1 128 "java/lang/IllegalArgumentException", .initialized "java/lang/IllegalArgumentException"] ++ wsX10 ++ (vx_atS RX1 139 "java/lang/IllegalStateException" ["java/lang/RuntimeException", "java/lang/Exception"]).filter goodWord ++ (vx_atS RX1 132 "java/lang/IllegalArgumentException" ["java/lang/RuntimeException", "java/lang/Exception"]).filter goodWord)
def wsL_makeUpLeft_r1 : List Cond := [Cond.classLink RL 13 "java/lang/IllegalArgumentException", Cond.classLink RL 15 "java/lang/IllegalStateException", Cond.methodLink RL 67 yX1_makeUpLeft, Cond.instanceMethod yX1_makeUpLeft, Cond.selects RX1 yX1_makeUpLeft yX1_makeUpLeft, Cond.initialized RX1, Cond.code yX1_makeUpLeft cX1_makeUpLeft 2 (some .int), Cond.fieldLink RX1 44 "MakeupGas" "makeUpStock" "LMakeupGas$Stock;", Cond.methodLink RX1 118 yX1_requireClosedYear, Cond.instanceMethod yX1_requireClosedYear, Cond.selects RX1 yX1_requireClosedYear yX1_requireClosedYear, Cond.code yX1_requireClosedYear cX1_requireClosedYear 2 none, Cond.classLink RX1 135 "java/lang/IllegalStateException", Cond.initialized "java/lang/IllegalStateException", Cond.fieldLink RX1 103 "MakeupGas" "closedYears" "I", Cond.methodLink RX1 81 yX1_requireYear, Cond.static yX1_requireYear, Cond.code yX1_requireYear cX1_requireYear 1 none, Cond.methodLink RX1 71 yX1_requireRange, Cond.static yX1_requireRange, Cond.code yX1_requireRange cX1_requireRange 3 none, Cond.classLink RX1 128 "java/lang/IllegalArgumentException", Cond.initialized "java/lang/IllegalArgumentException", Cond.methodLink RX1 121 yX0_leftFrom]
def wsL_makeUpLeft_r2 : List Cond := [Cond.instanceMethod yX0_leftFrom, Cond.selects RX0 yX0_leftFrom yX0_leftFrom, Cond.initialized RX0, Cond.code yX0_leftFrom cX0_leftFrom 2 (some .int), Cond.fieldLink RX0 9 "MakeupGas$Stock" "left" "[I"]
def wsL_makeUpLeft : List Cond := .codeWith yL_makeUpLeft cL_makeUpLeft 4 (some .int) [(0, 9, 12, 13), (0, 9, 15, 15)] :: ((wsL_makeUpLeft_r1 ++ wsL_makeUpLeft_r2) ++ wsX10 ++ wsX00 ++ (vx_atS RX1 139 "java/lang/IllegalStateException" ["java/lang/RuntimeException", "java/lang/Exception"]).filter goodWord ++ (vx_atS RX1 132 "java/lang/IllegalArgumentException" ["java/lang/RuntimeException", "java/lang/Exception"]).filter goodWord)
def wsL_surplusLeft_r1 : List Cond := [Cond.classLink RL 13 "java/lang/IllegalArgumentException", Cond.classLink RL 15 "java/lang/IllegalStateException", Cond.methodLink RL 70 yX1_surplusLeft, Cond.instanceMethod yX1_surplusLeft, Cond.selects RX1 yX1_surplusLeft yX1_surplusLeft, Cond.initialized RX1, Cond.code yX1_surplusLeft cX1_surplusLeft 2 (some .int), Cond.fieldLink RX1 48 "MakeupGas" "surplusStock" "LMakeupGas$Stock;", Cond.methodLink RX1 118 yX1_requireClosedYear, Cond.instanceMethod yX1_requireClosedYear, Cond.selects RX1 yX1_requireClosedYear yX1_requireClosedYear, Cond.code yX1_requireClosedYear cX1_requireClosedYear 2 none, Cond.classLink RX1 135 "java/lang/IllegalStateException", Cond.initialized "java/lang/IllegalStateException", Cond.fieldLink RX1 103 "MakeupGas" "closedYears" "I", Cond.methodLink RX1 81 yX1_requireYear, Cond.static yX1_requireYear, Cond.code yX1_requireYear cX1_requireYear 1 none, Cond.methodLink RX1 71 yX1_requireRange, Cond.static yX1_requireRange, Cond.code yX1_requireRange cX1_requireRange 3 none, Cond.classLink RX1 128 "java/lang/IllegalArgumentException", Cond.initialized "java/lang/IllegalArgumentException", Cond.methodLink RX1 121 yX0_leftFrom]
def wsL_surplusLeft_r2 : List Cond := [Cond.instanceMethod yX0_leftFrom, Cond.selects RX0 yX0_leftFrom yX0_leftFrom, Cond.initialized RX0, Cond.code yX0_leftFrom cX0_leftFrom 2 (some .int), Cond.fieldLink RX0 9 "MakeupGas$Stock" "left" "[I"]
def wsL_surplusLeft : List Cond := .codeWith yL_surplusLeft cL_surplusLeft 4 (some .int) [(0, 9, 12, 13), (0, 9, 15, 15)] :: ((wsL_surplusLeft_r1 ++ wsL_surplusLeft_r2) ++ wsX10 ++ wsX00 ++ (vx_atS RX1 139 "java/lang/IllegalStateException" ["java/lang/RuntimeException", "java/lang/Exception"]).filter goodWord ++ (vx_atS RX1 132 "java/lang/IllegalArgumentException" ["java/lang/RuntimeException", "java/lang/Exception"]).filter goodWord)
def wsL_law0_r1 : List Cond := [Cond.classLink RL 8 RX1, Cond.instantiable RX1 17, Cond.initialized RX1, Cond.classLink RL 74 RX2, Cond.instantiable RX2 20, Cond.initialized RX2, Cond.arrayClass .long, Cond.methodLink RL 73 yX1_init, Cond.instanceMethod yX1_init, Cond.code yX1_init cX1_init 1 none, Cond.methodLink RX1 1 objectInit, Cond.instanceMethod objectInit, Cond.code objectInit ⟨#[0xb1]⟩ 1 none, Cond.constant RX1 9 (36000), Cond.fieldLink RX1 10 "MakeupGas" "yearlyQuantity" "I", Cond.fieldLink RX1 14 "MakeupGas" "leastPercent" "I", Cond.fieldLink RX1 17 "MakeupGas" "shortfallPercent" "I", Cond.arrayClass .int, Cond.fieldLink RX1 20 "MakeupGas" "pricePerYear" "[I", Cond.fieldLink RX1 30 "MakeupGas" "excusedDays" "[I", Cond.fieldLink RX1 33 "MakeupGas" "takenPerDay" "[I", Cond.fieldLink RX1 36 "MakeupGas" "takenPerYear" "[I", Cond.classLink RX1 39 RX0, Cond.instantiable RX0 3]
def wsL_law0_r2 : List Cond := [Cond.initialized RX0, Cond.fieldLink RX1 44 "MakeupGas" "makeUpStock" "LMakeupGas$Stock;", Cond.fieldLink RX1 48 "MakeupGas" "surplusStock" "LMakeupGas$Stock;", Cond.fieldLink RX1 51 "MakeupGas" "shortfallPerYear" "[I", Cond.fieldLink RX1 54 "MakeupGas" "madeUpPerYear" "[I", Cond.fieldLink RX1 57 "MakeupGas" "coveredPerYear" "[I", Cond.fieldLink RX1 60 "MakeupGas" "surplusPerYear" "[I", Cond.fieldLink RX1 63 "MakeupGas" "duePerYear" "[J", Cond.fieldLink RX1 67 "MakeupGas" "billPerYear" "[J", Cond.methodLink RX1 24 yJ7_fill_53178, Cond.static yJ7_fill_53178, Cond.initialized RJ7, Cond.code yJ7_fill_53178 cJ7_fill_53178 4 none, Cond.methodLink RX1 41 yX0_init, Cond.instanceMethod yX0_init, Cond.code yX0_init cX0_init 2 none, Cond.methodLink RX0 3 objectInit, Cond.fieldLink RX0 9 "MakeupGas$Stock" "left" "[I", Cond.fieldLink RX0 15 "MakeupGas$Stock" "yearsKept" "I", Cond.methodLink RL 76 yX2_init, Cond.instanceMethod yX2_init, Cond.code yX2_init cX2_init 2 none, Cond.methodLink RX2 1 objectInit, Cond.constant RX2 7 (36000)]
def wsL_law0_r3 : List Cond := [Cond.fieldLink RX2 8 "MakeupGasModel" "quantity" "I", Cond.fieldLink RX2 14 "MakeupGasModel" "percent" "I", Cond.fieldLink RX2 17 "MakeupGasModel" "share" "I", Cond.fieldLink RX2 20 "MakeupGasModel" "makeUpYears" "I", Cond.fieldLink RX2 23 "MakeupGasModel" "surplusYears" "I", Cond.fieldLink RX2 26 "MakeupGasModel" "prices" "[I", Cond.fieldLink RX2 30 "MakeupGasModel" "excused" "[I", Cond.fieldLink RX2 33 "MakeupGasModel" "days" "[I", Cond.fieldLink RX2 36 "MakeupGasModel" "taken" "[I", Cond.fieldLink RX2 39 "MakeupGasModel" "bills" "[J", Cond.fieldLink RX2 43 "MakeupGasModel" "shortfalls" "[I", Cond.fieldLink RX2 46 "MakeupGasModel" "surpluses" "[I", Cond.fieldLink RX2 49 "MakeupGasModel" "makeUpLeft" "[I", Cond.fieldLink RX2 52 "MakeupGasModel" "surplusLeft" "[I", Cond.fieldLink RX2 55 "MakeupGasModel" "madeUp" "[I", Cond.fieldLink RX2 58 "MakeupGasModel" "covered" "[I", Cond.fieldLink RX2 61 "MakeupGasModel" "dues" "[J", Cond.methodLink RL 77 yL_set, Cond.static yL_set, Cond.initialized RL, Cond.codeWith yL_set cL_set 7 (some .int) [(0, 11, 14, 13), (0, 11, 18, 15)], Cond.classLink RL 13 "java/lang/IllegalArgumentException", Cond.classLink RL 15 "java/lang/IllegalStateException", Cond.methodLink RL 7 yX1_set]
def wsL_law0_r4 : List Cond := [Cond.instanceMethod yX1_set, Cond.selects RX1 yX1_set yX1_set, Cond.code yX1_set cX1_set 6 none, Cond.constant RX1 70 (100000), Cond.methodLink RX1 71 yX1_requireRange, Cond.static yX1_requireRange, Cond.code yX1_requireRange cX1_requireRange 3 none, Cond.classLink RX1 128 "java/lang/IllegalArgumentException", Cond.initialized "java/lang/IllegalArgumentException", Cond.methodLink RX1 75 yX1_requireUnused, Cond.instanceMethod yX1_requireUnused, Cond.selects RX1 yX1_requireUnused yX1_requireUnused, Cond.code yX1_requireUnused cX1_requireUnused 1 none, Cond.classLink RX1 135 "java/lang/IllegalStateException", Cond.initialized "java/lang/IllegalStateException", Cond.fieldLink RX1 103 "MakeupGas" "closedYears" "I", Cond.methodLink RX1 78 yX0_keepFor, Cond.instanceMethod yX0_keepFor, Cond.selects RX0 yX0_keepFor yX0_keepFor, Cond.code yX0_keepFor cX0_keepFor 2 none, Cond.methodLink RL 82 yX2_set, Cond.instanceMethod yX2_set, Cond.selects RX2 yX2_set yX2_set, Cond.code yX2_set cX2_set 7 none]
def wsL_law0_r5 : List Cond := [Cond.constant RX2 100 (100000), Cond.fieldLink RX2 80 "MakeupGasModel" "closed" "I", Cond.methodLink RX2 67 yX2_isIn, Cond.static yX2_isIn, Cond.code yX2_isIn cX2_isIn 3 (some .boolean), Cond.methodLink RX2 101 yX2_holds, Cond.instanceMethod yX2_holds, Cond.selects RX2 yX2_holds yX2_holds, Cond.code yX2_holds cX2_holds 2 (some .boolean), Cond.fieldLink RX2 64 "MakeupGasModel" "thrown" "I", Cond.methodLink RL 83 yX2_thrown, Cond.instanceMethod yX2_thrown, Cond.selects RX2 yX2_thrown yX2_thrown, Cond.code yX2_thrown cX2_thrown 1 (some .int), Cond.methodLink RL 87 yL_review, Cond.static yL_review, Cond.codeWith yL_review cL_review 5 (some .int) [(0, 10, 13, 13)], Cond.methodLink RL 17 yX1_review, Cond.instanceMethod yX1_review, Cond.selects RX1 yX1_review yX1_review, Cond.code yX1_review cX1_review 5 (some .int), Cond.methodLink RX1 81 yX1_requireYear, Cond.static yX1_requireYear, Cond.code yX1_requireYear cX1_requireYear 1 none]
def wsL_law0_r6 : List Cond := [Cond.methodLink RX1 84 yX1_settleClosedYears, Cond.instanceMethod yX1_settleClosedYears, Cond.selects RX1 yX1_settleClosedYears yX1_settleClosedYears, Cond.code yX1_settleClosedYears cX1_settleClosedYears 2 none, Cond.methodLink RX1 148 yX0_empty, Cond.instanceMethod yX0_empty, Cond.selects RX0 yX0_empty yX0_empty, Cond.code yX0_empty cX0_empty 1 none, Cond.fieldLink RX0 25 "MakeupGas$Stock" "lapsedSum" "I", Cond.methodLink RX0 19 yJ7_fill_53178, Cond.methodLink RX1 151 yX0_lapseBefore, Cond.instanceMethod yX0_lapseBefore, Cond.selects RX0 yX0_lapseBefore yX0_lapseBefore, Cond.code yX0_lapseBefore cX0_lapseBefore 3 none, Cond.methodLink RX1 114 yX1_leastQuantity, Cond.instanceMethod yX1_leastQuantity, Cond.selects RX1 yX1_leastQuantity yX1_leastQuantity, Cond.code yX1_leastQuantity cX1_leastQuantity 4 (some .int), Cond.constantLong RX1 146 (36000), Cond.methodLink RX1 154 yX1_settleGap, Cond.instanceMethod yX1_settleGap, Cond.selects RX1 yX1_settleGap yX1_settleGap, Cond.code yX1_settleGap cX1_settleGap 5 none, Cond.methodLink RX1 160 yX1_drawSurplus]
def wsL_law0_r7 : List Cond := [Cond.instanceMethod yX1_drawSurplus, Cond.selects RX1 yX1_drawSurplus yX1_drawSurplus, Cond.code yX1_drawSurplus cX1_drawSurplus 5 (some .int), Cond.methodLink RX1 170 yX0_drawFrom, Cond.instanceMethod yX0_drawFrom, Cond.selects RX0 yX0_drawFrom yX0_drawFrom, Cond.code yX0_drawFrom cX0_drawFrom 4 (some .int), Cond.methodLink RX0 28 Lib.Math.min.name, Cond.static Lib.Math.min.name, Cond.initialized "java/lang/Math", Cond.code Lib.Math.min.name Lib.Math.min.code 2 (some .int), Cond.methodLink RX1 164 yX0_put, Cond.instanceMethod yX0_put, Cond.selects RX0 yX0_put yX0_put, Cond.code yX0_put cX0_put 3 none, Cond.methodLink RX1 167 yX1_shortfallPrice, Cond.instanceMethod yX1_shortfallPrice, Cond.selects RX1 yX1_shortfallPrice yX1_shortfallPrice, Cond.code yX1_shortfallPrice cX1_shortfallPrice 2 (some .int), Cond.methodLink RX1 157 yX1_settleEnough, Cond.instanceMethod yX1_settleEnough, Cond.selects RX1 yX1_settleEnough yX1_settleEnough, Cond.code yX1_settleEnough cX1_settleEnough 8 none, Cond.methodLink RX1 173 Lib.Math.max.name]
def wsL_law0_r8 : List Cond := [Cond.static Lib.Math.max.name, Cond.code Lib.Math.max.name Lib.Math.max.code 2 (some .int), Cond.methodLink RL 90 yX2_review, Cond.instanceMethod yX2_review, Cond.selects RX2 yX2_review yX2_review, Cond.code yX2_review cX2_review 5 (some .int), Cond.methodLink RX2 105 yX2_isYear, Cond.static yX2_isYear, Cond.code yX2_isYear cX2_isYear 1 (some .boolean), Cond.methodLink RL 91 yL_excuse, Cond.static yL_excuse, Cond.codeWith yL_excuse cL_excuse 5 (some .int) [(0, 10, 13, 13)], Cond.methodLink RL 21 yX1_excuse, Cond.instanceMethod yX1_excuse, Cond.selects RX1 yX1_excuse yX1_excuse, Cond.code yX1_excuse cX1_excuse 4 (some .int), Cond.methodLink RL 93 yX2_excuse, Cond.instanceMethod yX2_excuse, Cond.selects RX2 yX2_excuse yX2_excuse, Cond.code yX2_excuse cX2_excuse 4 (some .int), Cond.methodLink RL 94 yL_take, Cond.static yL_take, Cond.codeWith yL_take cL_take 5 (some .int) [(0, 10, 13, 13), (0, 10, 17, 15)], Cond.methodLink RL 24 yX1_take]
def wsL_law0_r9 : List Cond := [Cond.instanceMethod yX1_take, Cond.selects RX1 yX1_take yX1_take, Cond.code yX1_take cX1_take 3 (some .int), Cond.methodLink RX1 87 yX1_requireDay, Cond.static yX1_requireDay, Cond.code yX1_requireDay cX1_requireDay 1 none, Cond.methodLink RX1 90 yX1_requireYearGoingOn, Cond.instanceMethod yX1_requireYearGoingOn, Cond.selects RX1 yX1_requireYearGoingOn yX1_requireYearGoingOn, Cond.code yX1_requireYearGoingOn cX1_requireYearGoingOn 1 none, Cond.methodLink RX1 93 yX1_requireRoom, Cond.instanceMethod yX1_requireRoom, Cond.selects RX1 yX1_requireRoom yX1_requireRoom, Cond.code yX1_requireRoom cX1_requireRoom 5 none, Cond.methodLink RX1 96 yX1_addTakes, Cond.instanceMethod yX1_addTakes, Cond.selects RX1 yX1_addTakes yX1_addTakes, Cond.code yX1_addTakes cX1_addTakes 5 none, Cond.methodLink RL 96 yX2_take, Cond.instanceMethod yX2_take, Cond.selects RX2 yX2_take yX2_take, Cond.code yX2_take cX2_take 3 (some .int), Cond.methodLink RX2 115 yX2_canTake, Cond.instanceMethod yX2_canTake]
def wsL_law0_r10 : List Cond := [Cond.selects RX2 yX2_canTake yX2_canTake, Cond.code yX2_canTake cX2_canTake 5 (some .boolean), Cond.methodLink RX2 108 yX2_isRange, Cond.static yX2_isRange, Cond.code yX2_isRange cX2_isRange 2 (some .boolean), Cond.methodLink RX2 112 yX2_isTooMuch, Cond.instanceMethod yX2_isTooMuch, Cond.selects RX2 yX2_isTooMuch yX2_isTooMuch, Cond.code yX2_isTooMuch cX2_isTooMuch 6 (some .boolean), Cond.methodLink RX2 118 yX2_takes, Cond.instanceMethod yX2_takes, Cond.selects RX2 yX2_takes yX2_takes, Cond.code yX2_takes cX2_takes 5 none, Cond.methodLink RL 97 yL_takeDaily, Cond.static yL_takeDaily, Cond.codeWith yL_takeDaily cL_takeDaily 6 (some .int) [(0, 12, 15, 13), (0, 12, 19, 15)], Cond.methodLink RL 27 yX1_takeDaily, Cond.instanceMethod yX1_takeDaily, Cond.selects RX1 yX1_takeDaily yX1_takeDaily, Cond.code yX1_takeDaily cX1_takeDaily 4 (some .int), Cond.methodLink RX1 99 yX1_requireDays, Cond.static yX1_requireDays, Cond.code yX1_requireDays cX1_requireDays 2 none, Cond.methodLink RL 100 yX2_takeDaily]
def wsL_law0_r11 : List Cond := [Cond.instanceMethod yX2_takeDaily, Cond.selects RX2 yX2_takeDaily yX2_takeDaily, Cond.code yX2_takeDaily cX2_takeDaily 4 (some .int), Cond.methodLink RL 101 yL_close, Cond.static yL_close, Cond.codeWith yL_close cL_close 3 (some .int) [(0, 7, 10, 15)], Cond.methodLink RL 31 yX1_close, Cond.instanceMethod yX1_close, Cond.selects RX1 yX1_close yX1_close, Cond.code yX1_close cX1_close 4 (some .long), Cond.fieldLink RX1 110 "MakeupGas" "billedInAll" "J", Cond.methodLink RX1 106 yX1_dueInAll, Cond.instanceMethod yX1_dueInAll, Cond.selects RX1 yX1_dueInAll yX1_dueInAll, Cond.code yX1_dueInAll cX1_dueInAll 4 (some .long), Cond.methodLink RL 104 yX2_close, Cond.instanceMethod yX2_close, Cond.selects RX2 yX2_close yX2_close, Cond.code yX2_close cX2_close 2 (some .long), Cond.methodLink RX2 122 yX2_openNow, Cond.instanceMethod yX2_openNow, Cond.selects RX2 yX2_openNow yX2_openNow, Cond.code yX2_openNow cX2_openNow 4 (some .long), Cond.methodLink RX2 97 yX2_goesThrough]
def wsL_law0_r12 : List Cond := [Cond.instanceMethod yX2_goesThrough, Cond.selects RX2 yX2_goesThrough yX2_goesThrough, Cond.code yX2_goesThrough cX2_goesThrough 3 none, Cond.fieldLink RX2 73 "MakeupGasModel" "lapsed" "I", Cond.methodLink RX2 83 yX2_lapses, Cond.instanceMethod yX2_lapses, Cond.selects RX2 yX2_lapses yX2_lapses, Cond.code yX2_lapses cX2_lapses 3 none, Cond.methodLink RX2 87 yX2_leastOf, Cond.instanceMethod yX2_leastOf, Cond.selects RX2 yX2_leastOf yX2_leastOf, Cond.code yX2_leastOf cX2_leastOf 2 (some .int), Cond.constantLong RX2 71 (36000), Cond.methodLink RX2 90 yX2_covers, Cond.instanceMethod yX2_covers, Cond.selects RX2 yX2_covers yX2_covers, Cond.code yX2_covers cX2_covers 6 none, Cond.methodLink RX2 76 yX2_shortfallPrice, Cond.instanceMethod yX2_shortfallPrice, Cond.selects RX2 yX2_shortfallPrice yX2_shortfallPrice, Cond.code yX2_shortfallPrice cX2_shortfallPrice 2 (some .int), Cond.methodLink RX2 94 yX2_makesUp, Cond.instanceMethod yX2_makesUp, Cond.selects RX2 yX2_makesUp yX2_makesUp]
def wsL_law0_r13 : List Cond := [Cond.code yX2_makesUp cX2_makesUp 9 none, Cond.methodLink RL 105 yX1_closed, Cond.instanceMethod yX1_closed, Cond.selects RX1 yX1_closed yX1_closed, Cond.code yX1_closed cX1_closed 1 (some .int), Cond.methodLink RL 108 yX2_closed, Cond.instanceMethod yX2_closed, Cond.selects RX2 yX2_closed yX2_closed, Cond.code yX2_closed cX2_closed 1 (some .int), Cond.methodLink RL 109 yL_taken, Cond.static yL_taken, Cond.codeWith yL_taken cL_taken 4 (some .int) [(0, 9, 12, 13)], Cond.methodLink RL 35 yX1_taken, Cond.instanceMethod yX1_taken, Cond.selects RX1 yX1_taken yX1_taken, Cond.code yX1_taken cX1_taken 2 (some .int), Cond.methodLink RL 112 yX2_taken, Cond.instanceMethod yX2_taken, Cond.selects RX2 yX2_taken yX2_taken, Cond.code yX2_taken cX2_taken 2 (some .int), Cond.methodLink RL 113 yL_takenFrom, Cond.static yL_takenFrom, Cond.codeWith yL_takenFrom cL_takenFrom 5 (some .int) [(0, 10, 13, 13)], Cond.methodLink RL 39 yX1_takenFrom]
def wsL_law0_r14 : List Cond := [Cond.instanceMethod yX1_takenFrom, Cond.selects RX1 yX1_takenFrom yX1_takenFrom, Cond.code yX1_takenFrom cX1_takenFrom 5 (some .int), Cond.methodLink RL 115 yX2_takenFrom, Cond.instanceMethod yX2_takenFrom, Cond.selects RX2 yX2_takenFrom yX2_takenFrom, Cond.code yX2_takenFrom cX2_takenFrom 5 (some .int), Cond.methodLink RL 116 yL_price, Cond.static yL_price, Cond.codeWith yL_price cL_price 4 (some .int) [(0, 9, 12, 13)], Cond.methodLink RL 42 yX1_price, Cond.instanceMethod yX1_price, Cond.selects RX1 yX1_price yX1_price, Cond.code yX1_price cX1_price 2 (some .int), Cond.methodLink RL 118 yX2_price, Cond.instanceMethod yX2_price, Cond.selects RX2 yX2_price yX2_price, Cond.code yX2_price cX2_price 2 (some .int), Cond.methodLink RL 119 yL_least, Cond.static yL_least, Cond.codeWith yL_least cL_least 4 (some .int) [(0, 9, 12, 13)], Cond.methodLink RL 45 yX1_least, Cond.instanceMethod yX1_least, Cond.selects RX1 yX1_least yX1_least]
def wsL_law0_r15 : List Cond := [Cond.code yX1_least cX1_least 2 (some .int), Cond.methodLink RL 121 yX2_least, Cond.instanceMethod yX2_least, Cond.selects RX2 yX2_least yX2_least, Cond.code yX2_least cX2_least 2 (some .int), Cond.methodLink RL 122 yL_shortfall, Cond.static yL_shortfall, Cond.codeWith yL_shortfall cL_shortfall 4 (some .int) [(0, 9, 12, 13), (0, 9, 15, 15)], Cond.methodLink RL 48 yX1_shortfall, Cond.instanceMethod yX1_shortfall, Cond.selects RX1 yX1_shortfall yX1_shortfall, Cond.code yX1_shortfall cX1_shortfall 2 (some .int), Cond.methodLink RX1 118 yX1_requireClosedYear, Cond.instanceMethod yX1_requireClosedYear, Cond.selects RX1 yX1_requireClosedYear yX1_requireClosedYear, Cond.code yX1_requireClosedYear cX1_requireClosedYear 2 none, Cond.methodLink RL 124 yX2_shortfall, Cond.instanceMethod yX2_shortfall, Cond.selects RX2 yX2_shortfall yX2_shortfall, Cond.code yX2_shortfall cX2_shortfall 2 (some .int), Cond.methodLink RX2 126 yX2_isClosed, Cond.instanceMethod yX2_isClosed, Cond.selects RX2 yX2_isClosed yX2_isClosed, Cond.code yX2_isClosed cX2_isClosed 2 (some .boolean)]
def wsL_law0_r16 : List Cond := [Cond.methodLink RL 125 yL_madeUp, Cond.static yL_madeUp, Cond.codeWith yL_madeUp cL_madeUp 4 (some .int) [(0, 9, 12, 13), (0, 9, 15, 15)], Cond.methodLink RL 51 yX1_madeUp, Cond.instanceMethod yX1_madeUp, Cond.selects RX1 yX1_madeUp yX1_madeUp, Cond.code yX1_madeUp cX1_madeUp 2 (some .int), Cond.methodLink RL 127 yX2_madeUp, Cond.instanceMethod yX2_madeUp, Cond.selects RX2 yX2_madeUp yX2_madeUp, Cond.code yX2_madeUp cX2_madeUp 2 (some .int), Cond.methodLink RL 128 yL_covered, Cond.static yL_covered, Cond.codeWith yL_covered cL_covered 4 (some .int) [(0, 9, 12, 13), (0, 9, 15, 15)], Cond.methodLink RL 54 yX1_covered, Cond.instanceMethod yX1_covered, Cond.selects RX1 yX1_covered yX1_covered, Cond.code yX1_covered cX1_covered 2 (some .int), Cond.methodLink RL 130 yX2_covered, Cond.instanceMethod yX2_covered, Cond.selects RX2 yX2_covered yX2_covered, Cond.code yX2_covered cX2_covered 2 (some .int), Cond.methodLink RL 131 yL_surplus, Cond.static yL_surplus]
def wsL_law0_r17 : List Cond := [Cond.codeWith yL_surplus cL_surplus 4 (some .int) [(0, 9, 12, 13), (0, 9, 15, 15)], Cond.methodLink RL 57 yX1_surplus, Cond.instanceMethod yX1_surplus, Cond.selects RX1 yX1_surplus yX1_surplus, Cond.code yX1_surplus cX1_surplus 2 (some .int), Cond.methodLink RL 133 yX2_surplus, Cond.instanceMethod yX2_surplus, Cond.selects RX2 yX2_surplus yX2_surplus, Cond.code yX2_surplus cX2_surplus 2 (some .int), Cond.methodLink RL 134 yL_due, Cond.static yL_due, Cond.codeWith yL_due cL_due 4 (some .int) [(0, 8, 11, 13), (0, 8, 14, 15)], Cond.methodLink RL 60 yX1_due, Cond.instanceMethod yX1_due, Cond.selects RX1 yX1_due yX1_due, Cond.code yX1_due cX1_due 2 (some .long), Cond.methodLink RL 136 yX2_due, Cond.instanceMethod yX2_due, Cond.selects RX2 yX2_due yX2_due, Cond.code yX2_due cX2_due 2 (some .long), Cond.methodLink RL 137 yL_bill, Cond.static yL_bill, Cond.codeWith yL_bill cL_bill 4 (some .int) [(0, 8, 11, 13), (0, 8, 14, 15)], Cond.methodLink RL 64 yX1_bill]
def wsL_law0_r18 : List Cond := [Cond.instanceMethod yX1_bill, Cond.selects RX1 yX1_bill yX1_bill, Cond.code yX1_bill cX1_bill 2 (some .long), Cond.methodLink RL 139 yX2_bill, Cond.instanceMethod yX2_bill, Cond.selects RX2 yX2_bill yX2_bill, Cond.code yX2_bill cX2_bill 2 (some .long), Cond.methodLink RL 140 yL_makeUpLeft, Cond.static yL_makeUpLeft, Cond.codeWith yL_makeUpLeft cL_makeUpLeft 4 (some .int) [(0, 9, 12, 13), (0, 9, 15, 15)], Cond.methodLink RL 67 yX1_makeUpLeft, Cond.instanceMethod yX1_makeUpLeft, Cond.selects RX1 yX1_makeUpLeft yX1_makeUpLeft, Cond.code yX1_makeUpLeft cX1_makeUpLeft 2 (some .int), Cond.methodLink RX1 121 yX0_leftFrom, Cond.instanceMethod yX0_leftFrom, Cond.selects RX0 yX0_leftFrom yX0_leftFrom, Cond.code yX0_leftFrom cX0_leftFrom 2 (some .int), Cond.methodLink RL 142 yX2_makeUpLeft, Cond.instanceMethod yX2_makeUpLeft, Cond.selects RX2 yX2_makeUpLeft yX2_makeUpLeft, Cond.code yX2_makeUpLeft cX2_makeUpLeft 2 (some .int), Cond.methodLink RL 143 yL_surplusLeft, Cond.static yL_surplusLeft]
def wsL_law0_r19 : List Cond := [Cond.codeWith yL_surplusLeft cL_surplusLeft 4 (some .int) [(0, 9, 12, 13), (0, 9, 15, 15)], Cond.methodLink RL 70 yX1_surplusLeft, Cond.instanceMethod yX1_surplusLeft, Cond.selects RX1 yX1_surplusLeft yX1_surplusLeft, Cond.code yX1_surplusLeft cX1_surplusLeft 2 (some .int), Cond.methodLink RL 145 yX2_surplusLeft, Cond.instanceMethod yX2_surplusLeft, Cond.selects RX2 yX2_surplusLeft yX2_surplusLeft, Cond.code yX2_surplusLeft cX2_surplusLeft 2 (some .int), Cond.methodLink RL 146 yX1_lapsed, Cond.instanceMethod yX1_lapsed, Cond.selects RX1 yX1_lapsed yX1_lapsed, Cond.code yX1_lapsed cX1_lapsed 1 (some .int), Cond.methodLink RX1 124 yX0_lapsedInAll, Cond.instanceMethod yX0_lapsedInAll, Cond.selects RX0 yX0_lapsedInAll yX0_lapsedInAll, Cond.code yX0_lapsedInAll cX0_lapsedInAll 1 (some .int), Cond.methodLink RL 149 yX2_lapsed, Cond.instanceMethod yX2_lapsed, Cond.selects RX2 yX2_lapsed yX2_lapsed, Cond.code yX2_lapsed cX2_lapsed 1 (some .int), Cond.methodLink RL 150 yX1_open, Cond.instanceMethod yX1_open, Cond.selects RX1 yX1_open yX1_open]
def wsL_law0_r20 : List Cond := [Cond.code yX1_open cX1_open 1 (some .long), Cond.methodLink RL 153 yX2_open, Cond.instanceMethod yX2_open, Cond.selects RX2 yX2_open yX2_open, Cond.code yX2_open cX2_open 1 (some .long)]
def wsL_law0 : List Cond := (wsL_law0_r1 ++ (wsL_law0_r2 ++ (wsL_law0_r3 ++ (wsL_law0_r4 ++ (wsL_law0_r5 ++ (wsL_law0_r6 ++ (wsL_law0_r7 ++ (wsL_law0_r8 ++ (wsL_law0_r9 ++ (wsL_law0_r10 ++ (wsL_law0_r11 ++ (wsL_law0_r12 ++ (wsL_law0_r13 ++ (wsL_law0_r14 ++ (wsL_law0_r15 ++ (wsL_law0_r16 ++ (wsL_law0_r17 ++ (wsL_law0_r18 ++ (wsL_law0_r19 ++ wsL_law0_r20))))))))))))))))))) ++ wsX10 ++ wsX20 ++ wsX00 ++ ([] : List Cond)
def wsL_law : List Cond := wsL_law0 ++ (vx_atS RX1 132 "java/lang/IllegalArgumentException" ["java/lang/RuntimeException", "java/lang/Exception"]).filter goodWord ++ (vx_atS RX1 139 "java/lang/IllegalStateException" ["java/lang/RuntimeException", "java/lang/Exception"]).filter goodWord
abbrev vwCl : List vw_C := [(RX0, TX0, 3), (RX1, TX1, 17), (RX2, TX2, 20)]
end
section
set_option maxRecDepth 20000 in
theorem wsL_law0_r1_in : ∀ w ∈ wsL_law0_r1, w ∈ lw_tbl := fun w h => (goodIn_p wsL_law0_r1 [40, 43] (by decide +kernel) (by decide +kernel) w h).1
set_option maxRecDepth 20000 in
theorem wsL_law0_r2_in : ∀ w ∈ wsL_law0_r2, w ∈ lw_tbl := fun w h => (goodIn_p wsL_law0_r2 [47, 52, 445] (by decide +kernel) (by decide +kernel) w h).1
set_option maxRecDepth 20000 in
theorem wsL_law0_r3_in : ∀ w ∈ wsL_law0_r3, w ∈ lw_tbl := fun w h => (goodIn_p wsL_law0_r3 [] (by decide +kernel) (by decide +kernel) w h).1
set_option maxRecDepth 20000 in
theorem wsL_law0_r4_in : ∀ w ∈ wsL_law0_r4, w ∈ lw_tbl := fun w h => (goodIn_p wsL_law0_r4 [146, 150, 221, 241, 516] (by decide +kernel) (by decide +kernel) w h).1
set_option maxRecDepth 20000 in
theorem wsL_law0_r5_in : ∀ w ∈ wsL_law0_r5, w ∈ lw_tbl := fun w h => (goodIn_p wsL_law0_r5 [520, 524, 512, 248, 251] (by decide +kernel) (by decide +kernel) w h).1
set_option maxRecDepth 20000 in
theorem wsL_law0_r6_in : ∀ w ∈ wsL_law0_r6, w ∈ lw_tbl := fun w h => (goodIn_p wsL_law0_r6 [255, 259, 264, 268, 273] (by decide +kernel) (by decide +kernel) w h).1
set_option maxRecDepth 20000 in
theorem wsL_law0_r7_in : ∀ w ∈ wsL_law0_r7, w ∈ lw_tbl := fun w h => (goodIn_p wsL_law0_r7 [277, 281, 284, 288, 292, 296] (by decide +kernel) (by decide +kernel) w h).1
set_option maxRecDepth 20000 in
theorem wsL_law0_r8_in : ∀ w ∈ wsL_law0_r8, w ∈ lw_tbl := fun w h => (goodIn_p wsL_law0_r8 [299, 528, 531, 306, 535] (by decide +kernel) (by decide +kernel) w h).1
set_option maxRecDepth 20000 in
theorem wsL_law0_r9_in : ∀ w ∈ wsL_law0_r9, w ∈ lw_tbl := fun w h => (goodIn_p wsL_law0_r9 [313, 316, 320, 325, 330, 539] (by decide +kernel) (by decide +kernel) w h).1
set_option maxRecDepth 20000 in
theorem wsL_law0_r10_in : ∀ w ∈ wsL_law0_r10, w ∈ lw_tbl := fun w h => (goodIn_p wsL_law0_r10 [543, 546, 550, 554, 337, 340] (by decide +kernel) (by decide +kernel) w h).1
set_option maxRecDepth 20000 in
theorem wsL_law0_r11_in : ∀ w ∈ wsL_law0_r11, w ∈ lw_tbl := fun w h => (goodIn_p wsL_law0_r11 [558, 347, 137, 562, 566] (by decide +kernel) (by decide +kernel) w h).1
set_option maxRecDepth 20000 in
theorem wsL_law0_r12_in : ∀ w ∈ wsL_law0_r12, w ∈ lw_tbl := fun w h => (goodIn_p wsL_law0_r12 [570, 574, 578, 583, 587] (by decide +kernel) (by decide +kernel) w h).1
set_option maxRecDepth 20000 in
theorem wsL_law0_r13_in : ∀ w ∈ wsL_law0_r13, w ∈ lw_tbl := fun w h => (goodIn_p wsL_law0_r13 [591, 121, 595, 354, 599] (by decide +kernel) (by decide +kernel) w h).1
set_option maxRecDepth 20000 in
theorem wsL_law0_r14_in : ∀ w ∈ wsL_law0_r14, w ∈ lw_tbl := fun w h => (goodIn_p wsL_law0_r14 [361, 603, 368, 607] (by decide +kernel) (by decide +kernel) w h).1
set_option maxRecDepth 20000 in
theorem wsL_law0_r15_in : ∀ w ∈ wsL_law0_r15, w ∈ lw_tbl := fun w h => (goodIn_p wsL_law0_r15 [375, 611, 382, 386, 615, 619] (by decide +kernel) (by decide +kernel) w h).1
set_option maxRecDepth 20000 in
theorem wsL_law0_r16_in : ∀ w ∈ wsL_law0_r16, w ∈ lw_tbl := fun w h => (goodIn_p wsL_law0_r16 [394, 623, 401, 627] (by decide +kernel) (by decide +kernel) w h).1
set_option maxRecDepth 20000 in
theorem wsL_law0_r17_in : ∀ w ∈ wsL_law0_r17, w ∈ lw_tbl := fun w h => (goodIn_p wsL_law0_r17 [408, 631, 415, 635] (by decide +kernel) (by decide +kernel) w h).1
set_option maxRecDepth 20000 in
theorem wsL_law0_r18_in : ∀ w ∈ wsL_law0_r18, w ∈ lw_tbl := fun w h => (goodIn_p wsL_law0_r18 [422, 639, 429, 433, 643] (by decide +kernel) (by decide +kernel) w h).1
set_option maxRecDepth 20000 in
theorem wsL_law0_r19_in : ∀ w ∈ wsL_law0_r19, w ∈ lw_tbl := fun w h => (goodIn_p wsL_law0_r19 [440, 647, 125, 129, 651] (by decide +kernel) (by decide +kernel) w h).1
set_option maxRecDepth 20000 in
theorem wsL_law0_r20_in : ∀ w ∈ wsL_law0_r20, w ∈ lw_tbl := fun w h => (goodIn_p wsL_law0_r20 [133, 655] (by decide +kernel) (by decide +kernel) w h).1
set_option maxRecDepth 20000 in
theorem wsX10_inT : ∀ w ∈ wsX10, w ∈ lw_tbl := by decide +kernel
set_option maxRecDepth 20000 in
theorem wsX20_inT : ∀ w ∈ wsX20, w ∈ lw_tbl := by decide +kernel
set_option maxRecDepth 20000 in
theorem wsX00_inT : ∀ w ∈ wsX00, w ∈ lw_tbl := by decide +kernel
set_option maxRecDepth 20000 in
theorem wsL_law_in0 : ∀ w ∈ wsL_law0, w ∈ lw_tbl := fun w h => (List.mem_append.mp h).elim (fun h => (List.mem_append.mp h).elim (fun h => (List.mem_append.mp h).elim (fun h => (List.mem_append.mp h).elim (fun h => (List.mem_append.mp h).elim (fun h => wsL_law0_r1_in w h) (fun h => (List.mem_append.mp h).elim (fun h => wsL_law0_r2_in w h) (fun h => (List.mem_append.mp h).elim (fun h => wsL_law0_r3_in w h) (fun h => (List.mem_append.mp h).elim (fun h => wsL_law0_r4_in w h) (fun h => (List.mem_append.mp h).elim (fun h => wsL_law0_r5_in w h) (fun h => (List.mem_append.mp h).elim (fun h => wsL_law0_r6_in w h) (fun h => (List.mem_append.mp h).elim (fun h => wsL_law0_r7_in w h) (fun h => (List.mem_append.mp h).elim (fun h => wsL_law0_r8_in w h) (fun h => (List.mem_append.mp h).elim (fun h => wsL_law0_r9_in w h) (fun h => (List.mem_append.mp h).elim (fun h => wsL_law0_r10_in w h) (fun h => (List.mem_append.mp h).elim (fun h => wsL_law0_r11_in w h) (fun h => (List.mem_append.mp h).elim (fun h => wsL_law0_r12_in w h) (fun h => (List.mem_append.mp h).elim (fun h => wsL_law0_r13_in w h) (fun h => (List.mem_append.mp h).elim (fun h => wsL_law0_r14_in w h) (fun h => (List.mem_append.mp h).elim (fun h => wsL_law0_r15_in w h) (fun h => (List.mem_append.mp h).elim (fun h => wsL_law0_r16_in w h) (fun h => (List.mem_append.mp h).elim (fun h => wsL_law0_r17_in w h) (fun h => (List.mem_append.mp h).elim (fun h => wsL_law0_r18_in w h) (fun h => (List.mem_append.mp h).elim (fun h => wsL_law0_r19_in w h) (fun h => wsL_law0_r20_in w h)))))))))))))))))))) (fun h => wsX10_inT w h)) (fun h => wsX20_inT w h)) (fun h => wsX00_inT w h)) (fun h => absurd h List.not_mem_nil)
end
section
theorem wsL_law_x0 : ∀ w ∈ (vx_atS RX1 132 "java/lang/IllegalArgumentException" ["java/lang/RuntimeException", "java/lang/Exception"]).filter goodWord, w ∈ lw_tbl := by decide +kernel
theorem wsL_law_x1 : ∀ w ∈ (vx_atS RX1 139 "java/lang/IllegalStateException" ["java/lang/RuntimeException", "java/lang/Exception"]).filter goodWord, w ∈ lw_tbl := by decide +kernel
theorem wsL_law_in : ∀ w ∈ wsL_law, w ∈ lw_tbl := fun w h => (List.mem_append.mp h).elim (fun h => (List.mem_append.mp h).elim (fun h => wsL_law_in0 w h) (fun h => wsL_law_x0 w h)) (fun h => wsL_law_x1 w h)
theorem inlX0 : ∀ w ∈ wsX00, w ∈ wsL_law := fun _ h => List.mem_append_left _ (List.mem_append_left _ (List.mem_append_left _ (List.mem_append_right _ h)))
theorem inX0 : ∀ w ∈ wsX00, w ∈ lw_tbl := fun w h => wsL_law_in w (inlX0 w h)
theorem inlX1 : ∀ w ∈ wsX10, w ∈ wsL_law := fun _ h => List.mem_append_left _ (List.mem_append_left _ (List.mem_append_left _ (List.mem_append_left _ (List.mem_append_left _ (List.mem_append_right _ h)))))
theorem inX1 : ∀ w ∈ wsX10, w ∈ lw_tbl := fun w h => wsL_law_in w (inlX1 w h)
theorem inlX2 : ∀ w ∈ wsX20, w ∈ wsL_law := fun _ h => List.mem_append_left _ (List.mem_append_left _ (List.mem_append_left _ (List.mem_append_left _ (List.mem_append_right _ h))))
theorem inX2 : ∀ w ∈ wsX20, w ∈ lw_tbl := fun w h => wsL_law_in w (inlX2 w h)
theorem inJx145de : ∀ w ∈ wsJx145de0, w ∈ lw_tbl := by decide +kernel
theorem inJ9 : ∀ w ∈ wsJ90, w ∈ lw_tbl := by decide +kernel
theorem inJ0 : ∀ w ∈ wsJ00, w ∈ lw_tbl := by decide +kernel
theorem inJ7 : ∀ w ∈ wsJ70, w ∈ lw_tbl := by decide +kernel
theorem dX0_init_0 : decode cX0_init 0 = .ok (.aload_n 0, 1) := by decide +kernel
theorem dX0_init_1 : decode cX0_init 1 = .ok (.invokespecial 3, 3) := by decide +kernel
theorem dX0_init_4 : decode cX0_init 4 = .ok (.aload_n 0, 1) := by decide +kernel
theorem dX0_init_5 : decode cX0_init 5 = .ok (.bipush 20, 2) := by decide +kernel
theorem dX0_init_7 : decode cX0_init 7 = .ok (.newarray .int, 2) := by decide +kernel
theorem dX0_init_9 : decode cX0_init 9 = .ok (.putfield 9, 3) := by decide +kernel
theorem dX0_init_12 : decode cX0_init 12 = .ok (.aload_n 0, 1) := by decide +kernel
theorem dX0_init_13 : decode cX0_init 13 = .ok (.iload_n 1, 1) := by decide +kernel
theorem dX0_init_14 : decode cX0_init 14 = .ok (.putfield 15, 3) := by decide +kernel
theorem dX0_init_17 : decode cX0_init 17 = .ok (.return_, 1) := by decide +kernel
theorem dX0_keepFor_0 : decode cX0_keepFor 0 = .ok (.aload_n 0, 1) := by decide +kernel
theorem dX0_keepFor_1 : decode cX0_keepFor 1 = .ok (.iload_n 1, 1) := by decide +kernel
theorem dX0_keepFor_2 : decode cX0_keepFor 2 = .ok (.putfield 15, 3) := by decide +kernel
theorem dX0_keepFor_5 : decode cX0_keepFor 5 = .ok (.return_, 1) := by decide +kernel
set_option maxRecDepth 20000 in
theorem ggX0_empty_J7_fill_53178 : GoodIn wsX0_empty wsJ7_fill_53178 := goodIn_r _ [6] (by decide +kernel) (by decide +kernel)
set_option maxRecDepth 20000 in
theorem gX0_empty_J7_fill_53178 : GoodIn wsX0_empty (va_wsS RX0 19 yJ7_fill_53178 wsJ7_fill_53178) := goodIn_app (goodIn_of _ (by decide +kernel)) ggX0_empty_J7_fill_53178
theorem dX0_empty_0 : decode cX0_empty 0 = .ok (.aload_n 0, 1) := by decide +kernel
theorem dX0_empty_1 : decode cX0_empty 1 = .ok (.getfield 9, 3) := by decide +kernel
theorem dX0_empty_4 : decode cX0_empty 4 = .ok (.iconst 0, 1) := by decide +kernel
theorem dX0_empty_5 : decode cX0_empty 5 = .ok (.invokestatic 19, 3) := by decide +kernel
theorem dX0_empty_8 : decode cX0_empty 8 = .ok (.aload_n 0, 1) := by decide +kernel
theorem dX0_empty_9 : decode cX0_empty 9 = .ok (.iconst 0, 1) := by decide +kernel
theorem dX0_empty_10 : decode cX0_empty 10 = .ok (.putfield 25, 3) := by decide +kernel
theorem dX0_empty_13 : decode cX0_empty 13 = .ok (.return_, 1) := by decide +kernel
theorem dX0_lapseBefore_0 : decode cX0_lapseBefore 0 = .ok (.iload_n 1, 1) := by decide +kernel
theorem dX0_lapseBefore_1 : decode cX0_lapseBefore 1 = .ok (.aload_n 0, 1) := by decide +kernel
theorem dX0_lapseBefore_2 : decode cX0_lapseBefore 2 = .ok (.getfield 15, 3) := by decide +kernel
theorem dX0_lapseBefore_5 : decode cX0_lapseBefore 5 = .ok (.isub, 1) := by decide +kernel
theorem dX0_lapseBefore_6 : decode cX0_lapseBefore 6 = .ok (.iconst 1, 1) := by decide +kernel
theorem dX0_lapseBefore_7 : decode cX0_lapseBefore 7 = .ok (.isub, 1) := by decide +kernel
theorem dX0_lapseBefore_8 : decode cX0_lapseBefore 8 = .ok (.istore_n 2, 1) := by decide +kernel
theorem dX0_lapseBefore_9 : decode cX0_lapseBefore 9 = .ok (.iload_n 2, 1) := by decide +kernel
theorem dX0_lapseBefore_10 : decode cX0_lapseBefore 10 = .ok (.ifCond .lt 31, 3) := by decide +kernel
theorem dX0_lapseBefore_13 : decode cX0_lapseBefore 13 = .ok (.iload_n 2, 1) := by decide +kernel
theorem dX0_lapseBefore_14 : decode cX0_lapseBefore 14 = .ok (.bipush 20, 2) := by decide +kernel
theorem dX0_lapseBefore_16 : decode cX0_lapseBefore 16 = .ok (.if_icmp .ge 25, 3) := by decide +kernel
theorem dX0_lapseBefore_19 : decode cX0_lapseBefore 19 = .ok (.aload_n 0, 1) := by decide +kernel
theorem dX0_lapseBefore_20 : decode cX0_lapseBefore 20 = .ok (.dup, 1) := by decide +kernel
theorem dX0_lapseBefore_21 : decode cX0_lapseBefore 21 = .ok (.getfield 25, 3) := by decide +kernel
theorem dX0_lapseBefore_24 : decode cX0_lapseBefore 24 = .ok (.aload_n 0, 1) := by decide +kernel
theorem dX0_lapseBefore_25 : decode cX0_lapseBefore 25 = .ok (.getfield 9, 3) := by decide +kernel
theorem dX0_lapseBefore_28 : decode cX0_lapseBefore 28 = .ok (.iload_n 2, 1) := by decide +kernel
theorem dX0_lapseBefore_29 : decode cX0_lapseBefore 29 = .ok (.iaload, 1) := by decide +kernel
theorem dX0_lapseBefore_30 : decode cX0_lapseBefore 30 = .ok (.iadd, 1) := by decide +kernel
theorem dX0_lapseBefore_31 : decode cX0_lapseBefore 31 = .ok (.putfield 25, 3) := by decide +kernel
theorem dX0_lapseBefore_34 : decode cX0_lapseBefore 34 = .ok (.aload_n 0, 1) := by decide +kernel
theorem dX0_lapseBefore_35 : decode cX0_lapseBefore 35 = .ok (.getfield 9, 3) := by decide +kernel
theorem dX0_lapseBefore_38 : decode cX0_lapseBefore 38 = .ok (.iload_n 2, 1) := by decide +kernel
theorem dX0_lapseBefore_39 : decode cX0_lapseBefore 39 = .ok (.iconst 0, 1) := by decide +kernel
theorem dX0_lapseBefore_40 : decode cX0_lapseBefore 40 = .ok (.iastore, 1) := by decide +kernel
theorem dX0_lapseBefore_41 : decode cX0_lapseBefore 41 = .ok (.return_, 1) := by decide +kernel
theorem dX0_put_0 : decode cX0_put 0 = .ok (.aload_n 0, 1) := by decide +kernel
theorem dX0_put_1 : decode cX0_put 1 = .ok (.getfield 9, 3) := by decide +kernel
theorem dX0_put_4 : decode cX0_put 4 = .ok (.iload_n 1, 1) := by decide +kernel
theorem dX0_put_5 : decode cX0_put 5 = .ok (.iload_n 2, 1) := by decide +kernel
theorem dX0_put_6 : decode cX0_put 6 = .ok (.iastore, 1) := by decide +kernel
theorem dX0_put_7 : decode cX0_put 7 = .ok (.return_, 1) := by decide +kernel
theorem dX0_drawFrom_0 : decode cX0_drawFrom 0 = .ok (.iload_n 2, 1) := by decide +kernel
theorem dX0_drawFrom_1 : decode cX0_drawFrom 1 = .ok (.aload_n 0, 1) := by decide +kernel
theorem dX0_drawFrom_2 : decode cX0_drawFrom 2 = .ok (.getfield 9, 3) := by decide +kernel
theorem dX0_drawFrom_5 : decode cX0_drawFrom 5 = .ok (.iload_n 1, 1) := by decide +kernel
theorem dX0_drawFrom_6 : decode cX0_drawFrom 6 = .ok (.iaload, 1) := by decide +kernel
theorem dX0_drawFrom_7 : decode cX0_drawFrom 7 = .ok (.invokestatic 28, 3) := by decide +kernel
theorem dX0_drawFrom_10 : decode cX0_drawFrom 10 = .ok (.istore_n 3, 1) := by decide +kernel
theorem dX0_drawFrom_11 : decode cX0_drawFrom 11 = .ok (.aload_n 0, 1) := by decide +kernel
theorem dX0_drawFrom_12 : decode cX0_drawFrom 12 = .ok (.getfield 9, 3) := by decide +kernel
theorem dX0_drawFrom_15 : decode cX0_drawFrom 15 = .ok (.iload_n 1, 1) := by decide +kernel
theorem dX0_drawFrom_16 : decode cX0_drawFrom 16 = .ok (.dup2, 1) := by decide +kernel
theorem dX0_drawFrom_17 : decode cX0_drawFrom 17 = .ok (.iaload, 1) := by decide +kernel
theorem dX0_drawFrom_18 : decode cX0_drawFrom 18 = .ok (.iload_n 3, 1) := by decide +kernel
theorem dX0_drawFrom_19 : decode cX0_drawFrom 19 = .ok (.isub, 1) := by decide +kernel
theorem dX0_drawFrom_20 : decode cX0_drawFrom 20 = .ok (.iastore, 1) := by decide +kernel
theorem dX0_drawFrom_21 : decode cX0_drawFrom 21 = .ok (.iload_n 3, 1) := by decide +kernel
theorem dX0_drawFrom_22 : decode cX0_drawFrom 22 = .ok (.ireturn, 1) := by decide +kernel
theorem dX0_leftFrom_0 : decode cX0_leftFrom 0 = .ok (.aload_n 0, 1) := by decide +kernel
theorem dX0_leftFrom_1 : decode cX0_leftFrom 1 = .ok (.getfield 9, 3) := by decide +kernel
theorem dX0_leftFrom_4 : decode cX0_leftFrom 4 = .ok (.iload_n 1, 1) := by decide +kernel
theorem dX0_leftFrom_5 : decode cX0_leftFrom 5 = .ok (.iaload, 1) := by decide +kernel
theorem dX0_leftFrom_6 : decode cX0_leftFrom 6 = .ok (.ireturn, 1) := by decide +kernel
theorem dX0_lapsedInAll_0 : decode cX0_lapsedInAll 0 = .ok (.aload_n 0, 1) := by decide +kernel
theorem dX0_lapsedInAll_1 : decode cX0_lapsedInAll 1 = .ok (.getfield 25, 3) := by decide +kernel
theorem dX0_lapsedInAll_4 : decode cX0_lapsedInAll 4 = .ok (.ireturn, 1) := by decide +kernel
set_option maxRecDepth 20000 in
theorem ggX1_init_J7_fill_53178 : GoodIn wsX1_init wsJ7_fill_53178 := goodIn_r _ [28] (by decide +kernel) (by decide +kernel)
set_option maxRecDepth 20000 in
theorem gX1_init_J7_fill_53178 : GoodIn wsX1_init (va_wsS RX1 24 yJ7_fill_53178 wsJ7_fill_53178) := goodIn_app (goodIn_of _ (by decide +kernel)) ggX1_init_J7_fill_53178
set_option maxRecDepth 20000 in
theorem ggX1_init_X0_init : GoodIn wsX1_init wsX0_init := goodIn_r _ [31, 32, 2, 3, 8, 33, 34, 52, 53, 54] (by decide +kernel) (by decide +kernel)
set_option maxRecDepth 20000 in
theorem gX1_init_X0_init : GoodIn wsX1_init (wsX0_init) := ggX1_init_X0_init
theorem dX1_init_0 : decode cX1_init 0 = .ok (.aload_n 0, 1) := by decide +kernel
theorem dX1_init_1 : decode cX1_init 1 = .ok (.invokespecial 1, 3) := by decide +kernel
theorem dX1_init_4 : decode cX1_init 4 = .ok (.aload_n 0, 1) := by decide +kernel
theorem dX1_init_5 : decode cX1_init 5 = .ok (.ldc 9, 2) := by decide +kernel
theorem dX1_init_7 : decode cX1_init 7 = .ok (.putfield 10, 3) := by decide +kernel
theorem dX1_init_10 : decode cX1_init 10 = .ok (.aload_n 0, 1) := by decide +kernel
theorem dX1_init_11 : decode cX1_init 11 = .ok (.bipush 80, 2) := by decide +kernel
theorem dX1_init_13 : decode cX1_init 13 = .ok (.putfield 14, 3) := by decide +kernel
theorem dX1_init_16 : decode cX1_init 16 = .ok (.aload_n 0, 1) := by decide +kernel
theorem dX1_init_17 : decode cX1_init 17 = .ok (.bipush 100, 2) := by decide +kernel
theorem dX1_init_19 : decode cX1_init 19 = .ok (.putfield 17, 3) := by decide +kernel
theorem dX1_init_22 : decode cX1_init 22 = .ok (.aload_n 0, 1) := by decide +kernel
theorem dX1_init_23 : decode cX1_init 23 = .ok (.bipush 20, 2) := by decide +kernel
theorem dX1_init_25 : decode cX1_init 25 = .ok (.newarray .int, 2) := by decide +kernel
theorem dX1_init_27 : decode cX1_init 27 = .ok (.putfield 20, 3) := by decide +kernel
theorem dX1_init_30 : decode cX1_init 30 = .ok (.aload_n 0, 1) := by decide +kernel
theorem dX1_init_31 : decode cX1_init 31 = .ok (.getfield 20, 3) := by decide +kernel
theorem dX1_init_34 : decode cX1_init 34 = .ok (.bipush 100, 2) := by decide +kernel
theorem dX1_init_36 : decode cX1_init 36 = .ok (.invokestatic 24, 3) := by decide +kernel
theorem dX1_init_39 : decode cX1_init 39 = .ok (.aload_n 0, 1) := by decide +kernel
theorem dX1_init_40 : decode cX1_init 40 = .ok (.bipush 20, 2) := by decide +kernel
theorem dX1_init_42 : decode cX1_init 42 = .ok (.newarray .int, 2) := by decide +kernel
theorem dX1_init_44 : decode cX1_init 44 = .ok (.putfield 30, 3) := by decide +kernel
theorem dX1_init_47 : decode cX1_init 47 = .ok (.aload_n 0, 1) := by decide +kernel
theorem dX1_init_48 : decode cX1_init 48 = .ok (.sipush 360, 3) := by decide +kernel
theorem dX1_init_51 : decode cX1_init 51 = .ok (.newarray .int, 2) := by decide +kernel
theorem dX1_init_53 : decode cX1_init 53 = .ok (.putfield 33, 3) := by decide +kernel
theorem dX1_init_56 : decode cX1_init 56 = .ok (.aload_n 0, 1) := by decide +kernel
theorem dX1_init_57 : decode cX1_init 57 = .ok (.bipush 20, 2) := by decide +kernel
theorem dX1_init_59 : decode cX1_init 59 = .ok (.newarray .int, 2) := by decide +kernel
theorem dX1_init_61 : decode cX1_init 61 = .ok (.putfield 36, 3) := by decide +kernel
theorem dX1_init_64 : decode cX1_init 64 = .ok (.aload_n 0, 1) := by decide +kernel
theorem dX1_init_65 : decode cX1_init 65 = .ok (.new 39, 3) := by decide +kernel
theorem dX1_init_68 : decode cX1_init 68 = .ok (.dup, 1) := by decide +kernel
theorem dX1_init_69 : decode cX1_init 69 = .ok (.iconst 3, 1) := by decide +kernel
theorem dX1_init_70 : decode cX1_init 70 = .ok (.invokespecial 41, 3) := by decide +kernel
theorem dX1_init_73 : decode cX1_init 73 = .ok (.putfield 44, 3) := by decide +kernel
theorem dX1_init_76 : decode cX1_init 76 = .ok (.aload_n 0, 1) := by decide +kernel
theorem dX1_init_77 : decode cX1_init 77 = .ok (.new 39, 3) := by decide +kernel
theorem dX1_init_80 : decode cX1_init 80 = .ok (.dup, 1) := by decide +kernel
theorem dX1_init_81 : decode cX1_init 81 = .ok (.iconst 2, 1) := by decide +kernel
theorem dX1_init_82 : decode cX1_init 82 = .ok (.invokespecial 41, 3) := by decide +kernel
theorem dX1_init_85 : decode cX1_init 85 = .ok (.putfield 48, 3) := by decide +kernel
theorem dX1_init_88 : decode cX1_init 88 = .ok (.aload_n 0, 1) := by decide +kernel
theorem dX1_init_89 : decode cX1_init 89 = .ok (.bipush 20, 2) := by decide +kernel
theorem dX1_init_91 : decode cX1_init 91 = .ok (.newarray .int, 2) := by decide +kernel
theorem dX1_init_93 : decode cX1_init 93 = .ok (.putfield 51, 3) := by decide +kernel
theorem dX1_init_96 : decode cX1_init 96 = .ok (.aload_n 0, 1) := by decide +kernel
theorem dX1_init_97 : decode cX1_init 97 = .ok (.bipush 20, 2) := by decide +kernel
theorem dX1_init_99 : decode cX1_init 99 = .ok (.newarray .int, 2) := by decide +kernel
theorem dX1_init_101 : decode cX1_init 101 = .ok (.putfield 54, 3) := by decide +kernel
theorem dX1_init_104 : decode cX1_init 104 = .ok (.aload_n 0, 1) := by decide +kernel
theorem dX1_init_105 : decode cX1_init 105 = .ok (.bipush 20, 2) := by decide +kernel
theorem dX1_init_107 : decode cX1_init 107 = .ok (.newarray .int, 2) := by decide +kernel
theorem dX1_init_109 : decode cX1_init 109 = .ok (.putfield 57, 3) := by decide +kernel
theorem dX1_init_112 : decode cX1_init 112 = .ok (.aload_n 0, 1) := by decide +kernel
theorem dX1_init_113 : decode cX1_init 113 = .ok (.bipush 20, 2) := by decide +kernel
theorem dX1_init_115 : decode cX1_init 115 = .ok (.newarray .int, 2) := by decide +kernel
theorem dX1_init_117 : decode cX1_init 117 = .ok (.putfield 60, 3) := by decide +kernel
theorem dX1_init_120 : decode cX1_init 120 = .ok (.aload_n 0, 1) := by decide +kernel
theorem dX1_init_121 : decode cX1_init 121 = .ok (.bipush 20, 2) := by decide +kernel
theorem dX1_init_123 : decode cX1_init 123 = .ok (.newarray .long, 2) := by decide +kernel
theorem dX1_init_125 : decode cX1_init 125 = .ok (.putfield 63, 3) := by decide +kernel
theorem dX1_init_128 : decode cX1_init 128 = .ok (.aload_n 0, 1) := by decide +kernel
theorem dX1_init_129 : decode cX1_init 129 = .ok (.bipush 20, 2) := by decide +kernel
theorem dX1_init_131 : decode cX1_init 131 = .ok (.newarray .long, 2) := by decide +kernel
theorem dX1_init_133 : decode cX1_init 133 = .ok (.putfield 67, 3) := by decide +kernel
theorem dX1_init_136 : decode cX1_init 136 = .ok (.return_, 1) := by decide +kernel
set_option maxRecDepth 20000 in
theorem ggX1_set_X1_requireRange : GoodIn wsX1_set wsX1_requireRange := goodIn_ca (goodIn_r _ [10, 11, 12] (by decide +kernel) (by decide +kernel)) (goodIn_sub (fun _ h => List.mem_cons_of_mem _ (List.mem_append_left _ (List.mem_append_right _ h))) (by decide +kernel))
set_option maxRecDepth 20000 in
theorem gX1_set_X1_requireRange : GoodIn wsX1_set (va_wsS RX1 71 yX1_requireRange wsX1_requireRange) := goodIn_app (goodIn_of _ (by decide +kernel)) ggX1_set_X1_requireRange
set_option maxRecDepth 20000 in
theorem ggX1_set_X1_requireUnused : GoodIn wsX1_set wsX1_requireUnused := goodIn_ca (goodIn_r _ [16, 17, 18, 19, 20, 27, 28, 29, 30, 31, 32, 33, 34, 35, 36, 37, 38, 39, 40, 41, 42, 43] (by decide +kernel) (by decide +kernel)) (goodIn_sub (fun _ h => List.mem_cons_of_mem _ (List.mem_append_right _ h)) (by decide +kernel))
set_option maxRecDepth 20000 in
theorem gX1_set_X1_requireUnused : GoodIn wsX1_set (wsV RX1 75 RX1 yX1_requireUnused wsX1_requireUnused) := goodIn_app (goodIn_of _ (by decide +kernel)) ggX1_set_X1_requireUnused
set_option maxRecDepth 20000 in
theorem ggX1_set_X0_keepFor : GoodIn wsX1_set wsX0_keepFor := goodIn_r _ [25, 26, 44, 45, 46] (by decide +kernel) (by decide +kernel)
set_option maxRecDepth 20000 in
theorem gX1_set_X0_keepFor : GoodIn wsX1_set (wsV RX1 78 RX0 yX0_keepFor wsX0_keepFor) := goodIn_app (goodIn_of _ (by decide +kernel)) ggX1_set_X0_keepFor
theorem dX1_set_0 : decode cX1_set 0 = .ok (.iload_n 1, 1) := by decide +kernel
theorem dX1_set_1 : decode cX1_set 1 = .ok (.iconst 1, 1) := by decide +kernel
theorem dX1_set_2 : decode cX1_set 2 = .ok (.ldc 70, 2) := by decide +kernel
theorem dX1_set_4 : decode cX1_set 4 = .ok (.invokestatic 71, 3) := by decide +kernel
theorem dX1_set_7 : decode cX1_set 7 = .ok (.iload_n 2, 1) := by decide +kernel
theorem dX1_set_8 : decode cX1_set 8 = .ok (.iconst 0, 1) := by decide +kernel
theorem dX1_set_9 : decode cX1_set 9 = .ok (.bipush 100, 2) := by decide +kernel
theorem dX1_set_11 : decode cX1_set 11 = .ok (.invokestatic 71, 3) := by decide +kernel
theorem dX1_set_14 : decode cX1_set 14 = .ok (.iload_n 3, 1) := by decide +kernel
theorem dX1_set_15 : decode cX1_set 15 = .ok (.iconst 0, 1) := by decide +kernel
theorem dX1_set_16 : decode cX1_set 16 = .ok (.bipush 100, 2) := by decide +kernel
theorem dX1_set_18 : decode cX1_set 18 = .ok (.invokestatic 71, 3) := by decide +kernel
theorem dX1_set_21 : decode cX1_set 21 = .ok (.iload 4, 2) := by decide +kernel
theorem dX1_set_23 : decode cX1_set 23 = .ok (.iconst 1, 1) := by decide +kernel
theorem dX1_set_24 : decode cX1_set 24 = .ok (.iconst 5, 1) := by decide +kernel
theorem dX1_set_25 : decode cX1_set 25 = .ok (.invokestatic 71, 3) := by decide +kernel
theorem dX1_set_28 : decode cX1_set 28 = .ok (.iload 5, 2) := by decide +kernel
theorem dX1_set_30 : decode cX1_set 30 = .ok (.iconst 1, 1) := by decide +kernel
theorem dX1_set_31 : decode cX1_set 31 = .ok (.iconst 5, 1) := by decide +kernel
theorem dX1_set_32 : decode cX1_set 32 = .ok (.invokestatic 71, 3) := by decide +kernel
theorem dX1_set_35 : decode cX1_set 35 = .ok (.aload_n 0, 1) := by decide +kernel
theorem dX1_set_36 : decode cX1_set 36 = .ok (.invokevirtual 75, 3) := by decide +kernel
theorem dX1_set_39 : decode cX1_set 39 = .ok (.aload_n 0, 1) := by decide +kernel
theorem dX1_set_40 : decode cX1_set 40 = .ok (.iload_n 1, 1) := by decide +kernel
theorem dX1_set_41 : decode cX1_set 41 = .ok (.putfield 10, 3) := by decide +kernel
theorem dX1_set_44 : decode cX1_set 44 = .ok (.aload_n 0, 1) := by decide +kernel
theorem dX1_set_45 : decode cX1_set 45 = .ok (.iload_n 2, 1) := by decide +kernel
theorem dX1_set_46 : decode cX1_set 46 = .ok (.putfield 14, 3) := by decide +kernel
theorem dX1_set_49 : decode cX1_set 49 = .ok (.aload_n 0, 1) := by decide +kernel
theorem dX1_set_50 : decode cX1_set 50 = .ok (.iload_n 3, 1) := by decide +kernel
theorem dX1_set_51 : decode cX1_set 51 = .ok (.putfield 17, 3) := by decide +kernel
theorem dX1_set_54 : decode cX1_set 54 = .ok (.aload_n 0, 1) := by decide +kernel
theorem dX1_set_55 : decode cX1_set 55 = .ok (.getfield 44, 3) := by decide +kernel
theorem dX1_set_58 : decode cX1_set 58 = .ok (.iload 4, 2) := by decide +kernel
theorem dX1_set_60 : decode cX1_set 60 = .ok (.invokevirtual 78, 3) := by decide +kernel
theorem dX1_set_63 : decode cX1_set 63 = .ok (.aload_n 0, 1) := by decide +kernel
theorem dX1_set_64 : decode cX1_set 64 = .ok (.getfield 48, 3) := by decide +kernel
theorem dX1_set_67 : decode cX1_set 67 = .ok (.iload 5, 2) := by decide +kernel
theorem dX1_set_69 : decode cX1_set 69 = .ok (.invokevirtual 78, 3) := by decide +kernel
theorem dX1_set_72 : decode cX1_set 72 = .ok (.return_, 1) := by decide +kernel
set_option maxRecDepth 20000 in
theorem ggX1_review_X1_requireYear : GoodIn wsX1_review wsX1_requireYear := goodIn_ca (goodIn_r _ [5, 6, 7, 4, 8, 9, 10] (by decide +kernel) (by decide +kernel)) (goodIn_sub (fun _ h => List.mem_cons_of_mem _ (List.mem_append_right _ h)) (by decide +kernel))
set_option maxRecDepth 20000 in
theorem gX1_review_X1_requireYear : GoodIn wsX1_review (va_wsS RX1 81 yX1_requireYear wsX1_requireYear) := goodIn_app (goodIn_of _ (by decide +kernel)) ggX1_review_X1_requireYear
set_option maxRecDepth 20000 in
theorem ggX1_review_X1_requireRange : GoodIn wsX1_review wsX1_requireRange := goodIn_ca (goodIn_r _ [8, 9, 10] (by decide +kernel) (by decide +kernel)) (goodIn_sub (fun _ h => List.mem_cons_of_mem _ (List.mem_append_right _ h)) (by decide +kernel))
set_option maxRecDepth 20000 in
theorem gX1_review_X1_requireRange : GoodIn wsX1_review (va_wsS RX1 71 yX1_requireRange wsX1_requireRange) := goodIn_app (goodIn_of _ (by decide +kernel)) ggX1_review_X1_requireRange
set_option maxRecDepth 20000 in
theorem ggX1_review_X1_settleClosedYears : GoodIn wsX1_review wsX1_settleClosedYears := goodIn_r _ [14, 15, 16, 17, 18, 19, 20, 21, 22, 23, 24, 25, 26, 27, 28, 29, 30, 31, 32, 33, 34, 35, 36, 37, 4, 38, 39, 40, 41, 42, 43, 44, 45, 46, 47, 48, 49, 50, 51, 1, 52, 53, 54, 55, 56, 57, 58, 59, 60, 61, 62, 63, 64, 65, 66, 67, 68, 69, 70, 71, 72, 73, 74, 75, 76, 77, 78, 79, 80, 81, 82, 83, 84, 85, 86, 87, 88, 89, 90, 91, 92, 93, 94, 95, 96, 97, 98, 99] (by decide +kernel) (by decide +kernel)
set_option maxRecDepth 20000 in
theorem gX1_review_X1_settleClosedYears : GoodIn wsX1_review (wsV RX1 84 RX1 yX1_settleClosedYears wsX1_settleClosedYears) := goodIn_app (goodIn_of _ (by decide +kernel)) ggX1_review_X1_settleClosedYears
theorem dX1_review_0 : decode cX1_review 0 = .ok (.iload_n 1, 1) := by decide +kernel
theorem dX1_review_1 : decode cX1_review 1 = .ok (.invokestatic 81, 3) := by decide +kernel
theorem dX1_review_4 : decode cX1_review 4 = .ok (.iload_n 2, 1) := by decide +kernel
theorem dX1_review_5 : decode cX1_review 5 = .ok (.iconst 1, 1) := by decide +kernel
theorem dX1_review_6 : decode cX1_review 6 = .ok (.sipush 1000, 3) := by decide +kernel
theorem dX1_review_9 : decode cX1_review 9 = .ok (.invokestatic 71, 3) := by decide +kernel
theorem dX1_review_12 : decode cX1_review 12 = .ok (.aload_n 0, 1) := by decide +kernel
theorem dX1_review_13 : decode cX1_review 13 = .ok (.getfield 20, 3) := by decide +kernel
theorem dX1_review_16 : decode cX1_review 16 = .ok (.iload_n 1, 1) := by decide +kernel
theorem dX1_review_17 : decode cX1_review 17 = .ok (.iaload, 1) := by decide +kernel
theorem dX1_review_18 : decode cX1_review 18 = .ok (.istore_n 3, 1) := by decide +kernel
theorem dX1_review_19 : decode cX1_review 19 = .ok (.iload_n 1, 1) := by decide +kernel
theorem dX1_review_20 : decode cX1_review 20 = .ok (.istore 4, 2) := by decide +kernel
theorem dX1_review_22 : decode cX1_review 22 = .ok (.iload 4, 2) := by decide +kernel
theorem dX1_review_24 : decode cX1_review 24 = .ok (.bipush 20, 2) := by decide +kernel
theorem dX1_review_26 : decode cX1_review 26 = .ok (.if_icmp .ge 17, 3) := by decide +kernel
theorem dX1_review_29 : decode cX1_review 29 = .ok (.aload_n 0, 1) := by decide +kernel
theorem dX1_review_30 : decode cX1_review 30 = .ok (.getfield 20, 3) := by decide +kernel
theorem dX1_review_33 : decode cX1_review 33 = .ok (.iload 4, 2) := by decide +kernel
theorem dX1_review_35 : decode cX1_review 35 = .ok (.iload_n 2, 1) := by decide +kernel
theorem dX1_review_36 : decode cX1_review 36 = .ok (.iastore, 1) := by decide +kernel
theorem dX1_review_37 : decode cX1_review 37 = .ok (.iinc 4 1, 3) := by decide +kernel
theorem dX1_review_40 : decode cX1_review 40 = .ok (.goto (-18), 3) := by decide +kernel
theorem dX1_review_43 : decode cX1_review 43 = .ok (.aload_n 0, 1) := by decide +kernel
theorem dX1_review_44 : decode cX1_review 44 = .ok (.invokevirtual 84, 3) := by decide +kernel
theorem dX1_review_47 : decode cX1_review 47 = .ok (.iload_n 3, 1) := by decide +kernel
theorem dX1_review_48 : decode cX1_review 48 = .ok (.ireturn, 1) := by decide +kernel
set_option maxRecDepth 20000 in
theorem ggX1_excuse_X1_requireYear : GoodIn wsX1_excuse wsX1_requireYear := goodIn_ca (goodIn_r _ [5, 6, 7, 4, 8, 9, 10] (by decide +kernel) (by decide +kernel)) (goodIn_sub (fun _ h => List.mem_cons_of_mem _ (List.mem_append_right _ h)) (by decide +kernel))
set_option maxRecDepth 20000 in
theorem gX1_excuse_X1_requireYear : GoodIn wsX1_excuse (va_wsS RX1 81 yX1_requireYear wsX1_requireYear) := goodIn_app (goodIn_of _ (by decide +kernel)) ggX1_excuse_X1_requireYear
set_option maxRecDepth 20000 in
theorem ggX1_excuse_X1_requireRange : GoodIn wsX1_excuse wsX1_requireRange := goodIn_ca (goodIn_r _ [8, 9, 10] (by decide +kernel) (by decide +kernel)) (goodIn_sub (fun _ h => List.mem_cons_of_mem _ (List.mem_append_right _ h)) (by decide +kernel))
set_option maxRecDepth 20000 in
theorem gX1_excuse_X1_requireRange : GoodIn wsX1_excuse (va_wsS RX1 71 yX1_requireRange wsX1_requireRange) := goodIn_app (goodIn_of _ (by decide +kernel)) ggX1_excuse_X1_requireRange
set_option maxRecDepth 20000 in
theorem ggX1_excuse_X1_settleClosedYears : GoodIn wsX1_excuse wsX1_settleClosedYears := goodIn_r _ [14, 15, 16, 17, 18, 19, 20, 21, 22, 23, 24, 25, 26, 27, 28, 29, 30, 31, 32, 33, 34, 35, 36, 37, 4, 38, 39, 40, 1, 41, 42, 43, 44, 45, 46, 47, 48, 49, 50, 51, 52, 53, 54, 55, 56, 57, 58, 59, 60, 61, 62, 63, 64, 65, 66, 67, 68, 69, 70, 71, 72, 73, 74, 75, 76, 77, 78, 79, 80, 81, 82, 83, 84, 85, 86, 87, 88, 89, 90, 91, 92, 93, 94, 95, 96, 97, 98, 99] (by decide +kernel) (by decide +kernel)
set_option maxRecDepth 20000 in
theorem gX1_excuse_X1_settleClosedYears : GoodIn wsX1_excuse (wsV RX1 84 RX1 yX1_settleClosedYears wsX1_settleClosedYears) := goodIn_app (goodIn_of _ (by decide +kernel)) ggX1_excuse_X1_settleClosedYears
theorem dX1_excuse_0 : decode cX1_excuse 0 = .ok (.iload_n 1, 1) := by decide +kernel
theorem dX1_excuse_1 : decode cX1_excuse 1 = .ok (.invokestatic 81, 3) := by decide +kernel
theorem dX1_excuse_4 : decode cX1_excuse 4 = .ok (.iload_n 2, 1) := by decide +kernel
theorem dX1_excuse_5 : decode cX1_excuse 5 = .ok (.iconst 0, 1) := by decide +kernel
theorem dX1_excuse_6 : decode cX1_excuse 6 = .ok (.sipush 360, 3) := by decide +kernel
theorem dX1_excuse_9 : decode cX1_excuse 9 = .ok (.invokestatic 71, 3) := by decide +kernel
theorem dX1_excuse_12 : decode cX1_excuse 12 = .ok (.aload_n 0, 1) := by decide +kernel
theorem dX1_excuse_13 : decode cX1_excuse 13 = .ok (.getfield 30, 3) := by decide +kernel
theorem dX1_excuse_16 : decode cX1_excuse 16 = .ok (.iload_n 1, 1) := by decide +kernel
theorem dX1_excuse_17 : decode cX1_excuse 17 = .ok (.iaload, 1) := by decide +kernel
theorem dX1_excuse_18 : decode cX1_excuse 18 = .ok (.istore_n 3, 1) := by decide +kernel
theorem dX1_excuse_19 : decode cX1_excuse 19 = .ok (.aload_n 0, 1) := by decide +kernel
theorem dX1_excuse_20 : decode cX1_excuse 20 = .ok (.getfield 30, 3) := by decide +kernel
theorem dX1_excuse_23 : decode cX1_excuse 23 = .ok (.iload_n 1, 1) := by decide +kernel
theorem dX1_excuse_24 : decode cX1_excuse 24 = .ok (.iload_n 2, 1) := by decide +kernel
theorem dX1_excuse_25 : decode cX1_excuse 25 = .ok (.iastore, 1) := by decide +kernel
theorem dX1_excuse_26 : decode cX1_excuse 26 = .ok (.aload_n 0, 1) := by decide +kernel
theorem dX1_excuse_27 : decode cX1_excuse 27 = .ok (.invokevirtual 84, 3) := by decide +kernel
theorem dX1_excuse_30 : decode cX1_excuse 30 = .ok (.iload_n 3, 1) := by decide +kernel
theorem dX1_excuse_31 : decode cX1_excuse 31 = .ok (.ireturn, 1) := by decide +kernel
set_option maxRecDepth 20000 in
theorem ggX1_take_X1_requireDay : GoodIn wsX1_take wsX1_requireDay := goodIn_ca (goodIn_r _ [5, 6, 7, 4, 8, 9, 10] (by decide +kernel) (by decide +kernel)) (goodIn_sub (fun _ h => List.mem_cons_of_mem _ (List.mem_append_left _ (List.mem_append_right _ h))) (by decide +kernel))
set_option maxRecDepth 20000 in
theorem gX1_take_X1_requireDay : GoodIn wsX1_take (va_wsS RX1 87 yX1_requireDay wsX1_requireDay) := goodIn_app (goodIn_of _ (by decide +kernel)) ggX1_take_X1_requireDay
set_option maxRecDepth 20000 in
theorem ggX1_take_X1_requireRange : GoodIn wsX1_take wsX1_requireRange := goodIn_ca (goodIn_r _ [8, 9, 10] (by decide +kernel) (by decide +kernel)) (goodIn_sub (fun _ h => List.mem_cons_of_mem _ (List.mem_append_left _ (List.mem_append_right _ h))) (by decide +kernel))
set_option maxRecDepth 20000 in
theorem gX1_take_X1_requireRange : GoodIn wsX1_take (va_wsS RX1 71 yX1_requireRange wsX1_requireRange) := goodIn_app (goodIn_of _ (by decide +kernel)) ggX1_take_X1_requireRange
set_option maxRecDepth 20000 in
theorem ggX1_take_X1_requireYearGoingOn : GoodIn wsX1_take wsX1_requireYearGoingOn := goodIn_ca (goodIn_r _ [14, 15, 16, 17, 27, 28, 29, 30, 31, 32, 33, 34, 35, 36, 37, 38, 39, 40, 41, 42, 43] (by decide +kernel) (by decide +kernel)) (goodIn_sub (fun _ h => List.mem_cons_of_mem _ (List.mem_append_right _ h)) (by decide +kernel))
set_option maxRecDepth 20000 in
theorem gX1_take_X1_requireYearGoingOn : GoodIn wsX1_take (wsV RX1 90 RX1 yX1_requireYearGoingOn wsX1_requireYearGoingOn) := goodIn_app (goodIn_of _ (by decide +kernel)) ggX1_take_X1_requireYearGoingOn
set_option maxRecDepth 20000 in
theorem ggX1_take_X1_requireRoom : GoodIn wsX1_take wsX1_requireRoom := goodIn_ca (goodIn_r _ [21, 15, 16, 1, 27, 28, 29, 30, 31, 32, 33, 34, 35, 36, 37, 38, 39, 40, 41, 42, 43] (by decide +kernel) (by decide +kernel)) (goodIn_sub (fun _ h => List.mem_cons_of_mem _ (List.mem_append_right _ h)) (by decide +kernel))
set_option maxRecDepth 20000 in
theorem gX1_take_X1_requireRoom : GoodIn wsX1_take (wsV RX1 93 RX1 yX1_requireRoom wsX1_requireRoom) := goodIn_app (goodIn_of _ (by decide +kernel)) ggX1_take_X1_requireRoom
set_option maxRecDepth 20000 in
theorem ggX1_take_X1_addTakes : GoodIn wsX1_take wsX1_addTakes := goodIn_r _ [25, 1, 26, 17, 27, 28, 29, 30, 31, 32, 33, 34, 35, 36, 37, 38, 39, 40, 41, 42, 43] (by decide +kernel) (by decide +kernel)
set_option maxRecDepth 20000 in
theorem gX1_take_X1_addTakes : GoodIn wsX1_take (wsV RX1 96 RX1 yX1_addTakes wsX1_addTakes) := goodIn_app (goodIn_of _ (by decide +kernel)) ggX1_take_X1_addTakes
theorem dX1_take_0 : decode cX1_take 0 = .ok (.iload_n 1, 1) := by decide +kernel
theorem dX1_take_1 : decode cX1_take 1 = .ok (.invokestatic 87, 3) := by decide +kernel
theorem dX1_take_4 : decode cX1_take 4 = .ok (.iload_n 2, 1) := by decide +kernel
theorem dX1_take_5 : decode cX1_take 5 = .ok (.iconst 1, 1) := by decide +kernel
theorem dX1_take_6 : decode cX1_take 6 = .ok (.sipush 500, 3) := by decide +kernel
theorem dX1_take_9 : decode cX1_take 9 = .ok (.invokestatic 71, 3) := by decide +kernel
theorem dX1_take_12 : decode cX1_take 12 = .ok (.aload_n 0, 1) := by decide +kernel
theorem dX1_take_13 : decode cX1_take 13 = .ok (.invokevirtual 90, 3) := by decide +kernel
theorem dX1_take_16 : decode cX1_take 16 = .ok (.aload_n 0, 1) := by decide +kernel
theorem dX1_take_17 : decode cX1_take 17 = .ok (.iload_n 1, 1) := by decide +kernel
theorem dX1_take_18 : decode cX1_take 18 = .ok (.iload_n 1, 1) := by decide +kernel
theorem dX1_take_19 : decode cX1_take 19 = .ok (.iload_n 2, 1) := by decide +kernel
theorem dX1_take_20 : decode cX1_take 20 = .ok (.invokevirtual 93, 3) := by decide +kernel
theorem dX1_take_23 : decode cX1_take 23 = .ok (.aload_n 0, 1) := by decide +kernel
theorem dX1_take_24 : decode cX1_take 24 = .ok (.iload_n 1, 1) := by decide +kernel
theorem dX1_take_25 : decode cX1_take 25 = .ok (.iload_n 1, 1) := by decide +kernel
theorem dX1_take_26 : decode cX1_take 26 = .ok (.iload_n 2, 1) := by decide +kernel
theorem dX1_take_27 : decode cX1_take 27 = .ok (.invokevirtual 96, 3) := by decide +kernel
theorem dX1_take_30 : decode cX1_take 30 = .ok (.aload_n 0, 1) := by decide +kernel
theorem dX1_take_31 : decode cX1_take 31 = .ok (.getfield 33, 3) := by decide +kernel
theorem dX1_take_34 : decode cX1_take 34 = .ok (.iload_n 1, 1) := by decide +kernel
theorem dX1_take_35 : decode cX1_take 35 = .ok (.iaload, 1) := by decide +kernel
theorem dX1_take_36 : decode cX1_take 36 = .ok (.ireturn, 1) := by decide +kernel
set_option maxRecDepth 20000 in
theorem ggX1_takeDaily_X1_requireDays : GoodIn wsX1_takeDaily wsX1_requireDays := goodIn_ca (goodIn_r _ [6, 7, 8, 5, 9, 10, 11, 12, 13, 14] (by decide +kernel) (by decide +kernel)) (goodIn_sub (fun _ h => List.mem_cons_of_mem _ (List.mem_append_left _ (List.mem_append_right _ h))) (by decide +kernel))
set_option maxRecDepth 20000 in
theorem gX1_takeDaily_X1_requireDays : GoodIn wsX1_takeDaily (va_wsS RX1 99 yX1_requireDays wsX1_requireDays) := goodIn_app (goodIn_of _ (by decide +kernel)) ggX1_takeDaily_X1_requireDays
set_option maxRecDepth 20000 in
theorem ggX1_takeDaily_X1_requireRange : GoodIn wsX1_takeDaily wsX1_requireRange := goodIn_ca (goodIn_r _ [12, 13, 14] (by decide +kernel) (by decide +kernel)) (goodIn_sub (fun _ h => List.mem_cons_of_mem _ (List.mem_append_left _ (List.mem_append_right _ h))) (by decide +kernel))
set_option maxRecDepth 20000 in
theorem gX1_takeDaily_X1_requireRange : GoodIn wsX1_takeDaily (va_wsS RX1 71 yX1_requireRange wsX1_requireRange) := goodIn_app (goodIn_of _ (by decide +kernel)) ggX1_takeDaily_X1_requireRange
set_option maxRecDepth 20000 in
theorem ggX1_takeDaily_X1_requireYearGoingOn : GoodIn wsX1_takeDaily wsX1_requireYearGoingOn := goodIn_ca (goodIn_r _ [18, 19, 20, 2, 30, 31, 32, 33, 34, 35, 36, 37, 38, 39, 40, 41, 42, 43, 44, 45, 46] (by decide +kernel) (by decide +kernel)) (goodIn_sub (fun _ h => List.mem_cons_of_mem _ (List.mem_append_right _ h)) (by decide +kernel))
set_option maxRecDepth 20000 in
theorem gX1_takeDaily_X1_requireYearGoingOn : GoodIn wsX1_takeDaily (wsV RX1 90 RX1 yX1_requireYearGoingOn wsX1_requireYearGoingOn) := goodIn_app (goodIn_of _ (by decide +kernel)) ggX1_takeDaily_X1_requireYearGoingOn
set_option maxRecDepth 20000 in
theorem ggX1_takeDaily_X1_requireRoom : GoodIn wsX1_takeDaily wsX1_requireRoom := goodIn_ca (goodIn_r _ [24, 19, 20, 25, 30, 31, 32, 33, 34, 35, 36, 37, 38, 39, 40, 41, 42, 43, 44, 45, 46] (by decide +kernel) (by decide +kernel)) (goodIn_sub (fun _ h => List.mem_cons_of_mem _ (List.mem_append_right _ h)) (by decide +kernel))
set_option maxRecDepth 20000 in
theorem gX1_takeDaily_X1_requireRoom : GoodIn wsX1_takeDaily (wsV RX1 93 RX1 yX1_requireRoom wsX1_requireRoom) := goodIn_app (goodIn_of _ (by decide +kernel)) ggX1_takeDaily_X1_requireRoom
set_option maxRecDepth 20000 in
theorem ggX1_takeDaily_X1_addTakes : GoodIn wsX1_takeDaily wsX1_addTakes := goodIn_r _ [29, 25, 1, 2, 30, 31, 32, 33, 34, 35, 36, 37, 38, 39, 40, 41, 42, 43, 44, 45, 46] (by decide +kernel) (by decide +kernel)
set_option maxRecDepth 20000 in
theorem gX1_takeDaily_X1_addTakes : GoodIn wsX1_takeDaily (wsV RX1 96 RX1 yX1_addTakes wsX1_addTakes) := goodIn_app (goodIn_of _ (by decide +kernel)) ggX1_takeDaily_X1_addTakes
theorem dX1_takeDaily_0 : decode cX1_takeDaily 0 = .ok (.iload_n 1, 1) := by decide +kernel
theorem dX1_takeDaily_1 : decode cX1_takeDaily 1 = .ok (.iload_n 2, 1) := by decide +kernel
theorem dX1_takeDaily_2 : decode cX1_takeDaily 2 = .ok (.invokestatic 99, 3) := by decide +kernel
theorem dX1_takeDaily_5 : decode cX1_takeDaily 5 = .ok (.iload_n 3, 1) := by decide +kernel
theorem dX1_takeDaily_6 : decode cX1_takeDaily 6 = .ok (.iconst 1, 1) := by decide +kernel
theorem dX1_takeDaily_7 : decode cX1_takeDaily 7 = .ok (.sipush 500, 3) := by decide +kernel
theorem dX1_takeDaily_10 : decode cX1_takeDaily 10 = .ok (.invokestatic 71, 3) := by decide +kernel
theorem dX1_takeDaily_13 : decode cX1_takeDaily 13 = .ok (.aload_n 0, 1) := by decide +kernel
theorem dX1_takeDaily_14 : decode cX1_takeDaily 14 = .ok (.invokevirtual 90, 3) := by decide +kernel
theorem dX1_takeDaily_17 : decode cX1_takeDaily 17 = .ok (.aload_n 0, 1) := by decide +kernel
theorem dX1_takeDaily_18 : decode cX1_takeDaily 18 = .ok (.iload_n 1, 1) := by decide +kernel
theorem dX1_takeDaily_19 : decode cX1_takeDaily 19 = .ok (.iload_n 2, 1) := by decide +kernel
theorem dX1_takeDaily_20 : decode cX1_takeDaily 20 = .ok (.iload_n 3, 1) := by decide +kernel
theorem dX1_takeDaily_21 : decode cX1_takeDaily 21 = .ok (.invokevirtual 93, 3) := by decide +kernel
theorem dX1_takeDaily_24 : decode cX1_takeDaily 24 = .ok (.aload_n 0, 1) := by decide +kernel
theorem dX1_takeDaily_25 : decode cX1_takeDaily 25 = .ok (.iload_n 1, 1) := by decide +kernel
theorem dX1_takeDaily_26 : decode cX1_takeDaily 26 = .ok (.iload_n 2, 1) := by decide +kernel
theorem dX1_takeDaily_27 : decode cX1_takeDaily 27 = .ok (.iload_n 3, 1) := by decide +kernel
theorem dX1_takeDaily_28 : decode cX1_takeDaily 28 = .ok (.invokevirtual 96, 3) := by decide +kernel
theorem dX1_takeDaily_31 : decode cX1_takeDaily 31 = .ok (.aload_n 0, 1) := by decide +kernel
theorem dX1_takeDaily_32 : decode cX1_takeDaily 32 = .ok (.getfield 36, 3) := by decide +kernel
theorem dX1_takeDaily_35 : decode cX1_takeDaily 35 = .ok (.aload_n 0, 1) := by decide +kernel
theorem dX1_takeDaily_36 : decode cX1_takeDaily 36 = .ok (.getfield 103, 3) := by decide +kernel
theorem dX1_takeDaily_39 : decode cX1_takeDaily 39 = .ok (.iaload, 1) := by decide +kernel
theorem dX1_takeDaily_40 : decode cX1_takeDaily 40 = .ok (.ireturn, 1) := by decide +kernel
set_option maxRecDepth 20000 in
theorem ggX1_close_X1_requireYearGoingOn : GoodIn wsX1_close wsX1_requireYearGoingOn := goodIn_ca (goodIn_r _ [9, 10, 11, 1, 86, 87, 88, 89, 90, 91, 92, 93, 94, 95, 96, 97, 98, 99, 100, 101, 102] (by decide +kernel) (by decide +kernel)) (goodIn_sub (fun _ h => List.mem_cons_of_mem _ (List.mem_append_right _ h)) (by decide +kernel))
set_option maxRecDepth 20000 in
theorem gX1_close_X1_requireYearGoingOn : GoodIn wsX1_close (wsV RX1 90 RX1 yX1_requireYearGoingOn wsX1_requireYearGoingOn) := goodIn_app (goodIn_of _ (by decide +kernel)) ggX1_close_X1_requireYearGoingOn
set_option maxRecDepth 20000 in
theorem ggX1_close_J7_fill_53178 : GoodIn wsX1_close wsJ7_fill_53178 := goodIn_r _ [15] (by decide +kernel) (by decide +kernel)
set_option maxRecDepth 20000 in
theorem gX1_close_J7_fill_53178 : GoodIn wsX1_close (va_wsS RX1 24 yJ7_fill_53178 wsJ7_fill_53178) := goodIn_app (goodIn_of _ (by decide +kernel)) ggX1_close_J7_fill_53178
set_option maxRecDepth 20000 in
theorem ggX1_close_X1_settleClosedYears : GoodIn wsX1_close wsX1_settleClosedYears := goodIn_r _ [19, 20, 21, 1, 22, 23, 24, 25, 26, 27, 28, 29, 30, 13, 14, 15, 31, 32, 33, 34, 35, 36, 37, 38, 8, 39, 40, 41, 42, 43, 44, 45, 46, 47, 48, 49, 50, 51, 52, 53, 54, 55, 56, 57, 58, 59, 60, 61, 62, 63, 64, 65, 66, 67, 68, 69, 70, 71, 72, 73, 74, 75, 76, 77, 78, 79, 80, 81, 86, 87, 88, 89, 90, 91, 92, 93, 94, 95, 96, 97, 98, 99, 100, 101, 102, 103, 104, 105] (by decide +kernel) (by decide +kernel)
set_option maxRecDepth 20000 in
theorem gX1_close_X1_settleClosedYears : GoodIn wsX1_close (wsV RX1 84 RX1 yX1_settleClosedYears wsX1_settleClosedYears) := goodIn_app (goodIn_of _ (by decide +kernel)) ggX1_close_X1_settleClosedYears
set_option maxRecDepth 20000 in
theorem ggX1_close_X1_dueInAll : GoodIn wsX1_close wsX1_dueInAll := goodIn_r _ [85, 1, 52, 86, 87, 88, 89, 90, 91, 92, 93, 94, 95, 96, 97, 98, 99, 100, 101, 102] (by decide +kernel) (by decide +kernel)
set_option maxRecDepth 20000 in
theorem gX1_close_X1_dueInAll : GoodIn wsX1_close (wsV RX1 106 RX1 yX1_dueInAll wsX1_dueInAll) := goodIn_app (goodIn_of _ (by decide +kernel)) ggX1_close_X1_dueInAll
theorem dX1_close_0 : decode cX1_close 0 = .ok (.aload_n 0, 1) := by decide +kernel
theorem dX1_close_1 : decode cX1_close 1 = .ok (.invokevirtual 90, 3) := by decide +kernel
theorem dX1_close_4 : decode cX1_close 4 = .ok (.aload_n 0, 1) := by decide +kernel
theorem dX1_close_5 : decode cX1_close 5 = .ok (.getfield 103, 3) := by decide +kernel
theorem dX1_close_8 : decode cX1_close 8 = .ok (.istore_n 1, 1) := by decide +kernel
theorem dX1_close_9 : decode cX1_close 9 = .ok (.aload_n 0, 1) := by decide +kernel
theorem dX1_close_10 : decode cX1_close 10 = .ok (.iload_n 1, 1) := by decide +kernel
theorem dX1_close_11 : decode cX1_close 11 = .ok (.iconst 1, 1) := by decide +kernel
theorem dX1_close_12 : decode cX1_close 12 = .ok (.iadd, 1) := by decide +kernel
theorem dX1_close_13 : decode cX1_close 13 = .ok (.putfield 103, 3) := by decide +kernel
theorem dX1_close_16 : decode cX1_close 16 = .ok (.aload_n 0, 1) := by decide +kernel
theorem dX1_close_17 : decode cX1_close 17 = .ok (.getfield 33, 3) := by decide +kernel
theorem dX1_close_20 : decode cX1_close 20 = .ok (.iconst 0, 1) := by decide +kernel
theorem dX1_close_21 : decode cX1_close 21 = .ok (.invokestatic 24, 3) := by decide +kernel
theorem dX1_close_24 : decode cX1_close 24 = .ok (.aload_n 0, 1) := by decide +kernel
theorem dX1_close_25 : decode cX1_close 25 = .ok (.invokevirtual 84, 3) := by decide +kernel
theorem dX1_close_28 : decode cX1_close 28 = .ok (.aload_n 0, 1) := by decide +kernel
theorem dX1_close_29 : decode cX1_close 29 = .ok (.invokevirtual 106, 3) := by decide +kernel
theorem dX1_close_32 : decode cX1_close 32 = .ok (.aload_n 0, 1) := by decide +kernel
theorem dX1_close_33 : decode cX1_close 33 = .ok (.getfield 110, 3) := by decide +kernel
theorem dX1_close_36 : decode cX1_close 36 = .ok (.lsub, 1) := by decide +kernel
theorem dX1_close_37 : decode cX1_close 37 = .ok (.lstore_n 2, 1) := by decide +kernel
theorem dX1_close_38 : decode cX1_close 38 = .ok (.aload_n 0, 1) := by decide +kernel
theorem dX1_close_39 : decode cX1_close 39 = .ok (.getfield 67, 3) := by decide +kernel
theorem dX1_close_42 : decode cX1_close 42 = .ok (.iload_n 1, 1) := by decide +kernel
theorem dX1_close_43 : decode cX1_close 43 = .ok (.lload_n 2, 1) := by decide +kernel
theorem dX1_close_44 : decode cX1_close 44 = .ok (.lastore, 1) := by decide +kernel
theorem dX1_close_45 : decode cX1_close 45 = .ok (.aload_n 0, 1) := by decide +kernel
theorem dX1_close_46 : decode cX1_close 46 = .ok (.dup, 1) := by decide +kernel
theorem dX1_close_47 : decode cX1_close 47 = .ok (.getfield 110, 3) := by decide +kernel
theorem dX1_close_50 : decode cX1_close 50 = .ok (.lload_n 2, 1) := by decide +kernel
theorem dX1_close_51 : decode cX1_close 51 = .ok (.ladd, 1) := by decide +kernel
theorem dX1_close_52 : decode cX1_close 52 = .ok (.putfield 110, 3) := by decide +kernel
theorem dX1_close_55 : decode cX1_close 55 = .ok (.lload_n 2, 1) := by decide +kernel
theorem dX1_close_56 : decode cX1_close 56 = .ok (.lreturn, 1) := by decide +kernel
theorem dX1_closed_0 : decode cX1_closed 0 = .ok (.aload_n 0, 1) := by decide +kernel
theorem dX1_closed_1 : decode cX1_closed 1 = .ok (.getfield 103, 3) := by decide +kernel
theorem dX1_closed_4 : decode cX1_closed 4 = .ok (.ireturn, 1) := by decide +kernel
set_option maxRecDepth 20000 in
theorem ggX1_taken_X1_requireYear : GoodIn wsX1_taken wsX1_requireYear := goodIn_ca (goodIn_r _ [5, 6, 7, 4, 8, 9, 10] (by decide +kernel) (by decide +kernel)) (goodIn_sub (fun _ h => List.mem_cons_of_mem _ (List.mem_append_right _ h)) (by decide +kernel))
set_option maxRecDepth 20000 in
theorem gX1_taken_X1_requireYear : GoodIn wsX1_taken (va_wsS RX1 81 yX1_requireYear wsX1_requireYear) := goodIn_app (goodIn_of _ (by decide +kernel)) ggX1_taken_X1_requireYear
theorem dX1_taken_0 : decode cX1_taken 0 = .ok (.iload_n 1, 1) := by decide +kernel
theorem dX1_taken_1 : decode cX1_taken 1 = .ok (.invokestatic 81, 3) := by decide +kernel
theorem dX1_taken_4 : decode cX1_taken 4 = .ok (.aload_n 0, 1) := by decide +kernel
theorem dX1_taken_5 : decode cX1_taken 5 = .ok (.getfield 36, 3) := by decide +kernel
theorem dX1_taken_8 : decode cX1_taken 8 = .ok (.iload_n 1, 1) := by decide +kernel
theorem dX1_taken_9 : decode cX1_taken 9 = .ok (.iaload, 1) := by decide +kernel
theorem dX1_taken_10 : decode cX1_taken 10 = .ok (.ireturn, 1) := by decide +kernel
set_option maxRecDepth 20000 in
theorem ggX1_takenFrom_X1_requireDays : GoodIn wsX1_takenFrom wsX1_requireDays := goodIn_ca (goodIn_r _ [5, 6, 7, 4, 8, 9, 10, 11, 12, 13] (by decide +kernel) (by decide +kernel)) (goodIn_sub (fun _ h => List.mem_cons_of_mem _ (List.mem_append_right _ h)) (by decide +kernel))
set_option maxRecDepth 20000 in
theorem gX1_takenFrom_X1_requireDays : GoodIn wsX1_takenFrom (va_wsS RX1 99 yX1_requireDays wsX1_requireDays) := goodIn_app (goodIn_of _ (by decide +kernel)) ggX1_takenFrom_X1_requireDays
theorem dX1_takenFrom_0 : decode cX1_takenFrom 0 = .ok (.iload_n 1, 1) := by decide +kernel
theorem dX1_takenFrom_1 : decode cX1_takenFrom 1 = .ok (.iload_n 2, 1) := by decide +kernel
theorem dX1_takenFrom_2 : decode cX1_takenFrom 2 = .ok (.invokestatic 99, 3) := by decide +kernel
theorem dX1_takenFrom_5 : decode cX1_takenFrom 5 = .ok (.iconst 0, 1) := by decide +kernel
theorem dX1_takenFrom_6 : decode cX1_takenFrom 6 = .ok (.istore_n 3, 1) := by decide +kernel
theorem dX1_takenFrom_7 : decode cX1_takenFrom 7 = .ok (.iload_n 1, 1) := by decide +kernel
theorem dX1_takenFrom_8 : decode cX1_takenFrom 8 = .ok (.istore 4, 2) := by decide +kernel
theorem dX1_takenFrom_10 : decode cX1_takenFrom 10 = .ok (.iload 4, 2) := by decide +kernel
theorem dX1_takenFrom_12 : decode cX1_takenFrom 12 = .ok (.iload_n 2, 1) := by decide +kernel
theorem dX1_takenFrom_13 : decode cX1_takenFrom 13 = .ok (.if_icmp .gt 19, 3) := by decide +kernel
theorem dX1_takenFrom_16 : decode cX1_takenFrom 16 = .ok (.iload_n 3, 1) := by decide +kernel
theorem dX1_takenFrom_17 : decode cX1_takenFrom 17 = .ok (.aload_n 0, 1) := by decide +kernel
theorem dX1_takenFrom_18 : decode cX1_takenFrom 18 = .ok (.getfield 33, 3) := by decide +kernel
theorem dX1_takenFrom_21 : decode cX1_takenFrom 21 = .ok (.iload 4, 2) := by decide +kernel
theorem dX1_takenFrom_23 : decode cX1_takenFrom 23 = .ok (.iaload, 1) := by decide +kernel
theorem dX1_takenFrom_24 : decode cX1_takenFrom 24 = .ok (.iadd, 1) := by decide +kernel
theorem dX1_takenFrom_25 : decode cX1_takenFrom 25 = .ok (.istore_n 3, 1) := by decide +kernel
theorem dX1_takenFrom_26 : decode cX1_takenFrom 26 = .ok (.iinc 4 1, 3) := by decide +kernel
theorem dX1_takenFrom_29 : decode cX1_takenFrom 29 = .ok (.goto (-19), 3) := by decide +kernel
theorem dX1_takenFrom_32 : decode cX1_takenFrom 32 = .ok (.iload_n 3, 1) := by decide +kernel
theorem dX1_takenFrom_33 : decode cX1_takenFrom 33 = .ok (.ireturn, 1) := by decide +kernel
set_option maxRecDepth 20000 in
theorem ggX1_price_X1_requireYear : GoodIn wsX1_price wsX1_requireYear := goodIn_ca (goodIn_r _ [5, 6, 7, 4, 8, 9, 10] (by decide +kernel) (by decide +kernel)) (goodIn_sub (fun _ h => List.mem_cons_of_mem _ (List.mem_append_right _ h)) (by decide +kernel))
set_option maxRecDepth 20000 in
theorem gX1_price_X1_requireYear : GoodIn wsX1_price (va_wsS RX1 81 yX1_requireYear wsX1_requireYear) := goodIn_app (goodIn_of _ (by decide +kernel)) ggX1_price_X1_requireYear
theorem dX1_price_0 : decode cX1_price 0 = .ok (.iload_n 1, 1) := by decide +kernel
theorem dX1_price_1 : decode cX1_price 1 = .ok (.invokestatic 81, 3) := by decide +kernel
theorem dX1_price_4 : decode cX1_price 4 = .ok (.aload_n 0, 1) := by decide +kernel
theorem dX1_price_5 : decode cX1_price 5 = .ok (.getfield 20, 3) := by decide +kernel
theorem dX1_price_8 : decode cX1_price 8 = .ok (.iload_n 1, 1) := by decide +kernel
theorem dX1_price_9 : decode cX1_price 9 = .ok (.iaload, 1) := by decide +kernel
theorem dX1_price_10 : decode cX1_price 10 = .ok (.ireturn, 1) := by decide +kernel
set_option maxRecDepth 20000 in
theorem ggX1_least_X1_requireYear : GoodIn wsX1_least wsX1_requireYear := goodIn_ca (goodIn_r _ [4, 5, 6, 3, 7, 8, 9] (by decide +kernel) (by decide +kernel)) (goodIn_sub (fun _ h => List.mem_cons_of_mem _ (List.mem_append_right _ h)) (by decide +kernel))
set_option maxRecDepth 20000 in
theorem gX1_least_X1_requireYear : GoodIn wsX1_least (va_wsS RX1 81 yX1_requireYear wsX1_requireYear) := goodIn_app (goodIn_of _ (by decide +kernel)) ggX1_least_X1_requireYear
set_option maxRecDepth 20000 in
theorem ggX1_least_X1_leastQuantity : GoodIn wsX1_least wsX1_leastQuantity := goodIn_r _ [13, 14, 15, 16, 17, 18, 19, 20, 21, 22, 23, 24, 25, 26, 27, 28, 29, 30, 31, 32, 33, 34] (by decide +kernel) (by decide +kernel)
set_option maxRecDepth 20000 in
theorem gX1_least_X1_leastQuantity : GoodIn wsX1_least (wsV RX1 114 RX1 yX1_leastQuantity wsX1_leastQuantity) := goodIn_app (goodIn_of _ (by decide +kernel)) ggX1_least_X1_leastQuantity
theorem dX1_least_0 : decode cX1_least 0 = .ok (.iload_n 1, 1) := by decide +kernel
theorem dX1_least_1 : decode cX1_least 1 = .ok (.invokestatic 81, 3) := by decide +kernel
theorem dX1_least_4 : decode cX1_least 4 = .ok (.aload_n 0, 1) := by decide +kernel
theorem dX1_least_5 : decode cX1_least 5 = .ok (.iload_n 1, 1) := by decide +kernel
theorem dX1_least_6 : decode cX1_least 6 = .ok (.invokevirtual 114, 3) := by decide +kernel
theorem dX1_least_9 : decode cX1_least 9 = .ok (.ireturn, 1) := by decide +kernel
set_option maxRecDepth 20000 in
theorem ggX1_shortfall_X1_requireClosedYear : GoodIn wsX1_shortfall wsX1_requireClosedYear := goodIn_ca (goodIn_ca (goodIn_r _ [6, 7, 8, 9, 10, 11, 5, 12, 13, 14, 15, 16, 17, 18, 19, 20, 21, 22, 23, 24, 25, 26, 27, 28, 29, 30, 31, 32, 33, 34] (by decide +kernel) (by decide +kernel)) (goodIn_sub (fun _ h => List.mem_cons_of_mem _ (List.mem_append_left _ (List.mem_append_right _ h))) (by decide +kernel))) (goodIn_sub (fun _ h => List.mem_cons_of_mem _ (List.mem_append_right _ h)) (by decide +kernel))
set_option maxRecDepth 20000 in
theorem gX1_shortfall_X1_requireClosedYear : GoodIn wsX1_shortfall (wsV RX1 118 RX1 yX1_requireClosedYear wsX1_requireClosedYear) := goodIn_app (goodIn_of _ (by decide +kernel)) ggX1_shortfall_X1_requireClosedYear
theorem dX1_shortfall_0 : decode cX1_shortfall 0 = .ok (.aload_n 0, 1) := by decide +kernel
theorem dX1_shortfall_1 : decode cX1_shortfall 1 = .ok (.iload_n 1, 1) := by decide +kernel
theorem dX1_shortfall_2 : decode cX1_shortfall 2 = .ok (.invokevirtual 118, 3) := by decide +kernel
theorem dX1_shortfall_5 : decode cX1_shortfall 5 = .ok (.aload_n 0, 1) := by decide +kernel
theorem dX1_shortfall_6 : decode cX1_shortfall 6 = .ok (.getfield 51, 3) := by decide +kernel
theorem dX1_shortfall_9 : decode cX1_shortfall 9 = .ok (.iload_n 1, 1) := by decide +kernel
theorem dX1_shortfall_10 : decode cX1_shortfall 10 = .ok (.iaload, 1) := by decide +kernel
theorem dX1_shortfall_11 : decode cX1_shortfall 11 = .ok (.ireturn, 1) := by decide +kernel
set_option maxRecDepth 20000 in
theorem ggX1_madeUp_X1_requireClosedYear : GoodIn wsX1_madeUp wsX1_requireClosedYear := goodIn_ca (goodIn_ca (goodIn_r _ [6, 7, 8, 9, 10, 11, 5, 12, 13, 14, 15, 16, 17, 18, 19, 20, 21, 22, 23, 24, 25, 26, 27, 28, 29, 30, 31, 32, 33, 34] (by decide +kernel) (by decide +kernel)) (goodIn_sub (fun _ h => List.mem_cons_of_mem _ (List.mem_append_left _ (List.mem_append_right _ h))) (by decide +kernel))) (goodIn_sub (fun _ h => List.mem_cons_of_mem _ (List.mem_append_right _ h)) (by decide +kernel))
set_option maxRecDepth 20000 in
theorem gX1_madeUp_X1_requireClosedYear : GoodIn wsX1_madeUp (wsV RX1 118 RX1 yX1_requireClosedYear wsX1_requireClosedYear) := goodIn_app (goodIn_of _ (by decide +kernel)) ggX1_madeUp_X1_requireClosedYear
theorem dX1_madeUp_0 : decode cX1_madeUp 0 = .ok (.aload_n 0, 1) := by decide +kernel
theorem dX1_madeUp_1 : decode cX1_madeUp 1 = .ok (.iload_n 1, 1) := by decide +kernel
theorem dX1_madeUp_2 : decode cX1_madeUp 2 = .ok (.invokevirtual 118, 3) := by decide +kernel
theorem dX1_madeUp_5 : decode cX1_madeUp 5 = .ok (.aload_n 0, 1) := by decide +kernel
theorem dX1_madeUp_6 : decode cX1_madeUp 6 = .ok (.getfield 54, 3) := by decide +kernel
theorem dX1_madeUp_9 : decode cX1_madeUp 9 = .ok (.iload_n 1, 1) := by decide +kernel
theorem dX1_madeUp_10 : decode cX1_madeUp 10 = .ok (.iaload, 1) := by decide +kernel
theorem dX1_madeUp_11 : decode cX1_madeUp 11 = .ok (.ireturn, 1) := by decide +kernel
set_option maxRecDepth 20000 in
theorem ggX1_covered_X1_requireClosedYear : GoodIn wsX1_covered wsX1_requireClosedYear := goodIn_ca (goodIn_ca (goodIn_r _ [6, 7, 8, 9, 10, 11, 5, 12, 13, 14, 15, 16, 17, 18, 19, 20, 21, 22, 23, 24, 25, 26, 27, 28, 29, 30, 31, 32, 33, 34] (by decide +kernel) (by decide +kernel)) (goodIn_sub (fun _ h => List.mem_cons_of_mem _ (List.mem_append_left _ (List.mem_append_right _ h))) (by decide +kernel))) (goodIn_sub (fun _ h => List.mem_cons_of_mem _ (List.mem_append_right _ h)) (by decide +kernel))
set_option maxRecDepth 20000 in
theorem gX1_covered_X1_requireClosedYear : GoodIn wsX1_covered (wsV RX1 118 RX1 yX1_requireClosedYear wsX1_requireClosedYear) := goodIn_app (goodIn_of _ (by decide +kernel)) ggX1_covered_X1_requireClosedYear
theorem dX1_covered_0 : decode cX1_covered 0 = .ok (.aload_n 0, 1) := by decide +kernel
theorem dX1_covered_1 : decode cX1_covered 1 = .ok (.iload_n 1, 1) := by decide +kernel
theorem dX1_covered_2 : decode cX1_covered 2 = .ok (.invokevirtual 118, 3) := by decide +kernel
theorem dX1_covered_5 : decode cX1_covered 5 = .ok (.aload_n 0, 1) := by decide +kernel
theorem dX1_covered_6 : decode cX1_covered 6 = .ok (.getfield 57, 3) := by decide +kernel
theorem dX1_covered_9 : decode cX1_covered 9 = .ok (.iload_n 1, 1) := by decide +kernel
theorem dX1_covered_10 : decode cX1_covered 10 = .ok (.iaload, 1) := by decide +kernel
theorem dX1_covered_11 : decode cX1_covered 11 = .ok (.ireturn, 1) := by decide +kernel
set_option maxRecDepth 20000 in
theorem ggX1_surplus_X1_requireClosedYear : GoodIn wsX1_surplus wsX1_requireClosedYear := goodIn_ca (goodIn_ca (goodIn_r _ [6, 7, 8, 9, 10, 11, 5, 12, 13, 14, 15, 16, 17, 18, 19, 20, 21, 22, 23, 24, 25, 26, 27, 28, 29, 30, 31, 32, 33, 34] (by decide +kernel) (by decide +kernel)) (goodIn_sub (fun _ h => List.mem_cons_of_mem _ (List.mem_append_left _ (List.mem_append_right _ h))) (by decide +kernel))) (goodIn_sub (fun _ h => List.mem_cons_of_mem _ (List.mem_append_right _ h)) (by decide +kernel))
set_option maxRecDepth 20000 in
theorem gX1_surplus_X1_requireClosedYear : GoodIn wsX1_surplus (wsV RX1 118 RX1 yX1_requireClosedYear wsX1_requireClosedYear) := goodIn_app (goodIn_of _ (by decide +kernel)) ggX1_surplus_X1_requireClosedYear
theorem dX1_surplus_0 : decode cX1_surplus 0 = .ok (.aload_n 0, 1) := by decide +kernel
theorem dX1_surplus_1 : decode cX1_surplus 1 = .ok (.iload_n 1, 1) := by decide +kernel
theorem dX1_surplus_2 : decode cX1_surplus 2 = .ok (.invokevirtual 118, 3) := by decide +kernel
theorem dX1_surplus_5 : decode cX1_surplus 5 = .ok (.aload_n 0, 1) := by decide +kernel
theorem dX1_surplus_6 : decode cX1_surplus 6 = .ok (.getfield 60, 3) := by decide +kernel
theorem dX1_surplus_9 : decode cX1_surplus 9 = .ok (.iload_n 1, 1) := by decide +kernel
theorem dX1_surplus_10 : decode cX1_surplus 10 = .ok (.iaload, 1) := by decide +kernel
theorem dX1_surplus_11 : decode cX1_surplus 11 = .ok (.ireturn, 1) := by decide +kernel
set_option maxRecDepth 20000 in
theorem ggX1_due_X1_requireClosedYear : GoodIn wsX1_due wsX1_requireClosedYear := goodIn_ca (goodIn_ca (goodIn_r _ [6, 7, 8, 9, 10, 11, 5, 12, 13, 14, 15, 16, 17, 18, 19, 20, 21, 22, 23, 24, 25, 26, 27, 28, 29, 30, 31, 32, 33, 34] (by decide +kernel) (by decide +kernel)) (goodIn_sub (fun _ h => List.mem_cons_of_mem _ (List.mem_append_left _ (List.mem_append_right _ h))) (by decide +kernel))) (goodIn_sub (fun _ h => List.mem_cons_of_mem _ (List.mem_append_right _ h)) (by decide +kernel))
set_option maxRecDepth 20000 in
theorem gX1_due_X1_requireClosedYear : GoodIn wsX1_due (wsV RX1 118 RX1 yX1_requireClosedYear wsX1_requireClosedYear) := goodIn_app (goodIn_of _ (by decide +kernel)) ggX1_due_X1_requireClosedYear
theorem dX1_due_0 : decode cX1_due 0 = .ok (.aload_n 0, 1) := by decide +kernel
theorem dX1_due_1 : decode cX1_due 1 = .ok (.iload_n 1, 1) := by decide +kernel
theorem dX1_due_2 : decode cX1_due 2 = .ok (.invokevirtual 118, 3) := by decide +kernel
theorem dX1_due_5 : decode cX1_due 5 = .ok (.aload_n 0, 1) := by decide +kernel
theorem dX1_due_6 : decode cX1_due 6 = .ok (.getfield 63, 3) := by decide +kernel
theorem dX1_due_9 : decode cX1_due 9 = .ok (.iload_n 1, 1) := by decide +kernel
theorem dX1_due_10 : decode cX1_due 10 = .ok (.laload, 1) := by decide +kernel
theorem dX1_due_11 : decode cX1_due 11 = .ok (.lreturn, 1) := by decide +kernel
set_option maxRecDepth 20000 in
theorem ggX1_bill_X1_requireClosedYear : GoodIn wsX1_bill wsX1_requireClosedYear := goodIn_ca (goodIn_ca (goodIn_r _ [6, 7, 8, 9, 10, 11, 5, 12, 13, 14, 15, 16, 17, 18, 19, 20, 21, 22, 23, 24, 25, 26, 27, 28, 29, 30, 31, 32, 33, 34] (by decide +kernel) (by decide +kernel)) (goodIn_sub (fun _ h => List.mem_cons_of_mem _ (List.mem_append_left _ (List.mem_append_right _ h))) (by decide +kernel))) (goodIn_sub (fun _ h => List.mem_cons_of_mem _ (List.mem_append_right _ h)) (by decide +kernel))
set_option maxRecDepth 20000 in
theorem gX1_bill_X1_requireClosedYear : GoodIn wsX1_bill (wsV RX1 118 RX1 yX1_requireClosedYear wsX1_requireClosedYear) := goodIn_app (goodIn_of _ (by decide +kernel)) ggX1_bill_X1_requireClosedYear
theorem dX1_bill_0 : decode cX1_bill 0 = .ok (.aload_n 0, 1) := by decide +kernel
theorem dX1_bill_1 : decode cX1_bill 1 = .ok (.iload_n 1, 1) := by decide +kernel
theorem dX1_bill_2 : decode cX1_bill 2 = .ok (.invokevirtual 118, 3) := by decide +kernel
theorem dX1_bill_5 : decode cX1_bill 5 = .ok (.aload_n 0, 1) := by decide +kernel
theorem dX1_bill_6 : decode cX1_bill 6 = .ok (.getfield 67, 3) := by decide +kernel
theorem dX1_bill_9 : decode cX1_bill 9 = .ok (.iload_n 1, 1) := by decide +kernel
theorem dX1_bill_10 : decode cX1_bill 10 = .ok (.laload, 1) := by decide +kernel
theorem dX1_bill_11 : decode cX1_bill 11 = .ok (.lreturn, 1) := by decide +kernel
set_option maxRecDepth 20000 in
theorem ggX1_makeUpLeft_X1_requireClosedYear : GoodIn wsX1_makeUpLeft wsX1_requireClosedYear := goodIn_ca (goodIn_ca (goodIn_r _ [6, 7, 8, 9, 10, 11, 5, 12, 13, 14, 15, 16, 17, 24, 25, 26, 27, 28, 29, 30, 31, 32, 33, 34, 35, 36, 37, 38, 39, 40] (by decide +kernel) (by decide +kernel)) (goodIn_sub (fun _ h => List.mem_cons_of_mem _ (List.mem_append_left _ (List.mem_append_right _ h))) (by decide +kernel))) (goodIn_sub (fun _ h => List.mem_cons_of_mem _ (List.mem_append_right _ h)) (by decide +kernel))
set_option maxRecDepth 20000 in
theorem gX1_makeUpLeft_X1_requireClosedYear : GoodIn wsX1_makeUpLeft (wsV RX1 118 RX1 yX1_requireClosedYear wsX1_requireClosedYear) := goodIn_app (goodIn_of _ (by decide +kernel)) ggX1_makeUpLeft_X1_requireClosedYear
set_option maxRecDepth 20000 in
theorem ggX1_makeUpLeft_X0_leftFrom : GoodIn wsX1_makeUpLeft wsX0_leftFrom := goodIn_r _ [22, 23, 41, 42, 43] (by decide +kernel) (by decide +kernel)
set_option maxRecDepth 20000 in
theorem gX1_makeUpLeft_X0_leftFrom : GoodIn wsX1_makeUpLeft (wsV RX1 121 RX0 yX0_leftFrom wsX0_leftFrom) := goodIn_app (goodIn_of _ (by decide +kernel)) ggX1_makeUpLeft_X0_leftFrom
theorem dX1_makeUpLeft_0 : decode cX1_makeUpLeft 0 = .ok (.aload_n 0, 1) := by decide +kernel
theorem dX1_makeUpLeft_1 : decode cX1_makeUpLeft 1 = .ok (.iload_n 1, 1) := by decide +kernel
theorem dX1_makeUpLeft_2 : decode cX1_makeUpLeft 2 = .ok (.invokevirtual 118, 3) := by decide +kernel
theorem dX1_makeUpLeft_5 : decode cX1_makeUpLeft 5 = .ok (.aload_n 0, 1) := by decide +kernel
theorem dX1_makeUpLeft_6 : decode cX1_makeUpLeft 6 = .ok (.getfield 44, 3) := by decide +kernel
theorem dX1_makeUpLeft_9 : decode cX1_makeUpLeft 9 = .ok (.iload_n 1, 1) := by decide +kernel
theorem dX1_makeUpLeft_10 : decode cX1_makeUpLeft 10 = .ok (.invokevirtual 121, 3) := by decide +kernel
theorem dX1_makeUpLeft_13 : decode cX1_makeUpLeft 13 = .ok (.ireturn, 1) := by decide +kernel
set_option maxRecDepth 20000 in
theorem ggX1_surplusLeft_X1_requireClosedYear : GoodIn wsX1_surplusLeft wsX1_requireClosedYear := goodIn_ca (goodIn_ca (goodIn_r _ [6, 7, 8, 9, 10, 11, 5, 12, 13, 14, 15, 16, 17, 24, 25, 26, 27, 28, 29, 30, 31, 32, 33, 34, 35, 36, 37, 38, 39, 40] (by decide +kernel) (by decide +kernel)) (goodIn_sub (fun _ h => List.mem_cons_of_mem _ (List.mem_append_left _ (List.mem_append_right _ h))) (by decide +kernel))) (goodIn_sub (fun _ h => List.mem_cons_of_mem _ (List.mem_append_right _ h)) (by decide +kernel))
set_option maxRecDepth 20000 in
theorem gX1_surplusLeft_X1_requireClosedYear : GoodIn wsX1_surplusLeft (wsV RX1 118 RX1 yX1_requireClosedYear wsX1_requireClosedYear) := goodIn_app (goodIn_of _ (by decide +kernel)) ggX1_surplusLeft_X1_requireClosedYear
set_option maxRecDepth 20000 in
theorem ggX1_surplusLeft_X0_leftFrom : GoodIn wsX1_surplusLeft wsX0_leftFrom := goodIn_r _ [22, 23, 41, 42, 43] (by decide +kernel) (by decide +kernel)
set_option maxRecDepth 20000 in
theorem gX1_surplusLeft_X0_leftFrom : GoodIn wsX1_surplusLeft (wsV RX1 121 RX0 yX0_leftFrom wsX0_leftFrom) := goodIn_app (goodIn_of _ (by decide +kernel)) ggX1_surplusLeft_X0_leftFrom
theorem dX1_surplusLeft_0 : decode cX1_surplusLeft 0 = .ok (.aload_n 0, 1) := by decide +kernel
theorem dX1_surplusLeft_1 : decode cX1_surplusLeft 1 = .ok (.iload_n 1, 1) := by decide +kernel
theorem dX1_surplusLeft_2 : decode cX1_surplusLeft 2 = .ok (.invokevirtual 118, 3) := by decide +kernel
theorem dX1_surplusLeft_5 : decode cX1_surplusLeft 5 = .ok (.aload_n 0, 1) := by decide +kernel
theorem dX1_surplusLeft_6 : decode cX1_surplusLeft 6 = .ok (.getfield 48, 3) := by decide +kernel
theorem dX1_surplusLeft_9 : decode cX1_surplusLeft 9 = .ok (.iload_n 1, 1) := by decide +kernel
theorem dX1_surplusLeft_10 : decode cX1_surplusLeft 10 = .ok (.invokevirtual 121, 3) := by decide +kernel
theorem dX1_surplusLeft_13 : decode cX1_surplusLeft 13 = .ok (.ireturn, 1) := by decide +kernel
set_option maxRecDepth 20000 in
theorem ggX1_lapsed_X0_lapsedInAll : GoodIn wsX1_lapsed wsX0_lapsedInAll := goodIn_r _ [6, 7, 25, 26, 27] (by decide +kernel) (by decide +kernel)
set_option maxRecDepth 20000 in
theorem gX1_lapsed_X0_lapsedInAll : GoodIn wsX1_lapsed (wsV RX1 124 RX0 yX0_lapsedInAll wsX0_lapsedInAll) := goodIn_app (goodIn_of _ (by decide +kernel)) ggX1_lapsed_X0_lapsedInAll
theorem dX1_lapsed_0 : decode cX1_lapsed 0 = .ok (.aload_n 0, 1) := by decide +kernel
theorem dX1_lapsed_1 : decode cX1_lapsed 1 = .ok (.getfield 44, 3) := by decide +kernel
theorem dX1_lapsed_4 : decode cX1_lapsed 4 = .ok (.invokevirtual 124, 3) := by decide +kernel
theorem dX1_lapsed_7 : decode cX1_lapsed 7 = .ok (.ireturn, 1) := by decide +kernel
set_option maxRecDepth 20000 in
theorem ggX1_open_X1_dueInAll : GoodIn wsX1_open wsX1_dueInAll := goodIn_r _ [6, 7, 8, 9, 10, 11, 12, 13, 14, 15, 16, 17, 18, 19, 20, 21, 22, 23, 24, 25] (by decide +kernel) (by decide +kernel)
set_option maxRecDepth 20000 in
theorem gX1_open_X1_dueInAll : GoodIn wsX1_open (wsV RX1 106 RX1 yX1_dueInAll wsX1_dueInAll) := goodIn_app (goodIn_of _ (by decide +kernel)) ggX1_open_X1_dueInAll
theorem dX1_open_0 : decode cX1_open 0 = .ok (.aload_n 0, 1) := by decide +kernel
theorem dX1_open_1 : decode cX1_open 1 = .ok (.invokevirtual 106, 3) := by decide +kernel
theorem dX1_open_4 : decode cX1_open 4 = .ok (.aload_n 0, 1) := by decide +kernel
theorem dX1_open_5 : decode cX1_open 5 = .ok (.getfield 110, 3) := by decide +kernel
theorem dX1_open_8 : decode cX1_open 8 = .ok (.lsub, 1) := by decide +kernel
theorem dX1_open_9 : decode cX1_open 9 = .ok (.lreturn, 1) := by decide +kernel
theorem dX1_requireRange_0 : decode cX1_requireRange 0 = .ok (.iload_n 0, 1) := by decide +kernel
theorem dX1_requireRange_1 : decode cX1_requireRange 1 = .ok (.iload_n 1, 1) := by decide +kernel
theorem dX1_requireRange_2 : decode cX1_requireRange 2 = .ok (.if_icmp .lt 8, 3) := by decide +kernel
theorem dX1_requireRange_5 : decode cX1_requireRange 5 = .ok (.iload_n 0, 1) := by decide +kernel
theorem dX1_requireRange_6 : decode cX1_requireRange 6 = .ok (.iload_n 2, 1) := by decide +kernel
theorem dX1_requireRange_7 : decode cX1_requireRange 7 = .ok (.if_icmp .le 13, 3) := by decide +kernel
theorem dX1_requireRange_10 : decode cX1_requireRange 10 = .ok (.new 128, 3) := by decide +kernel
theorem dX1_requireRange_13 : decode cX1_requireRange 13 = .ok (.dup, 1) := by decide +kernel
theorem dX1_requireRange_14 : decode cX1_requireRange 14 = .ok (.ldc 130, 2) := by decide +kernel
theorem dX1_requireRange_16 : decode cX1_requireRange 16 = .ok (.invokespecial 132, 3) := by decide +kernel
theorem dX1_requireRange_19 : decode cX1_requireRange 19 = .ok (.athrow, 1) := by decide +kernel
theorem dX1_requireRange_20 : decode cX1_requireRange 20 = .ok (.return_, 1) := by decide +kernel
set_option maxRecDepth 20000 in
theorem ggX1_requireYear_X1_requireRange : GoodIn wsX1_requireYear wsX1_requireRange := goodIn_ca (goodIn_r _ [4, 5, 6] (by decide +kernel) (by decide +kernel)) (goodIn_sub (fun _ h => List.mem_cons_of_mem _ (List.mem_append_right _ h)) (by decide +kernel))
set_option maxRecDepth 20000 in
theorem gX1_requireYear_X1_requireRange : GoodIn wsX1_requireYear (va_wsS RX1 71 yX1_requireRange wsX1_requireRange) := goodIn_app (goodIn_of _ (by decide +kernel)) ggX1_requireYear_X1_requireRange
theorem dX1_requireYear_0 : decode cX1_requireYear 0 = .ok (.iload_n 0, 1) := by decide +kernel
theorem dX1_requireYear_1 : decode cX1_requireYear 1 = .ok (.iconst 0, 1) := by decide +kernel
theorem dX1_requireYear_2 : decode cX1_requireYear 2 = .ok (.bipush 19, 2) := by decide +kernel
theorem dX1_requireYear_4 : decode cX1_requireYear 4 = .ok (.invokestatic 71, 3) := by decide +kernel
theorem dX1_requireYear_7 : decode cX1_requireYear 7 = .ok (.return_, 1) := by decide +kernel
set_option maxRecDepth 20000 in
theorem ggX1_requireDay_X1_requireRange : GoodIn wsX1_requireDay wsX1_requireRange := goodIn_ca (goodIn_r _ [4, 5, 6] (by decide +kernel) (by decide +kernel)) (goodIn_sub (fun _ h => List.mem_cons_of_mem _ (List.mem_append_right _ h)) (by decide +kernel))
set_option maxRecDepth 20000 in
theorem gX1_requireDay_X1_requireRange : GoodIn wsX1_requireDay (va_wsS RX1 71 yX1_requireRange wsX1_requireRange) := goodIn_app (goodIn_of _ (by decide +kernel)) ggX1_requireDay_X1_requireRange
theorem dX1_requireDay_0 : decode cX1_requireDay 0 = .ok (.iload_n 0, 1) := by decide +kernel
theorem dX1_requireDay_1 : decode cX1_requireDay 1 = .ok (.iconst 0, 1) := by decide +kernel
theorem dX1_requireDay_2 : decode cX1_requireDay 2 = .ok (.sipush 359, 3) := by decide +kernel
theorem dX1_requireDay_5 : decode cX1_requireDay 5 = .ok (.invokestatic 71, 3) := by decide +kernel
theorem dX1_requireDay_8 : decode cX1_requireDay 8 = .ok (.return_, 1) := by decide +kernel
set_option maxRecDepth 20000 in
theorem ggX1_requireDays_X1_requireDay : GoodIn wsX1_requireDays wsX1_requireDay := goodIn_ca (goodIn_r _ [4, 5, 6, 3, 7, 8, 9] (by decide +kernel) (by decide +kernel)) (goodIn_sub (fun _ h => List.mem_cons_of_mem _ (List.mem_append_right _ h)) (by decide +kernel))
set_option maxRecDepth 20000 in
theorem gX1_requireDays_X1_requireDay : GoodIn wsX1_requireDays (va_wsS RX1 87 yX1_requireDay wsX1_requireDay) := goodIn_app (goodIn_of _ (by decide +kernel)) ggX1_requireDays_X1_requireDay
set_option maxRecDepth 20000 in
theorem ggX1_requireDays_X1_requireRange : GoodIn wsX1_requireDays wsX1_requireRange := goodIn_ca (goodIn_r _ [7, 8, 9] (by decide +kernel) (by decide +kernel)) (goodIn_sub (fun _ h => List.mem_cons_of_mem _ (List.mem_append_right _ h)) (by decide +kernel))
set_option maxRecDepth 20000 in
theorem gX1_requireDays_X1_requireRange : GoodIn wsX1_requireDays (va_wsS RX1 71 yX1_requireRange wsX1_requireRange) := goodIn_app (goodIn_of _ (by decide +kernel)) ggX1_requireDays_X1_requireRange
theorem dX1_requireDays_0 : decode cX1_requireDays 0 = .ok (.iload_n 0, 1) := by decide +kernel
theorem dX1_requireDays_1 : decode cX1_requireDays 1 = .ok (.invokestatic 87, 3) := by decide +kernel
theorem dX1_requireDays_4 : decode cX1_requireDays 4 = .ok (.iload_n 1, 1) := by decide +kernel
theorem dX1_requireDays_5 : decode cX1_requireDays 5 = .ok (.iload_n 0, 1) := by decide +kernel
theorem dX1_requireDays_6 : decode cX1_requireDays 6 = .ok (.sipush 359, 3) := by decide +kernel
theorem dX1_requireDays_9 : decode cX1_requireDays 9 = .ok (.invokestatic 71, 3) := by decide +kernel
theorem dX1_requireDays_12 : decode cX1_requireDays 12 = .ok (.return_, 1) := by decide +kernel
set_option maxRecDepth 20000 in
theorem ggX1_requireClosedYear_X1_requireYear : GoodIn wsX1_requireClosedYear wsX1_requireYear := goodIn_ca (goodIn_r _ [7, 8, 9, 6, 10, 11, 12] (by decide +kernel) (by decide +kernel)) (goodIn_sub (fun _ h => List.mem_cons_of_mem _ (List.mem_append_right _ h)) (by decide +kernel))
set_option maxRecDepth 20000 in
theorem gX1_requireClosedYear_X1_requireYear : GoodIn wsX1_requireClosedYear (va_wsS RX1 81 yX1_requireYear wsX1_requireYear) := goodIn_app (goodIn_of _ (by decide +kernel)) ggX1_requireClosedYear_X1_requireYear
theorem dX1_requireClosedYear_0 : decode cX1_requireClosedYear 0 = .ok (.iload_n 1, 1) := by decide +kernel
theorem dX1_requireClosedYear_1 : decode cX1_requireClosedYear 1 = .ok (.invokestatic 81, 3) := by decide +kernel
theorem dX1_requireClosedYear_4 : decode cX1_requireClosedYear 4 = .ok (.iload_n 1, 1) := by decide +kernel
theorem dX1_requireClosedYear_5 : decode cX1_requireClosedYear 5 = .ok (.aload_n 0, 1) := by decide +kernel
theorem dX1_requireClosedYear_6 : decode cX1_requireClosedYear 6 = .ok (.getfield 103, 3) := by decide +kernel
theorem dX1_requireClosedYear_9 : decode cX1_requireClosedYear 9 = .ok (.if_icmp .lt 13, 3) := by decide +kernel
theorem dX1_requireClosedYear_12 : decode cX1_requireClosedYear 12 = .ok (.new 135, 3) := by decide +kernel
theorem dX1_requireClosedYear_15 : decode cX1_requireClosedYear 15 = .ok (.dup, 1) := by decide +kernel
theorem dX1_requireClosedYear_16 : decode cX1_requireClosedYear 16 = .ok (.ldc 137, 2) := by decide +kernel
theorem dX1_requireClosedYear_18 : decode cX1_requireClosedYear 18 = .ok (.invokespecial 139, 3) := by decide +kernel
theorem dX1_requireClosedYear_21 : decode cX1_requireClosedYear 21 = .ok (.athrow, 1) := by decide +kernel
theorem dX1_requireClosedYear_22 : decode cX1_requireClosedYear 22 = .ok (.return_, 1) := by decide +kernel
theorem dX1_requireYearGoingOn_0 : decode cX1_requireYearGoingOn 0 = .ok (.aload_n 0, 1) := by decide +kernel
theorem dX1_requireYearGoingOn_1 : decode cX1_requireYearGoingOn 1 = .ok (.getfield 103, 3) := by decide +kernel
theorem dX1_requireYearGoingOn_4 : decode cX1_requireYearGoingOn 4 = .ok (.bipush 20, 2) := by decide +kernel
theorem dX1_requireYearGoingOn_6 : decode cX1_requireYearGoingOn 6 = .ok (.if_icmp .lt 13, 3) := by decide +kernel
theorem dX1_requireYearGoingOn_9 : decode cX1_requireYearGoingOn 9 = .ok (.new 135, 3) := by decide +kernel
theorem dX1_requireYearGoingOn_12 : decode cX1_requireYearGoingOn 12 = .ok (.dup, 1) := by decide +kernel
theorem dX1_requireYearGoingOn_13 : decode cX1_requireYearGoingOn 13 = .ok (.ldc 140, 2) := by decide +kernel
theorem dX1_requireYearGoingOn_15 : decode cX1_requireYearGoingOn 15 = .ok (.invokespecial 139, 3) := by decide +kernel
theorem dX1_requireYearGoingOn_18 : decode cX1_requireYearGoingOn 18 = .ok (.athrow, 1) := by decide +kernel
theorem dX1_requireYearGoingOn_19 : decode cX1_requireYearGoingOn 19 = .ok (.return_, 1) := by decide +kernel
theorem dX1_requireUnused_0 : decode cX1_requireUnused 0 = .ok (.aload_n 0, 1) := by decide +kernel
theorem dX1_requireUnused_1 : decode cX1_requireUnused 1 = .ok (.getfield 103, 3) := by decide +kernel
theorem dX1_requireUnused_4 : decode cX1_requireUnused 4 = .ok (.ifCond .gt 12, 3) := by decide +kernel
theorem dX1_requireUnused_7 : decode cX1_requireUnused 7 = .ok (.aload_n 0, 1) := by decide +kernel
theorem dX1_requireUnused_8 : decode cX1_requireUnused 8 = .ok (.getfield 36, 3) := by decide +kernel
theorem dX1_requireUnused_11 : decode cX1_requireUnused 11 = .ok (.iconst 0, 1) := by decide +kernel
theorem dX1_requireUnused_12 : decode cX1_requireUnused 12 = .ok (.iaload, 1) := by decide +kernel
theorem dX1_requireUnused_13 : decode cX1_requireUnused 13 = .ok (.ifCond .le 13, 3) := by decide +kernel
theorem dX1_requireUnused_16 : decode cX1_requireUnused 16 = .ok (.new 135, 3) := by decide +kernel
theorem dX1_requireUnused_19 : decode cX1_requireUnused 19 = .ok (.dup, 1) := by decide +kernel
theorem dX1_requireUnused_20 : decode cX1_requireUnused 20 = .ok (.ldc 142, 2) := by decide +kernel
theorem dX1_requireUnused_22 : decode cX1_requireUnused 22 = .ok (.invokespecial 139, 3) := by decide +kernel
theorem dX1_requireUnused_25 : decode cX1_requireUnused 25 = .ok (.athrow, 1) := by decide +kernel
theorem dX1_requireUnused_26 : decode cX1_requireUnused 26 = .ok (.return_, 1) := by decide +kernel
theorem dX1_requireRoom_0 : decode cX1_requireRoom 0 = .ok (.iload_n 1, 1) := by decide +kernel
theorem dX1_requireRoom_1 : decode cX1_requireRoom 1 = .ok (.istore 4, 2) := by decide +kernel
theorem dX1_requireRoom_3 : decode cX1_requireRoom 3 = .ok (.iload 4, 2) := by decide +kernel
theorem dX1_requireRoom_5 : decode cX1_requireRoom 5 = .ok (.iload_n 2, 1) := by decide +kernel
theorem dX1_requireRoom_6 : decode cX1_requireRoom 6 = .ok (.if_icmp .gt 34, 3) := by decide +kernel
theorem dX1_requireRoom_9 : decode cX1_requireRoom 9 = .ok (.aload_n 0, 1) := by decide +kernel
theorem dX1_requireRoom_10 : decode cX1_requireRoom 10 = .ok (.getfield 33, 3) := by decide +kernel
theorem dX1_requireRoom_13 : decode cX1_requireRoom 13 = .ok (.iload 4, 2) := by decide +kernel
theorem dX1_requireRoom_15 : decode cX1_requireRoom 15 = .ok (.iaload, 1) := by decide +kernel
theorem dX1_requireRoom_16 : decode cX1_requireRoom 16 = .ok (.iload_n 3, 1) := by decide +kernel
theorem dX1_requireRoom_17 : decode cX1_requireRoom 17 = .ok (.iadd, 1) := by decide +kernel
theorem dX1_requireRoom_18 : decode cX1_requireRoom 18 = .ok (.sipush 500, 3) := by decide +kernel
theorem dX1_requireRoom_21 : decode cX1_requireRoom 21 = .ok (.if_icmp .le 13, 3) := by decide +kernel
theorem dX1_requireRoom_24 : decode cX1_requireRoom 24 = .ok (.new 135, 3) := by decide +kernel
theorem dX1_requireRoom_27 : decode cX1_requireRoom 27 = .ok (.dup, 1) := by decide +kernel
theorem dX1_requireRoom_28 : decode cX1_requireRoom 28 = .ok (.ldc 144, 2) := by decide +kernel
theorem dX1_requireRoom_30 : decode cX1_requireRoom 30 = .ok (.invokespecial 139, 3) := by decide +kernel
theorem dX1_requireRoom_33 : decode cX1_requireRoom 33 = .ok (.athrow, 1) := by decide +kernel
theorem dX1_requireRoom_34 : decode cX1_requireRoom 34 = .ok (.iinc 4 1, 3) := by decide +kernel
theorem dX1_requireRoom_37 : decode cX1_requireRoom 37 = .ok (.goto (-34), 3) := by decide +kernel
theorem dX1_requireRoom_40 : decode cX1_requireRoom 40 = .ok (.return_, 1) := by decide +kernel
theorem dX1_addTakes_0 : decode cX1_addTakes 0 = .ok (.iload_n 1, 1) := by decide +kernel
theorem dX1_addTakes_1 : decode cX1_addTakes 1 = .ok (.istore 4, 2) := by decide +kernel
theorem dX1_addTakes_3 : decode cX1_addTakes 3 = .ok (.iload 4, 2) := by decide +kernel
theorem dX1_addTakes_5 : decode cX1_addTakes 5 = .ok (.iload_n 2, 1) := by decide +kernel
theorem dX1_addTakes_6 : decode cX1_addTakes 6 = .ok (.if_icmp .gt 20, 3) := by decide +kernel
theorem dX1_addTakes_9 : decode cX1_addTakes 9 = .ok (.aload_n 0, 1) := by decide +kernel
theorem dX1_addTakes_10 : decode cX1_addTakes 10 = .ok (.getfield 33, 3) := by decide +kernel
theorem dX1_addTakes_13 : decode cX1_addTakes 13 = .ok (.iload 4, 2) := by decide +kernel
theorem dX1_addTakes_15 : decode cX1_addTakes 15 = .ok (.dup2, 1) := by decide +kernel
theorem dX1_addTakes_16 : decode cX1_addTakes 16 = .ok (.iaload, 1) := by decide +kernel
theorem dX1_addTakes_17 : decode cX1_addTakes 17 = .ok (.iload_n 3, 1) := by decide +kernel
theorem dX1_addTakes_18 : decode cX1_addTakes 18 = .ok (.iadd, 1) := by decide +kernel
theorem dX1_addTakes_19 : decode cX1_addTakes 19 = .ok (.iastore, 1) := by decide +kernel
theorem dX1_addTakes_20 : decode cX1_addTakes 20 = .ok (.iinc 4 1, 3) := by decide +kernel
theorem dX1_addTakes_23 : decode cX1_addTakes 23 = .ok (.goto (-20), 3) := by decide +kernel
theorem dX1_addTakes_26 : decode cX1_addTakes 26 = .ok (.aload_n 0, 1) := by decide +kernel
theorem dX1_addTakes_27 : decode cX1_addTakes 27 = .ok (.getfield 36, 3) := by decide +kernel
theorem dX1_addTakes_30 : decode cX1_addTakes 30 = .ok (.aload_n 0, 1) := by decide +kernel
theorem dX1_addTakes_31 : decode cX1_addTakes 31 = .ok (.getfield 103, 3) := by decide +kernel
theorem dX1_addTakes_34 : decode cX1_addTakes 34 = .ok (.dup2, 1) := by decide +kernel
theorem dX1_addTakes_35 : decode cX1_addTakes 35 = .ok (.iaload, 1) := by decide +kernel
theorem dX1_addTakes_36 : decode cX1_addTakes 36 = .ok (.iload_n 3, 1) := by decide +kernel
theorem dX1_addTakes_37 : decode cX1_addTakes 37 = .ok (.iload_n 2, 1) := by decide +kernel
theorem dX1_addTakes_38 : decode cX1_addTakes 38 = .ok (.iload_n 1, 1) := by decide +kernel
theorem dX1_addTakes_39 : decode cX1_addTakes 39 = .ok (.isub, 1) := by decide +kernel
theorem dX1_addTakes_40 : decode cX1_addTakes 40 = .ok (.iconst 1, 1) := by decide +kernel
theorem dX1_addTakes_41 : decode cX1_addTakes 41 = .ok (.iadd, 1) := by decide +kernel
theorem dX1_addTakes_42 : decode cX1_addTakes 42 = .ok (.imul, 1) := by decide +kernel
theorem dX1_addTakes_43 : decode cX1_addTakes 43 = .ok (.iadd, 1) := by decide +kernel
theorem dX1_addTakes_44 : decode cX1_addTakes 44 = .ok (.iastore, 1) := by decide +kernel
theorem dX1_addTakes_45 : decode cX1_addTakes 45 = .ok (.return_, 1) := by decide +kernel
theorem dX1_leastQuantity_0 : decode cX1_leastQuantity 0 = .ok (.aload_n 0, 1) := by decide +kernel
theorem dX1_leastQuantity_1 : decode cX1_leastQuantity 1 = .ok (.getfield 10, 3) := by decide +kernel
theorem dX1_leastQuantity_4 : decode cX1_leastQuantity 4 = .ok (.i2l, 1) := by decide +kernel
theorem dX1_leastQuantity_5 : decode cX1_leastQuantity 5 = .ok (.aload_n 0, 1) := by decide +kernel
theorem dX1_leastQuantity_6 : decode cX1_leastQuantity 6 = .ok (.getfield 14, 3) := by decide +kernel
theorem dX1_leastQuantity_9 : decode cX1_leastQuantity 9 = .ok (.i2l, 1) := by decide +kernel
theorem dX1_leastQuantity_10 : decode cX1_leastQuantity 10 = .ok (.lmul, 1) := by decide +kernel
theorem dX1_leastQuantity_11 : decode cX1_leastQuantity 11 = .ok (.sipush 360, 3) := by decide +kernel
theorem dX1_leastQuantity_14 : decode cX1_leastQuantity 14 = .ok (.aload_n 0, 1) := by decide +kernel
theorem dX1_leastQuantity_15 : decode cX1_leastQuantity 15 = .ok (.getfield 30, 3) := by decide +kernel
theorem dX1_leastQuantity_18 : decode cX1_leastQuantity 18 = .ok (.iload_n 1, 1) := by decide +kernel
theorem dX1_leastQuantity_19 : decode cX1_leastQuantity 19 = .ok (.iaload, 1) := by decide +kernel
theorem dX1_leastQuantity_20 : decode cX1_leastQuantity 20 = .ok (.isub, 1) := by decide +kernel
theorem dX1_leastQuantity_21 : decode cX1_leastQuantity 21 = .ok (.i2l, 1) := by decide +kernel
theorem dX1_leastQuantity_22 : decode cX1_leastQuantity 22 = .ok (.lmul, 1) := by decide +kernel
theorem dX1_leastQuantity_23 : decode cX1_leastQuantity 23 = .ok (.lstore_n 2, 1) := by decide +kernel
theorem dX1_leastQuantity_24 : decode cX1_leastQuantity 24 = .ok (.lload_n 2, 1) := by decide +kernel
theorem dX1_leastQuantity_25 : decode cX1_leastQuantity 25 = .ok (.ldc2_w 146, 3) := by decide +kernel
theorem dX1_leastQuantity_28 : decode cX1_leastQuantity 28 = .ok (.ldiv, 1) := by decide +kernel
theorem dX1_leastQuantity_29 : decode cX1_leastQuantity 29 = .ok (.l2i, 1) := by decide +kernel
theorem dX1_leastQuantity_30 : decode cX1_leastQuantity 30 = .ok (.ireturn, 1) := by decide +kernel
theorem dX1_shortfallPrice_0 : decode cX1_shortfallPrice 0 = .ok (.aload_n 0, 1) := by decide +kernel
theorem dX1_shortfallPrice_1 : decode cX1_shortfallPrice 1 = .ok (.getfield 20, 3) := by decide +kernel
theorem dX1_shortfallPrice_4 : decode cX1_shortfallPrice 4 = .ok (.iload_n 1, 1) := by decide +kernel
theorem dX1_shortfallPrice_5 : decode cX1_shortfallPrice 5 = .ok (.iaload, 1) := by decide +kernel
theorem dX1_shortfallPrice_6 : decode cX1_shortfallPrice 6 = .ok (.aload_n 0, 1) := by decide +kernel
theorem dX1_shortfallPrice_7 : decode cX1_shortfallPrice 7 = .ok (.getfield 17, 3) := by decide +kernel
theorem dX1_shortfallPrice_10 : decode cX1_shortfallPrice 10 = .ok (.imul, 1) := by decide +kernel
theorem dX1_shortfallPrice_11 : decode cX1_shortfallPrice 11 = .ok (.bipush 100, 2) := by decide +kernel
theorem dX1_shortfallPrice_13 : decode cX1_shortfallPrice 13 = .ok (.idiv, 1) := by decide +kernel
theorem dX1_shortfallPrice_14 : decode cX1_shortfallPrice 14 = .ok (.ireturn, 1) := by decide +kernel
set_option maxRecDepth 20000 in
theorem ggX1_settleClosedYears_X0_empty : GoodIn wsX1_settleClosedYears wsX0_empty := goodIn_r _ [9, 10, 11, 12, 13, 14, 15, 85, 86, 87] (by decide +kernel) (by decide +kernel)
set_option maxRecDepth 20000 in
theorem gX1_settleClosedYears_X0_empty : GoodIn wsX1_settleClosedYears (wsV RX1 148 RX0 yX0_empty wsX0_empty) := goodIn_app (goodIn_of _ (by decide +kernel)) ggX1_settleClosedYears_X0_empty
set_option maxRecDepth 20000 in
theorem ggX1_settleClosedYears_X0_lapseBefore : GoodIn wsX1_settleClosedYears wsX0_lapseBefore := goodIn_r _ [19, 20, 11, 10, 85, 86, 87] (by decide +kernel) (by decide +kernel)
set_option maxRecDepth 20000 in
theorem gX1_settleClosedYears_X0_lapseBefore : GoodIn wsX1_settleClosedYears (wsV RX1 151 RX0 yX0_lapseBefore wsX0_lapseBefore) := goodIn_app (goodIn_of _ (by decide +kernel)) ggX1_settleClosedYears_X0_lapseBefore
set_option maxRecDepth 20000 in
theorem ggX1_settleClosedYears_X1_leastQuantity : GoodIn wsX1_settleClosedYears wsX1_leastQuantity := goodIn_r _ [25, 26, 27, 28, 29, 68, 69, 70, 71, 72, 73, 74, 75, 76, 77, 78, 79, 80, 81, 82, 83, 84] (by decide +kernel) (by decide +kernel)
set_option maxRecDepth 20000 in
theorem gX1_settleClosedYears_X1_leastQuantity : GoodIn wsX1_settleClosedYears (wsV RX1 114 RX1 yX1_leastQuantity wsX1_leastQuantity) := goodIn_app (goodIn_of _ (by decide +kernel)) ggX1_settleClosedYears_X1_leastQuantity
end
