section
-- ===== PART A: goes FIRST, ahead of the names: the tables' words, and 'selects' of the private methods out of them =====
/-- a private method of a class that the tables say can be made, by its rows of tables_1 -/
def lw_okq (q : MethodName × Nat) : Prop := (q.1.cls ≠ "java/lang/invoke/MethodHandle" ∧ q.1.cls ≠ "java/lang/invoke/VarHandle") ∧ Cond.instantiable q.1.cls q.2 ∈ tables_1 ∧ Cond.privateMethod q.1 ∈ tables_1 ∧ Cond.instanceMethod q.1 ∈ tables_1
theorem lw_p0 : lw_okq (⟨"MakeupGas", "dueInAll", "()J"⟩, 17) := ⟨⟨by decide +kernel, by decide +kernel⟩, List.mem_of_getElem? (i := 12) (by decide +kernel), List.mem_of_getElem? (i := 110) (by decide +kernel), List.mem_of_getElem? (i := 111) (by decide +kernel)⟩
theorem lw_p1 : lw_okq (⟨"java/lang/Throwable", "fillInStackTrace", "(I)Ljava/lang/Throwable;"⟩, 6) := ⟨⟨by decide +kernel, by decide +kernel⟩, List.mem_of_getElem? (i := 164) (by decide +kernel), List.mem_of_getElem? (i := 162) (by decide +kernel), List.mem_of_getElem? (i := 163) (by decide +kernel)⟩
theorem lw_p2 : lw_okq (⟨"MakeupGas", "requireUnused", "()V"⟩, 17) := ⟨⟨by decide +kernel, by decide +kernel⟩, List.mem_of_getElem? (i := 12) (by decide +kernel), List.mem_of_getElem? (i := 194) (by decide +kernel), List.mem_of_getElem? (i := 195) (by decide +kernel)⟩
theorem lw_p3 : lw_okq (⟨"MakeupGas", "settleClosedYears", "()V"⟩, 17) := ⟨⟨by decide +kernel, by decide +kernel⟩, List.mem_of_getElem? (i := 12) (by decide +kernel), List.mem_of_getElem? (i := 228) (by decide +kernel), List.mem_of_getElem? (i := 229) (by decide +kernel)⟩
theorem lw_p4 : lw_okq (⟨"MakeupGas", "leastQuantity", "(I)I"⟩, 17) := ⟨⟨by decide +kernel, by decide +kernel⟩, List.mem_of_getElem? (i := 12) (by decide +kernel), List.mem_of_getElem? (i := 241) (by decide +kernel), List.mem_of_getElem? (i := 242) (by decide +kernel)⟩
theorem lw_p5 : lw_okq (⟨"MakeupGas", "settleGap", "(I)V"⟩, 17) := ⟨⟨by decide +kernel, by decide +kernel⟩, List.mem_of_getElem? (i := 12) (by decide +kernel), List.mem_of_getElem? (i := 246) (by decide +kernel), List.mem_of_getElem? (i := 247) (by decide +kernel)⟩
theorem lw_p6 : lw_okq (⟨"MakeupGas", "drawSurplus", "(II)I"⟩, 17) := ⟨⟨by decide +kernel, by decide +kernel⟩, List.mem_of_getElem? (i := 12) (by decide +kernel), List.mem_of_getElem? (i := 250) (by decide +kernel), List.mem_of_getElem? (i := 251) (by decide +kernel)⟩
theorem lw_p7 : lw_okq (⟨"MakeupGas", "shortfallPrice", "(I)I"⟩, 17) := ⟨⟨by decide +kernel, by decide +kernel⟩, List.mem_of_getElem? (i := 12) (by decide +kernel), List.mem_of_getElem? (i := 265) (by decide +kernel), List.mem_of_getElem? (i := 266) (by decide +kernel)⟩
theorem lw_p8 : lw_okq (⟨"MakeupGas", "settleEnough", "(I)V"⟩, 17) := ⟨⟨by decide +kernel, by decide +kernel⟩, List.mem_of_getElem? (i := 12) (by decide +kernel), List.mem_of_getElem? (i := 269) (by decide +kernel), List.mem_of_getElem? (i := 270) (by decide +kernel)⟩
theorem lw_p9 : lw_okq (⟨"MakeupGas", "requireYearGoingOn", "()V"⟩, 17) := ⟨⟨by decide +kernel, by decide +kernel⟩, List.mem_of_getElem? (i := 12) (by decide +kernel), List.mem_of_getElem? (i := 293) (by decide +kernel), List.mem_of_getElem? (i := 294) (by decide +kernel)⟩
theorem lw_p10 : lw_okq (⟨"MakeupGas", "requireRoom", "(III)V"⟩, 17) := ⟨⟨by decide +kernel, by decide +kernel⟩, List.mem_of_getElem? (i := 12) (by decide +kernel), List.mem_of_getElem? (i := 298) (by decide +kernel), List.mem_of_getElem? (i := 299) (by decide +kernel)⟩
theorem lw_p11 : lw_okq (⟨"MakeupGas", "addTakes", "(III)V"⟩, 17) := ⟨⟨by decide +kernel, by decide +kernel⟩, List.mem_of_getElem? (i := 12) (by decide +kernel), List.mem_of_getElem? (i := 303) (by decide +kernel), List.mem_of_getElem? (i := 304) (by decide +kernel)⟩
theorem lw_p12 : lw_okq (⟨"MakeupGas", "requireClosedYear", "(I)V"⟩, 17) := ⟨⟨by decide +kernel, by decide +kernel⟩, List.mem_of_getElem? (i := 12) (by decide +kernel), List.mem_of_getElem? (i := 359) (by decide +kernel), List.mem_of_getElem? (i := 360) (by decide +kernel)⟩
theorem lw_p13 : lw_okq (⟨"MakeupGasModel", "holds", "(I)Z"⟩, 20) := ⟨⟨by decide +kernel, by decide +kernel⟩, List.mem_of_getElem? (i := 417) (by decide +kernel), List.mem_of_getElem? (i := 497) (by decide +kernel), List.mem_of_getElem? (i := 498) (by decide +kernel)⟩
theorem lw_p14 : lw_okq (⟨"MakeupGasModel", "canTake", "(III)Z"⟩, 20) := ⟨⟨by decide +kernel, by decide +kernel⟩, List.mem_of_getElem? (i := 417) (by decide +kernel), List.mem_of_getElem? (i := 516) (by decide +kernel), List.mem_of_getElem? (i := 517) (by decide +kernel)⟩
theorem lw_p15 : lw_okq (⟨"MakeupGasModel", "isTooMuch", "(III)Z"⟩, 20) := ⟨⟨by decide +kernel, by decide +kernel⟩, List.mem_of_getElem? (i := 417) (by decide +kernel), List.mem_of_getElem? (i := 523) (by decide +kernel), List.mem_of_getElem? (i := 524) (by decide +kernel)⟩
def lw_privs_1 : List (MethodName × Nat) := [(⟨"MakeupGas", "dueInAll", "()J"⟩, 17), (⟨"java/lang/Throwable", "fillInStackTrace", "(I)Ljava/lang/Throwable;"⟩, 6), (⟨"MakeupGas", "requireUnused", "()V"⟩, 17), (⟨"MakeupGas", "settleClosedYears", "()V"⟩, 17), (⟨"MakeupGas", "leastQuantity", "(I)I"⟩, 17), (⟨"MakeupGas", "settleGap", "(I)V"⟩, 17), (⟨"MakeupGas", "drawSurplus", "(II)I"⟩, 17), (⟨"MakeupGas", "shortfallPrice", "(I)I"⟩, 17), (⟨"MakeupGas", "settleEnough", "(I)V"⟩, 17), (⟨"MakeupGas", "requireYearGoingOn", "()V"⟩, 17), (⟨"MakeupGas", "requireRoom", "(III)V"⟩, 17), (⟨"MakeupGas", "addTakes", "(III)V"⟩, 17), (⟨"MakeupGas", "requireClosedYear", "(I)V"⟩, 17), (⟨"MakeupGasModel", "holds", "(I)Z"⟩, 20), (⟨"MakeupGasModel", "canTake", "(III)Z"⟩, 20), (⟨"MakeupGasModel", "isTooMuch", "(III)Z"⟩, 20)]
theorem lw_r1 : ∀ q ∈ lw_privs_1, lw_okq q := List.forall_mem_cons.mpr ⟨lw_p0, List.forall_mem_cons.mpr ⟨lw_p1, List.forall_mem_cons.mpr ⟨lw_p2, List.forall_mem_cons.mpr ⟨lw_p3, List.forall_mem_cons.mpr ⟨lw_p4, List.forall_mem_cons.mpr ⟨lw_p5, List.forall_mem_cons.mpr ⟨lw_p6, List.forall_mem_cons.mpr ⟨lw_p7, List.forall_mem_cons.mpr ⟨lw_p8, List.forall_mem_cons.mpr ⟨lw_p9, List.forall_mem_cons.mpr ⟨lw_p10, List.forall_mem_cons.mpr ⟨lw_p11, List.forall_mem_cons.mpr ⟨lw_p12, List.forall_mem_cons.mpr ⟨lw_p13, List.forall_mem_cons.mpr ⟨lw_p14, List.forall_mem_cons.mpr ⟨lw_p15, fun _ h => absurd h List.not_mem_nil⟩⟩⟩⟩⟩⟩⟩⟩⟩⟩⟩⟩⟩⟩⟩⟩
theorem lw_p16 : lw_okq (⟨"MakeupGasModel", "takes", "(III)V"⟩, 20) := ⟨⟨by decide +kernel, by decide +kernel⟩, List.mem_of_getElem? (i := 417) (by decide +kernel), List.mem_of_getElem? (i := 527) (by decide +kernel), List.mem_of_getElem? (i := 528) (by decide +kernel)⟩
theorem lw_p17 : lw_okq (⟨"MakeupGasModel", "openNow", "()J"⟩, 20) := ⟨⟨by decide +kernel, by decide +kernel⟩, List.mem_of_getElem? (i := 417) (by decide +kernel), List.mem_of_getElem? (i := 539) (by decide +kernel), List.mem_of_getElem? (i := 540) (by decide +kernel)⟩
theorem lw_p18 : lw_okq (⟨"MakeupGasModel", "goesThrough", "()V"⟩, 20) := ⟨⟨by decide +kernel, by decide +kernel⟩, List.mem_of_getElem? (i := 417) (by decide +kernel), List.mem_of_getElem? (i := 543) (by decide +kernel), List.mem_of_getElem? (i := 544) (by decide +kernel)⟩
theorem lw_p19 : lw_okq (⟨"MakeupGasModel", "lapses", "(I)V"⟩, 20) := ⟨⟨by decide +kernel, by decide +kernel⟩, List.mem_of_getElem? (i := 417) (by decide +kernel), List.mem_of_getElem? (i := 547) (by decide +kernel), List.mem_of_getElem? (i := 548) (by decide +kernel)⟩
theorem lw_p20 : lw_okq (⟨"MakeupGasModel", "leastOf", "(I)I"⟩, 20) := ⟨⟨by decide +kernel, by decide +kernel⟩, List.mem_of_getElem? (i := 417) (by decide +kernel), List.mem_of_getElem? (i := 551) (by decide +kernel), List.mem_of_getElem? (i := 552) (by decide +kernel)⟩
theorem lw_p21 : lw_okq (⟨"MakeupGasModel", "covers", "(II)V"⟩, 20) := ⟨⟨by decide +kernel, by decide +kernel⟩, List.mem_of_getElem? (i := 417) (by decide +kernel), List.mem_of_getElem? (i := 556) (by decide +kernel), List.mem_of_getElem? (i := 557) (by decide +kernel)⟩
theorem lw_p22 : lw_okq (⟨"MakeupGasModel", "shortfallPrice", "(I)I"⟩, 20) := ⟨⟨by decide +kernel, by decide +kernel⟩, List.mem_of_getElem? (i := 417) (by decide +kernel), List.mem_of_getElem? (i := 560) (by decide +kernel), List.mem_of_getElem? (i := 561) (by decide +kernel)⟩
theorem lw_p23 : lw_okq (⟨"MakeupGasModel", "makesUp", "(II)V"⟩, 20) := ⟨⟨by decide +kernel, by decide +kernel⟩, List.mem_of_getElem? (i := 417) (by decide +kernel), List.mem_of_getElem? (i := 564) (by decide +kernel), List.mem_of_getElem? (i := 565) (by decide +kernel)⟩
theorem lw_p24 : lw_okq (⟨"MakeupGasModel", "isClosed", "(I)Z"⟩, 20) := ⟨⟨by decide +kernel, by decide +kernel⟩, List.mem_of_getElem? (i := 417) (by decide +kernel), List.mem_of_getElem? (i := 592) (by decide +kernel), List.mem_of_getElem? (i := 593) (by decide +kernel)⟩
def lw_privs_2 : List (MethodName × Nat) := [(⟨"MakeupGasModel", "takes", "(III)V"⟩, 20), (⟨"MakeupGasModel", "openNow", "()J"⟩, 20), (⟨"MakeupGasModel", "goesThrough", "()V"⟩, 20), (⟨"MakeupGasModel", "lapses", "(I)V"⟩, 20), (⟨"MakeupGasModel", "leastOf", "(I)I"⟩, 20), (⟨"MakeupGasModel", "covers", "(II)V"⟩, 20), (⟨"MakeupGasModel", "shortfallPrice", "(I)I"⟩, 20), (⟨"MakeupGasModel", "makesUp", "(II)V"⟩, 20), (⟨"MakeupGasModel", "isClosed", "(I)Z"⟩, 20)]
theorem lw_r2 : ∀ q ∈ lw_privs_2, lw_okq q := List.forall_mem_cons.mpr ⟨lw_p16, List.forall_mem_cons.mpr ⟨lw_p17, List.forall_mem_cons.mpr ⟨lw_p18, List.forall_mem_cons.mpr ⟨lw_p19, List.forall_mem_cons.mpr ⟨lw_p20, List.forall_mem_cons.mpr ⟨lw_p21, List.forall_mem_cons.mpr ⟨lw_p22, List.forall_mem_cons.mpr ⟨lw_p23, List.forall_mem_cons.mpr ⟨lw_p24, fun _ h => absurd h List.not_mem_nil⟩⟩⟩⟩⟩⟩⟩⟩⟩
def lw_privs : List (MethodName × Nat) := lw_privs_1 ++ (lw_privs_2)
def lw_tbl : List Cond := k2_sels lw_privs ++ tables_1
theorem lw_privs_ok : ∀ q ∈ lw_privs, lw_okq q := by
  show ∀ q ∈ lw_privs_1 ++ (lw_privs_2), lw_okq q
  exact List.forall_mem_append.mpr ⟨lw_r1, lw_r2⟩
-- ===== end of PART A; then your names; then what follows =====
end
section
/-! ===== BEGIN words of one list among another's, by their places ===== -/
theorem goodIn_r {big : List Cond} (ws : List Cond) (ps : List Nat) (hp : ws = ps.filterMap (fun i => big[i]?)) (h : ws.all goodWord = true) : GoodIn big ws := by
  intro w hw
  have h1 := List.all_eq_true.mp h w hw
  rw [hp] at hw
  obtain ⟨i, -, hi⟩ := List.mem_filterMap.mp hw
  have hm : w ∈ big := by first | exact List.mem_of_getElem? hi | exact List.getElem?_mem hi
  exact ⟨hm, good_of_word h1⟩
theorem goodIn_app {big a b : List Cond} (ha : GoodIn big a) (hb : GoodIn big b) : GoodIn big (a ++ b) := fun w h => (List.mem_append.mp h).elim (ha w) (hb w)
theorem goodIn_ca {big a b : List Cond} {c : Cond} (ha : GoodIn big (c :: a)) (hb : GoodIn big b) : GoodIn big (c :: (a ++ b)) := fun w h => (List.mem_cons.mp h).elim (fun e => ha w (List.mem_cons.mpr (Or.inl e))) (fun h => (List.mem_append.mp h).elim (fun h => ha w (List.mem_cons.mpr (Or.inr h))) (hb w))
theorem goodIn_sub {big ws : List Cond} (hm : ∀ w ∈ ws, w ∈ big) (h : ws.all goodWord = true) : GoodIn big ws := fun w hw => ⟨hm w hw, good_of_word (List.all_eq_true.mp h w hw)⟩
/-! ===== END ===== -/

/-! ===== BEGIN exceptions that leave a method, and their catching by the caller (launches without stack traces) ===== -/
section VXA
/-! The laws vx_back, vx_callV, vx_callS, vx_callSW, vx_throw0, vx_throwS follow proofs of the library, with one case more: JvmDerived/Free/Laws.lean (Back.of_free), Shelf42/LK1.lean (callV, callS), Shelf/KitTraced.lean (throwNew0V, throwNewS). -/
/-- where a method has thrown q: the class by its name, the cell, what was written, the world -/
def vx_T (XC : String → State → State → Prop) (st : State) (q : Addr) (t : State) (mc ms : Nat) (free : Addr → Prop) : Prop :=
  ∃ (E : String) (ce : Cell) (L : List Loc), XC E st t ∧ t.heap[q]? = some ce ∧ ce.vm = .none ∧ st.vm.findClass E = some ce.cls ∧ st.WarmedH t.vm ∧ st.sameButNew ({ t with vm := st.vm } : State) L mc ms ∧ ∀ z ∈ L, free z.base
def vx_Q (Qc : Array Value → State → Outcome → State → Prop) (XC : String → State → State → Prop) (mc ms : Nat) (free : Addr → Prop) : Array Value → State → Outcome → State → Prop := fun a st o t =>
  (Qc a st o t ∧ ∃ L, FrameEnd st o t L mc ms ∧ ∀ q ∈ L, free q.base) ∨ ∃ q, o = .threw q ∧ vx_T XC st q t mc ms free
/-- a callee that returns or throws -/
def vx_Met (l : Launch) (y : MethodName) (ws : List Cond) (rm : Room) (Pc : Array Value → State → Prop) (Qc : Array Value → State → Outcome → State → Prop) (XC : String → State → State → Prop) (mc ms : Nat) (free : Addr → Prop) : Prop :=
  MetFree l y (headSpec ws rm) Pc (fun _ _ _ _ _ => True) (vx_Q Qc XC mc ms free)
def vx_Post (XC : String → State → State → Prop) (mc ms : Nat) (free : Addr → Prop) : Pt → Array Value → Addr → Pt → Prop := fun A a q B =>
  ∃ (g : JFrame) (mk : MethodId) (t : State) (L : List Loc) (E : String) (ce : Cell), B.U.heap = t.heap ∧ B.U.vm = t.vm ∧ XC E (A.U.calling g mk a) t ∧ t.heap[q]? = some ce ∧ ce.vm = .none ∧ A.U.vm.findClass E = some ce.cls ∧ B.locs = A.locs ++ L ∧ (∀ z ∈ L, free z.base) ∧ B.cells = A.cells + mc ∧ B.slots = A.slots + ms
def vx_Back (l : Launch) (R : Room) (p : Program) (e : Env) (below : List Frame) (s : State) (sargs : Array Value) (y : MethodName) (len W9 : Nat)
    (Pre : Pt → Array Value → Prop) (Post : Pt → Array Value → Option Value → Pt → Prop) (PostX : Pt → Array Value → Addr → Pt → Prop) : Prop :=
  ∀ (m : MethodId) (meth : Method) (c : Code) (A : Pt) (g : JFrame) (ig : Instr) (mk : MethodId) (a : Array Value),
    Stand p l e R s m sargs below meth c A.U A.locs A.cells A.slots → g.method = m → g.locals.size = c.maxLocals → decode c.code g.pc = .ok (ig, len) →
    2 * g.monitorRoom + (g.stack.map fun v => v.category).sum ≤ W9 → A.U.methodNamed? y = some mk → Pre A a →
    (∃ (v : Option Value) (B : Pt), Stand p l e R s m sargs below meth c B.U B.locs B.cells B.slots ∧ Post A a v B ∧
      Steps p.tables e below (doInvoke e (A.U.setTop g) [] mk a).1 (B.U.setTop { g with pc := g.pc + len, stack := v.toList ++ g.stack })) ∨
    (∃ (q : Addr) (B : Pt), Stand p l e R s m sargs below meth c B.U B.locs B.cells B.slots ∧ PostX A a q B ∧
      Steps p.tables e below (doInvoke e (A.U.setTop g) [] mk a).1 ((B.U.setTop g).pushFrame (.throwing q)))
section Payer
variable {l : Launch} {R : Room} {p : Program} {e : Env} {below : List Frame} {s : State} {sargs : Array Value} {y : MethodName} {len W9 : Nat}
theorem vx_back {ws : List Cond} {rm : Room} {Pc : Array Value → State → Prop} {Qc : Array Value → State → Outcome → State → Prop} {XC : String → State → State → Prop} {mc ms : Nat} {free : Addr → Prop} {bytes : ByteArray} {maxL : Nat} {ret : Option FieldType}
    (hM : vx_Met l y ws rm Pc Qc XC mc ms free) (hblind : FrameBlind Pc) (hrc : rm.cells = mc) (hrs : rm.slots = ms)
    (hframes : rm.frames + 1 ≤ R.frames) (hlocals : W9 + (maxL + 11) + rm.locals ≤ R.locals)
    (hws : ∀ w ∈ ws, ∀ a' U, s.WarmedH U.vm → w.before a' U = true) (hcode : Cond.code y bytes maxL ret ∈ ws) (hinit : ∀ a' U, s.WarmedH U.vm → (Cond.initialized y.cls).before a' U = true) :
    vx_Back l R p e below s sargs y len W9 (PreOf R mc ms Pc) (PostOf Qc mc ms free) (vx_Post XC mc ms free) := by
  intro m meth c A g ig mk a X hg hsize hdg hW hn hp
  have h1 : (headSpec ws rm).pre.before a A.U = true := atoms_intro fun w hw => hws w hw _ _ X.warmed
  have h2 : (Cond.code y bytes maxL ret).before a A.U = true := hws _ hcode _ _ X.warmed
  have h3 : (Cond.initialized y.cls).before a A.U = true := hinit _ _ X.warmed
  have h4 : A.cells + (headSpec ws rm).room.cells ≤ R.cells := by rw [show (headSpec ws rm).room.cells = mc from hrc]; exact hp.1
  have h5 : A.slots + (headSpec ws rm).room.slots ≤ R.slots := by rw [show (headSpec ws rm).room.slots = ms from hrs]; exact hp.2.1
  have hPc : Pc a (A.U.calling g mk a) := hblind _ _ _ _ hp.2.2
  obtain ⟨U, Ls, c0, s0⟩ := A
  dsimp only [Pt.U, Pt.locs, Pt.cells, Pt.slots] at h1 h2 h3 h4 h5 X hn hPc ⊢
  obtain ⟨methY, cY, hmY, hcY, -, hlY, -, -, -, -⟩ := Cond.code_spec hn h2
  obtain ⟨kY, hkY, -⟩ := className_of_methodNamed hn
  have hinitY : kY.init = .initialized := Cond.initialized_spec (findClass_of_methodNamed hn) hkY h3
  have h : At U g.method c below := by rw [hg]; exact X.here
  have hlocals9 : W9 + (maxL + 11) + (headSpec ws rm).room.locals ≤ R.locals := hlocals
  have happ : (headSpec ws rm).appliesLoose y e.platform (U.calling g mk a) = true :=
    Spec.appliesLoose_calling (g := g) h hdg hn hkY hinitY
      (X.room_calling (g := g) (R' := (headSpec ws rm).room) hsize hmY hcY hframes (by rw [hlY]; omega) h4 h5) h1
  obtain ⟨mid, hmid⟩ := h.above
  have hfr : (U.setTop g).frames = (.java g :: mid) ++ below := by rw [State.frames_setTop' g h.top, hmid]; rfl
  obtain ⟨o, s₂, hsteps, -, hend, hq⟩ := Steps.callFree hM p X.admits X.cas X.clock (acts := []) hfr happ hPc trivial
  have hq' : vx_Q Qc XC mc ms free a (U.calling g mk a) o s₂ := hq
  rw [State.frames_setTop' g h.top] at hend
  obtain ⟨g₀, hg0⟩ := Option.isSome_iff_exists.mp h.top
  obtain ⟨r, hr⟩ := State.topJava?_eq_some.mp hg0
  have hr' : (({ U with heap := s₂.heap, slotsUsed := s₂.slotsUsed } : State).setVm s₂.vm).frames = .java g₀ :: r := hr
  rcases hq' with ⟨hqc, L, hfe, hL⟩ | ⟨q, rfl, E, ce, L, hx, hce, hcv, hcl, hW₂, hsm, hL⟩
  · obtain ⟨⟨v, rfl⟩, hW₂, e2, q2, q3, q4, q5, q6⟩ := id hfe
    have e3 : s₂ = ({ (U.calling g mk a).setFrames s₂.frames with heap := s₂.heap, slotsUsed := s₂.slotsUsed } : State).setVm s₂.vm := by
      have : s₂ = ({ s₂ with vm := (U.calling g mk a).vm } : State).setVm s₂.vm := rfl
      rw [e2] at this
      exact this
    obtain ⟨c₂, i₂, len₂, hc₂, hd₂, hf₂⟩ := hend
    have hW' : U.WarmedH s₂.vm := hW₂
    have hcc : c₂ = c := by
      have h1 : s₂.code? g.method = U.code? g.method := by
        rw [State.code?_eq, State.code?_eq, hW'.alike.method?]
      exact Option.some.inj (hc₂.symm.trans (h1.trans h.code))
    subst hcc
    have hlen : len₂ = len := by rw [hdg] at hd₂; cases hd₂; rfl
    subst hlen
    have hs₂ : s₂ = (({ U with heap := s₂.heap, slotsUsed := s₂.slotsUsed } : State).setVm s₂.vm).setTop { g with pc := g.pc + len₂, stack := v.toList ++ g.stack } := by
      refine e3.trans ?_
      rw [hf₂, State.calling_eq h.top, State.setFrames_setFrames, State.setTop_of_frames _ hr', hr]
      rfl
    have hsame : U.sameButNew ({ U with heap := s₂.heap, slotsUsed := s₂.slotsUsed } : State) L mc ms := by
      refine ⟨?_, q2, q3, q4, q5, q6⟩
      obtain ⟨t, ht, -⟩ := State.frames_cons hr
      show ({ U with heap := s₂.heap, slotsUsed := s₂.slotsUsed } : State) = { U.setFrames U.frames with heap := s₂.heap, slotsUsed := s₂.slotsUsed }
      rw [State.setFrames_self ht]
    subst hg
    refine Or.inl ⟨v, ⟨(({ U with heap := s₂.heap, slotsUsed := s₂.slotsUsed } : State).setVm s₂.vm), Ls ++ L, c0 + mc, s0 + ms⟩,
      ⟨X.admits, X.cas, X.clock, X.frames, X.room, X.hears, X.method, X.code, (X.here.setHeapUsed s₂.heap s₂.slotsUsed).setVm hW'.alike, X.tail, State.WarmedH.trans X.warmed hW', X.limits, X.bytes, X.same.trans (hsame.setVm s.vm)⟩,
      ⟨g, mk, s₂, L, rfl, rfl, hqc, rfl, hL, rfl, rfl⟩, ?_⟩
    show Steps p.tables e below _ ((({ U with heap := s₂.heap, slotsUsed := s₂.slotsUsed } : State).setVm s₂.vm).setTop { g with pc := g.pc + len₂, stack := v.toList ++ g.stack })
    rw [← hs₂]
    exact hsteps
  · obtain ⟨e2, q2, q3, q4, q5, q6⟩ := id hsm
    have e3 : s₂ = ({ (U.calling g mk a).setFrames s₂.frames with heap := s₂.heap, slotsUsed := s₂.slotsUsed } : State).setVm s₂.vm := by
      have : s₂ = ({ s₂ with vm := (U.calling g mk a).vm } : State).setVm s₂.vm := rfl
      rw [e2] at this
      exact this
    have hf₂ : s₂.frames = .throwing q :: .java g :: U.frames.tail := hend
    have hW' : U.WarmedH s₂.vm := hW₂
    have hs₂ : s₂ = ((({ U with heap := s₂.heap, slotsUsed := s₂.slotsUsed } : State).setVm s₂.vm).setTop g).pushFrame (.throwing q) := by
      refine e3.trans ?_
      rw [hf₂, State.calling_eq h.top, State.setFrames_setFrames, State.pushFrame, State.frames_setTop _ hr', State.setTop_of_frames _ hr', State.setFrames_setFrames, hr]
      rfl
    have hsame : U.sameButNew ({ U with heap := s₂.heap, slotsUsed := s₂.slotsUsed } : State) L mc ms := by
      refine ⟨?_, q2, q3, q4, q5, q6⟩
      obtain ⟨t, ht, -⟩ := State.frames_cons hr
      show ({ U with heap := s₂.heap, slotsUsed := s₂.slotsUsed } : State) = { U.setFrames U.frames with heap := s₂.heap, slotsUsed := s₂.slotsUsed }
      rw [State.setFrames_self ht]
    subst hg
    refine Or.inr ⟨q, ⟨(({ U with heap := s₂.heap, slotsUsed := s₂.slotsUsed } : State).setVm s₂.vm), Ls ++ L, c0 + mc, s0 + ms⟩,
      ⟨X.admits, X.cas, X.clock, X.frames, X.room, X.hears, X.method, X.code, (X.here.setHeapUsed s₂.heap s₂.slotsUsed).setVm hW'.alike, X.tail, State.WarmedH.trans X.warmed hW', X.limits, X.bytes, X.same.trans (hsame.setVm s.vm)⟩,
      ⟨g, mk, s₂, L, E, ce, rfl, rfl, hx, hce, hcv, hcl, rfl, hL, rfl, rfl⟩, ?_⟩
    show Steps p.tables e below _ (((({ U with heap := s₂.heap, slotsUsed := s₂.slotsUsed } : State).setVm s₂.vm).setTop g).pushFrame (.throwing q))
    rw [← hs₂]
    exact hsteps
end Payer
section Calls
variable {p : Program} {l : Launch} {e : Env} {R : Room} {s : State} {m : MethodId} {args : Array Value} {below : List Frame} {meth : Method} {c : Code} {T : State} {locs : List Loc} {cells slots : Nat}
theorem vx_callV (X : Stand p l e R s m args below meth c T locs cells slots) (hexec : p.tables.exec = Jvm.exec) {own C : String} {index : Nat} {y : MethodName} {bytes : ByteArray} {maxL : Nat} {ret : Option FieldType}
    (hown : s.vm.findClass own = some m.cls) (hlink : (Cond.methodLink own index y).before args s = true) (hinst : (Cond.instanceMethod y).before args s = true) (hsel : (Cond.selects C y y).before args s = true)
    (hcode : (Cond.code y bytes maxL ret).before args s = true) (hy : y.cls ≠ "java/lang/invoke/MethodHandle" ∧ y.cls ≠ "java/lang/invoke/VarHandle")
    {W9 : Nat} {Pre : Pt → Array Value → Prop} {Post : Pt → Array Value → Option Value → Pt → Prop} {PostX : Pt → Array Value → Addr → Pt → Prop} (hK : vx_Back l R p e below s args y 3 W9 Pre Post PostX)
    {b : Addr} {cellB : Cell} (hcell : T.heap[b]? = some cellB) (hobj : cellB.vm.isStatics = false) (hcls : s.vm.findClass C = some cellB.cls)
    {g : JFrame} (hg : g.method = m) (hsize : g.locals.size = c.maxLocals) {argsL rest : List Value} (hlen : ∀ sig, parseMethodDescriptor y.desc = some sig → argsL.length = sig.parameters.length)
    (hstack : g.stack = argsL.reverse ++ .ref b :: rest) (hW : 2 * g.monitorRoom + (rest.map fun v => v.category).sum ≤ W9) (hdg : decode c.code g.pc = .ok (.invokevirtual index, 3))
    (hpre : ∀ vm₁, s.WarmedH vm₁ → Pre ⟨T.setVm vm₁, locs, cells, slots⟩ (Value.ref b :: argsL).toArray) :
    (∃ (v : Option Value) (vm₁ : Vm) (B : Pt), s.WarmedH vm₁ ∧ Stand p l e R s m args below meth c B.U B.locs B.cells B.slots ∧ Post ⟨T.setVm vm₁, locs, cells, slots⟩ (Value.ref b :: argsL).toArray v B ∧
      ∀ target, Steps p.tables e below (B.U.setTop { g with pc := g.pc + 3, stack := v.toList ++ rest }) target → Steps p.tables e below (T.setTop g) target) ∨
    (∃ (q : Addr) (vm₁ : Vm) (B : Pt), s.WarmedH vm₁ ∧ Stand p l e R s m args below meth c B.U B.locs B.cells B.slots ∧ PostX ⟨T.setVm vm₁, locs, cells, slots⟩ (Value.ref b :: argsL).toArray q B ∧
      Steps p.tables e below (T.setTop g) ((B.U.setTop { g with stack := rest }).pushFrame (.throwing q))) := by
  obtain ⟨mk, methM, hnamed, hmethM, hstM, habM⟩ := Cond.instanceMethod_spec hinst
  obtain ⟨methM', cM, hmethM', -, -, -, -, -, -, hsigM⟩ := Cond.code_spec hnamed hcode
  cases hmethM.symm.trans hmethM'
  obtain ⟨c2, r2, m2, q1, q2, q3, q4, kP, hkP, hkPi⟩ := Cond.selects_spec hsel
  cases hcls.symm.trans q1
  cases (State.methodFound?_of_named hnamed hy).symm.trans q2
  cases hnamed.symm.trans q3
  have hselP : selectMethod e.platform s.vm cellB.cls mk = .method mk := by rw [Launch.admits_selectMethod X.admits]; exact q4
  obtain ⟨vm₁, X₁, hstep₁⟩ := X.invokevirtual hexec hown hlink hnamed hmethM hstM hkP hkPi hy (a := b) (cell := cellB) hcell
    (fun z h => by rw [h] at hobj; cases hobj) hselP hmethM habM hkP hkPi (g := g) hg (argsL := argsL) (rest := rest) (hlen _ hsigM) hstack hdg
  rcases hK m meth c ⟨T.setVm vm₁, locs, cells, slots⟩ { g with stack := rest } (.invokevirtual index) mk (Value.ref b :: argsL).toArray X₁ hg hsize hdg hW (X₁.named hnamed) (hpre vm₁ X₁.warmed) with ⟨v, B, X', hpost, hsteps⟩ | ⟨q, B, X', hpost, hsteps⟩
  · exact Or.inl ⟨v, vm₁, B, X₁.warmed, X', hpost, fun target h => hstep₁ _ fun acts => by rw [doInvoke_state]; exact hsteps.trans h⟩
  · exact Or.inr ⟨q, vm₁, B, X₁.warmed, X', hpost, hstep₁ _ fun acts => by rw [doInvoke_state]; exact hsteps⟩
theorem vx_callS (X : Stand p l e R s m args below meth c T locs cells slots) (hexec : p.tables.exec = Jvm.exec) {own : String} {index : Nat} {y : MethodName} {bytes : ByteArray} {maxL : Nat} {ret : Option FieldType}
    (hown : s.vm.findClass own = some m.cls) (hlink : (Cond.methodLink own index y).before args s = true) (hstat : (Cond.static y).before args s = true) (hinit : (Cond.initialized y.cls).before args s = true)
    (hcode : (Cond.code y bytes maxL ret).before args s = true) (hy : y.cls ≠ "java/lang/invoke/MethodHandle" ∧ y.cls ≠ "java/lang/invoke/VarHandle")
    {W9 : Nat} {Pre : Pt → Array Value → Prop} {Post : Pt → Array Value → Option Value → Pt → Prop} {PostX : Pt → Array Value → Addr → Pt → Prop} (hK : vx_Back l R p e below s args y 3 W9 Pre Post PostX)
    {g : JFrame} (hg : g.method = m) (hsize : g.locals.size = c.maxLocals) {argsL rest : List Value} (hlen : ∀ sig, parseMethodDescriptor y.desc = some sig → argsL.length = sig.parameters.length)
    (hstack : g.stack = argsL.reverse ++ rest) (hW : 2 * g.monitorRoom + (rest.map fun v => v.category).sum ≤ W9) (hdg : decode c.code g.pc = .ok (.invokestatic index, 3))
    (hpre : ∀ vm₁, s.WarmedH vm₁ → Pre ⟨T.setVm vm₁, locs, cells, slots⟩ argsL.toArray) :
    (∃ (v : Option Value) (vm₁ : Vm) (B : Pt), s.WarmedH vm₁ ∧ Stand p l e R s m args below meth c B.U B.locs B.cells B.slots ∧ Post ⟨T.setVm vm₁, locs, cells, slots⟩ argsL.toArray v B ∧
      ∀ target, Steps p.tables e below (B.U.setTop { g with pc := g.pc + 3, stack := v.toList ++ rest }) target → Steps p.tables e below (T.setTop g) target) ∨
    (∃ (q : Addr) (vm₁ : Vm) (B : Pt), s.WarmedH vm₁ ∧ Stand p l e R s m args below meth c B.U B.locs B.cells B.slots ∧ PostX ⟨T.setVm vm₁, locs, cells, slots⟩ argsL.toArray q B ∧
      Steps p.tables e below (T.setTop g) ((B.U.setTop { g with stack := rest }).pushFrame (.throwing q))) := by
  obtain ⟨mk, hnamed⟩ := Cond.code_named hcode
  obtain ⟨methM, cM, hmethM, -, -, -, -, -, -, hsigM⟩ := Cond.code_spec hnamed hcode
  have hstatic : methM.isStatic = true := Cond.static_spec hnamed hmethM hstat
  obtain ⟨kP, hkP, -⟩ := className_of_methodNamed hnamed
  have hinitP : kP.init = .initialized := Cond.initialized_spec (findClass_of_methodNamed hnamed) hkP hinit
  obtain ⟨vm₁, X₁, hstep₁⟩ := X.invokestatic hexec hown hlink hnamed hmethM hstatic hkP hinitP hy (g := g) hg (argsL := argsL) (rest := rest) (hlen _ hsigM) hstack hdg
  rcases hK m meth c ⟨T.setVm vm₁, locs, cells, slots⟩ { g with stack := rest } (.invokestatic index) mk argsL.toArray X₁ hg hsize hdg hW (X₁.named hnamed) (hpre vm₁ X₁.warmed) with ⟨v, B, X', hpost, hsteps⟩ | ⟨q, B, X', hpost, hsteps⟩
  · exact Or.inl ⟨v, vm₁, B, X₁.warmed, X', hpost, fun target h => hstep₁ _ fun acts => by rw [doInvoke_state]; exact hsteps.trans h⟩
  · exact Or.inr ⟨q, vm₁, B, X₁.warmed, X', hpost, hstep₁ _ fun acts => by rw [doInvoke_state]; exact hsteps⟩
end Calls
theorem vx_cls {s : State} {T : State} {vm₁ : Vm} {E : String} {k : ClassId} (hW : s.WarmedH vm₁) (h : (T.setVm vm₁).vm.findClass E = some k) : s.vm.findClass E = some k := by
  have h1 : vm₁.findClass E = some k := h
  rw [hW.alike.findClass] at h1
  exact h1
/-- the method's frame g, with q thrown over it -/
def vx_W (p : Program) (l : Launch) (e : Env) (R : Room) (s : State) (m : MethodId) (args : Array Value) (below : List Frame) (meth : Method) (c : Code) (H : Heap) (locs : List Loc) (cells slots : Nat) (Q : State → Prop) (g : JFrame) (q : Addr) : Prop :=
  ∀ T : State, T.heap = H → Stand p l e R s m args below meth c T locs cells slots → ∃ t, Steps p.tables e below ((T.setTop g).pushFrame (.throwing q)) t ∧ Q t
def vx_Run (p : Program) (l : Launch) (e : Env) (R : Room) (s : State) (m : MethodId) (args : Array Value) (below : List Frame) (meth : Method) (c : Code) (H : Heap) (locs : List Loc) (cells slots mc ms : Nat) (g : JFrame) (rest : List Value) (Qa : State → Outcome → State → Prop) (XC : String → State → State → Prop) (free : Addr → Prop) : Prop :=
  ∀ T : State, T.heap = H → Stand p l e R s m args below meth c T locs cells slots →
    (∃ (v : Option Value) (st₀ t T' : State) (L : List Loc), st₀.heap = H ∧ Stand p l e R s m args below meth c T' (locs ++ L) (cells + mc) (slots + ms) ∧ (∀ q ∈ L, free q.base) ∧ T'.heap = t.heap ∧ T'.vm = t.vm ∧ Qa st₀ (.returned v) t ∧
      Goes p e below T g T' { g with pc := g.pc + 3, stack := v.toList ++ rest }) ∨
    (∃ (q : Addr) (st₀ t T' : State) (L : List Loc) (E : String) (ce : Cell), st₀.heap = H ∧ Stand p l e R s m args below meth c T' (locs ++ L) (cells + mc) (slots + ms) ∧ (∀ z ∈ L, free z.base) ∧ T'.heap = t.heap ∧ T'.vm = t.vm ∧ XC E st₀ t ∧ t.heap[q]? = some ce ∧ ce.vm = .none ∧ s.vm.findClass E = some ce.cls ∧
      Steps p.tables e below (T.setTop g) ((T'.setTop { g with stack := rest }).pushFrame (.throwing q)))
def vx_X {S : Type} (px : S → Prop) (B : String → S → State → Prop) (A : Nat → Prop) : String → State → State → Prop := fun E st t => ∃ u : S, px u ∧ B E u t ∧ va_F A st t
section Runs
variable {p : Program} {l : Launch} {e : Env} {R : Room} {s : State} {m : MethodId} {args : Array Value} {below : List Frame} {meth : Method} {c : Code} {H : Heap} {locs : List Loc} {cells slots : Nat}
variable {y : MethodName} {bytes cc : ByteArray} {maxL nL mc ms n index : Nat} {ret : Option FieldType} {ws : List Cond} {rm : Room} {Pc : Array Value → State → Prop} {Qc : Array Value → State → Outcome → State → Prop} {XC : String → State → State → Prop} {free : Addr → Prop} {Ts : List Cond} {own C : String} {b : Addr} {As rest : List Value} {g : JFrame}
theorem vx_callBack (cb : CallB R s args own index y bytes maxL ret ws rm mc ms n) (hM : vx_Met l y ws rm Pc Qc XC mc ms free) (hbl : FrameBlind Pc) : vx_Back l R p e below s args y 3 8 (PreOf R mc ms Pc) (PostOf Qc mc ms free) (vx_Post XC mc ms free) := by
  obtain ⟨hrc, hrs, hfr, hlo, hws, hcw, -, hini, -⟩ := cb
  exact vx_back (bytes := bytes) (maxL := maxL) (ret := ret) hM hbl hrc hrs hfr hlo hws hcw (fun a' U hW => word_at hW (Or.inl (by first | rfl | simp [Cond.onTables, Cond.keeps, Cond.steady])) hini)
theorem vx_runV (S : CallFix p m c cc nL s args Ts own) (hM : vx_Met l y ws rm Pc Qc XC mc ms free) (cw : CallW R s args own C index y bytes maxL ret ws rm mc ms n) (hp : PreV s H C b Pc As)
    (hg : g.method = m) (hn : As.length = n) (hsize : g.locals.size = nL) (hstack : g.stack = As.reverse ++ .ref b :: rest) (hW : 2 * g.monitorRoom + (rest.map fun v => v.category).sum ≤ 8) (hdg : decode cc g.pc = .ok (.invokevirtual index, 3)) (hf : cells + mc ≤ R.cells ∧ slots + ms ≤ R.slots) :
    vx_Run p l e R s m args below meth c H locs cells slots mc ms g rest (Qc (Value.ref b :: As).toArray) XC free := by
  have hK : vx_Back l R p e below s args y 3 8 (PreOf R mc ms Pc) (PostOf Qc mc ms free) (vx_Post XC mc ms free) := vx_callBack cw.1 hM hp.1
  obtain ⟨⟨-, -, -, -, -, -, hcode, -, hy, hlen, hl⟩, hin, hse⟩ := cw
  obtain ⟨hx, hb, hml, ho, -⟩ := S
  obtain ⟨-, ⟨cellB, hcB, hoB, hclB⟩, hPc⟩ := hp
  intro T hT X
  rcases vx_callV X hx (C := C) (bytes := bytes) (maxL := maxL) (ret := ret) ho hl hin hse hcode hy hK (by rw [hT]; exact hcB) hoB hclB hg (hsize.trans hml.symm) (argsL := As) (rest := rest) (fun sig h => hn.trans (hlen sig h)) hstack hW (by rw [hb]; exact hdg)
    (fun vm₁ hW₁ => ⟨hf.1, hf.2, hPc (T.setVm vm₁) hT hW₁⟩) with ⟨v, vm₁, ⟨U', l2, c2, s2⟩, hW₁, X', ⟨g', mk, t, L, e1, e2, hq, h1, hL, h2, h3⟩, st⟩ | ⟨q, vm₁, ⟨U', l2, c2, s2⟩, hW₁, X', ⟨g', mk, t, L, E, ce, e1, e2, hq, hce, hcv, hcl, h1, hL, h2, h3⟩, st⟩
  · dsimp only [Pt.U, Pt.locs, Pt.cells, Pt.slots] at X' e1 e2 h1 h2 h3 st
    subst h1; subst h2; subst h3
    exact Or.inl ⟨v, (T.setVm vm₁).calling g' mk (Value.ref b :: As).toArray, t, U', L, hT, X', hL, e1, e2, hq, st⟩
  · dsimp only [Pt.U, Pt.locs, Pt.cells, Pt.slots] at X' e1 e2 h1 h2 h3 st hcl
    subst h1; subst h2; subst h3
    exact Or.inr ⟨q, (T.setVm vm₁).calling g' mk (Value.ref b :: As).toArray, t, U', L, E, ce, hT, X', hL, e1, e2, hq, hce, hcv, vx_cls hW₁ hcl, st⟩
theorem vx_runS (S : CallFix p m c cc nL s args Ts own) (hM : vx_Met l y ws rm Pc Qc XC mc ms free) (cw : CallB R s args own index y bytes maxL ret ws rm mc ms n ∧ (Cond.static y).before args s = true) (hp : PreS s H Pc As)
    (hg : g.method = m) (hn : As.length = n) (hsize : g.locals.size = nL) (hstack : g.stack = As.reverse ++ rest) (hW : 2 * g.monitorRoom + (rest.map fun v => v.category).sum ≤ 8) (hdg : decode cc g.pc = .ok (.invokestatic index, 3)) (hf : cells + mc ≤ R.cells ∧ slots + ms ≤ R.slots) :
    vx_Run p l e R s m args below meth c H locs cells slots mc ms g rest (Qc As.toArray) XC free := by
  have hK : vx_Back l R p e below s args y 3 8 (PreOf R mc ms Pc) (PostOf Qc mc ms free) (vx_Post XC mc ms free) := vx_callBack cw.1 hM hp.1
  obtain ⟨⟨-, -, -, -, -, -, hcode, hini, hy, hlen, hl⟩, hstt⟩ := cw
  obtain ⟨hx, hb, hml, ho, -⟩ := S
  intro T hT X
  rcases vx_callS X hx (bytes := bytes) (maxL := maxL) (ret := ret) ho hl hstt hini hcode hy hK hg (hsize.trans hml.symm) (argsL := As) (rest := rest) (fun sig h => hn.trans (hlen sig h)) hstack hW (by rw [hb]; exact hdg)
    (fun vm₁ hW₁ => ⟨hf.1, hf.2, hp.2 (T.setVm vm₁) hT hW₁⟩) with ⟨v, vm₁, ⟨U', l2, c2, s2⟩, hW₁, X', ⟨g', mk, t, L, e1, e2, hq, h1, hL, h2, h3⟩, st⟩ | ⟨q, vm₁, ⟨U', l2, c2, s2⟩, hW₁, X', ⟨g', mk, t, L, E, ce, e1, e2, hq, hce, hcv, hcl, h1, hL, h2, h3⟩, st⟩
  · dsimp only [Pt.U, Pt.locs, Pt.cells, Pt.slots] at X' e1 e2 h1 h2 h3 st
    subst h1; subst h2; subst h3
    exact Or.inl ⟨v, (T.setVm vm₁).calling g' mk As.toArray, t, U', L, hT, X', hL, e1, e2, hq, st⟩
  · dsimp only [Pt.U, Pt.locs, Pt.cells, Pt.slots] at X' e1 e2 h1 h2 h3 st hcl
    subst h1; subst h2; subst h3
    exact Or.inr ⟨q, (T.setVm vm₁).calling g' mk As.toArray, t, U', L, E, ce, hT, X', hL, e1, e2, hq, hce, hcv, vx_cls hW₁ hcl, st⟩
end Runs
section Rows
variable {p : Program} {l : Launch} {e : Env} {R : Room} {s : State} {m : MethodId} {args : Array Value} {below : List Frame} {meth : Method} {c : Code} {H : Heap} {locs : List Loc} {cells slots : Nat} {Q : State → Prop}
variable {mc ms : Nat} {free : Addr → Prop} {A0 A1 : Nat → Prop} {H0 : Heap} {a : Array Value} {pc : Nat} {ls : Array Slot} {st0 rest : List Value}
theorem vx_keep {st₀ t T' : State} {L : List Loc} (h0 : st₀.heap = H) (e1 : T'.heap = t.heap) (hS : va_S A0 H0 H locs) (hA : ∀ q, q < H.size → A1 q → A0 q) (hf : ∀ q, free q → A0 q) (hL : ∀ q ∈ L, free q.base) (hF : va_F A1 st₀ t) :
    H.size ≤ T'.heap.size ∧ (∀ q : Nat, q < H.size → ¬ A1 q → T'.heap[q]? = H[q]?) ∧ va_S A0 H0 T'.heap (locs ++ L) := by
  obtain ⟨hz, hk⟩ := hF
  rw [h0] at hz hk
  exact ⟨by rw [e1]; exact hz, fun q h1 h2 => by rw [e1]; exact hk q h1 h2,
    ⟨Nat.le_trans hS.1 (by rw [e1]; exact hz), fun q h1 h2 => by rw [e1, hk q (Nat.lt_of_lt_of_le h1 hS.1) (fun z => h2 (hA q (Nat.lt_of_lt_of_le h1 hS.1) z))]; exact hS.2.1 q h1 h2, fun q hq => by
      rcases List.mem_append.mp hq with h | h
      · exact hS.2.2 q h
      · exact hf _ (hL q h)⟩⟩
theorem vx_calli {S SX : Type} {post : Int32 → S → Prop} {px : SX → Prop} {B : S → State → Prop} {BX : String → SX → State → Prop} {AX : Nat → Prop} (hr : vx_Run p l e R s m args below meth c H locs cells slots mc ms (F0 m pc ls st0) rest (va_Qi post B A1 a) (vx_X px BX AX) free) (hS : va_S A0 H0 H locs) (hA : ∀ q, q < H.size → A1 q → A0 q) (hf : ∀ q, free q → A0 q) (hAX : ∀ q, q < H.size → AX q → A0 q)
    (kx : ∀ (E : String) (ce : Cell) (q9 : Addr) (u : SX) (t : State) (H1 : Heap) (locs1 : List Loc), t.heap = H1 → s.vm.Alike t.vm → px u → BX E u t → H.size ≤ H1.size → (∀ q : Nat, q < H.size → ¬ AX q → H1[q]? = H[q]?) → va_S A0 H0 H1 locs1 → H1[q9]? = some ce → ce.vm = .none → s.vm.findClass E = some ce.cls → vx_W p l e R s m args below meth c H1 locs1 (cells + mc) (slots + ms) Q (F0 m pc ls rest) q9)
    (kk : ∀ (r : Int32) (u : S) (t : State) (H1 : Heap) (locs1 : List Loc), t.heap = H1 → s.vm.Alike t.vm → post r u → B u t → H.size ≤ H1.size → (∀ q : Nat, q < H.size → ¬ A1 q → H1[q]? = H[q]?) → va_S A0 H0 H1 locs1 → W p l e R s m args below meth c H1 locs1 (cells + mc) (slots + ms) Q (F0 m (pc + 3) ls (.int r :: rest))) : W p l e R s m args below meth c H locs cells slots Q (F0 m pc ls st0) := by
  intro T hT X
  rcases hr T hT X with ⟨v, st₀, t, T', L, h0, X', hL, e1, e2, ⟨⟨r, u, hv, hp, hb⟩, hF⟩, st⟩ | ⟨q, st₀, t, T', L, E, ce, h0, X', hL, e1, e2, ⟨u, hp, hb, hF⟩, hce, hcv, hcl, st⟩
  · cases hv
    obtain ⟨k1, k2, k3⟩ := vx_keep h0 e1 hS hA hf hL hF
    obtain ⟨t2, a1, b1⟩ := kk r u t T'.heap (locs ++ L) e1.symm (by rw [← e2]; exact X'.warmed.alike) hp hb k1 k2 k3 T' rfl X'
    exact ⟨t2, st t2 a1, b1⟩
  · obtain ⟨k1, k2, k3⟩ := vx_keep h0 e1 hS hAX hf hL hF
    obtain ⟨t2, a1, b1⟩ := kx E ce q u t T'.heap (locs ++ L) e1.symm (by rw [← e2]; exact X'.warmed.alike) hp hb k1 k2 k3 (by rw [e1]; exact hce) hcv hcl T' rfl X'
    exact ⟨t2, st.trans a1, b1⟩
theorem vx_calll {S SX : Type} {post : Int64 → S → Prop} {px : SX → Prop} {B : S → State → Prop} {BX : String → SX → State → Prop} {AX : Nat → Prop} (hr : vx_Run p l e R s m args below meth c H locs cells slots mc ms (F0 m pc ls st0) rest (va_Ql post B A1 a) (vx_X px BX AX) free) (hS : va_S A0 H0 H locs) (hA : ∀ q, q < H.size → A1 q → A0 q) (hf : ∀ q, free q → A0 q) (hAX : ∀ q, q < H.size → AX q → A0 q)
    (kx : ∀ (E : String) (ce : Cell) (q9 : Addr) (u : SX) (t : State) (H1 : Heap) (locs1 : List Loc), t.heap = H1 → s.vm.Alike t.vm → px u → BX E u t → H.size ≤ H1.size → (∀ q : Nat, q < H.size → ¬ AX q → H1[q]? = H[q]?) → va_S A0 H0 H1 locs1 → H1[q9]? = some ce → ce.vm = .none → s.vm.findClass E = some ce.cls → vx_W p l e R s m args below meth c H1 locs1 (cells + mc) (slots + ms) Q (F0 m pc ls rest) q9)
    (kk : ∀ (r : Int64) (u : S) (t : State) (H1 : Heap) (locs1 : List Loc), t.heap = H1 → s.vm.Alike t.vm → post r u → B u t → H.size ≤ H1.size → (∀ q : Nat, q < H.size → ¬ A1 q → H1[q]? = H[q]?) → va_S A0 H0 H1 locs1 → W p l e R s m args below meth c H1 locs1 (cells + mc) (slots + ms) Q (F0 m (pc + 3) ls (.long r :: rest))) : W p l e R s m args below meth c H locs cells slots Q (F0 m pc ls st0) := by
  intro T hT X
  rcases hr T hT X with ⟨v, st₀, t, T', L, h0, X', hL, e1, e2, ⟨⟨r, u, hv, hp, hb⟩, hF⟩, st⟩ | ⟨q, st₀, t, T', L, E, ce, h0, X', hL, e1, e2, ⟨u, hp, hb, hF⟩, hce, hcv, hcl, st⟩
  · cases hv
    obtain ⟨k1, k2, k3⟩ := vx_keep h0 e1 hS hA hf hL hF
    obtain ⟨t2, a1, b1⟩ := kk r u t T'.heap (locs ++ L) e1.symm (by rw [← e2]; exact X'.warmed.alike) hp hb k1 k2 k3 T' rfl X'
    exact ⟨t2, st t2 a1, b1⟩
  · obtain ⟨k1, k2, k3⟩ := vx_keep h0 e1 hS hAX hf hL hF
    obtain ⟨t2, a1, b1⟩ := kx E ce q u t T'.heap (locs ++ L) e1.symm (by rw [← e2]; exact X'.warmed.alike) hp hb k1 k2 k3 (by rw [e1]; exact hce) hcv hcl T' rfl X'
    exact ⟨t2, st.trans a1, b1⟩
theorem vx_callf {S SX : Type} {post : UInt32 → S → Prop} {px : SX → Prop} {B : S → State → Prop} {BX : String → SX → State → Prop} {AX : Nat → Prop} (hr : vx_Run p l e R s m args below meth c H locs cells slots mc ms (F0 m pc ls st0) rest (va_Qf post B A1 a) (vx_X px BX AX) free) (hS : va_S A0 H0 H locs) (hA : ∀ q, q < H.size → A1 q → A0 q) (hf : ∀ q, free q → A0 q) (hAX : ∀ q, q < H.size → AX q → A0 q)
    (kx : ∀ (E : String) (ce : Cell) (q9 : Addr) (u : SX) (t : State) (H1 : Heap) (locs1 : List Loc), t.heap = H1 → s.vm.Alike t.vm → px u → BX E u t → H.size ≤ H1.size → (∀ q : Nat, q < H.size → ¬ AX q → H1[q]? = H[q]?) → va_S A0 H0 H1 locs1 → H1[q9]? = some ce → ce.vm = .none → s.vm.findClass E = some ce.cls → vx_W p l e R s m args below meth c H1 locs1 (cells + mc) (slots + ms) Q (F0 m pc ls rest) q9)
    (kk : ∀ (r : UInt32) (u : S) (t : State) (H1 : Heap) (locs1 : List Loc), t.heap = H1 → s.vm.Alike t.vm → post r u → B u t → H.size ≤ H1.size → (∀ q : Nat, q < H.size → ¬ A1 q → H1[q]? = H[q]?) → va_S A0 H0 H1 locs1 → W p l e R s m args below meth c H1 locs1 (cells + mc) (slots + ms) Q (F0 m (pc + 3) ls (.float r :: rest))) : W p l e R s m args below meth c H locs cells slots Q (F0 m pc ls st0) := by
  intro T hT X
  rcases hr T hT X with ⟨v, st₀, t, T', L, h0, X', hL, e1, e2, ⟨⟨r, u, hv, hp, hb⟩, hF⟩, st⟩ | ⟨q, st₀, t, T', L, E, ce, h0, X', hL, e1, e2, ⟨u, hp, hb, hF⟩, hce, hcv, hcl, st⟩
  · cases hv
    obtain ⟨k1, k2, k3⟩ := vx_keep h0 e1 hS hA hf hL hF
    obtain ⟨t2, a1, b1⟩ := kk r u t T'.heap (locs ++ L) e1.symm (by rw [← e2]; exact X'.warmed.alike) hp hb k1 k2 k3 T' rfl X'
    exact ⟨t2, st t2 a1, b1⟩
  · obtain ⟨k1, k2, k3⟩ := vx_keep h0 e1 hS hAX hf hL hF
    obtain ⟨t2, a1, b1⟩ := kx E ce q u t T'.heap (locs ++ L) e1.symm (by rw [← e2]; exact X'.warmed.alike) hp hb k1 k2 k3 (by rw [e1]; exact hce) hcv hcl T' rfl X'
    exact ⟨t2, st.trans a1, b1⟩
theorem vx_calld {S SX : Type} {post : UInt64 → S → Prop} {px : SX → Prop} {B : S → State → Prop} {BX : String → SX → State → Prop} {AX : Nat → Prop} (hr : vx_Run p l e R s m args below meth c H locs cells slots mc ms (F0 m pc ls st0) rest (va_Qd post B A1 a) (vx_X px BX AX) free) (hS : va_S A0 H0 H locs) (hA : ∀ q, q < H.size → A1 q → A0 q) (hf : ∀ q, free q → A0 q) (hAX : ∀ q, q < H.size → AX q → A0 q)
    (kx : ∀ (E : String) (ce : Cell) (q9 : Addr) (u : SX) (t : State) (H1 : Heap) (locs1 : List Loc), t.heap = H1 → s.vm.Alike t.vm → px u → BX E u t → H.size ≤ H1.size → (∀ q : Nat, q < H.size → ¬ AX q → H1[q]? = H[q]?) → va_S A0 H0 H1 locs1 → H1[q9]? = some ce → ce.vm = .none → s.vm.findClass E = some ce.cls → vx_W p l e R s m args below meth c H1 locs1 (cells + mc) (slots + ms) Q (F0 m pc ls rest) q9)
    (kk : ∀ (r : UInt64) (u : S) (t : State) (H1 : Heap) (locs1 : List Loc), t.heap = H1 → s.vm.Alike t.vm → post r u → B u t → H.size ≤ H1.size → (∀ q : Nat, q < H.size → ¬ A1 q → H1[q]? = H[q]?) → va_S A0 H0 H1 locs1 → W p l e R s m args below meth c H1 locs1 (cells + mc) (slots + ms) Q (F0 m (pc + 3) ls (.double r :: rest))) : W p l e R s m args below meth c H locs cells slots Q (F0 m pc ls st0) := by
  intro T hT X
  rcases hr T hT X with ⟨v, st₀, t, T', L, h0, X', hL, e1, e2, ⟨⟨r, u, hv, hp, hb⟩, hF⟩, st⟩ | ⟨q, st₀, t, T', L, E, ce, h0, X', hL, e1, e2, ⟨u, hp, hb, hF⟩, hce, hcv, hcl, st⟩
  · cases hv
    obtain ⟨k1, k2, k3⟩ := vx_keep h0 e1 hS hA hf hL hF
    obtain ⟨t2, a1, b1⟩ := kk r u t T'.heap (locs ++ L) e1.symm (by rw [← e2]; exact X'.warmed.alike) hp hb k1 k2 k3 T' rfl X'
    exact ⟨t2, st t2 a1, b1⟩
  · obtain ⟨k1, k2, k3⟩ := vx_keep h0 e1 hS hAX hf hL hF
    obtain ⟨t2, a1, b1⟩ := kx E ce q u t T'.heap (locs ++ L) e1.symm (by rw [← e2]; exact X'.warmed.alike) hp hb k1 k2 k3 (by rw [e1]; exact hce) hcv hcl T' rfl X'
    exact ⟨t2, st.trans a1, b1⟩
theorem vx_callv {S SX : Type} {post : S → Prop} {px : SX → Prop} {B : S → State → Prop} {BX : String → SX → State → Prop} {AX : Nat → Prop} (hr : vx_Run p l e R s m args below meth c H locs cells slots mc ms (F0 m pc ls st0) rest (va_Qv post B A1 a) (vx_X px BX AX) free) (hS : va_S A0 H0 H locs) (hA : ∀ q, q < H.size → A1 q → A0 q) (hf : ∀ q, free q → A0 q) (hAX : ∀ q, q < H.size → AX q → A0 q)
    (kx : ∀ (E : String) (ce : Cell) (q9 : Addr) (u : SX) (t : State) (H1 : Heap) (locs1 : List Loc), t.heap = H1 → s.vm.Alike t.vm → px u → BX E u t → H.size ≤ H1.size → (∀ q : Nat, q < H.size → ¬ AX q → H1[q]? = H[q]?) → va_S A0 H0 H1 locs1 → H1[q9]? = some ce → ce.vm = .none → s.vm.findClass E = some ce.cls → vx_W p l e R s m args below meth c H1 locs1 (cells + mc) (slots + ms) Q (F0 m pc ls rest) q9)
    (kk : ∀ (u : S) (t : State) (H1 : Heap) (locs1 : List Loc), t.heap = H1 → s.vm.Alike t.vm → post u → B u t → H.size ≤ H1.size → (∀ q : Nat, q < H.size → ¬ A1 q → H1[q]? = H[q]?) → va_S A0 H0 H1 locs1 → W p l e R s m args below meth c H1 locs1 (cells + mc) (slots + ms) Q (F0 m (pc + 3) ls (rest))) : W p l e R s m args below meth c H locs cells slots Q (F0 m pc ls st0) := by
  intro T hT X
  rcases hr T hT X with ⟨v, st₀, t, T', L, h0, X', hL, e1, e2, ⟨⟨u, hv, hp, hb⟩, hF⟩, st⟩ | ⟨q, st₀, t, T', L, E, ce, h0, X', hL, e1, e2, ⟨u, hp, hb, hF⟩, hce, hcv, hcl, st⟩
  · cases hv
    obtain ⟨k1, k2, k3⟩ := vx_keep h0 e1 hS hA hf hL hF
    obtain ⟨t2, a1, b1⟩ := kk u t T'.heap (locs ++ L) e1.symm (by rw [← e2]; exact X'.warmed.alike) hp hb k1 k2 k3 T' rfl X'
    exact ⟨t2, st t2 a1, b1⟩
  · obtain ⟨k1, k2, k3⟩ := vx_keep h0 e1 hS hAX hf hL hF
    obtain ⟨t2, a1, b1⟩ := kx E ce q u t T'.heap (locs ++ L) e1.symm (by rw [← e2]; exact X'.warmed.alike) hp hb k1 k2 k3 (by rw [e1]; exact hce) hcv hcl T' rfl X'
    exact ⟨t2, st.trans a1, b1⟩
/-- caught by the row x of this method's table; the rows ahead don't take it -/
theorem vx_catch {own name : String} {E : String} {ce : Cell} {q : Addr} (hown : s.vm.findClass own = some m.cls) (pre : List ExceptionTableEntry) (x : ExceptionTableEntry) (suf : List ExceptionTableEntry) (hsplit : c.exceptionTable.toList = pre ++ x :: suf)
    (hpass : ∀ z ∈ pre, covers z pc = false ∨ (z.catchType ≠ 0 ∧ ∃ nm : String, (Cond.classLink own z.catchType nm).before args s = true ∧ va_Nc E nm s)) (hx : covers x pc = true) (h0 : x.catchType ≠ 0)
    (hlink : (Cond.classLink own x.catchType name).before args s = true) (hcast : (Cond.castable E name).before args s = true) (hcell : H[q]? = some ce) (hv : ce.vm = .none) (hcl : s.vm.findClass E = some ce.cls)
    (kk : W p l e R s m args below meth c H locs cells slots Q (F0 m x.handlerPc ls [.ref q])) : vx_W p l e R s m args below meth c H locs cells slots Q (F0 m pc ls rest) q := by
  intro T hT X
  have hpl : e.platform.magicAccessors = ({} : Platform).magicAccessors := by rw [X.admits.platform]
  obtain ⟨c3, c4, hc3, hc4, hasg⟩ := Cond.castable_spec hcast
  cases Option.some.inj (hc3.symm.trans hcl)
  obtain ⟨c5, hc5, hcl5⟩ := Cond.classLink_spec hown hlink e.platform hpl
  cases Option.some.inj (hc4.symm.trans hc5)
  obtain ⟨vm', X', st⟩ := X.thenCaughtThrough q (g := F0 m pc ls rest) rfl (Steps.refl _) (by rw [hT]; exact hcell) (by rw [hv]; rfl) (by obtain ⟨k9, h9, -⟩ := Vm.findClass_spec hcl; exact ⟨k9, h9⟩) pre x suf hsplit
    (fun z hz => by
      rcases hpass z hz with h | ⟨hz0, nm, hl1, hn1⟩
      · exact Or.inl h
      · obtain ⟨c6, hc6, hcl6⟩ := Cond.classLink_spec hown hl1 e.platform hpl
        obtain ⟨a8, b8, h1, h2, h3⟩ := hn1
        cases Option.some.inj (h1.symm.trans hcl)
        cases Option.some.inj (h2.symm.trans hc6)
        exact Or.inr ⟨hz0, _, hcl6, h3⟩) hx (Or.inr ⟨h0, c4, hcl5, hasg⟩)
  obtain ⟨t, a1, b1⟩ := kk (T.setVm vm') hT X'
  exact ⟨t, st.trans a1, b1⟩
end Rows
section Ends
variable {p : Program} {l : Launch} {e : Env} {R : Room} {s : State} {m : MethodId} {args : Array Value} {below : List Frame} {meth : Method} {c : Code} {H : Heap} {locs : List Loc} {cells slots : Nat} {Q : State → Prop}
variable {mc ms : Nat} {free : Addr → Prop} {A0 A1 : Nat → Prop} {H0 : Heap} {a : Array Value} {ls : Array Slot} {st0 rest : List Value}
variable {Qc : Array Value → State → Outcome → State → Prop} {XC : String → State → State → Prop}
/-- what a body that may throw owes at its end -/
def vx_MQ (below : List Frame) (Qc : Array Value → State → Outcome → State → Prop) (XC : String → State → State → Prop) (a : Array Value) (s : State) (mc ms : Nat) (free : Addr → Prop) : State → Prop := fun t =>
  ∃ o, t.status = .running ∧ Ended t below o ∧ vx_Q Qc XC mc ms free a s o t
theorem vx_ret {g : JFrame} {mc ms : Nat} (k : W p l e R s m args below meth c H locs cells slots (MQ below Qc args s mc ms free) g) : W p l e R s m args below meth c H locs cells slots (vx_MQ below Qc XC args s mc ms free) g := by
  intro T hT X
  obtain ⟨t, a1, o, b1, b2, b3, b4⟩ := k T hT X
  exact ⟨t, a1, o, b1, b2, Or.inl ⟨b3, b4⟩⟩
/-- not caught here: it goes on to the caller -/
theorem vx_widen {g : JFrame} {q : Addr} {k n : Nat} (h1 : cells ≤ k) (h2 : slots ≤ n) (kk : vx_W p l e R s m args below meth c H locs k n Q g q) : vx_W p l e R s m args below meth c H locs cells slots Q g q := fun T hT X => kk T hT (stand_widen X h1 h2)
theorem vx_out {pc : Nat} {E : String} {ce : Cell} {q : Addr} {mc ms : Nat} (hout : ∀ x ∈ c.exceptionTable.toList, covers x pc = false) (hlocks : meth.locks = false) (hcell : H[q]? = some ce) (hv : ce.vm = .none) (hcl : s.vm.findClass E = some ce.cls)
    (hx : ∀ t : State, t.heap = H → s.vm.Alike t.vm → XC E s t) (hf : ∀ z ∈ locs, free z.base) (hc : cells ≤ mc) (hs : slots ≤ ms) :
    vx_W p l e R s m args below meth c H locs cells slots (vx_MQ below Qc XC args s mc ms free) (F0 m pc ls rest) q := by
  intro T hT X
  obtain ⟨st1, hrun, hend, hW, hsm⟩ := X.leaveThrown q (g := F0 m pc ls rest) rfl rfl rfl hout hlocks
  have hcell9 : (T.setFrames (.throwing q :: below)).heap[q]? = some ce := by
    show T.heap[q]? = some ce
    rw [hT]; exact hcell
  exact ⟨_, st1, .threw q, hrun, hend, Or.inr ⟨q, rfl, E, ce, locs, hx _ hT hW.alike, hcell9, hv, hcl, hW, hsm.mono hc hs, hf⟩⟩
theorem vx_frame {U : State} {k n : Nat} (h : s.sameButNew ({ U with vm := s.vm } : State) locs k n) : s.heap.size ≤ U.heap.size ∧ ∀ q : Nat, q < s.heap.size → (∀ z ∈ locs, z.base ≠ q) → U.heap[q]? = s.heap[q]? := by
  obtain ⟨-, h2, -, -, -, h6⟩ := h
  refine ⟨h2, fun q hq hz => ?_⟩
  obtain ⟨c9, e1, e2, e3, e4⟩ := h6 q _ (Array.getElem?_eq_getElem hq)
  have hs : c9.slots = (s.heap[q]).slots := Array.ext_getElem? fun i => e4 i fun hm => hz _ hm rfl
  have h9 : c9 = s.heap[q] := by
    rw [hs] at e2
    exact e2
  have e5 : U.heap[q]? = some c9 := e1
  rw [e5, h9, Array.getElem?_eq_getElem hq]
/-- the words of a throw but the four that speak of the heap -/
def vx_no (w : Cond) : Bool := decide (w ≠ .isRef (.static Bundle.tN "UNASSIGNED_STACK" Bundle.steD)) && decide (w ≠ .isRef (.static Bundle.tN "SUPPRESSED_SENTINEL" Bundle.listD)) && decide (w ≠ .laysStatic Bundle.tN "UNASSIGNED_STACK" Bundle.steD) && decide (w ≠ .laysStatic Bundle.tN "SUPPRESSED_SENTINEL" Bundle.listD)
def vx_at0 (own : String) (ic : Nat) (X : String) (names : List String) : List Cond := (Bundle.ownAtoms0 own ic X names).filter vx_no
def vx_atS (own : String) (ic : Nat) (X : String) (names : List String) : List Cond := (Bundle.ownAtoms own ic X names).filter vx_no
/-- a word that the tables alone decide, or a good one -/
def vx_ot (w : Cond) : Bool := w.onTables || goodWord w
theorem vx_ot_at {args a' : Array Value} {s U : State} {w : Cond} (hW : s.WarmedH U.vm) (hvm : s.vm = U.vm) (hg : vx_ot w = true) (h : w.before args s = true) : w.before a' U = true := by
  simp only [vx_ot, Bool.or_eq_true] at hg
  rcases hg with hg | hg
  · exact va_tabs hg hvm h
  · exact word_at hW (good_of_word hg) h
/-- a list's words: the good ones out of the method's own list, the others by premises of their own -/
theorem vx_hat {args : Array Value} {s : State} {L B : List Cond} (h1 : ∀ w ∈ L.filter goodWord, w.before args s = true) (h2 : ∀ w ∈ L.filter (fun w => !goodWord w), w ∈ B) (h3 : ∀ w ∈ B, w.before args s = true) : ∀ w ∈ L, w.before args s = true := by
  intro w hw
  by_cases g : goodWord w = true
  · exact h1 w (List.mem_filter.mpr ⟨hw, g⟩)
  · refine h3 w (h2 w (List.mem_filter.mpr ⟨hw, ?_⟩))
    show (!goodWord w) = true
    cases hgw : goodWord w
    · rfl
    · exact absurd hgw g
theorem vx_c {args : Array Value} {s : State} {w : Cond} {B : List Cond} (h : w.before args s = true) (t : ∀ w ∈ B, w.before args s = true) : ∀ w' ∈ w :: B, w'.before args s = true := fun w' h' => (List.mem_cons.mp h').elim (fun e => by rw [e]; exact h) (t w')
theorem vx_n {args : Array Value} {s : State} : ∀ w ∈ ([] : List Cond), w.before args s = true := fun _ h => nomatch h
theorem vx_own {args : Array Value} {s : State} {L : List Cond} (h1 : ∀ w ∈ L.filter vx_no, w.before args s = true)
    (hU : (Cond.isRef (.static Bundle.tN "UNASSIGNED_STACK" Bundle.steD)).before args s = true) (hN : (Cond.isRef (.static Bundle.tN "SUPPRESSED_SENTINEL" Bundle.listD)).before args s = true)
    (lU : (Cond.laysStatic Bundle.tN "UNASSIGNED_STACK" Bundle.steD).before args s = true) (lN : (Cond.laysStatic Bundle.tN "SUPPRESSED_SENTINEL" Bundle.listD).before args s = true) : ∀ w ∈ L, w.before args s = true := by
  intro w hw
  by_cases e1 : w = .isRef (.static Bundle.tN "UNASSIGNED_STACK" Bundle.steD)
  · rw [e1]; exact hU
  · by_cases e2 : w = .isRef (.static Bundle.tN "SUPPRESSED_SENTINEL" Bundle.listD)
    · rw [e2]; exact hN
    · by_cases e3 : w = .laysStatic Bundle.tN "UNASSIGNED_STACK" Bundle.steD
      · rw [e3]; exact lU
      · by_cases e4 : w = .laysStatic Bundle.tN "SUPPRESSED_SENTINEL" Bundle.listD
        · rw [e4]; exact lN
        · exact h1 w (List.mem_filter.mpr ⟨hw, by unfold vx_no; rw [decide_eq_true e1, decide_eq_true e2, decide_eq_true e3, decide_eq_true e4]; rfl⟩)
/-- where a static field lies, its class's statics cell in H -/
def vx_L (C n d : String) (A : Nat → Prop) (U : State) (H : Heap) : Prop := ∃ (c : ClassId) (k : Class) (i : Nat) (f : Field) (a : Nat) (cell : Cell), U.vm.findClass C = some c ∧ U.fieldFound? C n d = some (c, k, i, f) ∧ f.isStatic = true ∧ k.statics = some a ∧ H[a]? = some cell ∧ cell.vm.isStatics = true ∧ cell.cls = c ∧ f.slot < cell.slots.size ∧ k.staticTypes[f.slot]? = some f.type ∧ ¬ A a
theorem vx_L.moved {C n d : String} {A : Nat → Prop} {u U : State} {H : Heap} (hvm : u.vm.Alike U.vm) (h : vx_L C n d A u H) : vx_L C n d A U H := by
  obtain ⟨c, k, i, f, a, cell, h1, h2, h3, h4, h5, h6, h7, h8, h9, h10⟩ := h
  obtain ⟨k', hi', he⟩ := State.fieldFound?_setVm hvm h2
  exact ⟨c, k', i, f, a, cell, by rw [hvm.findClass]; exact h1, hi', h3, by rw [he]; exact h4, h5, h6, h7, h8, by rw [he]; exact h9, h10⟩
theorem vx_L.kept {C n d : String} {A : Nat → Prop} {U : State} {H H1 : Heap} (h : vx_L C n d A U H) (hq : ∀ a : Nat, a < H.size → ¬ A a → H1[a]? = H[a]?) : vx_L C n d A U H1 := by
  obtain ⟨c, k, i, f, a, cell, h1, h2, h3, h4, h5, h6, h7, h8, h9, h10⟩ := h
  exact ⟨c, k, i, f, a, cell, h1, h2, h3, h4, by rw [hq a (Array.getElem?_eq_some_iff.mp h5).1 h10]; exact h5, h6, h7, h8, h9, h10⟩
theorem vx_L.narrow {C n d : String} {A B : Nat → Prop} {U : State} {H : Heap} (h : vx_L C n d A U H) (hAB : ∀ q, B q → A q) : vx_L C n d B U H := by
  obtain ⟨c, k, i, f, a, cell, h1, h2, h3, h4, h5, h6, h7, h8, h9, h10⟩ := h
  exact ⟨c, k, i, f, a, cell, h1, h2, h3, h4, h5, h6, h7, h8, h9, fun z => h10 (hAB _ z)⟩
theorem vx_L.word {C n d : String} {A : Nat → Prop} {s : State} {args : Array Value} (h : vx_L C n d A s s.heap) : (Cond.laysStatic C n d).before args s = true := by
  obtain ⟨c, k, i, f, a, cell, h1, h2, h3, h4, h5, h6, h7, h8, h9, -⟩ := h
  show (Cond.laysStatic C n d).holds args s none s [] = true
  exact Cond.laysStatic_of h1 h2 h3 h4 h5 h6 h7 h8 h9
/-- .. and what it holds: null or some reference -/
def vx_Zq (C n d : String) (A : Nat → Prop) (U : State) (H : Heap) : Prop := va_Zq C n d A U H ∧ vx_L C n d A U H
theorem vx_Zq.moved {C n d : String} {A : Nat → Prop} {u U : State} {H : Heap} (hvm : u.vm.Alike U.vm) (h : vx_Zq C n d A u H) : vx_Zq C n d A U H := ⟨va_Zq.moved hvm h.1, vx_L.moved hvm h.2⟩
theorem vx_Zq.kept {C n d : String} {A : Nat → Prop} {U : State} {H H1 : Heap} (h : vx_Zq C n d A U H) (hq : ∀ a : Nat, a < H.size → ¬ A a → H1[a]? = H[a]?) : vx_Zq C n d A U H1 := ⟨va_Zq.kept h.1 hq, vx_L.kept h.2 hq⟩
theorem vx_Zq.narrow {C n d : String} {A B : Nat → Prop} {U : State} {H : Heap} (h : vx_Zq C n d A U H) (hAB : ∀ q, B q → A q) : vx_Zq C n d B U H := ⟨va_Zq.narrow h.1 hAB, vx_L.narrow h.2 hAB⟩
theorem vx_Zqof {args : Array Value} {s : State} {C n d : String} {A : Nat → Prop} (hl : (Cond.laysStatic C n d).before args s = true) (hini : (Cond.initialized C).before args s = true) (h : (Cond.isRef (.static C n d)).before args s = true) (hA : ∀ a : Nat, a < s.heap.size → ¬ A a) : vx_Zq C n d A s s.heap := by
  refine ⟨va_Zqof hl hini h hA, ?_⟩
  obtain ⟨c, k, i, f, a, cell, h1, h2, h3, h4, h5, h6, h7, h8, h9⟩ := Cond.laysStatic_spec hl
  exact ⟨c, k, i, f, a, cell, h1, h2, h3, h4, h5, h6, h7, h8, h9, hA a (Array.getElem?_eq_some_iff.mp h5).1⟩
theorem vx_isRef {C n d : String} {v : Value} {A : Nat → Prop} {s : State} {args : Array Value} (h : va_Z C n d v A s s.heap) (hv : v.isRef = true) : (Cond.isRef (.static C n d)).before args s = true := by
  obtain ⟨cf, kf, fi, f, a, cell, h1, h2, h3, h4, h5, h6, h7, -⟩ := h
  have he : (Term.static C n d).eval args s none [] s = some v := by
    simp [Term.eval, State.fieldNamed?, h1, h2, h4, h5, h6, h7]
  simp only [Cond.before, Cond.holds, Cond.value, he]
  cases v <;> simp_all [Value.isRef]
theorem vx_isRefq {C n d : String} {A : Nat → Prop} {s : State} {args : Array Value} (h : va_Zq C n d A s s.heap) : (Cond.isRef (.static C n d)).before args s = true := by
  rcases h with h | ⟨t, h⟩
  · exact vx_isRef h rfl
  · exact vx_isRef h rfl
/-- the same frame, seen from here: as if the method were called anew in this heap -/
theorem vx_rebase {T : State} (X : Stand p l e R s m args below meth c T locs cells slots) {R' : Room} (hf : R'.frames ≤ R.frames) (hl : R'.locals ≤ R.locals) (hc : cells + R'.cells ≤ R.cells) (hs : slots + R'.slots ≤ R.slots) :
    Stand p l e R' ((T.setVm s.vm).setFrames (.invoking m args :: below)) m args below meth c T [] 0 0 := by
  have htop : (T.setVm s.vm).topJava?.isSome := X.here.top
  have hF : ((T.setVm s.vm).setFrames (.invoking m args :: below)).frames = .invoking m args :: below := State.frames_setFrames _ (State.cur_lt_of_top htop)
  obtain ⟨g₀, hg0⟩ := Option.isSome_iff_exists.mp htop
  obtain ⟨r, hr⟩ := State.topJava?_eq_some.mp hg0
  have hl9 : e.platform.stackLimits (T.setVm s.vm).me = e.platform.stackLimits s.me := X.limits
  have hb9 : (T.setVm s.vm).me.stackBytes = s.me.stackBytes := X.bytes
  refine ⟨X.admits, X.cas, X.clock, hF, ?_, X.hears, X.method, X.code, X.here, X.tail, X.warmed, ?_, ?_, ?_⟩
  · have h := X.room
    have hU : ((T.setVm s.vm).setFrames (.invoking m args :: below)).localsInUse = s.localsInUse := by
      rw [State.localsInUse_invoking hF (meth := meth) (c := c) X.method X.code, State.localsInUse_invoking X.frames X.method X.code]
    simp only [State.hasRoom, Bool.and_eq_true, decide_eq_true_eq] at h ⊢
    obtain ⟨⟨⟨⟨h1, h2, h3, h4, h5, h6⟩, h7⟩, h8⟩, h9⟩ := h
    rw [X.frames, List.length_cons] at h2 h3
    have q1 := X.heapSize
    have q2 := X.used
    simp only [hF, hU, List.length_cons, State.stackLimits_setFrames, State.stackBytes_setFrames, hl9, hb9]
    refine ⟨⟨⟨⟨by omega, by omega, by omega, by omega, by omega, h6⟩, ?_⟩, ?_⟩, X.book⟩
    · show T.heap.size + R'.cells ≤ e.platform.maxCells
      omega
    · show T.slotsUsed + R'.slots ≤ e.platform.maxSlots
      omega
  · rw [State.stackLimits_setFrames]; rfl
  · rw [State.stackBytes_setFrames]; rfl
  · refine ⟨?_, Nat.le_refl _, Nat.le_refl _, ?_, ?_, fun a c9 h9 => ⟨c9, h9, rfl, rfl, fun _ _ => rfl⟩⟩
    · obtain ⟨t, ht, -⟩ := State.frames_cons hr
      show T.setVm s.vm = { ((T.setVm s.vm).setFrames (.invoking m args :: below)).setFrames (T.setVm s.vm).frames with heap := T.heap, slotsUsed := T.slotsUsed }
      rw [State.setFrames_setFrames, State.setFrames_self ht]
      rfl
    · show T.slotsUsed = T.slotsUsed + ((T.heap.toList.drop T.heap.size).map (·.slots.size)).sum
      rw [List.drop_eq_nil_of_le (Nat.le_of_eq Array.length_toList)]
      rfl
    · show ((T.heap.toList.drop T.heap.size).map (·.slots.size)).sum ≤ 0
      rw [List.drop_eq_nil_of_le (Nat.le_of_eq Array.length_toList)]
      exact Nat.le_refl _
/-- 'throw new E()': new; dup; invokespecial; athrow -/
theorem vx_throw0 {cc : ByteArray} {pc : Nat} (hexec : p.tables.exec = Jvm.exec) (hb : c.code = cc) (hl : l.stackTraces = false) {own cls : String} {names : List String} {ik ic mc ms : Nat} {A : Nat → Prop}
    (hown : s.vm.findClass own = some m.cls) (hcls : Bundle.fit cls = true) (hnames : ∀ n ∈ names, Bundle.fit n = true)
    (hk : (Cond.classLink own ik cls).before args s = true) (hini : (Cond.initialized cls).before args s = true) (hat : ∀ w ∈ vx_at0 own ic cls names, w.before args s = true)
    (hgood : ∀ w ∈ Cond.classLink own ik cls :: Cond.initialized cls :: vx_at0 own ic cls names, vx_ot w = true)
    (hU : vx_Zq Bundle.tN "UNASSIGNED_STACK" Bundle.steD A s s.heap) (hN : vx_Zq Bundle.tN "SUPPRESSED_SENTINEL" Bundle.listD A s s.heap) (hS : va_S A s.heap H locs) (hsize : ls.size = c.maxLocals)
    (d0 : decode cc pc = .ok (.new ik, 3)) (d3 : decode cc (pc + 3) = .ok (.dup, 1)) (d4 : decode cc (pc + 4) = .ok (.invokespecial ic, 3)) (d7 : decode cc (pc + 7) = .ok (.athrow, 1))
    (hout : ∀ x ∈ c.exceptionTable.toList, covers x (pc + 7) = false)
    (hRframes : names.length + 3 < R.frames) (hRlocals : (rest.map fun v => v.category).sum + (13 * (names.length + 1) + 42) ≤ R.locals) (hRcells : cells + 1 ≤ R.cells) (hRslots : slots + 6 ≤ R.slots) (hlocks : meth.locks = false)
    (hx : ∀ t : State, s.vm.Alike t.vm → H.size ≤ t.heap.size → (∀ q : Nat, q < H.size → t.heap[q]? = H[q]?) → XC cls s t)
    (hf : ∀ z ∈ locs, free z.base) (hc : cells + 1 ≤ mc) (hs : slots + 6 ≤ ms) :
    W p l e R s m args below meth c H locs cells slots (vx_MQ below Qc XC args s mc ms free) (F0 m pc ls rest) := by
  intro T hT X
  have htr : e.platform.stackTraces = false := (show e.platform.stackTraces = l.stackTraces by rw [X.admits.platform]).trans hl
  have Y := vx_rebase X (R' := { frames := R.frames, locals := R.locals, cells := 1, slots := 6 }) (Nat.le_refl _) (Nat.le_refl _) hRcells hRslots
  obtain ⟨s', hA⟩ : ∃ z, z = (T.setVm s.vm).setFrames (.invoking m args :: below) := ⟨_, rfl⟩
  rw [← hA] at Y
  have hvm : s'.vm = s.vm := by rw [hA]; rfl
  have hhp : s'.heap = H := by rw [hA]; exact hT
  have hW0 : s.WarmedH s'.vm := by rw [hvm]; exact State.WarmedH.refl s
  have hat' : ∀ w ∈ vx_at0 own ic cls names, w.before args s' = true := fun w hw => vx_ot_at hW0 hvm.symm (hgood w (List.mem_cons_of_mem _ (List.mem_cons_of_mem _ hw))) (hat w hw)
  have hk' : (Cond.classLink own ik cls).before args s' = true := vx_ot_at hW0 hvm.symm (hgood _ List.mem_cons_self) hk
  have hini' : (Cond.initialized cls).before args s' = true := vx_ot_at hW0 hvm.symm (hgood _ (List.mem_cons_of_mem _ List.mem_cons_self)) hini
  have hU' : vx_Zq Bundle.tN "UNASSIGNED_STACK" Bundle.steD A s' s'.heap := by rw [hhp]; exact vx_Zq.moved hW0.alike (hU.kept hS.2.1)
  have hN' : vx_Zq Bundle.tN "SUPPRESSED_SENTINEL" Bundle.listD A s' s'.heap := by rw [hhp]; exact vx_Zq.moved hW0.alike (hN.kept hS.2.1)
  have h : ∀ w ∈ Bundle.ownAtoms0 own ic cls names, w.before args s' = true := vx_own hat' (vx_isRefq hU'.1) (vx_isRefq hN'.1) hU'.2.word hN'.2.word
  have hown' : s'.vm.findClass own = some m.cls := by rw [hvm]; exact hown
  have hins : (Cond.instantiable cls 6).before args s' = true := h _ (by simp [Bundle.ownAtoms0])
  obtain ⟨vm₁, cX, kX, hfX, hkX, -, -, X₁, st1⟩ := Y.newCold hexec (own := own) (C := cls) (index := ik) (n := 6) hown' hk' hins hini'
    (g := F0 m pc ls rest) rfl (by rw [hb]; exact d0) (Nat.le_refl _) (Nat.le_refl _)
  generalize hT1 : (T.setVm vm₁).pushCell { cls := cX, slots := kX.instanceTypes.map defaultValue, vm := .none } = T1 at X₁ st1
  have hcat : (Value.ref T.heap.size).category = 1 := rfl
  have hcellA : T1.heap[T.heap.size]? = some (freshCell cX kX) := by rw [← hT1]; exact State.heap_pushCell_size _ _
  have d3' : decode c.code (pc + 3) = .ok (.dup, 1) := by rw [hb]; exact d3
  obtain ⟨U, hsteps, hrun, hend, hW, hsame, ce, hce, hO⟩ := X₁.ctorThrow0 hexec htr (own := own) (cls := cls) (names := names) (ic := ic) hown' hcls hnames h (fun x hx => nomatch hx) hfX hkX hcellA (by rw [hhp, hT]; exact Nat.le_refl _)
    (g := { method := m, pc := pc + 4, locals := ls, stack := .ref T.heap.size :: .ref T.heap.size :: rest, locked := none }) rfl hsize rfl rfl (rest := rest) rfl
    (by rw [hb]; exact d4) (by rw [hb]; exact d7) hout hRframes (by simp only [List.map_cons, List.sum_cons, hcat]; omega) hlocks
  obtain ⟨f1, f2⟩ := vx_frame hsame
  rw [hhp] at f1 f2
  have hWs : s.WarmedH U.vm := State.WarmedH.trans hW0 hW
  have hcl : s.vm.findClass cls = some ce.cls := by
    have h9 := hO.cls
    rw [hvm] at h9
    exact h9
  have hall : s.sameButNew ({ U with vm := s.vm } : State) locs mc ms := by
    subst hA
    obtain ⟨e1, e2⟩ := hsame
    rw [State.setFrames_setFrames] at e1
    have h2 : (T.setVm s.vm).sameButNew ({ U with vm := s.vm } : State) [] (0 + 1) (0 + 6) := ⟨e1, e2⟩
    have h3 := X.same.trans h2
    rw [List.append_nil] at h3
    exact h3.mono hc hs
  refine ⟨U, ?_, .threw T.heap.size, hrun, hend, Or.inr ⟨T.heap.size, rfl, cls, ce, locs, hx U hWs.alike f1 (fun q hq => f2 q hq (fun z hz => nomatch hz)), hce, hO.vm, hcl, hWs, hall, hf⟩⟩
  refine st1 _ ?_
  show Steps p.tables e below (T1.setTop { method := m, pc := pc + 3, locals := ls, stack := .ref T.heap.size :: rest, locked := none }) _
  jvm_step X₁.here [X₁.here.top, hexec, d3', Value.category]
  exact hsteps
/-- 'throw new E("text")': new; dup; ldc; invokespecial; athrow -/
theorem vx_throwS {cc : ByteArray} {pc : Nat} (hexec : p.tables.exec = Jvm.exec) (hb : c.code = cc) (hl : l.stackTraces = false) {own cls text : String} {names : List String} {ik is ic mc ms sa : Nat} {A : Nat → Prop}
    (hown : s.vm.findClass own = some m.cls) (hcls : Bundle.fit cls = true) (hnames : ∀ n ∈ names, Bundle.fit n = true)
    (hk : (Cond.classLink own ik cls).before args s = true) (hini : (Cond.initialized cls).before args s = true) (hstr : vk_R own is text sa s) (hat : ∀ w ∈ vx_atS own ic cls names, w.before args s = true)
    (hgood : ∀ w ∈ Cond.classLink own ik cls :: Cond.initialized cls :: vx_atS own ic cls names, vx_ot w = true)
    (hU : vx_Zq Bundle.tN "UNASSIGNED_STACK" Bundle.steD A s s.heap) (hN : vx_Zq Bundle.tN "SUPPRESSED_SENTINEL" Bundle.listD A s s.heap) (hS : va_S A s.heap H locs) (hsize : ls.size = c.maxLocals)
    (d0 : decode cc pc = .ok (.new ik, 3)) (d3 : decode cc (pc + 3) = .ok (.dup, 1)) (d4 : decode cc (pc + 4) = .ok (.ldc is, 2)) (d6 : decode cc (pc + 6) = .ok (.invokespecial ic, 3)) (d9 : decode cc (pc + 9) = .ok (.athrow, 1))
    (hout : ∀ x ∈ c.exceptionTable.toList, covers x (pc + 9) = false)
    (hRframes : names.length + 3 < R.frames) (hRlocals : (rest.map fun v => v.category).sum + (13 * (names.length + 1) + 43) ≤ R.locals) (hRcells : cells + 1 ≤ R.cells) (hRslots : slots + 6 ≤ R.slots) (hlocks : meth.locks = false)
    (hx : ∀ t : State, s.vm.Alike t.vm → H.size ≤ t.heap.size → (∀ q : Nat, q < H.size → t.heap[q]? = H[q]?) → XC cls s t)
    (hf : ∀ z ∈ locs, free z.base) (hc : cells + 1 ≤ mc) (hs : slots + 6 ≤ ms) :
    W p l e R s m args below meth c H locs cells slots (vx_MQ below Qc XC args s mc ms free) (F0 m pc ls rest) := by
  intro T hT X
  have htr : e.platform.stackTraces = false := (show e.platform.stackTraces = l.stackTraces by rw [X.admits.platform]).trans hl
  have Y := vx_rebase X (R' := { frames := R.frames, locals := R.locals, cells := 1, slots := 6 }) (Nat.le_refl _) (Nat.le_refl _) hRcells hRslots
  obtain ⟨s', hA⟩ : ∃ z, z = (T.setVm s.vm).setFrames (.invoking m args :: below) := ⟨_, rfl⟩
  rw [← hA] at Y
  have hvm : s'.vm = s.vm := by rw [hA]; rfl
  have hhp : s'.heap = H := by rw [hA]; exact hT
  have hW0 : s.WarmedH s'.vm := by rw [hvm]; exact State.WarmedH.refl s
  have hat' : ∀ w ∈ vx_atS own ic cls names, w.before args s' = true := fun w hw => vx_ot_at hW0 hvm.symm (hgood w (List.mem_cons_of_mem _ (List.mem_cons_of_mem _ hw))) (hat w hw)
  have hk' : (Cond.classLink own ik cls).before args s' = true := vx_ot_at hW0 hvm.symm (hgood _ List.mem_cons_self) hk
  have hini' : (Cond.initialized cls).before args s' = true := vx_ot_at hW0 hvm.symm (hgood _ (List.mem_cons_of_mem _ List.mem_cons_self)) hini
  have hU' : vx_Zq Bundle.tN "UNASSIGNED_STACK" Bundle.steD A s' s'.heap := by rw [hhp]; exact vx_Zq.moved hW0.alike (hU.kept hS.2.1)
  have hN' : vx_Zq Bundle.tN "SUPPRESSED_SENTINEL" Bundle.listD A s' s'.heap := by rw [hhp]; exact vx_Zq.moved hW0.alike (hN.kept hS.2.1)
  have h : ∀ w ∈ Bundle.ownAtoms own ic cls names, w.before args s' = true := vx_own hat' (vx_isRefq hU'.1) (vx_isRefq hN'.1) hU'.2.word hN'.2.word
  have hown' : s'.vm.findClass own = some m.cls := by rw [hvm]; exact hown
  have hins : (Cond.instantiable cls 6).before args s' = true := h _ (by simp [Bundle.ownAtoms])
  obtain ⟨vm₁, cX, kX, hfX, hkX, -, -, X₁, st1⟩ := Y.newCold hexec (own := own) (C := cls) (index := ik) (n := 6) hown' hk' hins hini'
    (g := F0 m pc ls rest) rfl (by rw [hb]; exact d0) (Nat.le_refl _) (Nat.le_refl _)
  generalize hT1 : (T.setVm vm₁).pushCell { cls := cX, slots := kX.instanceTypes.map defaultValue, vm := .none } = T1 at X₁ st1
  have hcat : (Value.ref T.heap.size).category = 1 := rfl
  have hcellA : T1.heap[T.heap.size]? = some (freshCell cX kX) := by rw [← hT1]; exact State.heap_pushCell_size _ _
  have d3' : decode c.code (pc + 3) = .ok (.dup, 1) := by rw [hb]; exact d3
  have d4' : decode c.code (pc + 4) = .ok (.ldc is, 2) := by rw [hb]; exact d4
  have hstr' : vk_R own is text sa s' := vk_R.warm hW0 hstr
  obtain ⟨U, hsteps, hrun, hend, hW, hsame, ce, hce, hO⟩ := X₁.ctorThrowS hexec htr (own := own) (cls := cls) (names := names) (ic := ic) hown' hcls hnames h (fun x hx => nomatch hx) hfX hkX hcellA (by rw [hhp, hT]; exact Nat.le_refl _) (msg := .ref sa) rfl
    (g := { method := m, pc := pc + 6, locals := ls, stack := .ref sa :: .ref T.heap.size :: .ref T.heap.size :: rest, locked := none }) rfl hsize rfl rfl (rest := rest) rfl
    (by rw [hb]; exact d6) (by rw [hb]; exact d9) hout hRframes (by simp only [List.map_cons, List.sum_cons, hcat]; omega) hlocks
  obtain ⟨f1, f2⟩ := vx_frame hsame
  rw [hhp] at f1 f2
  have hWs : s.WarmedH U.vm := State.WarmedH.trans hW0 hW
  have hcl : s.vm.findClass cls = some ce.cls := by
    have h9 := hO.cls
    rw [hvm] at h9
    exact h9
  have hall : s.sameButNew ({ U with vm := s.vm } : State) locs mc ms := by
    subst hA
    obtain ⟨e1, e2⟩ := hsame
    rw [State.setFrames_setFrames] at e1
    have h2 : (T.setVm s.vm).sameButNew ({ U with vm := s.vm } : State) [] (0 + 1) (0 + 6) := ⟨e1, e2⟩
    have h3 := X.same.trans h2
    rw [List.append_nil] at h3
    exact h3.mono hc hs
  refine ⟨U, ?_, .threw T.heap.size, hrun, hend, Or.inr ⟨T.heap.size, rfl, cls, ce, locs, hx U hWs.alike f1 (fun q hq => f2 q hq (fun z hz => nomatch hz)), hce, hO.vm, hcl, hWs, hall, hf⟩⟩
  refine st1 _ ?_
  show Steps p.tables e below (T1.setTop { method := m, pc := pc + 3, locals := ls, stack := .ref T.heap.size :: rest, locked := none }) _
  jvm_step X₁.here [X₁.here.top, hexec, d3', Value.category]
  exact X₁.ldcString hexec (own := own) (text := text) (index := is) (a := sa) hown' hstr'.1 hstr'.2
    (g := { method := m, pc := pc + 4, locals := ls, stack := .ref T.heap.size :: .ref T.heap.size :: rest, locked := none }) rfl d4' _ hsteps
/-- 'throw new E("text")', the text by a wide index -/
theorem vx_throwSW {cc : ByteArray} {pc : Nat} (hexec : p.tables.exec = Jvm.exec) (hb : c.code = cc) (hl : l.stackTraces = false) {own cls text : String} {names : List String} {ik is ic mc ms sa : Nat} {A : Nat → Prop}
    (hown : s.vm.findClass own = some m.cls) (hcls : Bundle.fit cls = true) (hnames : ∀ n ∈ names, Bundle.fit n = true)
    (hk : (Cond.classLink own ik cls).before args s = true) (hini : (Cond.initialized cls).before args s = true) (hstr : vk_R own is text sa s) (hat : ∀ w ∈ vx_atS own ic cls names, w.before args s = true)
    (hgood : ∀ w ∈ Cond.classLink own ik cls :: Cond.initialized cls :: vx_atS own ic cls names, vx_ot w = true)
    (hU : vx_Zq Bundle.tN "UNASSIGNED_STACK" Bundle.steD A s s.heap) (hN : vx_Zq Bundle.tN "SUPPRESSED_SENTINEL" Bundle.listD A s s.heap) (hS : va_S A s.heap H locs) (hsize : ls.size = c.maxLocals)
    (d0 : decode cc pc = .ok (.new ik, 3)) (d3 : decode cc (pc + 3) = .ok (.dup, 1)) (d4 : decode cc (pc + 4) = .ok (.ldc_w is, 3)) (d7 : decode cc (pc + 7) = .ok (.invokespecial ic, 3)) (d10 : decode cc (pc + 10) = .ok (.athrow, 1))
    (hout : ∀ x ∈ c.exceptionTable.toList, covers x (pc + 10) = false)
    (hRframes : names.length + 3 < R.frames) (hRlocals : (rest.map fun v => v.category).sum + (13 * (names.length + 1) + 43) ≤ R.locals) (hRcells : cells + 1 ≤ R.cells) (hRslots : slots + 6 ≤ R.slots) (hlocks : meth.locks = false)
    (hx : ∀ t : State, s.vm.Alike t.vm → H.size ≤ t.heap.size → (∀ q : Nat, q < H.size → t.heap[q]? = H[q]?) → XC cls s t)
    (hf : ∀ z ∈ locs, free z.base) (hc : cells + 1 ≤ mc) (hs : slots + 6 ≤ ms) :
    W p l e R s m args below meth c H locs cells slots (vx_MQ below Qc XC args s mc ms free) (F0 m pc ls rest) := by
  intro T hT X
  have htr : e.platform.stackTraces = false := (show e.platform.stackTraces = l.stackTraces by rw [X.admits.platform]).trans hl
  have Y := vx_rebase X (R' := { frames := R.frames, locals := R.locals, cells := 1, slots := 6 }) (Nat.le_refl _) (Nat.le_refl _) hRcells hRslots
  obtain ⟨s', hA⟩ : ∃ z, z = (T.setVm s.vm).setFrames (.invoking m args :: below) := ⟨_, rfl⟩
  rw [← hA] at Y
  have hvm : s'.vm = s.vm := by rw [hA]; rfl
  have hhp : s'.heap = H := by rw [hA]; exact hT
  have hW0 : s.WarmedH s'.vm := by rw [hvm]; exact State.WarmedH.refl s
  have hat' : ∀ w ∈ vx_atS own ic cls names, w.before args s' = true := fun w hw => vx_ot_at hW0 hvm.symm (hgood w (List.mem_cons_of_mem _ (List.mem_cons_of_mem _ hw))) (hat w hw)
  have hk' : (Cond.classLink own ik cls).before args s' = true := vx_ot_at hW0 hvm.symm (hgood _ List.mem_cons_self) hk
  have hini' : (Cond.initialized cls).before args s' = true := vx_ot_at hW0 hvm.symm (hgood _ (List.mem_cons_of_mem _ List.mem_cons_self)) hini
  have hU' : vx_Zq Bundle.tN "UNASSIGNED_STACK" Bundle.steD A s' s'.heap := by rw [hhp]; exact vx_Zq.moved hW0.alike (hU.kept hS.2.1)
  have hN' : vx_Zq Bundle.tN "SUPPRESSED_SENTINEL" Bundle.listD A s' s'.heap := by rw [hhp]; exact vx_Zq.moved hW0.alike (hN.kept hS.2.1)
  have h : ∀ w ∈ Bundle.ownAtoms own ic cls names, w.before args s' = true := vx_own hat' (vx_isRefq hU'.1) (vx_isRefq hN'.1) hU'.2.word hN'.2.word
  have hown' : s'.vm.findClass own = some m.cls := by rw [hvm]; exact hown
  have hins : (Cond.instantiable cls 6).before args s' = true := h _ (by simp [Bundle.ownAtoms])
  obtain ⟨vm₁, cX, kX, hfX, hkX, -, -, X₁, st1⟩ := Y.newCold hexec (own := own) (C := cls) (index := ik) (n := 6) hown' hk' hins hini'
    (g := F0 m pc ls rest) rfl (by rw [hb]; exact d0) (Nat.le_refl _) (Nat.le_refl _)
  generalize hT1 : (T.setVm vm₁).pushCell { cls := cX, slots := kX.instanceTypes.map defaultValue, vm := .none } = T1 at X₁ st1
  have hcat : (Value.ref T.heap.size).category = 1 := rfl
  have hcellA : T1.heap[T.heap.size]? = some (freshCell cX kX) := by rw [← hT1]; exact State.heap_pushCell_size _ _
  have d3' : decode c.code (pc + 3) = .ok (.dup, 1) := by rw [hb]; exact d3
  have d4' : decode c.code (pc + 4) = .ok (.ldc_w is, 3) := by rw [hb]; exact d4
  have hstr' : vk_R own is text sa s' := vk_R.warm hW0 hstr
  obtain ⟨U, hsteps, hrun, hend, hW, hsame, ce, hce, hO⟩ := X₁.ctorThrowS hexec htr (own := own) (cls := cls) (names := names) (ic := ic) hown' hcls hnames h (fun x hx => nomatch hx) hfX hkX hcellA (by rw [hhp, hT]; exact Nat.le_refl _) (msg := .ref sa) rfl
    (g := { method := m, pc := pc + 7, locals := ls, stack := .ref sa :: .ref T.heap.size :: .ref T.heap.size :: rest, locked := none }) rfl hsize rfl rfl (rest := rest) rfl
    (by rw [hb]; exact d7) (by rw [hb]; exact d10) hout hRframes (by simp only [List.map_cons, List.sum_cons, hcat]; omega) hlocks
  obtain ⟨f1, f2⟩ := vx_frame hsame
  rw [hhp] at f1 f2
  have hWs : s.WarmedH U.vm := State.WarmedH.trans hW0 hW
  have hcl : s.vm.findClass cls = some ce.cls := by
    have h9 := hO.cls
    rw [hvm] at h9
    exact h9
  have hall : s.sameButNew ({ U with vm := s.vm } : State) locs mc ms := by
    subst hA
    obtain ⟨e1, e2⟩ := hsame
    rw [State.setFrames_setFrames] at e1
    have h2 : (T.setVm s.vm).sameButNew ({ U with vm := s.vm } : State) [] (0 + 1) (0 + 6) := ⟨e1, e2⟩
    have h3 := X.same.trans h2
    rw [List.append_nil] at h3
    exact h3.mono hc hs
  refine ⟨U, ?_, .threw T.heap.size, hrun, hend, Or.inr ⟨T.heap.size, rfl, cls, ce, locs, hx U hWs.alike f1 (fun q hq => f2 q hq (fun z hz => nomatch hz)), hce, hO.vm, hcl, hWs, hall, hf⟩⟩
  refine st1 _ ?_
  show Steps p.tables e below (T1.setTop { method := m, pc := pc + 3, locals := ls, stack := .ref T.heap.size :: rest, locked := none }) _
  jvm_step X₁.here [X₁.here.top, hexec, d3', Value.category]
  exact X₁.ldcStringW hexec (own := own) (text := text) (index := is) (a := sa) hown' hstr'.1 hstr'.2
    (g := { method := m, pc := pc + 4, locals := ls, stack := .ref T.heap.size :: .ref T.heap.size :: rest, locked := none }) rfl d4' _ hsteps
end Ends
section Bodies
variable {l : Launch}
theorem vx_ofW {y : MethodName} {ws ws' : List Cond} {rm : Room} {Pc : Array Value → State → Prop} {Qc : Array Value → State → Outcome → State → Prop} {XC : String → State → State → Prop} {mc ms : Nat} {free : Addr → Prop} {cc : ByteArray} {maxL : Nat} {ret : Option FieldType}
    (hy : plainName y.cls = true) (hw : ws = Cond.code y cc maxL ret :: ws')
    (body : ∀ p e s m args below meth c s₁, BodyLoose p l y (headSpec ws rm) cc maxL ret e s m args below meth c s₁ → c.maxLocals = maxL → (∀ x ∈ c.exceptionTable.toList, False) → Pc args s →
      W p l e (headSpec ws rm).room s m args below meth c s.heap [] 0 0 (vx_MQ below Qc XC args s mc ms free) (entryFrame m args maxL)) : vx_Met l y ws rm Pc Qc XC mc ms free := by
  refine MetFree.of_bodyS (code := cc) (maxLocals := maxL) (ret := ret) hy ?_ ?_
  · intro args s m h hn
    obtain ⟨meth, c, h1, h2, h3, h4, h5, h6, -, -⟩ := Cond.code_spec hn (atoms_spec (ws := ws) h _ (by rw [hw]; exact List.mem_cons_self))
    exact ⟨meth, c, h1, h2, h3, h4, h5, h6⟩
  · intro p e s m args below meth c s₁ B hml hP _
    have hh0 : s₁.heap = s.heap := by rw [B.state]; rfl
    have ht : ∀ x ∈ c.exceptionTable.toList, False := by
      obtain ⟨meth9, c9, h1, h2, -, -, -, -, h7, -⟩ := Cond.code_spec B.named (atoms_spec (ws := ws) B.pre _ (by rw [hw]; exact List.mem_cons_self))
      cases Option.some.inj (h1.symm.trans B.method)
      cases Option.some.inj (h2.symm.trans (Stand.of_body B).code)
      intro x hx
      rw [Array.isEmpty_iff.mp h7] at hx
      cases hx
    obtain ⟨t, a1, o, b1, b2, b3⟩ := body p e s m args below meth c s₁ B hml ht hP s₁ hh0 (Stand.of_body B)
    exact ⟨t, o, a1, b1, b2, b3⟩
/-- the table of a body with handlers -/
theorem vx_table {p : Program} {x y : MethodName} {S : Spec} {cc bytes : ByteArray} {maxL maxL' : Nat} {ret ret' : Option FieldType} {e : Env} {s s₁ : State} {m : MethodId} {args : Array Value} {below : List Frame} {meth : Method} {c : Code} {hh : List (Nat × Nat × Nat × Nat)}
    (B : BodyLoose p l y S cc maxL ret e s m args below meth c s₁) (h : (Cond.codeWith y bytes maxL' ret' hh).before args s = true) : c.exceptionTable.toList = tableOf hh := by
  obtain ⟨m9, meth9, c9, hn9, h1, h2, -, -, h6, -⟩ := Cond.codeWith_spec h
  cases Option.some.inj (hn9.symm.trans B.named)
  cases Option.some.inj (h1.symm.trans B.method)
  cases Option.some.inj (h2.symm.trans (Stand.of_body B).code)
  rw [← h6, table_eq]
end Bodies
end VXA
/-! ===== END ===== -/
/-! ===== BEGIN a static call of a method with an exception table ===== -/
section VXS
variable {p : Program} {l : Launch} {e : Env} {R : Room} {s : State} {m : MethodId} {args : Array Value} {below : List Frame} {meth : Method} {c : Code} {T : State} {H : Heap} {locs : List Loc} {cells slots : Nat}
abbrev vx_CSW (R : Room) (s : State) (args : Array Value) (own : String) (index : Nat) (y : MethodName) (bytes : ByteArray) (maxL : Nat) (ret : Option FieldType) (hh : List (Nat × Nat × Nat × Nat)) (ws : List Cond) (rm : Room) (mc ms n : Nat) : Prop :=
  (rm.cells = mc ∧ rm.slots = ms ∧ rm.frames + 1 ≤ R.frames ∧ 8 + (maxL + 11) + rm.locals ≤ R.locals ∧ (∀ w ∈ ws, ∀ (a' : Array Value) (U : State), s.WarmedH U.vm → w.before a' U = true) ∧ Cond.codeWith y bytes maxL ret hh ∈ ws) ∧
  (Cond.codeWith y bytes maxL ret hh).before args s = true ∧ (Cond.initialized y.cls).before args s = true ∧ (y.cls ≠ "java/lang/invoke/MethodHandle" ∧ y.cls ≠ "java/lang/invoke/VarHandle") ∧
  (∀ sig, parseMethodDescriptor y.desc = some sig → n = sig.parameters.length) ∧ (Cond.methodLink own index y).before args s = true ∧ (Cond.static y).before args s = true
theorem vx_cwSW {own : String} {index maxL mc ms : Nat} {y : MethodName} {bytes : ByteArray} {ret : Option FieldType} {hh : List (Nat × Nat × Nat × Nat)} {Ts ws ws' : List Cond} {rm : Room} (n : Nat) (ht : ∀ w ∈ Ts, w.before args s = true) (hT : GoodIn Ts (va_wsS own index y ws)) (hw : ws = Cond.codeWith y bytes maxL ret hh :: ws') (hrc : rm.cells = mc) (hrs : rm.slots = ms)
    (hd : y.cls ≠ "java/lang/invoke/MethodHandle" ∧ y.cls ≠ "java/lang/invoke/VarHandle" ∧ (parseMethodDescriptor y.desc).map (fun d => d.parameters.length) = some n) (hR : rm.frames + 1 ≤ R.frames ∧ 8 + (maxL + 11) + rm.locals ≤ R.locals) :
    vx_CSW R s args own index y bytes maxL ret hh ws rm mc ms n := by
  have ok : ∀ w ∈ va_wsS own index y ws, w.before args s = true := fun w h => ht w (hT w h).1
  have hG : GoodIn Ts ws := fun w h => hT w (by unfold va_wsS; exact List.mem_append_right _ h)
  have hc : Cond.codeWith y bytes maxL ret hh ∈ ws := by rw [hw]; exact List.mem_cons_self
  refine ⟨⟨hrc, hrs, hR.1, hR.2, pay_in ht hG, hc⟩, ht _ (hG _ hc).1, ok _ (by simp [va_wsS]), ⟨hd.1, hd.2.1⟩, fun sig h => ?_, ok _ (by simp [va_wsS]), ok _ (by simp [va_wsS])⟩
  have h2 := hd.2.2
  rw [h] at h2
  exact (Option.some.inj h2).symm
theorem vx_callSW (X : Stand p l e R s m args below meth c T locs cells slots) (hexec : p.tables.exec = Jvm.exec) {own : String} {index : Nat} {y : MethodName} {bytes : ByteArray} {maxL : Nat} {ret : Option FieldType} {hh : List (Nat × Nat × Nat × Nat)}
    (hown : s.vm.findClass own = some m.cls) (hlink : (Cond.methodLink own index y).before args s = true) (hstat : (Cond.static y).before args s = true) (hinit : (Cond.initialized y.cls).before args s = true)
    (hcode : (Cond.codeWith y bytes maxL ret hh).before args s = true) (hy : y.cls ≠ "java/lang/invoke/MethodHandle" ∧ y.cls ≠ "java/lang/invoke/VarHandle")
    {W9 : Nat} {Pre : Pt → Array Value → Prop} {Post : Pt → Array Value → Option Value → Pt → Prop} (hK : Back l R p e below s args y 3 W9 Pre Post)
    {g : JFrame} (hg : g.method = m) (hsize : g.locals.size = c.maxLocals) {argsL rest : List Value} (hlen : ∀ sig, parseMethodDescriptor y.desc = some sig → argsL.length = sig.parameters.length)
    (hstack : g.stack = argsL.reverse ++ rest) (hW : 2 * g.monitorRoom + (rest.map fun v => v.category).sum ≤ W9) (hdg : decode c.code g.pc = .ok (.invokestatic index, 3))
    (hpre : ∀ vm₁, s.WarmedH vm₁ → Pre ⟨T.setVm vm₁, locs, cells, slots⟩ argsL.toArray) :
    ∃ (v : Option Value) (vm₁ : Vm) (B : Pt), s.WarmedH vm₁ ∧ Stand p l e R s m args below meth c B.U B.locs B.cells B.slots ∧ Post ⟨T.setVm vm₁, locs, cells, slots⟩ argsL.toArray v B ∧
      ∀ target, Steps p.tables e below (B.U.setTop { g with pc := g.pc + 3, stack := v.toList ++ rest }) target → Steps p.tables e below (T.setTop g) target := by
  obtain ⟨mk, methM, cM, hnamed, hmethM, -, -, -, -, -, -, hsigM⟩ := Cond.codeWith_spec hcode
  have hstatic : methM.isStatic = true := Cond.static_spec hnamed hmethM hstat
  obtain ⟨kP, hkP, -⟩ := className_of_methodNamed hnamed
  have hinitP : kP.init = .initialized := Cond.initialized_spec (findClass_of_methodNamed hnamed) hkP hinit
  obtain ⟨vm₁, X₁, hstep₁⟩ := X.invokestatic hexec hown hlink hnamed hmethM hstatic hkP hinitP hy (g := g) hg (argsL := argsL) (rest := rest) (hlen _ hsigM) hstack hdg
  obtain ⟨v, B, X', hpost, hsteps⟩ := hK m meth c ⟨T.setVm vm₁, locs, cells, slots⟩ { g with stack := rest } (.invokestatic index) mk argsL.toArray X₁ hg hsize hdg hW (X₁.named hnamed) (hpre vm₁ X₁.warmed)
  exact ⟨v, vm₁, B, X₁.warmed, X', hpost, fun target h => hstep₁ _ fun acts => by rw [doInvoke_state]; exact hsteps.trans h⟩
theorem vx_runSW {y : MethodName} {bytes cc : ByteArray} {maxL nL mc ms n index : Nat} {ret : Option FieldType} {hh : List (Nat × Nat × Nat × Nat)} {ws : List Cond} {rm : Room} {Pc : Array Value → State → Prop} {Qc : Array Value → State → Outcome → State → Prop} {free : Addr → Prop} {Ts : List Cond} {own : String} {As rest : List Value} {g : JFrame}
    (S : CallFix p m c cc nL s args Ts own) (hM : Met l y ws rm Pc Qc mc ms free) (cw : vx_CSW R s args own index y bytes maxL ret hh ws rm mc ms n) (hp : PreS s H Pc As)
    (hg : g.method = m) (hn : As.length = n) (hsize : g.locals.size = nL) (hstack : g.stack = As.reverse ++ rest) (hW : 2 * g.monitorRoom + (rest.map fun v => v.category).sum ≤ 8) (hdg : decode cc g.pc = .ok (.invokestatic index, 3)) (hf : cells + mc ≤ R.cells ∧ slots + ms ≤ R.slots) :
    va_Run p l e R s m args below meth c H locs cells slots mc ms g rest (Qc As.toArray) (free) := by
  obtain ⟨⟨hrc, hrs, hfr, hlo, hws, hcw⟩, hcode, hini, hy, hlen, hl, hstt⟩ := cw
  have hK : Back l R p e below s args y 3 8 (PreOf R mc ms Pc) (PostOf Qc mc ms free) := va_backW (hh := hh) (bytes := bytes) (maxL := maxL) (ret := ret) hM hp.1 hrc hrs hfr hlo hws hcw (fun a' U hW => word_at hW (Or.inl (by first | rfl | simp [Cond.onTables, Cond.keeps, Cond.steady])) hini)
  obtain ⟨hx, hb, hml, ho, -⟩ := S
  intro T hT X
  obtain ⟨v, vm₁, ⟨U', l2, c2, s2⟩, hW₁, X', ⟨g', mk, t, L, e1, e2, hq, h1, hL, h2, h3⟩, st⟩ := vx_callSW X hx (hh := hh) (bytes := bytes) (maxL := maxL) (ret := ret) ho hl hstt hini hcode hy hK hg (hsize.trans hml.symm) (argsL := As) (rest := rest) (fun sig h => hn.trans (hlen sig h)) hstack hW (by rw [hb]; exact hdg)
    (fun vm₁ hW₁ => ⟨hf.1, hf.2, hp.2 (T.setVm vm₁) hT hW₁⟩)
  dsimp only [Pt.U, Pt.locs, Pt.cells, Pt.slots] at X' e1 e2 h1 h2 h3 st
  subst h1; subst h2; subst h3
  exact ⟨v, (T.setVm vm₁).calling g' mk As.toArray, t, U', L, hT, X', hL, e1, e2, hq, st⟩
/-- not caught here, past rows that name other classes: it goes on to the caller -/
theorem vx_outP {p : Program} {l : Launch} {e : Env} {R : Room} {s : State} {m : MethodId} {args : Array Value} {below : List Frame} {meth : Method} {c : Code} {H : Heap} {locs : List Loc} {cells slots : Nat} {free : Addr → Prop} {ls : Array Slot} {rest : List Value} {Qc : Array Value → State → Outcome → State → Prop} {XC : String → State → State → Prop}
    {pc : Nat} {own E : String} {ce : Cell} {q : Addr} {mc ms : Nat} (hown : s.vm.findClass own = some m.cls) (hlocks : meth.locks = false)
    (hpass : ∀ z ∈ c.exceptionTable.toList, covers z pc = false ∨ (z.catchType ≠ 0 ∧ ∃ nm : String, (Cond.classLink own z.catchType nm).before args s = true ∧ va_Nc E nm s)) (hcell : H[q]? = some ce) (hv : ce.vm = .none) (hcl : s.vm.findClass E = some ce.cls)
    (hx : ∀ t : State, t.heap = H → s.vm.Alike t.vm → XC E s t) (hf : ∀ z ∈ locs, free z.base) (hc : cells ≤ mc) (hs : slots ≤ ms) :
    vx_W p l e R s m args below meth c H locs cells slots (vx_MQ below Qc XC args s mc ms free) (F0 m pc ls rest) q := by
  intro T hT X
  have hpl : e.platform.magicAccessors = ({} : Platform).magicAccessors := by rw [X.admits.platform]
  obtain ⟨vm', hW', X', st⟩ := X.outThrough hlocks q (g := F0 m pc ls rest) rfl rfl rfl (cell := ce) (by rw [hT]; exact hcell) (by rw [hv]; rfl)
    (by obtain ⟨k9, h9, -⟩ := Vm.findClass_spec hcl; exact ⟨k9, h9⟩) (fun z hz => by
      rcases hpass z hz with h | ⟨hz0, nm, hl1, hn1⟩
      · exact Or.inl h
      · obtain ⟨c6, hc6, hcl6⟩ := Cond.classLink_spec hown hl1 e.platform hpl
        obtain ⟨a8, b8, h1, h2, h3⟩ := hn1
        cases Option.some.inj (h1.symm.trans hcl)
        cases Option.some.inj (h2.symm.trans hc6)
        exact Or.inr ⟨hz0, _, hcl6, h3⟩)
  obtain ⟨g₀, hfr⟩ := X'.frames_eq
  have hcell9 : ((T.setVm vm').setFrames (.throwing q :: below)).heap[q]? = some ce := by
    show T.heap[q]? = some ce
    rw [hT]; exact hcell
  have hend : Ended ((T.setVm vm').setFrames (.throwing q :: below)) below (.threw q) := State.frames_setFrames _ (State.cur_lt_of_frames hfr)
  refine ⟨(T.setVm vm').setFrames (.throwing q :: below), ?_, .threw q, X'.here.running, hend, Or.inr ⟨q, rfl, E, ce, locs, hx _ hT (X'.ends _).1.alike, hcell9, hv, hcl, (X'.ends _).1, (X'.ends _).2.mono hc hs, hf⟩⟩
  rw [X.pushThrowing_eq]
  exact st
/-- a thing of a world lies in the heap -/
theorem vx_lt {D : va_G} {cl : List vw_C} {ws : va_W} {H1 : Heap} (h : va_P D cl ws H1) {k : Nat} {q : Nat × va_E} (hk : ws[k]? = some q) : q.1 < H1.size := (h k q hk).lt
end VXS
/-! ===== END ===== -/
/-! ===== BEGIN methods with a table of their own: called by a name, returning or throwing ===== -/
section VXH
/-! vx_backW, vx_callVX, vx_callSX, vx_callVW, vx_runVW, vx_runVX, vx_runSX, vx_ofWH follow the same proofs as their sisters above (Free/Laws.lean, Shelf42/LK1.lean); vx_outP calls Shelf42/NT130.lean (outThrough). -/
section
variable {l : Launch} {R : Room} {p : Program} {e : Env} {below : List Frame} {s : State} {sargs : Array Value} {y : MethodName} {len W9 : Nat}
theorem vx_backW {ws : List Cond} {rm : Room} {Pc : Array Value → State → Prop} {Qc : Array Value → State → Outcome → State → Prop} {XC : String → State → State → Prop} {mc ms : Nat} {free : Addr → Prop} {bytes : ByteArray} {maxL : Nat} {ret : Option FieldType} {hh : List (Nat × Nat × Nat × Nat)}
    (hM : vx_Met l y ws rm Pc Qc XC mc ms free) (hblind : FrameBlind Pc) (hrc : rm.cells = mc) (hrs : rm.slots = ms)
    (hframes : rm.frames + 1 ≤ R.frames) (hlocals : W9 + (maxL + 11) + rm.locals ≤ R.locals)
    (hws : ∀ w ∈ ws, ∀ a' U, s.WarmedH U.vm → w.before a' U = true) (hcode : Cond.codeWith y bytes maxL ret hh ∈ ws) (hinit : ∀ a' U, s.WarmedH U.vm → (Cond.initialized y.cls).before a' U = true) :
    vx_Back l R p e below s sargs y len W9 (PreOf R mc ms Pc) (PostOf Qc mc ms free) (vx_Post XC mc ms free) := by
  intro m meth c A g ig mk a X hg hsize hdg hW hn hp
  have h1 : (headSpec ws rm).pre.before a A.U = true := atoms_intro fun w hw => hws w hw _ _ X.warmed
  have h2 : (Cond.codeWith y bytes maxL ret hh).before a A.U = true := hws _ hcode _ _ X.warmed
  have h3 : (Cond.initialized y.cls).before a A.U = true := hinit _ _ X.warmed
  have h4 : A.cells + (headSpec ws rm).room.cells ≤ R.cells := by rw [show (headSpec ws rm).room.cells = mc from hrc]; exact hp.1
  have h5 : A.slots + (headSpec ws rm).room.slots ≤ R.slots := by rw [show (headSpec ws rm).room.slots = ms from hrs]; exact hp.2.1
  have hPc : Pc a (A.U.calling g mk a) := hblind _ _ _ _ hp.2.2
  obtain ⟨U, Ls, c0, s0⟩ := A
  dsimp only [Pt.U, Pt.locs, Pt.cells, Pt.slots] at h1 h2 h3 h4 h5 X hn hPc ⊢
  obtain ⟨m9, methY, cY, hn9, hmY, hcY, -, hlY, -⟩ := Cond.codeWith_spec h2
  cases Option.some.inj (hn9.symm.trans hn)
  obtain ⟨kY, hkY, -⟩ := className_of_methodNamed hn
  have hinitY : kY.init = .initialized := Cond.initialized_spec (findClass_of_methodNamed hn) hkY h3
  have h : At U g.method c below := by rw [hg]; exact X.here
  have hlocals9 : W9 + (maxL + 11) + (headSpec ws rm).room.locals ≤ R.locals := hlocals
  have happ : (headSpec ws rm).appliesLoose y e.platform (U.calling g mk a) = true :=
    Spec.appliesLoose_calling (g := g) h hdg hn hkY hinitY
      (X.room_calling (g := g) (R' := (headSpec ws rm).room) hsize hmY hcY hframes (by rw [hlY]; omega) h4 h5) h1
  obtain ⟨mid, hmid⟩ := h.above
  have hfr : (U.setTop g).frames = (.java g :: mid) ++ below := by rw [State.frames_setTop' g h.top, hmid]; rfl
  obtain ⟨o, s₂, hsteps, -, hend, hq⟩ := Steps.callFree hM p X.admits X.cas X.clock (acts := []) hfr happ hPc trivial
  have hq' : vx_Q Qc XC mc ms free a (U.calling g mk a) o s₂ := hq
  rw [State.frames_setTop' g h.top] at hend
  obtain ⟨g₀, hg0⟩ := Option.isSome_iff_exists.mp h.top
  obtain ⟨r, hr⟩ := State.topJava?_eq_some.mp hg0
  have hr' : (({ U with heap := s₂.heap, slotsUsed := s₂.slotsUsed } : State).setVm s₂.vm).frames = .java g₀ :: r := hr
  rcases hq' with ⟨hqc, L, hfe, hL⟩ | ⟨q, rfl, E, ce, L, hx, hce, hcv, hcl, hW₂, hsm, hL⟩
  · obtain ⟨⟨v, rfl⟩, hW₂, e2, q2, q3, q4, q5, q6⟩ := id hfe
    have e3 : s₂ = ({ (U.calling g mk a).setFrames s₂.frames with heap := s₂.heap, slotsUsed := s₂.slotsUsed } : State).setVm s₂.vm := by
      have : s₂ = ({ s₂ with vm := (U.calling g mk a).vm } : State).setVm s₂.vm := rfl
      rw [e2] at this
      exact this
    obtain ⟨c₂, i₂, len₂, hc₂, hd₂, hf₂⟩ := hend
    have hW' : U.WarmedH s₂.vm := hW₂
    have hcc : c₂ = c := by
      have h1 : s₂.code? g.method = U.code? g.method := by
        rw [State.code?_eq, State.code?_eq, hW'.alike.method?]
      exact Option.some.inj (hc₂.symm.trans (h1.trans h.code))
    subst hcc
    have hlen : len₂ = len := by rw [hdg] at hd₂; cases hd₂; rfl
    subst hlen
    have hs₂ : s₂ = (({ U with heap := s₂.heap, slotsUsed := s₂.slotsUsed } : State).setVm s₂.vm).setTop { g with pc := g.pc + len₂, stack := v.toList ++ g.stack } := by
      refine e3.trans ?_
      rw [hf₂, State.calling_eq h.top, State.setFrames_setFrames, State.setTop_of_frames _ hr', hr]
      rfl
    have hsame : U.sameButNew ({ U with heap := s₂.heap, slotsUsed := s₂.slotsUsed } : State) L mc ms := by
      refine ⟨?_, q2, q3, q4, q5, q6⟩
      obtain ⟨t, ht, -⟩ := State.frames_cons hr
      show ({ U with heap := s₂.heap, slotsUsed := s₂.slotsUsed } : State) = { U.setFrames U.frames with heap := s₂.heap, slotsUsed := s₂.slotsUsed }
      rw [State.setFrames_self ht]
    subst hg
    refine Or.inl ⟨v, ⟨(({ U with heap := s₂.heap, slotsUsed := s₂.slotsUsed } : State).setVm s₂.vm), Ls ++ L, c0 + mc, s0 + ms⟩,
      ⟨X.admits, X.cas, X.clock, X.frames, X.room, X.hears, X.method, X.code, (X.here.setHeapUsed s₂.heap s₂.slotsUsed).setVm hW'.alike, X.tail, State.WarmedH.trans X.warmed hW', X.limits, X.bytes, X.same.trans (hsame.setVm s.vm)⟩,
      ⟨g, mk, s₂, L, rfl, rfl, hqc, rfl, hL, rfl, rfl⟩, ?_⟩
    show Steps p.tables e below _ ((({ U with heap := s₂.heap, slotsUsed := s₂.slotsUsed } : State).setVm s₂.vm).setTop { g with pc := g.pc + len₂, stack := v.toList ++ g.stack })
    rw [← hs₂]
    exact hsteps
  · obtain ⟨e2, q2, q3, q4, q5, q6⟩ := id hsm
    have e3 : s₂ = ({ (U.calling g mk a).setFrames s₂.frames with heap := s₂.heap, slotsUsed := s₂.slotsUsed } : State).setVm s₂.vm := by
      have : s₂ = ({ s₂ with vm := (U.calling g mk a).vm } : State).setVm s₂.vm := rfl
      rw [e2] at this
      exact this
    have hf₂ : s₂.frames = .throwing q :: .java g :: U.frames.tail := hend
    have hW' : U.WarmedH s₂.vm := hW₂
    have hs₂ : s₂ = ((({ U with heap := s₂.heap, slotsUsed := s₂.slotsUsed } : State).setVm s₂.vm).setTop g).pushFrame (.throwing q) := by
      refine e3.trans ?_
      rw [hf₂, State.calling_eq h.top, State.setFrames_setFrames, State.pushFrame, State.frames_setTop _ hr', State.setTop_of_frames _ hr', State.setFrames_setFrames, hr]
      rfl
    have hsame : U.sameButNew ({ U with heap := s₂.heap, slotsUsed := s₂.slotsUsed } : State) L mc ms := by
      refine ⟨?_, q2, q3, q4, q5, q6⟩
      obtain ⟨t, ht, -⟩ := State.frames_cons hr
      show ({ U with heap := s₂.heap, slotsUsed := s₂.slotsUsed } : State) = { U.setFrames U.frames with heap := s₂.heap, slotsUsed := s₂.slotsUsed }
      rw [State.setFrames_self ht]
    subst hg
    refine Or.inr ⟨q, ⟨(({ U with heap := s₂.heap, slotsUsed := s₂.slotsUsed } : State).setVm s₂.vm), Ls ++ L, c0 + mc, s0 + ms⟩,
      ⟨X.admits, X.cas, X.clock, X.frames, X.room, X.hears, X.method, X.code, (X.here.setHeapUsed s₂.heap s₂.slotsUsed).setVm hW'.alike, X.tail, State.WarmedH.trans X.warmed hW', X.limits, X.bytes, X.same.trans (hsame.setVm s.vm)⟩,
      ⟨g, mk, s₂, L, E, ce, rfl, rfl, hx, hce, hcv, hcl, rfl, hL, rfl, rfl⟩, ?_⟩
    show Steps p.tables e below _ (((({ U with heap := s₂.heap, slotsUsed := s₂.slotsUsed } : State).setVm s₂.vm).setTop g).pushFrame (.throwing q))
    rw [← hs₂]
    exact hsteps
end
variable {p : Program} {l : Launch} {e : Env} {R : Room} {s : State} {m : MethodId} {args : Array Value} {below : List Frame} {meth : Method} {c : Code} {T : State} {H : Heap} {locs : List Loc} {cells slots : Nat}
theorem vx_callVX (X : Stand p l e R s m args below meth c T locs cells slots) (hexec : p.tables.exec = Jvm.exec) {own C : String} {index : Nat} {y : MethodName} {bytes : ByteArray} {maxL : Nat} {ret : Option FieldType} {hh : List (Nat × Nat × Nat × Nat)}
    (hown : s.vm.findClass own = some m.cls) (hlink : (Cond.methodLink own index y).before args s = true) (hinst : (Cond.instanceMethod y).before args s = true) (hsel : (Cond.selects C y y).before args s = true)
    (hcode : (Cond.codeWith y bytes maxL ret hh).before args s = true) (hy : y.cls ≠ "java/lang/invoke/MethodHandle" ∧ y.cls ≠ "java/lang/invoke/VarHandle")
    {W9 : Nat} {Pre : Pt → Array Value → Prop} {Post : Pt → Array Value → Option Value → Pt → Prop} {PostX : Pt → Array Value → Addr → Pt → Prop} (hK : vx_Back l R p e below s args y 3 W9 Pre Post PostX)
    {b : Addr} {cellB : Cell} (hcell : T.heap[b]? = some cellB) (hobj : cellB.vm.isStatics = false) (hcls : s.vm.findClass C = some cellB.cls)
    {g : JFrame} (hg : g.method = m) (hsize : g.locals.size = c.maxLocals) {argsL rest : List Value} (hlen : ∀ sig, parseMethodDescriptor y.desc = some sig → argsL.length = sig.parameters.length)
    (hstack : g.stack = argsL.reverse ++ .ref b :: rest) (hW : 2 * g.monitorRoom + (rest.map fun v => v.category).sum ≤ W9) (hdg : decode c.code g.pc = .ok (.invokevirtual index, 3))
    (hpre : ∀ vm₁, s.WarmedH vm₁ → Pre ⟨T.setVm vm₁, locs, cells, slots⟩ (Value.ref b :: argsL).toArray) :
    (∃ (v : Option Value) (vm₁ : Vm) (B : Pt), s.WarmedH vm₁ ∧ Stand p l e R s m args below meth c B.U B.locs B.cells B.slots ∧ Post ⟨T.setVm vm₁, locs, cells, slots⟩ (Value.ref b :: argsL).toArray v B ∧
      ∀ target, Steps p.tables e below (B.U.setTop { g with pc := g.pc + 3, stack := v.toList ++ rest }) target → Steps p.tables e below (T.setTop g) target) ∨
    (∃ (q : Addr) (vm₁ : Vm) (B : Pt), s.WarmedH vm₁ ∧ Stand p l e R s m args below meth c B.U B.locs B.cells B.slots ∧ PostX ⟨T.setVm vm₁, locs, cells, slots⟩ (Value.ref b :: argsL).toArray q B ∧
      Steps p.tables e below (T.setTop g) ((B.U.setTop { g with stack := rest }).pushFrame (.throwing q))) := by
  obtain ⟨mk, methM, hnamed, hmethM, hstM, habM⟩ := Cond.instanceMethod_spec hinst
  obtain ⟨m8, methM', cM, hn8, hmethM', -, -, -, -, -, -, hsigM⟩ := Cond.codeWith_spec hcode
  cases Option.some.inj (hn8.symm.trans hnamed)
  cases hmethM.symm.trans hmethM'
  obtain ⟨c2, r2, m2, q1, q2, q3, q4, kP, hkP, hkPi⟩ := Cond.selects_spec hsel
  cases hcls.symm.trans q1
  cases (State.methodFound?_of_named hnamed hy).symm.trans q2
  cases hnamed.symm.trans q3
  have hselP : selectMethod e.platform s.vm cellB.cls mk = .method mk := by rw [Launch.admits_selectMethod X.admits]; exact q4
  obtain ⟨vm₁, X₁, hstep₁⟩ := X.invokevirtual hexec hown hlink hnamed hmethM hstM hkP hkPi hy (a := b) (cell := cellB) hcell
    (fun z h => by rw [h] at hobj; cases hobj) hselP hmethM habM hkP hkPi (g := g) hg (argsL := argsL) (rest := rest) (hlen _ hsigM) hstack hdg
  rcases hK m meth c ⟨T.setVm vm₁, locs, cells, slots⟩ { g with stack := rest } (.invokevirtual index) mk (Value.ref b :: argsL).toArray X₁ hg hsize hdg hW (X₁.named hnamed) (hpre vm₁ X₁.warmed) with ⟨v, B, X', hpost, hsteps⟩ | ⟨q, B, X', hpost, hsteps⟩
  · exact Or.inl ⟨v, vm₁, B, X₁.warmed, X', hpost, fun target h => hstep₁ _ fun acts => by rw [doInvoke_state]; exact hsteps.trans h⟩
  · exact Or.inr ⟨q, vm₁, B, X₁.warmed, X', hpost, hstep₁ _ fun acts => by rw [doInvoke_state]; exact hsteps⟩
theorem vx_callSX (X : Stand p l e R s m args below meth c T locs cells slots) (hexec : p.tables.exec = Jvm.exec) {own : String} {index : Nat} {y : MethodName} {bytes : ByteArray} {maxL : Nat} {ret : Option FieldType} {hh : List (Nat × Nat × Nat × Nat)}
    (hown : s.vm.findClass own = some m.cls) (hlink : (Cond.methodLink own index y).before args s = true) (hstat : (Cond.static y).before args s = true) (hinit : (Cond.initialized y.cls).before args s = true)
    (hcode : (Cond.codeWith y bytes maxL ret hh).before args s = true) (hy : y.cls ≠ "java/lang/invoke/MethodHandle" ∧ y.cls ≠ "java/lang/invoke/VarHandle")
    {W9 : Nat} {Pre : Pt → Array Value → Prop} {Post : Pt → Array Value → Option Value → Pt → Prop} {PostX : Pt → Array Value → Addr → Pt → Prop} (hK : vx_Back l R p e below s args y 3 W9 Pre Post PostX)
    {g : JFrame} (hg : g.method = m) (hsize : g.locals.size = c.maxLocals) {argsL rest : List Value} (hlen : ∀ sig, parseMethodDescriptor y.desc = some sig → argsL.length = sig.parameters.length)
    (hstack : g.stack = argsL.reverse ++ rest) (hW : 2 * g.monitorRoom + (rest.map fun v => v.category).sum ≤ W9) (hdg : decode c.code g.pc = .ok (.invokestatic index, 3))
    (hpre : ∀ vm₁, s.WarmedH vm₁ → Pre ⟨T.setVm vm₁, locs, cells, slots⟩ argsL.toArray) :
    (∃ (v : Option Value) (vm₁ : Vm) (B : Pt), s.WarmedH vm₁ ∧ Stand p l e R s m args below meth c B.U B.locs B.cells B.slots ∧ Post ⟨T.setVm vm₁, locs, cells, slots⟩ argsL.toArray v B ∧
      ∀ target, Steps p.tables e below (B.U.setTop { g with pc := g.pc + 3, stack := v.toList ++ rest }) target → Steps p.tables e below (T.setTop g) target) ∨
    (∃ (q : Addr) (vm₁ : Vm) (B : Pt), s.WarmedH vm₁ ∧ Stand p l e R s m args below meth c B.U B.locs B.cells B.slots ∧ PostX ⟨T.setVm vm₁, locs, cells, slots⟩ argsL.toArray q B ∧
      Steps p.tables e below (T.setTop g) ((B.U.setTop { g with stack := rest }).pushFrame (.throwing q))) := by
  obtain ⟨mk, methM, cM, hnamed, hmethM, -, -, -, -, -, -, hsigM⟩ := Cond.codeWith_spec hcode
  have hstatic : methM.isStatic = true := Cond.static_spec hnamed hmethM hstat
  obtain ⟨kP, hkP, -⟩ := className_of_methodNamed hnamed
  have hinitP : kP.init = .initialized := Cond.initialized_spec (findClass_of_methodNamed hnamed) hkP hinit
  obtain ⟨vm₁, X₁, hstep₁⟩ := X.invokestatic hexec hown hlink hnamed hmethM hstatic hkP hinitP hy (g := g) hg (argsL := argsL) (rest := rest) (hlen _ hsigM) hstack hdg
  rcases hK m meth c ⟨T.setVm vm₁, locs, cells, slots⟩ { g with stack := rest } (.invokestatic index) mk argsL.toArray X₁ hg hsize hdg hW (X₁.named hnamed) (hpre vm₁ X₁.warmed) with ⟨v, B, X', hpost, hsteps⟩ | ⟨q, B, X', hpost, hsteps⟩
  · exact Or.inl ⟨v, vm₁, B, X₁.warmed, X', hpost, fun target h => hstep₁ _ fun acts => by rw [doInvoke_state]; exact hsteps.trans h⟩
  · exact Or.inr ⟨q, vm₁, B, X₁.warmed, X', hpost, hstep₁ _ fun acts => by rw [doInvoke_state]; exact hsteps⟩
theorem vx_callVW (X : Stand p l e R s m args below meth c T locs cells slots) (hexec : p.tables.exec = Jvm.exec) {own C : String} {index : Nat} {y : MethodName} {bytes : ByteArray} {maxL : Nat} {ret : Option FieldType} {hh : List (Nat × Nat × Nat × Nat)}
    (hown : s.vm.findClass own = some m.cls) (hlink : (Cond.methodLink own index y).before args s = true) (hinst : (Cond.instanceMethod y).before args s = true) (hsel : (Cond.selects C y y).before args s = true)
    (hcode : (Cond.codeWith y bytes maxL ret hh).before args s = true) (hy : y.cls ≠ "java/lang/invoke/MethodHandle" ∧ y.cls ≠ "java/lang/invoke/VarHandle")
    {W9 : Nat} {Pre : Pt → Array Value → Prop} {Post : Pt → Array Value → Option Value → Pt → Prop} (hK : Back l R p e below s args y 3 W9 Pre Post)
    {b : Addr} {cellB : Cell} (hcell : T.heap[b]? = some cellB) (hobj : cellB.vm.isStatics = false) (hcls : s.vm.findClass C = some cellB.cls)
    {g : JFrame} (hg : g.method = m) (hsize : g.locals.size = c.maxLocals) {argsL rest : List Value} (hlen : ∀ sig, parseMethodDescriptor y.desc = some sig → argsL.length = sig.parameters.length)
    (hstack : g.stack = argsL.reverse ++ .ref b :: rest) (hW : 2 * g.monitorRoom + (rest.map fun v => v.category).sum ≤ W9) (hdg : decode c.code g.pc = .ok (.invokevirtual index, 3))
    (hpre : ∀ vm₁, s.WarmedH vm₁ → Pre ⟨T.setVm vm₁, locs, cells, slots⟩ (Value.ref b :: argsL).toArray) :
    ∃ (v : Option Value) (vm₁ : Vm) (B : Pt), s.WarmedH vm₁ ∧ Stand p l e R s m args below meth c B.U B.locs B.cells B.slots ∧ Post ⟨T.setVm vm₁, locs, cells, slots⟩ (Value.ref b :: argsL).toArray v B ∧
      ∀ target, Steps p.tables e below (B.U.setTop { g with pc := g.pc + 3, stack := v.toList ++ rest }) target → Steps p.tables e below (T.setTop g) target := by
  obtain ⟨mk, methM, hnamed, hmethM, hstM, habM⟩ := Cond.instanceMethod_spec hinst
  obtain ⟨m8, methM', cM, hn8, hmethM', -, -, -, -, -, -, hsigM⟩ := Cond.codeWith_spec hcode
  cases Option.some.inj (hn8.symm.trans hnamed)
  cases hmethM.symm.trans hmethM'
  obtain ⟨c2, r2, m2, q1, q2, q3, q4, kP, hkP, hkPi⟩ := Cond.selects_spec hsel
  cases hcls.symm.trans q1
  cases (State.methodFound?_of_named hnamed hy).symm.trans q2
  cases hnamed.symm.trans q3
  have hselP : selectMethod e.platform s.vm cellB.cls mk = .method mk := by rw [Launch.admits_selectMethod X.admits]; exact q4
  obtain ⟨vm₁, X₁, hstep₁⟩ := X.invokevirtual hexec hown hlink hnamed hmethM hstM hkP hkPi hy (a := b) (cell := cellB) hcell
    (fun z h => by rw [h] at hobj; cases hobj) hselP hmethM habM hkP hkPi (g := g) hg (argsL := argsL) (rest := rest) (hlen _ hsigM) hstack hdg
  obtain ⟨v, B, X', hpost, hsteps⟩ := hK m meth c ⟨T.setVm vm₁, locs, cells, slots⟩ { g with stack := rest } (.invokevirtual index) mk (Value.ref b :: argsL).toArray X₁ hg hsize hdg hW (X₁.named hnamed) (hpre vm₁ X₁.warmed)
  exact ⟨v, vm₁, B, X₁.warmed, X', hpost, fun target h => hstep₁ _ fun acts => by rw [doInvoke_state]; exact hsteps.trans h⟩
abbrev vx_CVW (R : Room) (s : State) (args : Array Value) (own C : String) (index : Nat) (y : MethodName) (bytes : ByteArray) (maxL : Nat) (ret : Option FieldType) (hh : List (Nat × Nat × Nat × Nat)) (ws : List Cond) (rm : Room) (mc ms n : Nat) : Prop :=
  (rm.cells = mc ∧ rm.slots = ms ∧ rm.frames + 1 ≤ R.frames ∧ 8 + (maxL + 11) + rm.locals ≤ R.locals ∧ (∀ w ∈ ws, ∀ (a' : Array Value) (U : State), s.WarmedH U.vm → w.before a' U = true) ∧ Cond.codeWith y bytes maxL ret hh ∈ ws) ∧
  (Cond.codeWith y bytes maxL ret hh).before args s = true ∧ (Cond.initialized y.cls).before args s = true ∧ (y.cls ≠ "java/lang/invoke/MethodHandle" ∧ y.cls ≠ "java/lang/invoke/VarHandle") ∧
  (∀ sig, parseMethodDescriptor y.desc = some sig → n = sig.parameters.length) ∧ (Cond.methodLink own index y).before args s = true ∧ (Cond.instanceMethod y).before args s = true ∧ (Cond.selects C y y).before args s = true
theorem vx_cwVW {own C : String} {index maxL mc ms : Nat} {y : MethodName} {bytes : ByteArray} {ret : Option FieldType} {hh : List (Nat × Nat × Nat × Nat)} {Ts ws ws' : List Cond} {rm : Room} (n : Nat) (ht : ∀ w ∈ Ts, w.before args s = true) (hT : GoodIn Ts (wsV own index C y ws)) (hw : ws = Cond.codeWith y bytes maxL ret hh :: ws') (hrc : rm.cells = mc) (hrs : rm.slots = ms)
    (hd : y.cls = C ∧ y.cls ≠ "java/lang/invoke/MethodHandle" ∧ y.cls ≠ "java/lang/invoke/VarHandle" ∧ (parseMethodDescriptor y.desc).map (fun d => d.parameters.length) = some n) (hR : rm.frames + 1 ≤ R.frames ∧ 8 + (maxL + 11) + rm.locals ≤ R.locals) :
    vx_CVW R s args own C index y bytes maxL ret hh ws rm mc ms n := by
  obtain ⟨hC, hd⟩ := hd
  subst hC
  have ok : ∀ w ∈ wsV own index y.cls y ws, w.before args s = true := fun w h => ht w (hT w h).1
  have hG : GoodIn Ts ws := fun w h => hT w (by unfold wsV; exact List.mem_append_right _ h)
  have hc : Cond.codeWith y bytes maxL ret hh ∈ ws := by rw [hw]; exact List.mem_cons_self
  refine ⟨⟨hrc, hrs, hR.1, hR.2, pay_in ht hG, hc⟩, ht _ (hG _ hc).1, ok _ (by simp [wsV]), ⟨hd.1, hd.2.1⟩, fun sig h => ?_, ok _ (by simp [wsV]), ok _ (by simp [wsV]), ok _ (by simp [wsV])⟩
  have h2 := hd.2.2
  rw [h] at h2
  exact (Option.some.inj h2).symm
theorem vx_runVW {y : MethodName} {bytes cc : ByteArray} {maxL nL mc ms n index : Nat} {ret : Option FieldType} {hh : List (Nat × Nat × Nat × Nat)} {ws : List Cond} {rm : Room} {Pc : Array Value → State → Prop} {Qc : Array Value → State → Outcome → State → Prop} {free : Addr → Prop} {Ts : List Cond} {own C : String} {b : Addr} {As rest : List Value} {g : JFrame}
    (S : CallFix p m c cc nL s args Ts own) (hM : Met l y ws rm Pc Qc mc ms free) (cw : vx_CVW R s args own C index y bytes maxL ret hh ws rm mc ms n) (hp : PreV s H C b Pc As)
    (hg : g.method = m) (hn : As.length = n) (hsize : g.locals.size = nL) (hstack : g.stack = As.reverse ++ .ref b :: rest) (hW : 2 * g.monitorRoom + (rest.map fun v => v.category).sum ≤ 8) (hdg : decode cc g.pc = .ok (.invokevirtual index, 3)) (hf : cells + mc ≤ R.cells ∧ slots + ms ≤ R.slots) :
    va_Run p l e R s m args below meth c H locs cells slots mc ms g rest (Qc (Value.ref b :: As).toArray) free := by
  obtain ⟨⟨hrc, hrs, hfr, hlo, hws, hcw⟩, hcode, hini, hy, hlen, hl, hin, hse⟩ := cw
  have hK : Back l R p e below s args y 3 8 (PreOf R mc ms Pc) (PostOf Qc mc ms free) := va_backW (hh := hh) (bytes := bytes) (maxL := maxL) (ret := ret) hM hp.1 hrc hrs hfr hlo hws hcw (fun a' U hW => word_at hW (Or.inl (by first | rfl | simp [Cond.onTables, Cond.keeps, Cond.steady])) hini)
  obtain ⟨hx, hb, hml, ho, -⟩ := S
  obtain ⟨-, ⟨cellB, hcB, hoB, hclB⟩, hPc⟩ := hp
  intro T hT X
  obtain ⟨v, vm₁, ⟨U', l2, c2, s2⟩, hW₁, X', ⟨g', mk, t, L, e1, e2, hq, h1, hL, h2, h3⟩, st⟩ := vx_callVW X hx (C := C) (hh := hh) (bytes := bytes) (maxL := maxL) (ret := ret) ho hl hin hse hcode hy hK (by rw [hT]; exact hcB) hoB hclB hg (hsize.trans hml.symm) (argsL := As) (rest := rest) (fun sig h => hn.trans (hlen sig h)) hstack hW (by rw [hb]; exact hdg)
    (fun vm₁ hW₁ => ⟨hf.1, hf.2, hPc (T.setVm vm₁) hT hW₁⟩)
  dsimp only [Pt.U, Pt.locs, Pt.cells, Pt.slots] at X' e1 e2 h1 h2 h3 st
  subst h1; subst h2; subst h3
  exact ⟨v, (T.setVm vm₁).calling g' mk (Value.ref b :: As).toArray, t, U', L, hT, X', hL, e1, e2, hq, st⟩
section
variable {y : MethodName} {bytes cc : ByteArray} {maxL nL mc ms n index : Nat} {ret : Option FieldType} {ws : List Cond} {rm : Room} {Pc : Array Value → State → Prop} {Qc : Array Value → State → Outcome → State → Prop} {XC : String → State → State → Prop} {free : Addr → Prop} {Ts : List Cond} {own C : String} {b : Addr} {As rest : List Value} {g : JFrame}
theorem vx_runVX {hh : List (Nat × Nat × Nat × Nat)} (S : CallFix p m c cc nL s args Ts own) (hM : vx_Met l y ws rm Pc Qc XC mc ms free) (cw : vx_CVW R s args own C index y bytes maxL ret hh ws rm mc ms n) (hp : PreV s H C b Pc As)
    (hg : g.method = m) (hn : As.length = n) (hsize : g.locals.size = nL) (hstack : g.stack = As.reverse ++ .ref b :: rest) (hW : 2 * g.monitorRoom + (rest.map fun v => v.category).sum ≤ 8) (hdg : decode cc g.pc = .ok (.invokevirtual index, 3)) (hf : cells + mc ≤ R.cells ∧ slots + ms ≤ R.slots) :
    vx_Run p l e R s m args below meth c H locs cells slots mc ms g rest (Qc (Value.ref b :: As).toArray) XC free := by
  obtain ⟨⟨hrc, hrs, hfr, hlo, hws, hcw⟩, hcode, hini, hy, hlen, hl, hin, hse⟩ := cw
  have hK : vx_Back l R p e below s args y 3 8 (PreOf R mc ms Pc) (PostOf Qc mc ms free) (vx_Post XC mc ms free) := vx_backW (hh := hh) (bytes := bytes) (maxL := maxL) (ret := ret) hM hp.1 hrc hrs hfr hlo hws hcw (fun a' U hW => word_at hW (Or.inl (by first | rfl | simp [Cond.onTables, Cond.keeps, Cond.steady])) hini)
  obtain ⟨hx, hb, hml, ho, -⟩ := S
  obtain ⟨-, ⟨cellB, hcB, hoB, hclB⟩, hPc⟩ := hp
  intro T hT X
  rcases vx_callVX X hx (C := C) (hh := hh) (bytes := bytes) (maxL := maxL) (ret := ret) ho hl hin hse hcode hy hK (by rw [hT]; exact hcB) hoB hclB hg (hsize.trans hml.symm) (argsL := As) (rest := rest) (fun sig h => hn.trans (hlen sig h)) hstack hW (by rw [hb]; exact hdg)
    (fun vm₁ hW₁ => ⟨hf.1, hf.2, hPc (T.setVm vm₁) hT hW₁⟩) with ⟨v, vm₁, ⟨U', l2, c2, s2⟩, hW₁, X', ⟨g', mk, t, L, e1, e2, hq, h1, hL, h2, h3⟩, st⟩ | ⟨q, vm₁, ⟨U', l2, c2, s2⟩, hW₁, X', ⟨g', mk, t, L, E, ce, e1, e2, hq, hce, hcv, hcl, h1, hL, h2, h3⟩, st⟩
  · dsimp only [Pt.U, Pt.locs, Pt.cells, Pt.slots] at X' e1 e2 h1 h2 h3 st
    subst h1; subst h2; subst h3
    exact Or.inl ⟨v, (T.setVm vm₁).calling g' mk (Value.ref b :: As).toArray, t, U', L, hT, X', hL, e1, e2, hq, st⟩
  · dsimp only [Pt.U, Pt.locs, Pt.cells, Pt.slots] at X' e1 e2 h1 h2 h3 st hcl
    subst h1; subst h2; subst h3
    exact Or.inr ⟨q, (T.setVm vm₁).calling g' mk (Value.ref b :: As).toArray, t, U', L, E, ce, hT, X', hL, e1, e2, hq, hce, hcv, vx_cls hW₁ hcl, st⟩
theorem vx_runSX {hh : List (Nat × Nat × Nat × Nat)} (S : CallFix p m c cc nL s args Ts own) (hM : vx_Met l y ws rm Pc Qc XC mc ms free) (cw : vx_CSW R s args own index y bytes maxL ret hh ws rm mc ms n) (hp : PreS s H Pc As)
    (hg : g.method = m) (hn : As.length = n) (hsize : g.locals.size = nL) (hstack : g.stack = As.reverse ++ rest) (hW : 2 * g.monitorRoom + (rest.map fun v => v.category).sum ≤ 8) (hdg : decode cc g.pc = .ok (.invokestatic index, 3)) (hf : cells + mc ≤ R.cells ∧ slots + ms ≤ R.slots) :
    vx_Run p l e R s m args below meth c H locs cells slots mc ms g rest (Qc As.toArray) XC free := by
  obtain ⟨⟨hrc, hrs, hfr, hlo, hws, hcw⟩, hcode, hini, hy, hlen, hl, hstt⟩ := cw
  have hK : vx_Back l R p e below s args y 3 8 (PreOf R mc ms Pc) (PostOf Qc mc ms free) (vx_Post XC mc ms free) := vx_backW (hh := hh) (bytes := bytes) (maxL := maxL) (ret := ret) hM hp.1 hrc hrs hfr hlo hws hcw (fun a' U hW => word_at hW (Or.inl (by first | rfl | simp [Cond.onTables, Cond.keeps, Cond.steady])) hini)
  obtain ⟨hx, hb, hml, ho, -⟩ := S
  intro T hT X
  rcases vx_callSX X hx (hh := hh) (bytes := bytes) (maxL := maxL) (ret := ret) ho hl hstt hini hcode hy hK hg (hsize.trans hml.symm) (argsL := As) (rest := rest) (fun sig h => hn.trans (hlen sig h)) hstack hW (by rw [hb]; exact hdg)
    (fun vm₁ hW₁ => ⟨hf.1, hf.2, hp.2 (T.setVm vm₁) hT hW₁⟩) with ⟨v, vm₁, ⟨U', l2, c2, s2⟩, hW₁, X', ⟨g', mk, t, L, e1, e2, hq, h1, hL, h2, h3⟩, st⟩ | ⟨q, vm₁, ⟨U', l2, c2, s2⟩, hW₁, X', ⟨g', mk, t, L, E, ce, e1, e2, hq, hce, hcv, hcl, h1, hL, h2, h3⟩, st⟩
  · dsimp only [Pt.U, Pt.locs, Pt.cells, Pt.slots] at X' e1 e2 h1 h2 h3 st
    subst h1; subst h2; subst h3
    exact Or.inl ⟨v, (T.setVm vm₁).calling g' mk As.toArray, t, U', L, hT, X', hL, e1, e2, hq, st⟩
  · dsimp only [Pt.U, Pt.locs, Pt.cells, Pt.slots] at X' e1 e2 h1 h2 h3 st hcl
    subst h1; subst h2; subst h3
    exact Or.inr ⟨q, (T.setVm vm₁).calling g' mk As.toArray, t, U', L, E, ce, hT, X', hL, e1, e2, hq, hce, hcv, vx_cls hW₁ hcl, st⟩
end
end VXH
theorem vx_ofWH {l : Launch} {y : MethodName} {ws ws' : List Cond} {rm : Room} {Pc : Array Value → State → Prop} {Qc : Array Value → State → Outcome → State → Prop} {XC : String → State → State → Prop} {mc ms : Nat} {free : Addr → Prop} {cc : ByteArray} {maxL : Nat} {ret : Option FieldType} {hh : List (Nat × Nat × Nat × Nat)}
    (hy : plainName y.cls = true) (hw : ws = Cond.codeWith y cc maxL ret hh :: ws')
    (body : ∀ p e s m args below meth c s₁, BodyLoose p l y (headSpec ws rm) cc maxL ret e s m args below meth c s₁ → c.maxLocals = maxL → Pc args s →
      W p l e (headSpec ws rm).room s m args below meth c s.heap [] 0 0 (vx_MQ below Qc XC args s mc ms free) (entryFrame m args maxL)) : vx_Met l y ws rm Pc Qc XC mc ms free := by
  refine MetFree.of_bodyS (code := cc) (maxLocals := maxL) (ret := ret) hy ?_ ?_
  · intro args s m h hn
    obtain ⟨m9, meth, c, hn9, h1, h2, h3, h4, -, h5, h6, -⟩ := Cond.codeWith_spec (atoms_spec (ws := ws) h _ (by rw [hw]; exact List.mem_cons_self))
    cases hn.symm.trans hn9
    exact ⟨meth, c, h1, h2, h3, h4, h5, h6⟩
  · intro p e s m args below meth c s₁ B hml hP _
    have hh0 : s₁.heap = s.heap := by rw [B.state]; rfl
    obtain ⟨t, a1, o, b1, b2, b3⟩ := body p e s m args below meth c s₁ B hml hP s₁ hh0 (Stand.of_body B)
    exact ⟨t, o, a1, b1, b2, b3⟩
/-! ===== END ===== -/
end
section
def RX0 : String := "MakeupGas$Stock"
def TX0 : u_T := fun k => match k with
  | 0 => ("MakeupGas$Stock", "left", "[I", true)
  | 1 => ("MakeupGas$Stock", "yearsKept", "I", false)
  | _ => ("MakeupGas$Stock", "lapsedSum", "I", false)
def tyX0 : Nat → FieldType := fun k => match k with
  | 0 => .array .int
  | 1 => .int
  | _ => .int
abbrev wsX00 : List Cond := u_ws RX0 TX0 3
theorem nmX0 : ∀ a, a < 3 → ∀ b, b < 3 → a ≠ b → (TX0 a).2.1 ≠ (TX0 b).2.1 := by decide +kernel
theorem tyX0_ok : ∀ k, k < 3 → parseFieldDescriptor (TX0 k).2.2.1 = some (tyX0 k) := by decide +kernel
abbrev cX0_init : ByteArray := prog_2_method_1_code
def yX0_init : MethodName := ⟨RX0, "<init>", "(I)V"⟩
abbrev cX0_keepFor : ByteArray := prog_2_method_2_code
def yX0_keepFor : MethodName := ⟨RX0, "keepFor", "(I)V"⟩
abbrev cX0_empty : ByteArray := prog_2_method_3_code
def yX0_empty : MethodName := ⟨RX0, "empty", "()V"⟩
abbrev cX0_lapseBefore : ByteArray := prog_2_method_4_code
def yX0_lapseBefore : MethodName := ⟨RX0, "lapseBefore", "(I)V"⟩
abbrev cX0_put : ByteArray := prog_2_method_5_code
def yX0_put : MethodName := ⟨RX0, "put", "(II)V"⟩
abbrev cX0_drawFrom : ByteArray := prog_2_method_6_code
def yX0_drawFrom : MethodName := ⟨RX0, "drawFrom", "(II)I"⟩
abbrev cX0_leftFrom : ByteArray := prog_2_method_7_code
def yX0_leftFrom : MethodName := ⟨RX0, "leftFrom", "(I)I"⟩
abbrev cX0_lapsedInAll : ByteArray := prog_2_method_8_code
def yX0_lapsedInAll : MethodName := ⟨RX0, "lapsedInAll", "()I"⟩
def RX1 : String := "MakeupGas"
def TX1 : u_T := fun k => match k with
  | 0 => ("MakeupGas", "yearlyQuantity", "I", false)
  | 1 => ("MakeupGas", "leastPercent", "I", false)
  | 2 => ("MakeupGas", "shortfallPercent", "I", false)
  | 3 => ("MakeupGas", "pricePerYear", "[I", true)
  | 4 => ("MakeupGas", "excusedDays", "[I", true)
  | 5 => ("MakeupGas", "closedYears", "I", false)
  | 6 => ("MakeupGas", "takenPerDay", "[I", true)
  | 7 => ("MakeupGas", "takenPerYear", "[I", true)
  | 8 => ("MakeupGas", "makeUpStock", "LMakeupGas$Stock;", true)
  | 9 => ("MakeupGas", "surplusStock", "LMakeupGas$Stock;", true)
  | 10 => ("MakeupGas", "shortfallPerYear", "[I", true)
  | 11 => ("MakeupGas", "madeUpPerYear", "[I", true)
  | 12 => ("MakeupGas", "coveredPerYear", "[I", true)
  | 13 => ("MakeupGas", "surplusPerYear", "[I", true)
  | 14 => ("MakeupGas", "duePerYear", "[J", true)
  | 15 => ("MakeupGas", "billPerYear", "[J", true)
  | _ => ("MakeupGas", "billedInAll", "J", false)
def tyX1 : Nat → FieldType := fun k => match k with
  | 0 => .int
  | 1 => .int
  | 2 => .int
  | 3 => .array .int
  | 4 => .array .int
  | 5 => .int
  | 6 => .array .int
  | 7 => .array .int
  | 8 => .object "MakeupGas$Stock"
  | 9 => .object "MakeupGas$Stock"
  | 10 => .array .int
  | 11 => .array .int
  | 12 => .array .int
  | 13 => .array .int
  | 14 => .array .long
  | 15 => .array .long
  | _ => .long
abbrev wsX10 : List Cond := u_ws RX1 TX1 17
theorem nmX1 : ∀ a, a < 17 → ∀ b, b < 17 → a ≠ b → (TX1 a).2.1 ≠ (TX1 b).2.1 := by decide +kernel
theorem tyX1_ok : ∀ k, k < 17 → parseFieldDescriptor (TX1 k).2.2.1 = some (tyX1 k) := by decide +kernel
abbrev cX1_init : ByteArray := prog_1_method_1_code
def yX1_init : MethodName := ⟨RX1, "<init>", "()V"⟩
abbrev cX1_set : ByteArray := prog_1_method_2_code
def yX1_set : MethodName := ⟨RX1, "set", "(IIIII)V"⟩
abbrev cX1_review : ByteArray := prog_1_method_3_code
def yX1_review : MethodName := ⟨RX1, "review", "(II)I"⟩
abbrev cX1_excuse : ByteArray := prog_1_method_4_code
def yX1_excuse : MethodName := ⟨RX1, "excuse", "(II)I"⟩
abbrev cX1_take : ByteArray := prog_1_method_5_code
def yX1_take : MethodName := ⟨RX1, "take", "(II)I"⟩
abbrev cX1_takeDaily : ByteArray := prog_1_method_6_code
def yX1_takeDaily : MethodName := ⟨RX1, "takeDaily", "(III)I"⟩
abbrev cX1_close : ByteArray := prog_1_method_7_code
def yX1_close : MethodName := ⟨RX1, "close", "()J"⟩
abbrev cX1_closed : ByteArray := prog_1_method_8_code
def yX1_closed : MethodName := ⟨RX1, "closed", "()I"⟩
abbrev cX1_taken : ByteArray := prog_1_method_9_code
def yX1_taken : MethodName := ⟨RX1, "taken", "(I)I"⟩
abbrev cX1_takenFrom : ByteArray := prog_1_method_10_code
def yX1_takenFrom : MethodName := ⟨RX1, "takenFrom", "(II)I"⟩
abbrev cX1_price : ByteArray := prog_1_method_11_code
def yX1_price : MethodName := ⟨RX1, "price", "(I)I"⟩
abbrev cX1_least : ByteArray := prog_1_method_12_code
def yX1_least : MethodName := ⟨RX1, "least", "(I)I"⟩
abbrev cX1_shortfall : ByteArray := prog_1_method_13_code
def yX1_shortfall : MethodName := ⟨RX1, "shortfall", "(I)I"⟩
abbrev cX1_madeUp : ByteArray := prog_1_method_14_code
def yX1_madeUp : MethodName := ⟨RX1, "madeUp", "(I)I"⟩
abbrev cX1_covered : ByteArray := prog_1_method_15_code
def yX1_covered : MethodName := ⟨RX1, "covered", "(I)I"⟩
abbrev cX1_surplus : ByteArray := prog_1_method_16_code
def yX1_surplus : MethodName := ⟨RX1, "surplus", "(I)I"⟩
abbrev cX1_due : ByteArray := prog_1_method_17_code
def yX1_due : MethodName := ⟨RX1, "due", "(I)J"⟩
abbrev cX1_bill : ByteArray := prog_1_method_18_code
def yX1_bill : MethodName := ⟨RX1, "bill", "(I)J"⟩
abbrev cX1_makeUpLeft : ByteArray := prog_1_method_19_code
def yX1_makeUpLeft : MethodName := ⟨RX1, "makeUpLeft", "(I)I"⟩
abbrev cX1_surplusLeft : ByteArray := prog_1_method_20_code
def yX1_surplusLeft : MethodName := ⟨RX1, "surplusLeft", "(I)I"⟩
abbrev cX1_lapsed : ByteArray := prog_1_method_21_code
def yX1_lapsed : MethodName := ⟨RX1, "lapsed", "()I"⟩
abbrev cX1_open : ByteArray := prog_1_method_22_code
def yX1_open : MethodName := ⟨RX1, "open", "()J"⟩
abbrev cX1_requireRange : ByteArray := prog_1_method_23_code
def yX1_requireRange : MethodName := ⟨RX1, "requireRange", "(III)V"⟩
abbrev cX1_requireYear : ByteArray := prog_1_method_24_code
def yX1_requireYear : MethodName := ⟨RX1, "requireYear", "(I)V"⟩
abbrev cX1_requireDay : ByteArray := prog_1_method_25_code
def yX1_requireDay : MethodName := ⟨RX1, "requireDay", "(I)V"⟩
abbrev cX1_requireDays : ByteArray := prog_1_method_26_code
def yX1_requireDays : MethodName := ⟨RX1, "requireDays", "(II)V"⟩
abbrev cX1_requireClosedYear : ByteArray := prog_1_method_27_code
def yX1_requireClosedYear : MethodName := ⟨RX1, "requireClosedYear", "(I)V"⟩
abbrev cX1_requireYearGoingOn : ByteArray := prog_1_method_28_code
def yX1_requireYearGoingOn : MethodName := ⟨RX1, "requireYearGoingOn", "()V"⟩
abbrev cX1_requireUnused : ByteArray := prog_1_method_29_code
def yX1_requireUnused : MethodName := ⟨RX1, "requireUnused", "()V"⟩
abbrev cX1_requireRoom : ByteArray := prog_1_method_30_code
def yX1_requireRoom : MethodName := ⟨RX1, "requireRoom", "(III)V"⟩
abbrev cX1_addTakes : ByteArray := prog_1_method_31_code
def yX1_addTakes : MethodName := ⟨RX1, "addTakes", "(III)V"⟩
abbrev cX1_leastQuantity : ByteArray := prog_1_method_32_code
def yX1_leastQuantity : MethodName := ⟨RX1, "leastQuantity", "(I)I"⟩
abbrev cX1_shortfallPrice : ByteArray := prog_1_method_33_code
def yX1_shortfallPrice : MethodName := ⟨RX1, "shortfallPrice", "(I)I"⟩
abbrev cX1_settleClosedYears : ByteArray := prog_1_method_34_code
def yX1_settleClosedYears : MethodName := ⟨RX1, "settleClosedYears", "()V"⟩
abbrev cX1_settleGap : ByteArray := prog_1_method_35_code
def yX1_settleGap : MethodName := ⟨RX1, "settleGap", "(I)V"⟩
abbrev cX1_drawSurplus : ByteArray := prog_1_method_36_code
def yX1_drawSurplus : MethodName := ⟨RX1, "drawSurplus", "(II)I"⟩
abbrev cX1_settleEnough : ByteArray := prog_1_method_37_code
def yX1_settleEnough : MethodName := ⟨RX1, "settleEnough", "(I)V"⟩
abbrev cX1_dueInAll : ByteArray := prog_1_method_38_code
def yX1_dueInAll : MethodName := ⟨RX1, "dueInAll", "()J"⟩
def RX2 : String := "MakeupGasModel"
def TX2 : u_T := fun k => match k with
  | 0 => ("MakeupGasModel", "thrown", "I", false)
  | 1 => ("MakeupGasModel", "quantity", "I", false)
  | 2 => ("MakeupGasModel", "percent", "I", false)
  | 3 => ("MakeupGasModel", "share", "I", false)
  | 4 => ("MakeupGasModel", "makeUpYears", "I", false)
  | 5 => ("MakeupGasModel", "surplusYears", "I", false)
  | 6 => ("MakeupGasModel", "prices", "[I", true)
  | 7 => ("MakeupGasModel", "excused", "[I", true)
  | 8 => ("MakeupGasModel", "days", "[I", true)
  | 9 => ("MakeupGasModel", "taken", "[I", true)
  | 10 => ("MakeupGasModel", "bills", "[J", true)
  | 11 => ("MakeupGasModel", "closed", "I", false)
  | 12 => ("MakeupGasModel", "shortfalls", "[I", true)
  | 13 => ("MakeupGasModel", "surpluses", "[I", true)
  | 14 => ("MakeupGasModel", "makeUpLeft", "[I", true)
  | 15 => ("MakeupGasModel", "surplusLeft", "[I", true)
  | 16 => ("MakeupGasModel", "madeUp", "[I", true)
  | 17 => ("MakeupGasModel", "covered", "[I", true)
  | 18 => ("MakeupGasModel", "dues", "[J", true)
  | _ => ("MakeupGasModel", "lapsed", "I", false)
def tyX2 : Nat → FieldType := fun k => match k with
  | 0 => .int
  | 1 => .int
  | 2 => .int
  | 3 => .int
  | 4 => .int
  | 5 => .int
  | 6 => .array .int
  | 7 => .array .int
  | 8 => .array .int
  | 9 => .array .int
  | 10 => .array .long
  | 11 => .int
  | 12 => .array .int
  | 13 => .array .int
  | 14 => .array .int
  | 15 => .array .int
  | 16 => .array .int
  | 17 => .array .int
  | 18 => .array .long
  | _ => .int
abbrev wsX20 : List Cond := u_ws RX2 TX2 20
theorem nmX2 : ∀ a, a < 20 → ∀ b, b < 20 → a ≠ b → (TX2 a).2.1 ≠ (TX2 b).2.1 := by decide +kernel
theorem tyX2_ok : ∀ k, k < 20 → parseFieldDescriptor (TX2 k).2.2.1 = some (tyX2 k) := by decide +kernel
abbrev cX2_init : ByteArray := prog_4_method_1_code
def yX2_init : MethodName := ⟨RX2, "<init>", "()V"⟩
abbrev cX2_thrown : ByteArray := prog_4_method_2_code
def yX2_thrown : MethodName := ⟨RX2, "thrown", "()I"⟩
abbrev cX2_holds : ByteArray := prog_4_method_3_code
def yX2_holds : MethodName := ⟨RX2, "holds", "(I)Z"⟩
abbrev cX2_isIn : ByteArray := prog_4_method_4_code
def yX2_isIn : MethodName := ⟨RX2, "isIn", "(III)Z"⟩
abbrev cX2_isYear : ByteArray := prog_4_method_5_code
def yX2_isYear : MethodName := ⟨RX2, "isYear", "(I)Z"⟩
abbrev cX2_leastOf : ByteArray := prog_4_method_6_code
def yX2_leastOf : MethodName := ⟨RX2, "leastOf", "(I)I"⟩
abbrev cX2_shortfallPrice : ByteArray := prog_4_method_7_code
def yX2_shortfallPrice : MethodName := ⟨RX2, "shortfallPrice", "(I)I"⟩
abbrev cX2_lapses : ByteArray := prog_4_method_8_code
def yX2_lapses : MethodName := ⟨RX2, "lapses", "(I)V"⟩
abbrev cX2_covers : ByteArray := prog_4_method_9_code
def yX2_covers : MethodName := ⟨RX2, "covers", "(II)V"⟩
abbrev cX2_makesUp : ByteArray := prog_4_method_10_code
def yX2_makesUp : MethodName := ⟨RX2, "makesUp", "(II)V"⟩
abbrev cX2_goesThrough : ByteArray := prog_4_method_11_code
def yX2_goesThrough : MethodName := ⟨RX2, "goesThrough", "()V"⟩
abbrev cX2_openNow : ByteArray := prog_4_method_12_code
def yX2_openNow : MethodName := ⟨RX2, "openNow", "()J"⟩
abbrev cX2_set : ByteArray := prog_4_method_13_code
def yX2_set : MethodName := ⟨RX2, "set", "(IIIII)V"⟩
abbrev cX2_review : ByteArray := prog_4_method_14_code
def yX2_review : MethodName := ⟨RX2, "review", "(II)I"⟩
abbrev cX2_excuse : ByteArray := prog_4_method_15_code
def yX2_excuse : MethodName := ⟨RX2, "excuse", "(II)I"⟩
abbrev cX2_isRange : ByteArray := prog_4_method_16_code
def yX2_isRange : MethodName := ⟨RX2, "isRange", "(II)Z"⟩
abbrev cX2_isTooMuch : ByteArray := prog_4_method_17_code
def yX2_isTooMuch : MethodName := ⟨RX2, "isTooMuch", "(III)Z"⟩
abbrev cX2_canTake : ByteArray := prog_4_method_18_code
def yX2_canTake : MethodName := ⟨RX2, "canTake", "(III)Z"⟩
abbrev cX2_takes : ByteArray := prog_4_method_19_code
def yX2_takes : MethodName := ⟨RX2, "takes", "(III)V"⟩
abbrev cX2_take : ByteArray := prog_4_method_20_code
def yX2_take : MethodName := ⟨RX2, "take", "(II)I"⟩
abbrev cX2_takeDaily : ByteArray := prog_4_method_21_code
def yX2_takeDaily : MethodName := ⟨RX2, "takeDaily", "(III)I"⟩
abbrev cX2_close : ByteArray := prog_4_method_22_code
def yX2_close : MethodName := ⟨RX2, "close", "()J"⟩
abbrev cX2_closed : ByteArray := prog_4_method_23_code
def yX2_closed : MethodName := ⟨RX2, "closed", "()I"⟩
abbrev cX2_taken : ByteArray := prog_4_method_24_code
def yX2_taken : MethodName := ⟨RX2, "taken", "(I)I"⟩
abbrev cX2_takenFrom : ByteArray := prog_4_method_25_code
def yX2_takenFrom : MethodName := ⟨RX2, "takenFrom", "(II)I"⟩
abbrev cX2_price : ByteArray := prog_4_method_26_code
def yX2_price : MethodName := ⟨RX2, "price", "(I)I"⟩
abbrev cX2_least : ByteArray := prog_4_method_27_code
def yX2_least : MethodName := ⟨RX2, "least", "(I)I"⟩
abbrev cX2_isClosed : ByteArray := prog_4_method_28_code
def yX2_isClosed : MethodName := ⟨RX2, "isClosed", "(I)Z"⟩
abbrev cX2_shortfall : ByteArray := prog_4_method_29_code
def yX2_shortfall : MethodName := ⟨RX2, "shortfall", "(I)I"⟩
abbrev cX2_madeUp : ByteArray := prog_4_method_30_code
def yX2_madeUp : MethodName := ⟨RX2, "madeUp", "(I)I"⟩
abbrev cX2_covered : ByteArray := prog_4_method_31_code
def yX2_covered : MethodName := ⟨RX2, "covered", "(I)I"⟩
abbrev cX2_surplus : ByteArray := prog_4_method_32_code
def yX2_surplus : MethodName := ⟨RX2, "surplus", "(I)I"⟩
abbrev cX2_due : ByteArray := prog_4_method_33_code
def yX2_due : MethodName := ⟨RX2, "due", "(I)J"⟩
abbrev cX2_bill : ByteArray := prog_4_method_34_code
def yX2_bill : MethodName := ⟨RX2, "bill", "(I)J"⟩
abbrev cX2_makeUpLeft : ByteArray := prog_4_method_35_code
def yX2_makeUpLeft : MethodName := ⟨RX2, "makeUpLeft", "(I)I"⟩
abbrev cX2_surplusLeft : ByteArray := prog_4_method_36_code
def yX2_surplusLeft : MethodName := ⟨RX2, "surplusLeft", "(I)I"⟩
abbrev cX2_lapsed : ByteArray := prog_4_method_37_code
def yX2_lapsed : MethodName := ⟨RX2, "lapsed", "()I"⟩
abbrev cX2_open : ByteArray := prog_4_method_38_code
def yX2_open : MethodName := ⟨RX2, "open", "()J"⟩
def RJx145de : String := "java/io/Serializable"
def TJx145de : u_T := fun k => match k with
  | _ => ("", "", "", false)
def tyJx145de : Nat → FieldType := fun k => match k with
  | _ => .int
abbrev wsJx145de0 : List Cond := u_ws RJx145de TJx145de 0
theorem nmJx145de : ∀ a, a < 0 → ∀ b, b < 0 → a ≠ b → (TJx145de a).2.1 ≠ (TJx145de b).2.1 := by decide +kernel
theorem tyJx145de_ok : ∀ k, k < 0 → parseFieldDescriptor (TJx145de k).2.2.1 = some (tyJx145de k) := by decide +kernel
def RJ9 : String := "java/lang/Math"
def TJ9 : u_T := fun k => match k with
  | _ => ("", "", "", false)
def tyJ9 : Nat → FieldType := fun k => match k with
  | _ => .int
abbrev wsJ90 : List Cond := u_ws RJ9 TJ9 0
theorem nmJ9 : ∀ a, a < 0 → ∀ b, b < 0 → a ≠ b → (TJ9 a).2.1 ≠ (TJ9 b).2.1 := by decide +kernel
theorem tyJ9_ok : ∀ k, k < 0 → parseFieldDescriptor (TJ9 k).2.2.1 = some (tyJ9 k) := by decide +kernel
abbrev cJ9_max_7cf53 : ByteArray := prog_8_method_65_code
def yJ9_max_7cf53 : MethodName := ⟨RJ9, "max", "(II)I"⟩
abbrev cJ9_min_7cf53 : ByteArray := prog_8_method_69_code
def yJ9_min_7cf53 : MethodName := ⟨RJ9, "min", "(II)I"⟩
def RJ0 : String := "java/lang/String"
def TJ0 : u_T := fun k => match k with
  | _ => ("", "", "", false)
def tyJ0 : Nat → FieldType := fun k => match k with
  | _ => .int
abbrev wsJ00 : List Cond := u_ws RJ0 TJ0 0
theorem nmJ0 : ∀ a, a < 0 → ∀ b, b < 0 → a ≠ b → (TJ0 a).2.1 ≠ (TJ0 b).2.1 := by decide +kernel
theorem tyJ0_ok : ∀ k, k < 0 → parseFieldDescriptor (TJ0 k).2.2.1 = some (tyJ0 k) := by decide +kernel
def RJ7 : String := "java/util/Arrays"
def TJ7 : u_T := fun k => match k with
  | _ => ("", "", "", false)
def tyJ7 : Nat → FieldType := fun k => match k with
  | _ => .int
abbrev wsJ70 : List Cond := u_ws RJ7 TJ7 0
theorem nmJ7 : ∀ a, a < 0 → ∀ b, b < 0 → a ≠ b → (TJ7 a).2.1 ≠ (TJ7 b).2.1 := by decide +kernel
theorem tyJ7_ok : ∀ k, k < 0 → parseFieldDescriptor (TJ7 k).2.2.1 = some (tyJ7 k) := by decide +kernel
abbrev cJ7_fill_53178 : ByteArray := prog_12_method_103_code
def yJ7_fill_53178 : MethodName := ⟨RJ7, "fill", "([II)V"⟩
def RL : String := "MakeupGasLaw"
abbrev cL_set : ByteArray := method_3_code
def yL_set : MethodName := ⟨RL, "set", "(LMakeupGas;IIIII)I"⟩
abbrev cL_review : ByteArray := method_4_code
def yL_review : MethodName := ⟨RL, "review", "(LMakeupGas;II[J)I"⟩
abbrev cL_excuse : ByteArray := method_5_code
def yL_excuse : MethodName := ⟨RL, "excuse", "(LMakeupGas;II[J)I"⟩
abbrev cL_take : ByteArray := method_6_code
def yL_take : MethodName := ⟨RL, "take", "(LMakeupGas;II[J)I"⟩
abbrev cL_takeDaily : ByteArray := method_7_code
def yL_takeDaily : MethodName := ⟨RL, "takeDaily", "(LMakeupGas;III[J)I"⟩
abbrev cL_close : ByteArray := method_8_code
def yL_close : MethodName := ⟨RL, "close", "(LMakeupGas;[J)I"⟩
abbrev cL_taken : ByteArray := method_9_code
def yL_taken : MethodName := ⟨RL, "taken", "(LMakeupGas;I[J)I"⟩
abbrev cL_takenFrom : ByteArray := method_10_code
def yL_takenFrom : MethodName := ⟨RL, "takenFrom", "(LMakeupGas;II[J)I"⟩
abbrev cL_price : ByteArray := method_11_code
def yL_price : MethodName := ⟨RL, "price", "(LMakeupGas;I[J)I"⟩
abbrev cL_least : ByteArray := method_12_code
def yL_least : MethodName := ⟨RL, "least", "(LMakeupGas;I[J)I"⟩
abbrev cL_shortfall : ByteArray := method_13_code
def yL_shortfall : MethodName := ⟨RL, "shortfall", "(LMakeupGas;I[J)I"⟩
abbrev cL_madeUp : ByteArray := method_14_code
def yL_madeUp : MethodName := ⟨RL, "madeUp", "(LMakeupGas;I[J)I"⟩
abbrev cL_covered : ByteArray := method_15_code
def yL_covered : MethodName := ⟨RL, "covered", "(LMakeupGas;I[J)I"⟩
abbrev cL_surplus : ByteArray := method_16_code
def yL_surplus : MethodName := ⟨RL, "surplus", "(LMakeupGas;I[J)I"⟩
abbrev cL_due : ByteArray := method_17_code
def yL_due : MethodName := ⟨RL, "due", "(LMakeupGas;I[J)I"⟩
abbrev cL_bill : ByteArray := method_18_code
def yL_bill : MethodName := ⟨RL, "bill", "(LMakeupGas;I[J)I"⟩
abbrev cL_makeUpLeft : ByteArray := method_19_code
def yL_makeUpLeft : MethodName := ⟨RL, "makeUpLeft", "(LMakeupGas;I[J)I"⟩
abbrev cL_surplusLeft : ByteArray := method_20_code
def yL_surplusLeft : MethodName := ⟨RL, "surplusLeft", "(LMakeupGas;I[J)I"⟩
abbrev cL_law : ByteArray := code
def yL_law : MethodName := ⟨RL, "law", "([I)Z"⟩
def wsX0_init : List Cond := .code yX0_init cX0_init 2 none :: ([.methodLink RX0 3 objectInit, .instanceMethod objectInit, .code objectInit ⟨#[0xb1]⟩ 1 none, .arrayClass .int, .fieldLink RX0 9 "MakeupGas$Stock" "left" "[I", .fieldLink RX0 15 "MakeupGas$Stock" "yearsKept" "I"] ++ wsX00)
def wsX0_keepFor : List Cond := .code yX0_keepFor cX0_keepFor 2 none :: ([.fieldLink RX0 15 "MakeupGas$Stock" "yearsKept" "I"] ++ wsX00)
def wsJ7_fill_53178 : List Cond := .code yJ7_fill_53178 cJ7_fill_53178 4 none :: ([])
def wsX0_empty : List Cond := .code yX0_empty cX0_empty 1 none :: ([.fieldLink RX0 9 "MakeupGas$Stock" "left" "[I", .fieldLink RX0 25 "MakeupGas$Stock" "lapsedSum" "I", .methodLink RX0 19 yJ7_fill_53178, .static yJ7_fill_53178, .initialized RJ7, .code yJ7_fill_53178 cJ7_fill_53178 4 none] ++ wsX00)
def wsX0_lapseBefore : List Cond := .code yX0_lapseBefore cX0_lapseBefore 3 none :: ([.fieldLink RX0 15 "MakeupGas$Stock" "yearsKept" "I", .fieldLink RX0 25 "MakeupGas$Stock" "lapsedSum" "I", .fieldLink RX0 9 "MakeupGas$Stock" "left" "[I"] ++ wsX00)
def wsX0_put : List Cond := .code yX0_put cX0_put 3 none :: ([.fieldLink RX0 9 "MakeupGas$Stock" "left" "[I"] ++ wsX00)
def wsX0_drawFrom : List Cond := .code yX0_drawFrom cX0_drawFrom 4 (some .int) :: ([.fieldLink RX0 9 "MakeupGas$Stock" "left" "[I", .methodLink RX0 28 Lib.Math.min.name, .static Lib.Math.min.name, .initialized "java/lang/Math", .code Lib.Math.min.name Lib.Math.min.code 2 (some .int)] ++ wsX00)
def wsX0_leftFrom : List Cond := .code yX0_leftFrom cX0_leftFrom 2 (some .int) :: ([.fieldLink RX0 9 "MakeupGas$Stock" "left" "[I"] ++ wsX00)
def wsX0_lapsedInAll : List Cond := .code yX0_lapsedInAll cX0_lapsedInAll 1 (some .int) :: ([.fieldLink RX0 25 "MakeupGas$Stock" "lapsedSum" "I"] ++ wsX00)
def wsX1_init_r1 : List Cond := [Cond.methodLink RX1 1 objectInit, Cond.instanceMethod objectInit, Cond.code objectInit ⟨#[0xb1]⟩ 1 none, Cond.constant RX1 9 (36000), Cond.fieldLink RX1 10 "MakeupGas" "yearlyQuantity" "I", Cond.fieldLink RX1 14 "MakeupGas" "leastPercent" "I", Cond.fieldLink RX1 17 "MakeupGas" "shortfallPercent" "I", Cond.arrayClass .int, Cond.fieldLink RX1 20 "MakeupGas" "pricePerYear" "[I", Cond.fieldLink RX1 30 "MakeupGas" "excusedDays" "[I", Cond.fieldLink RX1 33 "MakeupGas" "takenPerDay" "[I", Cond.fieldLink RX1 36 "MakeupGas" "takenPerYear" "[I", Cond.classLink RX1 39 RX0, Cond.instantiable RX0 3, Cond.initialized RX0, Cond.fieldLink RX1 44 "MakeupGas" "makeUpStock" "LMakeupGas$Stock;", Cond.fieldLink RX1 48 "MakeupGas" "surplusStock" "LMakeupGas$Stock;", Cond.fieldLink RX1 51 "MakeupGas" "shortfallPerYear" "[I", Cond.fieldLink RX1 54 "MakeupGas" "madeUpPerYear" "[I", Cond.fieldLink RX1 57 "MakeupGas" "coveredPerYear" "[I", Cond.fieldLink RX1 60 "MakeupGas" "surplusPerYear" "[I", Cond.arrayClass .long, Cond.fieldLink RX1 63 "MakeupGas" "duePerYear" "[J", Cond.fieldLink RX1 67 "MakeupGas" "billPerYear" "[J"]
def wsX1_init_r2 : List Cond := [Cond.methodLink RX1 24 yJ7_fill_53178, Cond.static yJ7_fill_53178, Cond.initialized RJ7, Cond.code yJ7_fill_53178 cJ7_fill_53178 4 none, Cond.methodLink RX1 41 yX0_init, Cond.instanceMethod yX0_init, Cond.code yX0_init cX0_init 2 none, Cond.methodLink RX0 3 objectInit, Cond.fieldLink RX0 9 "MakeupGas$Stock" "left" "[I", Cond.fieldLink RX0 15 "MakeupGas$Stock" "yearsKept" "I"]
def wsX1_init : List Cond := .code yX1_init cX1_init 1 none :: ((wsX1_init_r1 ++ wsX1_init_r2) ++ wsX10 ++ wsX00)
def wsX1_requireRange : List Cond := .code yX1_requireRange cX1_requireRange 3 none :: ([.classLink RX1 128 "java/lang/IllegalArgumentException", .initialized "java/lang/IllegalArgumentException"] ++ (vx_atS RX1 132 "java/lang/IllegalArgumentException" ["java/lang/RuntimeException", "java/lang/Exception"]).filter goodWord)
def wsX1_requireUnused : List Cond := .code yX1_requireUnused cX1_requireUnused 1 none :: ([.classLink RX1 135 "java/lang/IllegalStateException", .initialized "java/lang/IllegalStateException", .fieldLink RX1 103 "MakeupGas" "closedYears" "I", .fieldLink RX1 36 "MakeupGas" "takenPerYear" "[I"] ++ wsX10 ++ (vx_atS RX1 139 "java/lang/IllegalStateException" ["java/lang/RuntimeException", "java/lang/Exception"]).filter goodWord)
def wsX1_set_r1 : List Cond := [Cond.constant RX1 70 (100000), Cond.fieldLink RX1 10 "MakeupGas" "yearlyQuantity" "I", Cond.fieldLink RX1 14 "MakeupGas" "leastPercent" "I", Cond.fieldLink RX1 17 "MakeupGas" "shortfallPercent" "I", Cond.fieldLink RX1 44 "MakeupGas" "makeUpStock" "LMakeupGas$Stock;", Cond.fieldLink RX1 48 "MakeupGas" "surplusStock" "LMakeupGas$Stock;", Cond.methodLink RX1 71 yX1_requireRange, Cond.static yX1_requireRange, Cond.initialized RX1, Cond.code yX1_requireRange cX1_requireRange 3 none, Cond.classLink RX1 128 "java/lang/IllegalArgumentException", Cond.initialized "java/lang/IllegalArgumentException", Cond.methodLink RX1 75 yX1_requireUnused, Cond.instanceMethod yX1_requireUnused, Cond.selects RX1 yX1_requireUnused yX1_requireUnused, Cond.code yX1_requireUnused cX1_requireUnused 1 none, Cond.classLink RX1 135 "java/lang/IllegalStateException", Cond.initialized "java/lang/IllegalStateException", Cond.fieldLink RX1 103 "MakeupGas" "closedYears" "I", Cond.fieldLink RX1 36 "MakeupGas" "takenPerYear" "[I", Cond.methodLink RX1 78 yX0_keepFor, Cond.instanceMethod yX0_keepFor, Cond.selects RX0 yX0_keepFor yX0_keepFor, Cond.initialized RX0]
def wsX1_set_r2 : List Cond := [Cond.code yX0_keepFor cX0_keepFor 2 none, Cond.fieldLink RX0 15 "MakeupGas$Stock" "yearsKept" "I"]
def wsX1_set : List Cond := .code yX1_set cX1_set 6 none :: ((wsX1_set_r1 ++ wsX1_set_r2) ++ wsX10 ++ wsX00 ++ (vx_atS RX1 132 "java/lang/IllegalArgumentException" ["java/lang/RuntimeException", "java/lang/Exception"]).filter goodWord ++ (vx_atS RX1 139 "java/lang/IllegalStateException" ["java/lang/RuntimeException", "java/lang/Exception"]).filter goodWord)
def wsX1_requireYear : List Cond := .code yX1_requireYear cX1_requireYear 1 none :: ([.methodLink RX1 71 yX1_requireRange, .static yX1_requireRange, .initialized RX1, .code yX1_requireRange cX1_requireRange 3 none, .classLink RX1 128 "java/lang/IllegalArgumentException", .initialized "java/lang/IllegalArgumentException"] ++ (vx_atS RX1 132 "java/lang/IllegalArgumentException" ["java/lang/RuntimeException", "java/lang/Exception"]).filter goodWord)
def wsX1_leastQuantity : List Cond := .code yX1_leastQuantity cX1_leastQuantity 4 (some .int) :: ([.fieldLink RX1 10 "MakeupGas" "yearlyQuantity" "I", .fieldLink RX1 14 "MakeupGas" "leastPercent" "I", .fieldLink RX1 30 "MakeupGas" "excusedDays" "[I", .constantLong RX1 146 (36000)] ++ wsX10)
def wsX1_drawSurplus : List Cond := .code yX1_drawSurplus cX1_drawSurplus 5 (some .int) :: ([.fieldLink RX1 48 "MakeupGas" "surplusStock" "LMakeupGas$Stock;", .methodLink RX1 170 yX0_drawFrom, .instanceMethod yX0_drawFrom, .selects RX0 yX0_drawFrom yX0_drawFrom, .initialized RX0, .code yX0_drawFrom cX0_drawFrom 4 (some .int), .fieldLink RX0 9 "MakeupGas$Stock" "left" "[I", .methodLink RX0 28 Lib.Math.min.name, .static Lib.Math.min.name, .initialized "java/lang/Math", .code Lib.Math.min.name Lib.Math.min.code 2 (some .int)] ++ wsX10 ++ wsX00)
def wsX1_shortfallPrice : List Cond := .code yX1_shortfallPrice cX1_shortfallPrice 2 (some .int) :: ([.fieldLink RX1 20 "MakeupGas" "pricePerYear" "[I", .fieldLink RX1 17 "MakeupGas" "shortfallPercent" "I"] ++ wsX10)
def wsX1_settleGap_r1 : List Cond := [Cond.fieldLink RX1 36 "MakeupGas" "takenPerYear" "[I", Cond.fieldLink RX1 44 "MakeupGas" "makeUpStock" "LMakeupGas$Stock;", Cond.fieldLink RX1 57 "MakeupGas" "coveredPerYear" "[I", Cond.fieldLink RX1 51 "MakeupGas" "shortfallPerYear" "[I", Cond.fieldLink RX1 54 "MakeupGas" "madeUpPerYear" "[I", Cond.fieldLink RX1 60 "MakeupGas" "surplusPerYear" "[I", Cond.fieldLink RX1 63 "MakeupGas" "duePerYear" "[J", Cond.fieldLink RX1 20 "MakeupGas" "pricePerYear" "[I", Cond.methodLink RX1 114 yX1_leastQuantity, Cond.instanceMethod yX1_leastQuantity, Cond.selects RX1 yX1_leastQuantity yX1_leastQuantity, Cond.initialized RX1, Cond.code yX1_leastQuantity cX1_leastQuantity 4 (some .int), Cond.fieldLink RX1 10 "MakeupGas" "yearlyQuantity" "I", Cond.fieldLink RX1 14 "MakeupGas" "leastPercent" "I", Cond.fieldLink RX1 30 "MakeupGas" "excusedDays" "[I", Cond.constantLong RX1 146 (36000), Cond.methodLink RX1 160 yX1_drawSurplus, Cond.instanceMethod yX1_drawSurplus, Cond.selects RX1 yX1_drawSurplus yX1_drawSurplus, Cond.code yX1_drawSurplus cX1_drawSurplus 5 (some .int), Cond.fieldLink RX1 48 "MakeupGas" "surplusStock" "LMakeupGas$Stock;", Cond.methodLink RX1 170 yX0_drawFrom, Cond.instanceMethod yX0_drawFrom]
def wsX1_settleGap_r2 : List Cond := [Cond.selects RX0 yX0_drawFrom yX0_drawFrom, Cond.initialized RX0, Cond.code yX0_drawFrom cX0_drawFrom 4 (some .int), Cond.fieldLink RX0 9 "MakeupGas$Stock" "left" "[I", Cond.methodLink RX0 28 Lib.Math.min.name, Cond.static Lib.Math.min.name, Cond.initialized "java/lang/Math", Cond.code Lib.Math.min.name Lib.Math.min.code 2 (some .int), Cond.methodLink RX1 164 yX0_put, Cond.instanceMethod yX0_put, Cond.selects RX0 yX0_put yX0_put, Cond.code yX0_put cX0_put 3 none, Cond.methodLink RX1 167 yX1_shortfallPrice, Cond.instanceMethod yX1_shortfallPrice, Cond.selects RX1 yX1_shortfallPrice yX1_shortfallPrice, Cond.code yX1_shortfallPrice cX1_shortfallPrice 2 (some .int), Cond.fieldLink RX1 17 "MakeupGas" "shortfallPercent" "I"]
def wsX1_settleGap : List Cond := .code yX1_settleGap cX1_settleGap 5 none :: ((wsX1_settleGap_r1 ++ wsX1_settleGap_r2) ++ wsX10 ++ wsX00)
def wsX1_settleEnough_r1 : List Cond := [Cond.fieldLink RX1 36 "MakeupGas" "takenPerYear" "[I", Cond.fieldLink RX1 44 "MakeupGas" "makeUpStock" "LMakeupGas$Stock;", Cond.fieldLink RX1 20 "MakeupGas" "pricePerYear" "[I", Cond.methodLink RX1 173 Lib.Math.max.name, Cond.static Lib.Math.max.name, Cond.initialized "java/lang/Math", Cond.code Lib.Math.max.name Lib.Math.max.code 2 (some .int), Cond.fieldLink RX1 10 "MakeupGas" "yearlyQuantity" "I", Cond.fieldLink RX1 48 "MakeupGas" "surplusStock" "LMakeupGas$Stock;", Cond.fieldLink RX1 57 "MakeupGas" "coveredPerYear" "[I", Cond.fieldLink RX1 51 "MakeupGas" "shortfallPerYear" "[I", Cond.fieldLink RX1 54 "MakeupGas" "madeUpPerYear" "[I", Cond.fieldLink RX1 60 "MakeupGas" "surplusPerYear" "[I", Cond.fieldLink RX1 63 "MakeupGas" "duePerYear" "[J", Cond.methodLink RX1 114 yX1_leastQuantity, Cond.instanceMethod yX1_leastQuantity, Cond.selects RX1 yX1_leastQuantity yX1_leastQuantity, Cond.initialized RX1, Cond.code yX1_leastQuantity cX1_leastQuantity 4 (some .int), Cond.fieldLink RX1 14 "MakeupGas" "leastPercent" "I", Cond.fieldLink RX1 30 "MakeupGas" "excusedDays" "[I", Cond.constantLong RX1 146 (36000), Cond.methodLink RX1 170 yX0_drawFrom, Cond.instanceMethod yX0_drawFrom]
def wsX1_settleEnough_r2 : List Cond := [Cond.selects RX0 yX0_drawFrom yX0_drawFrom, Cond.initialized RX0, Cond.code yX0_drawFrom cX0_drawFrom 4 (some .int), Cond.fieldLink RX0 9 "MakeupGas$Stock" "left" "[I", Cond.methodLink RX0 28 Lib.Math.min.name, Cond.static Lib.Math.min.name, Cond.code Lib.Math.min.name Lib.Math.min.code 2 (some .int), Cond.methodLink RX1 167 yX1_shortfallPrice, Cond.instanceMethod yX1_shortfallPrice, Cond.selects RX1 yX1_shortfallPrice yX1_shortfallPrice, Cond.code yX1_shortfallPrice cX1_shortfallPrice 2 (some .int), Cond.fieldLink RX1 17 "MakeupGas" "shortfallPercent" "I", Cond.methodLink RX1 164 yX0_put, Cond.instanceMethod yX0_put, Cond.selects RX0 yX0_put yX0_put, Cond.code yX0_put cX0_put 3 none]
def wsX1_settleEnough : List Cond := .code yX1_settleEnough cX1_settleEnough 8 none :: ((wsX1_settleEnough_r1 ++ wsX1_settleEnough_r2) ++ wsX10 ++ wsX00)
def wsX1_settleClosedYears_r1 : List Cond := [Cond.fieldLink RX1 44 "MakeupGas" "makeUpStock" "LMakeupGas$Stock;", Cond.fieldLink RX1 48 "MakeupGas" "surplusStock" "LMakeupGas$Stock;", Cond.fieldLink RX1 103 "MakeupGas" "closedYears" "I", Cond.fieldLink RX1 36 "MakeupGas" "takenPerYear" "[I", Cond.methodLink RX1 148 yX0_empty, Cond.instanceMethod yX0_empty, Cond.selects RX0 yX0_empty yX0_empty, Cond.initialized RX0, Cond.code yX0_empty cX0_empty 1 none, Cond.fieldLink RX0 9 "MakeupGas$Stock" "left" "[I", Cond.fieldLink RX0 25 "MakeupGas$Stock" "lapsedSum" "I", Cond.methodLink RX0 19 yJ7_fill_53178, Cond.static yJ7_fill_53178, Cond.initialized RJ7, Cond.code yJ7_fill_53178 cJ7_fill_53178 4 none, Cond.methodLink RX1 151 yX0_lapseBefore, Cond.instanceMethod yX0_lapseBefore, Cond.selects RX0 yX0_lapseBefore yX0_lapseBefore, Cond.code yX0_lapseBefore cX0_lapseBefore 3 none, Cond.fieldLink RX0 15 "MakeupGas$Stock" "yearsKept" "I", Cond.methodLink RX1 114 yX1_leastQuantity, Cond.instanceMethod yX1_leastQuantity, Cond.selects RX1 yX1_leastQuantity yX1_leastQuantity, Cond.initialized RX1]
def wsX1_settleClosedYears_r2 : List Cond := [Cond.code yX1_leastQuantity cX1_leastQuantity 4 (some .int), Cond.fieldLink RX1 10 "MakeupGas" "yearlyQuantity" "I", Cond.fieldLink RX1 14 "MakeupGas" "leastPercent" "I", Cond.fieldLink RX1 30 "MakeupGas" "excusedDays" "[I", Cond.constantLong RX1 146 (36000), Cond.methodLink RX1 154 yX1_settleGap, Cond.instanceMethod yX1_settleGap, Cond.selects RX1 yX1_settleGap yX1_settleGap, Cond.code yX1_settleGap cX1_settleGap 5 none, Cond.fieldLink RX1 57 "MakeupGas" "coveredPerYear" "[I", Cond.fieldLink RX1 51 "MakeupGas" "shortfallPerYear" "[I", Cond.fieldLink RX1 54 "MakeupGas" "madeUpPerYear" "[I", Cond.fieldLink RX1 60 "MakeupGas" "surplusPerYear" "[I", Cond.fieldLink RX1 63 "MakeupGas" "duePerYear" "[J", Cond.fieldLink RX1 20 "MakeupGas" "pricePerYear" "[I", Cond.methodLink RX1 160 yX1_drawSurplus, Cond.instanceMethod yX1_drawSurplus, Cond.selects RX1 yX1_drawSurplus yX1_drawSurplus, Cond.code yX1_drawSurplus cX1_drawSurplus 5 (some .int), Cond.methodLink RX1 170 yX0_drawFrom, Cond.instanceMethod yX0_drawFrom, Cond.selects RX0 yX0_drawFrom yX0_drawFrom, Cond.code yX0_drawFrom cX0_drawFrom 4 (some .int), Cond.methodLink RX0 28 Lib.Math.min.name]
def wsX1_settleClosedYears_r3 : List Cond := [Cond.static Lib.Math.min.name, Cond.initialized "java/lang/Math", Cond.code Lib.Math.min.name Lib.Math.min.code 2 (some .int), Cond.methodLink RX1 164 yX0_put, Cond.instanceMethod yX0_put, Cond.selects RX0 yX0_put yX0_put, Cond.code yX0_put cX0_put 3 none, Cond.methodLink RX1 167 yX1_shortfallPrice, Cond.instanceMethod yX1_shortfallPrice, Cond.selects RX1 yX1_shortfallPrice yX1_shortfallPrice, Cond.code yX1_shortfallPrice cX1_shortfallPrice 2 (some .int), Cond.fieldLink RX1 17 "MakeupGas" "shortfallPercent" "I", Cond.methodLink RX1 157 yX1_settleEnough, Cond.instanceMethod yX1_settleEnough, Cond.selects RX1 yX1_settleEnough yX1_settleEnough, Cond.code yX1_settleEnough cX1_settleEnough 8 none, Cond.methodLink RX1 173 Lib.Math.max.name, Cond.static Lib.Math.max.name, Cond.code Lib.Math.max.name Lib.Math.max.code 2 (some .int)]
def wsX1_settleClosedYears : List Cond := .code yX1_settleClosedYears cX1_settleClosedYears 2 none :: ((wsX1_settleClosedYears_r1 ++ (wsX1_settleClosedYears_r2 ++ wsX1_settleClosedYears_r3)) ++ wsX10 ++ wsX00)
def wsX1_review_r1 : List Cond := [Cond.fieldLink RX1 20 "MakeupGas" "pricePerYear" "[I", Cond.methodLink RX1 81 yX1_requireYear, Cond.static yX1_requireYear, Cond.initialized RX1, Cond.code yX1_requireYear cX1_requireYear 1 none, Cond.methodLink RX1 71 yX1_requireRange, Cond.static yX1_requireRange, Cond.code yX1_requireRange cX1_requireRange 3 none, Cond.classLink RX1 128 "java/lang/IllegalArgumentException", Cond.initialized "java/lang/IllegalArgumentException", Cond.methodLink RX1 84 yX1_settleClosedYears, Cond.instanceMethod yX1_settleClosedYears, Cond.selects RX1 yX1_settleClosedYears yX1_settleClosedYears, Cond.code yX1_settleClosedYears cX1_settleClosedYears 2 none, Cond.fieldLink RX1 44 "MakeupGas" "makeUpStock" "LMakeupGas$Stock;", Cond.fieldLink RX1 48 "MakeupGas" "surplusStock" "LMakeupGas$Stock;", Cond.fieldLink RX1 103 "MakeupGas" "closedYears" "I", Cond.fieldLink RX1 36 "MakeupGas" "takenPerYear" "[I", Cond.methodLink RX1 148 yX0_empty, Cond.instanceMethod yX0_empty, Cond.selects RX0 yX0_empty yX0_empty, Cond.initialized RX0, Cond.code yX0_empty cX0_empty 1 none, Cond.fieldLink RX0 9 "MakeupGas$Stock" "left" "[I"]
def wsX1_review_r2 : List Cond := [Cond.fieldLink RX0 25 "MakeupGas$Stock" "lapsedSum" "I", Cond.methodLink RX0 19 yJ7_fill_53178, Cond.static yJ7_fill_53178, Cond.initialized RJ7, Cond.code yJ7_fill_53178 cJ7_fill_53178 4 none, Cond.methodLink RX1 151 yX0_lapseBefore, Cond.instanceMethod yX0_lapseBefore, Cond.selects RX0 yX0_lapseBefore yX0_lapseBefore, Cond.code yX0_lapseBefore cX0_lapseBefore 3 none, Cond.fieldLink RX0 15 "MakeupGas$Stock" "yearsKept" "I", Cond.methodLink RX1 114 yX1_leastQuantity, Cond.instanceMethod yX1_leastQuantity, Cond.selects RX1 yX1_leastQuantity yX1_leastQuantity, Cond.code yX1_leastQuantity cX1_leastQuantity 4 (some .int), Cond.fieldLink RX1 10 "MakeupGas" "yearlyQuantity" "I", Cond.fieldLink RX1 14 "MakeupGas" "leastPercent" "I", Cond.fieldLink RX1 30 "MakeupGas" "excusedDays" "[I", Cond.constantLong RX1 146 (36000), Cond.methodLink RX1 154 yX1_settleGap, Cond.instanceMethod yX1_settleGap, Cond.selects RX1 yX1_settleGap yX1_settleGap, Cond.code yX1_settleGap cX1_settleGap 5 none, Cond.fieldLink RX1 57 "MakeupGas" "coveredPerYear" "[I", Cond.fieldLink RX1 51 "MakeupGas" "shortfallPerYear" "[I"]
def wsX1_review_r3 : List Cond := [Cond.fieldLink RX1 54 "MakeupGas" "madeUpPerYear" "[I", Cond.fieldLink RX1 60 "MakeupGas" "surplusPerYear" "[I", Cond.fieldLink RX1 63 "MakeupGas" "duePerYear" "[J", Cond.methodLink RX1 160 yX1_drawSurplus, Cond.instanceMethod yX1_drawSurplus, Cond.selects RX1 yX1_drawSurplus yX1_drawSurplus, Cond.code yX1_drawSurplus cX1_drawSurplus 5 (some .int), Cond.methodLink RX1 170 yX0_drawFrom, Cond.instanceMethod yX0_drawFrom, Cond.selects RX0 yX0_drawFrom yX0_drawFrom, Cond.code yX0_drawFrom cX0_drawFrom 4 (some .int), Cond.methodLink RX0 28 Lib.Math.min.name, Cond.static Lib.Math.min.name, Cond.initialized "java/lang/Math", Cond.code Lib.Math.min.name Lib.Math.min.code 2 (some .int), Cond.methodLink RX1 164 yX0_put, Cond.instanceMethod yX0_put, Cond.selects RX0 yX0_put yX0_put, Cond.code yX0_put cX0_put 3 none, Cond.methodLink RX1 167 yX1_shortfallPrice, Cond.instanceMethod yX1_shortfallPrice, Cond.selects RX1 yX1_shortfallPrice yX1_shortfallPrice, Cond.code yX1_shortfallPrice cX1_shortfallPrice 2 (some .int), Cond.fieldLink RX1 17 "MakeupGas" "shortfallPercent" "I"]
def wsX1_review_r4 : List Cond := [Cond.methodLink RX1 157 yX1_settleEnough, Cond.instanceMethod yX1_settleEnough, Cond.selects RX1 yX1_settleEnough yX1_settleEnough, Cond.code yX1_settleEnough cX1_settleEnough 8 none, Cond.methodLink RX1 173 Lib.Math.max.name, Cond.static Lib.Math.max.name, Cond.code Lib.Math.max.name Lib.Math.max.code 2 (some .int)]
def wsX1_review : List Cond := .code yX1_review cX1_review 5 (some .int) :: ((wsX1_review_r1 ++ (wsX1_review_r2 ++ (wsX1_review_r3 ++ wsX1_review_r4))) ++ wsX10 ++ wsX00 ++ (vx_atS RX1 132 "java/lang/IllegalArgumentException" ["java/lang/RuntimeException", "java/lang/Exception"]).filter goodWord)
def wsX1_excuse_r1 : List Cond := [Cond.fieldLink RX1 30 "MakeupGas" "excusedDays" "[I", Cond.methodLink RX1 81 yX1_requireYear, Cond.static yX1_requireYear, Cond.initialized RX1, Cond.code yX1_requireYear cX1_requireYear 1 none, Cond.methodLink RX1 71 yX1_requireRange, Cond.static yX1_requireRange, Cond.code yX1_requireRange cX1_requireRange 3 none, Cond.classLink RX1 128 "java/lang/IllegalArgumentException", Cond.initialized "java/lang/IllegalArgumentException", Cond.methodLink RX1 84 yX1_settleClosedYears, Cond.instanceMethod yX1_settleClosedYears, Cond.selects RX1 yX1_settleClosedYears yX1_settleClosedYears, Cond.code yX1_settleClosedYears cX1_settleClosedYears 2 none, Cond.fieldLink RX1 44 "MakeupGas" "makeUpStock" "LMakeupGas$Stock;", Cond.fieldLink RX1 48 "MakeupGas" "surplusStock" "LMakeupGas$Stock;", Cond.fieldLink RX1 103 "MakeupGas" "closedYears" "I", Cond.fieldLink RX1 36 "MakeupGas" "takenPerYear" "[I", Cond.methodLink RX1 148 yX0_empty, Cond.instanceMethod yX0_empty, Cond.selects RX0 yX0_empty yX0_empty, Cond.initialized RX0, Cond.code yX0_empty cX0_empty 1 none, Cond.fieldLink RX0 9 "MakeupGas$Stock" "left" "[I"]
def wsX1_excuse_r2 : List Cond := [Cond.fieldLink RX0 25 "MakeupGas$Stock" "lapsedSum" "I", Cond.methodLink RX0 19 yJ7_fill_53178, Cond.static yJ7_fill_53178, Cond.initialized RJ7, Cond.code yJ7_fill_53178 cJ7_fill_53178 4 none, Cond.methodLink RX1 151 yX0_lapseBefore, Cond.instanceMethod yX0_lapseBefore, Cond.selects RX0 yX0_lapseBefore yX0_lapseBefore, Cond.code yX0_lapseBefore cX0_lapseBefore 3 none, Cond.fieldLink RX0 15 "MakeupGas$Stock" "yearsKept" "I", Cond.methodLink RX1 114 yX1_leastQuantity, Cond.instanceMethod yX1_leastQuantity, Cond.selects RX1 yX1_leastQuantity yX1_leastQuantity, Cond.code yX1_leastQuantity cX1_leastQuantity 4 (some .int), Cond.fieldLink RX1 10 "MakeupGas" "yearlyQuantity" "I", Cond.fieldLink RX1 14 "MakeupGas" "leastPercent" "I", Cond.constantLong RX1 146 (36000), Cond.methodLink RX1 154 yX1_settleGap, Cond.instanceMethod yX1_settleGap, Cond.selects RX1 yX1_settleGap yX1_settleGap, Cond.code yX1_settleGap cX1_settleGap 5 none, Cond.fieldLink RX1 57 "MakeupGas" "coveredPerYear" "[I", Cond.fieldLink RX1 51 "MakeupGas" "shortfallPerYear" "[I", Cond.fieldLink RX1 54 "MakeupGas" "madeUpPerYear" "[I"]
def wsX1_excuse_r3 : List Cond := [Cond.fieldLink RX1 60 "MakeupGas" "surplusPerYear" "[I", Cond.fieldLink RX1 63 "MakeupGas" "duePerYear" "[J", Cond.fieldLink RX1 20 "MakeupGas" "pricePerYear" "[I", Cond.methodLink RX1 160 yX1_drawSurplus, Cond.instanceMethod yX1_drawSurplus, Cond.selects RX1 yX1_drawSurplus yX1_drawSurplus, Cond.code yX1_drawSurplus cX1_drawSurplus 5 (some .int), Cond.methodLink RX1 170 yX0_drawFrom, Cond.instanceMethod yX0_drawFrom, Cond.selects RX0 yX0_drawFrom yX0_drawFrom, Cond.code yX0_drawFrom cX0_drawFrom 4 (some .int), Cond.methodLink RX0 28 Lib.Math.min.name, Cond.static Lib.Math.min.name, Cond.initialized "java/lang/Math", Cond.code Lib.Math.min.name Lib.Math.min.code 2 (some .int), Cond.methodLink RX1 164 yX0_put, Cond.instanceMethod yX0_put, Cond.selects RX0 yX0_put yX0_put, Cond.code yX0_put cX0_put 3 none, Cond.methodLink RX1 167 yX1_shortfallPrice, Cond.instanceMethod yX1_shortfallPrice, Cond.selects RX1 yX1_shortfallPrice yX1_shortfallPrice, Cond.code yX1_shortfallPrice cX1_shortfallPrice 2 (some .int), Cond.fieldLink RX1 17 "MakeupGas" "shortfallPercent" "I"]
def wsX1_excuse_r4 : List Cond := [Cond.methodLink RX1 157 yX1_settleEnough, Cond.instanceMethod yX1_settleEnough, Cond.selects RX1 yX1_settleEnough yX1_settleEnough, Cond.code yX1_settleEnough cX1_settleEnough 8 none, Cond.methodLink RX1 173 Lib.Math.max.name, Cond.static Lib.Math.max.name, Cond.code Lib.Math.max.name Lib.Math.max.code 2 (some .int)]
def wsX1_excuse : List Cond := .code yX1_excuse cX1_excuse 4 (some .int) :: ((wsX1_excuse_r1 ++ (wsX1_excuse_r2 ++ (wsX1_excuse_r3 ++ wsX1_excuse_r4))) ++ wsX10 ++ wsX00 ++ (vx_atS RX1 132 "java/lang/IllegalArgumentException" ["java/lang/RuntimeException", "java/lang/Exception"]).filter goodWord)
def wsX1_requireDay : List Cond := .code yX1_requireDay cX1_requireDay 1 none :: ([.methodLink RX1 71 yX1_requireRange, .static yX1_requireRange, .initialized RX1, .code yX1_requireRange cX1_requireRange 3 none, .classLink RX1 128 "java/lang/IllegalArgumentException", .initialized "java/lang/IllegalArgumentException"] ++ (vx_atS RX1 132 "java/lang/IllegalArgumentException" ["java/lang/RuntimeException", "java/lang/Exception"]).filter goodWord)
def wsX1_requireYearGoingOn : List Cond := .code yX1_requireYearGoingOn cX1_requireYearGoingOn 1 none :: ([.classLink RX1 135 "java/lang/IllegalStateException", .initialized "java/lang/IllegalStateException", .fieldLink RX1 103 "MakeupGas" "closedYears" "I"] ++ wsX10 ++ (vx_atS RX1 139 "java/lang/IllegalStateException" ["java/lang/RuntimeException", "java/lang/Exception"]).filter goodWord)
def wsX1_requireRoom : List Cond := .code yX1_requireRoom cX1_requireRoom 5 none :: ([.classLink RX1 135 "java/lang/IllegalStateException", .initialized "java/lang/IllegalStateException", .fieldLink RX1 33 "MakeupGas" "takenPerDay" "[I"] ++ wsX10 ++ (vx_atS RX1 139 "java/lang/IllegalStateException" ["java/lang/RuntimeException", "java/lang/Exception"]).filter goodWord)
def wsX1_addTakes : List Cond := .code yX1_addTakes cX1_addTakes 5 none :: ([.fieldLink RX1 33 "MakeupGas" "takenPerDay" "[I", .fieldLink RX1 36 "MakeupGas" "takenPerYear" "[I", .fieldLink RX1 103 "MakeupGas" "closedYears" "I"] ++ wsX10)
def wsX1_take_r1 : List Cond := [Cond.fieldLink RX1 33 "MakeupGas" "takenPerDay" "[I", Cond.methodLink RX1 87 yX1_requireDay, Cond.static yX1_requireDay, Cond.initialized RX1, Cond.code yX1_requireDay cX1_requireDay 1 none, Cond.methodLink RX1 71 yX1_requireRange, Cond.static yX1_requireRange, Cond.code yX1_requireRange cX1_requireRange 3 none, Cond.classLink RX1 128 "java/lang/IllegalArgumentException", Cond.initialized "java/lang/IllegalArgumentException", Cond.methodLink RX1 90 yX1_requireYearGoingOn, Cond.instanceMethod yX1_requireYearGoingOn, Cond.selects RX1 yX1_requireYearGoingOn yX1_requireYearGoingOn, Cond.code yX1_requireYearGoingOn cX1_requireYearGoingOn 1 none, Cond.classLink RX1 135 "java/lang/IllegalStateException", Cond.initialized "java/lang/IllegalStateException", Cond.fieldLink RX1 103 "MakeupGas" "closedYears" "I", Cond.methodLink RX1 93 yX1_requireRoom, Cond.instanceMethod yX1_requireRoom, Cond.selects RX1 yX1_requireRoom yX1_requireRoom, Cond.code yX1_requireRoom cX1_requireRoom 5 none, Cond.methodLink RX1 96 yX1_addTakes, Cond.instanceMethod yX1_addTakes, Cond.selects RX1 yX1_addTakes yX1_addTakes]
def wsX1_take_r2 : List Cond := [Cond.code yX1_addTakes cX1_addTakes 5 none, Cond.fieldLink RX1 36 "MakeupGas" "takenPerYear" "[I"]
def wsX1_take : List Cond := .code yX1_take cX1_take 3 (some .int) :: ((wsX1_take_r1 ++ wsX1_take_r2) ++ wsX10 ++ (vx_atS RX1 132 "java/lang/IllegalArgumentException" ["java/lang/RuntimeException", "java/lang/Exception"]).filter goodWord ++ (vx_atS RX1 139 "java/lang/IllegalStateException" ["java/lang/RuntimeException", "java/lang/Exception"]).filter goodWord)
def wsX1_requireDays : List Cond := .code yX1_requireDays cX1_requireDays 2 none :: ([.methodLink RX1 87 yX1_requireDay, .static yX1_requireDay, .initialized RX1, .code yX1_requireDay cX1_requireDay 1 none, .methodLink RX1 71 yX1_requireRange, .static yX1_requireRange, .code yX1_requireRange cX1_requireRange 3 none, .classLink RX1 128 "java/lang/IllegalArgumentException", .initialized "java/lang/IllegalArgumentException"] ++ (vx_atS RX1 132 "java/lang/IllegalArgumentException" ["java/lang/RuntimeException", "java/lang/Exception"]).filter goodWord)
def wsX1_takeDaily_r1 : List Cond := [Cond.fieldLink RX1 36 "MakeupGas" "takenPerYear" "[I", Cond.fieldLink RX1 103 "MakeupGas" "closedYears" "I", Cond.methodLink RX1 99 yX1_requireDays, Cond.static yX1_requireDays, Cond.initialized RX1, Cond.code yX1_requireDays cX1_requireDays 2 none, Cond.methodLink RX1 87 yX1_requireDay, Cond.static yX1_requireDay, Cond.code yX1_requireDay cX1_requireDay 1 none, Cond.methodLink RX1 71 yX1_requireRange, Cond.static yX1_requireRange, Cond.code yX1_requireRange cX1_requireRange 3 none, Cond.classLink RX1 128 "java/lang/IllegalArgumentException", Cond.initialized "java/lang/IllegalArgumentException", Cond.methodLink RX1 90 yX1_requireYearGoingOn, Cond.instanceMethod yX1_requireYearGoingOn, Cond.selects RX1 yX1_requireYearGoingOn yX1_requireYearGoingOn, Cond.code yX1_requireYearGoingOn cX1_requireYearGoingOn 1 none, Cond.classLink RX1 135 "java/lang/IllegalStateException", Cond.initialized "java/lang/IllegalStateException", Cond.methodLink RX1 93 yX1_requireRoom, Cond.instanceMethod yX1_requireRoom, Cond.selects RX1 yX1_requireRoom yX1_requireRoom, Cond.code yX1_requireRoom cX1_requireRoom 5 none]
def wsX1_takeDaily_r2 : List Cond := [Cond.fieldLink RX1 33 "MakeupGas" "takenPerDay" "[I", Cond.methodLink RX1 96 yX1_addTakes, Cond.instanceMethod yX1_addTakes, Cond.selects RX1 yX1_addTakes yX1_addTakes, Cond.code yX1_addTakes cX1_addTakes 5 none]
def wsX1_takeDaily : List Cond := .code yX1_takeDaily cX1_takeDaily 4 (some .int) :: ((wsX1_takeDaily_r1 ++ wsX1_takeDaily_r2) ++ wsX10 ++ (vx_atS RX1 132 "java/lang/IllegalArgumentException" ["java/lang/RuntimeException", "java/lang/Exception"]).filter goodWord ++ (vx_atS RX1 139 "java/lang/IllegalStateException" ["java/lang/RuntimeException", "java/lang/Exception"]).filter goodWord)
def wsX1_dueInAll : List Cond := .code yX1_dueInAll cX1_dueInAll 4 (some .long) :: ([.fieldLink RX1 103 "MakeupGas" "closedYears" "I", .fieldLink RX1 63 "MakeupGas" "duePerYear" "[J"] ++ wsX10)
def wsX1_close_r1 : List Cond := [Cond.fieldLink RX1 103 "MakeupGas" "closedYears" "I", Cond.fieldLink RX1 33 "MakeupGas" "takenPerDay" "[I", Cond.fieldLink RX1 110 "MakeupGas" "billedInAll" "J", Cond.fieldLink RX1 67 "MakeupGas" "billPerYear" "[J", Cond.methodLink RX1 90 yX1_requireYearGoingOn, Cond.instanceMethod yX1_requireYearGoingOn, Cond.selects RX1 yX1_requireYearGoingOn yX1_requireYearGoingOn, Cond.initialized RX1, Cond.code yX1_requireYearGoingOn cX1_requireYearGoingOn 1 none, Cond.classLink RX1 135 "java/lang/IllegalStateException", Cond.initialized "java/lang/IllegalStateException", Cond.methodLink RX1 24 yJ7_fill_53178, Cond.static yJ7_fill_53178, Cond.initialized RJ7, Cond.code yJ7_fill_53178 cJ7_fill_53178 4 none, Cond.methodLink RX1 84 yX1_settleClosedYears, Cond.instanceMethod yX1_settleClosedYears, Cond.selects RX1 yX1_settleClosedYears yX1_settleClosedYears, Cond.code yX1_settleClosedYears cX1_settleClosedYears 2 none, Cond.fieldLink RX1 44 "MakeupGas" "makeUpStock" "LMakeupGas$Stock;", Cond.fieldLink RX1 48 "MakeupGas" "surplusStock" "LMakeupGas$Stock;", Cond.fieldLink RX1 36 "MakeupGas" "takenPerYear" "[I", Cond.methodLink RX1 148 yX0_empty, Cond.instanceMethod yX0_empty]
def wsX1_close_r2 : List Cond := [Cond.selects RX0 yX0_empty yX0_empty, Cond.initialized RX0, Cond.code yX0_empty cX0_empty 1 none, Cond.fieldLink RX0 9 "MakeupGas$Stock" "left" "[I", Cond.fieldLink RX0 25 "MakeupGas$Stock" "lapsedSum" "I", Cond.methodLink RX0 19 yJ7_fill_53178, Cond.methodLink RX1 151 yX0_lapseBefore, Cond.instanceMethod yX0_lapseBefore, Cond.selects RX0 yX0_lapseBefore yX0_lapseBefore, Cond.code yX0_lapseBefore cX0_lapseBefore 3 none, Cond.fieldLink RX0 15 "MakeupGas$Stock" "yearsKept" "I", Cond.methodLink RX1 114 yX1_leastQuantity, Cond.instanceMethod yX1_leastQuantity, Cond.selects RX1 yX1_leastQuantity yX1_leastQuantity, Cond.code yX1_leastQuantity cX1_leastQuantity 4 (some .int), Cond.fieldLink RX1 10 "MakeupGas" "yearlyQuantity" "I", Cond.fieldLink RX1 14 "MakeupGas" "leastPercent" "I", Cond.fieldLink RX1 30 "MakeupGas" "excusedDays" "[I", Cond.constantLong RX1 146 (36000), Cond.methodLink RX1 154 yX1_settleGap, Cond.instanceMethod yX1_settleGap, Cond.selects RX1 yX1_settleGap yX1_settleGap, Cond.code yX1_settleGap cX1_settleGap 5 none, Cond.fieldLink RX1 57 "MakeupGas" "coveredPerYear" "[I"]
def wsX1_close_r3 : List Cond := [Cond.fieldLink RX1 51 "MakeupGas" "shortfallPerYear" "[I", Cond.fieldLink RX1 54 "MakeupGas" "madeUpPerYear" "[I", Cond.fieldLink RX1 60 "MakeupGas" "surplusPerYear" "[I", Cond.fieldLink RX1 63 "MakeupGas" "duePerYear" "[J", Cond.fieldLink RX1 20 "MakeupGas" "pricePerYear" "[I", Cond.methodLink RX1 160 yX1_drawSurplus, Cond.instanceMethod yX1_drawSurplus, Cond.selects RX1 yX1_drawSurplus yX1_drawSurplus, Cond.code yX1_drawSurplus cX1_drawSurplus 5 (some .int), Cond.methodLink RX1 170 yX0_drawFrom, Cond.instanceMethod yX0_drawFrom, Cond.selects RX0 yX0_drawFrom yX0_drawFrom, Cond.code yX0_drawFrom cX0_drawFrom 4 (some .int), Cond.methodLink RX0 28 Lib.Math.min.name, Cond.static Lib.Math.min.name, Cond.initialized "java/lang/Math", Cond.code Lib.Math.min.name Lib.Math.min.code 2 (some .int), Cond.methodLink RX1 164 yX0_put, Cond.instanceMethod yX0_put, Cond.selects RX0 yX0_put yX0_put, Cond.code yX0_put cX0_put 3 none, Cond.methodLink RX1 167 yX1_shortfallPrice, Cond.instanceMethod yX1_shortfallPrice, Cond.selects RX1 yX1_shortfallPrice yX1_shortfallPrice]
def wsX1_close_r4 : List Cond := [Cond.code yX1_shortfallPrice cX1_shortfallPrice 2 (some .int), Cond.fieldLink RX1 17 "MakeupGas" "shortfallPercent" "I", Cond.methodLink RX1 157 yX1_settleEnough, Cond.instanceMethod yX1_settleEnough, Cond.selects RX1 yX1_settleEnough yX1_settleEnough, Cond.code yX1_settleEnough cX1_settleEnough 8 none, Cond.methodLink RX1 173 Lib.Math.max.name, Cond.static Lib.Math.max.name, Cond.code Lib.Math.max.name Lib.Math.max.code 2 (some .int), Cond.methodLink RX1 106 yX1_dueInAll, Cond.instanceMethod yX1_dueInAll, Cond.selects RX1 yX1_dueInAll yX1_dueInAll, Cond.code yX1_dueInAll cX1_dueInAll 4 (some .long)]
def wsX1_close : List Cond := .code yX1_close cX1_close 4 (some .long) :: ((wsX1_close_r1 ++ (wsX1_close_r2 ++ (wsX1_close_r3 ++ wsX1_close_r4))) ++ wsX10 ++ wsX00 ++ (vx_atS RX1 139 "java/lang/IllegalStateException" ["java/lang/RuntimeException", "java/lang/Exception"]).filter goodWord)
def wsX1_closed : List Cond := .code yX1_closed cX1_closed 1 (some .int) :: ([.fieldLink RX1 103 "MakeupGas" "closedYears" "I"] ++ wsX10)
def wsX1_taken : List Cond := .code yX1_taken cX1_taken 2 (some .int) :: ([.fieldLink RX1 36 "MakeupGas" "takenPerYear" "[I", .methodLink RX1 81 yX1_requireYear, .static yX1_requireYear, .initialized RX1, .code yX1_requireYear cX1_requireYear 1 none, .methodLink RX1 71 yX1_requireRange, .static yX1_requireRange, .code yX1_requireRange cX1_requireRange 3 none, .classLink RX1 128 "java/lang/IllegalArgumentException", .initialized "java/lang/IllegalArgumentException"] ++ wsX10 ++ (vx_atS RX1 132 "java/lang/IllegalArgumentException" ["java/lang/RuntimeException", "java/lang/Exception"]).filter goodWord)
def wsX1_takenFrom : List Cond := .code yX1_takenFrom cX1_takenFrom 5 (some .int) :: ([.fieldLink RX1 33 "MakeupGas" "takenPerDay" "[I", .methodLink RX1 99 yX1_requireDays, .static yX1_requireDays, .initialized RX1, .code yX1_requireDays cX1_requireDays 2 none, .methodLink RX1 87 yX1_requireDay, .static yX1_requireDay, .code yX1_requireDay cX1_requireDay 1 none, .methodLink RX1 71 yX1_requireRange, .static yX1_requireRange, .code yX1_requireRange cX1_requireRange 3 none, .classLink RX1 128 "java/lang/IllegalArgumentException", .initialized "java/lang/IllegalArgumentException"] ++ wsX10 ++ (vx_atS RX1 132 "java/lang/IllegalArgumentException" ["java/lang/RuntimeException", "java/lang/Exception"]).filter goodWord)
def wsX1_price : List Cond := .code yX1_price cX1_price 2 (some .int) :: ([.fieldLink RX1 20 "MakeupGas" "pricePerYear" "[I", .methodLink RX1 81 yX1_requireYear, .static yX1_requireYear, .initialized RX1, .code yX1_requireYear cX1_requireYear 1 none, .methodLink RX1 71 yX1_requireRange, .static yX1_requireRange, .code yX1_requireRange cX1_requireRange 3 none, .classLink RX1 128 "java/lang/IllegalArgumentException", .initialized "java/lang/IllegalArgumentException"] ++ wsX10 ++ (vx_atS RX1 132 "java/lang/IllegalArgumentException" ["java/lang/RuntimeException", "java/lang/Exception"]).filter goodWord)
def wsX1_least : List Cond := .code yX1_least cX1_least 2 (some .int) :: ([.methodLink RX1 81 yX1_requireYear, .static yX1_requireYear, .initialized RX1, .code yX1_requireYear cX1_requireYear 1 none, .methodLink RX1 71 yX1_requireRange, .static yX1_requireRange, .code yX1_requireRange cX1_requireRange 3 none, .classLink RX1 128 "java/lang/IllegalArgumentException", .initialized "java/lang/IllegalArgumentException", .methodLink RX1 114 yX1_leastQuantity, .instanceMethod yX1_leastQuantity, .selects RX1 yX1_leastQuantity yX1_leastQuantity, .code yX1_leastQuantity cX1_leastQuantity 4 (some .int), .fieldLink RX1 10 "MakeupGas" "yearlyQuantity" "I", .fieldLink RX1 14 "MakeupGas" "leastPercent" "I", .fieldLink RX1 30 "MakeupGas" "excusedDays" "[I", .constantLong RX1 146 (36000)] ++ wsX10 ++ (vx_atS RX1 132 "java/lang/IllegalArgumentException" ["java/lang/RuntimeException", "java/lang/Exception"]).filter goodWord)
def wsX1_requireClosedYear : List Cond := .code yX1_requireClosedYear cX1_requireClosedYear 2 none :: ([.classLink RX1 135 "java/lang/IllegalStateException", .initialized "java/lang/IllegalStateException", .fieldLink RX1 103 "MakeupGas" "closedYears" "I", .methodLink RX1 81 yX1_requireYear, .static yX1_requireYear, .initialized RX1, .code yX1_requireYear cX1_requireYear 1 none, .methodLink RX1 71 yX1_requireRange, .static yX1_requireRange, .code yX1_requireRange cX1_requireRange 3 none, .classLink RX1 128 "java/lang/IllegalArgumentException", .initialized "java/lang/IllegalArgumentException"] ++ wsX10 ++ (vx_atS RX1 139 "java/lang/IllegalStateException" ["java/lang/RuntimeException", "java/lang/Exception"]).filter goodWord ++ (vx_atS RX1 132 "java/lang/IllegalArgumentException" ["java/lang/RuntimeException", "java/lang/Exception"]).filter goodWord)
def wsX1_shortfall : List Cond := .code yX1_shortfall cX1_shortfall 2 (some .int) :: ([.fieldLink RX1 51 "MakeupGas" "shortfallPerYear" "[I", .methodLink RX1 118 yX1_requireClosedYear, .instanceMethod yX1_requireClosedYear, .selects RX1 yX1_requireClosedYear yX1_requireClosedYear, .initialized RX1, .code yX1_requireClosedYear cX1_requireClosedYear 2 none, .classLink RX1 135 "java/lang/IllegalStateException", .initialized "java/lang/IllegalStateException", .fieldLink RX1 103 "MakeupGas" "closedYears" "I", .methodLink RX1 81 yX1_requireYear, .static yX1_requireYear, .code yX1_requireYear cX1_requireYear 1 none, .methodLink RX1 71 yX1_requireRange, .static yX1_requireRange, .code yX1_requireRange cX1_requireRange 3 none, .classLink RX1 128 "java/lang/IllegalArgumentException", .initialized "java/lang/IllegalArgumentException"] ++ wsX10 ++ (vx_atS RX1 139 "java/lang/IllegalStateException" ["java/lang/RuntimeException", "java/lang/Exception"]).filter goodWord ++ (vx_atS RX1 132 "java/lang/IllegalArgumentException" ["java/lang/RuntimeException", "java/lang/Exception"]).filter goodWord)
def wsX1_madeUp : List Cond := .code yX1_madeUp cX1_madeUp 2 (some .int) :: ([.fieldLink RX1 54 "MakeupGas" "madeUpPerYear" "[I", .methodLink RX1 118 yX1_requireClosedYear, .instanceMethod yX1_requireClosedYear, .selects RX1 yX1_requireClosedYear yX1_requireClosedYear, .initialized RX1, .code yX1_requireClosedYear cX1_requireClosedYear 2 none, .classLink RX1 135 "java/lang/IllegalStateException", .initialized "java/lang/IllegalStateException", .fieldLink RX1 103 "MakeupGas" "closedYears" "I", .methodLink RX1 81 yX1_requireYear, .static yX1_requireYear, .code yX1_requireYear cX1_requireYear 1 none, .methodLink RX1 71 yX1_requireRange, .static yX1_requireRange, .code yX1_requireRange cX1_requireRange 3 none, .classLink RX1 128 "java/lang/IllegalArgumentException", .initialized "java/lang/IllegalArgumentException"] ++ wsX10 ++ (vx_atS RX1 139 "java/lang/IllegalStateException" ["java/lang/RuntimeException", "java/lang/Exception"]).filter goodWord ++ (vx_atS RX1 132 "java/lang/IllegalArgumentException" ["java/lang/RuntimeException", "java/lang/Exception"]).filter goodWord)
def wsX1_covered : List Cond := .code yX1_covered cX1_covered 2 (some .int) :: ([.fieldLink RX1 57 "MakeupGas" "coveredPerYear" "[I", .methodLink RX1 118 yX1_requireClosedYear, .instanceMethod yX1_requireClosedYear, .selects RX1 yX1_requireClosedYear yX1_requireClosedYear, .initialized RX1, .code yX1_requireClosedYear cX1_requireClosedYear 2 none, .classLink RX1 135 "java/lang/IllegalStateException", .initialized "java/lang/IllegalStateException", .fieldLink RX1 103 "MakeupGas" "closedYears" "I", .methodLink RX1 81 yX1_requireYear, .static yX1_requireYear, .code yX1_requireYear cX1_requireYear 1 none, .methodLink RX1 71 yX1_requireRange, .static yX1_requireRange, .code yX1_requireRange cX1_requireRange 3 none, .classLink RX1 128 "java/lang/IllegalArgumentException", .initialized "java/lang/IllegalArgumentException"] ++ wsX10 ++ (vx_atS RX1 139 "java/lang/IllegalStateException" ["java/lang/RuntimeException", "java/lang/Exception"]).filter goodWord ++ (vx_atS RX1 132 "java/lang/IllegalArgumentException" ["java/lang/RuntimeException", "java/lang/Exception"]).filter goodWord)
def wsX1_surplus : List Cond := .code yX1_surplus cX1_surplus 2 (some .int) :: ([.fieldLink RX1 60 "MakeupGas" "surplusPerYear" "[I", .methodLink RX1 118 yX1_requireClosedYear, .instanceMethod yX1_requireClosedYear, .selects RX1 yX1_requireClosedYear yX1_requireClosedYear, .initialized RX1, .code yX1_requireClosedYear cX1_requireClosedYear 2 none, .classLink RX1 135 "java/lang/IllegalStateException", .initialized "java/lang/IllegalStateException", .fieldLink RX1 103 "MakeupGas" "closedYears" "I", .methodLink RX1 81 yX1_requireYear, .static yX1_requireYear, .code yX1_requireYear cX1_requireYear 1 none, .methodLink RX1 71 yX1_requireRange, .static yX1_requireRange, .code yX1_requireRange cX1_requireRange 3 none, .classLink RX1 128 "java/lang/IllegalArgumentException", .initialized "java/lang/IllegalArgumentException"] ++ wsX10 ++ (vx_atS RX1 139 "java/lang/IllegalStateException" ["java/lang/RuntimeException", "java/lang/Exception"]).filter goodWord ++ (vx_atS RX1 132 "java/lang/IllegalArgumentException" ["java/lang/RuntimeException", "java/lang/Exception"]).filter goodWord)
def wsX1_due : List Cond := .code yX1_due cX1_due 2 (some .long) :: ([.fieldLink RX1 63 "MakeupGas" "duePerYear" "[J", .methodLink RX1 118 yX1_requireClosedYear, .instanceMethod yX1_requireClosedYear, .selects RX1 yX1_requireClosedYear yX1_requireClosedYear, .initialized RX1, .code yX1_requireClosedYear cX1_requireClosedYear 2 none, .classLink RX1 135 "java/lang/IllegalStateException", .initialized "java/lang/IllegalStateException", .fieldLink RX1 103 "MakeupGas" "closedYears" "I", .methodLink RX1 81 yX1_requireYear, .static yX1_requireYear, .code yX1_requireYear cX1_requireYear 1 none, .methodLink RX1 71 yX1_requireRange, .static yX1_requireRange, .code yX1_requireRange cX1_requireRange 3 none, .classLink RX1 128 "java/lang/IllegalArgumentException", .initialized "java/lang/IllegalArgumentException"] ++ wsX10 ++ (vx_atS RX1 139 "java/lang/IllegalStateException" ["java/lang/RuntimeException", "java/lang/Exception"]).filter goodWord ++ (vx_atS RX1 132 "java/lang/IllegalArgumentException" ["java/lang/RuntimeException", "java/lang/Exception"]).filter goodWord)
def wsX1_bill : List Cond := .code yX1_bill cX1_bill 2 (some .long) :: ([.fieldLink RX1 67 "MakeupGas" "billPerYear" "[J", .methodLink RX1 118 yX1_requireClosedYear, .instanceMethod yX1_requireClosedYear, .selects RX1 yX1_requireClosedYear yX1_requireClosedYear, .initialized RX1, .code yX1_requireClosedYear cX1_requireClosedYear 2 none, .classLink RX1 135 "java/lang/IllegalStateException", .initialized "java/lang/IllegalStateException", .fieldLink RX1 103 "MakeupGas" "closedYears" "I", .methodLink RX1 81 yX1_requireYear, .static yX1_requireYear, .code yX1_requireYear cX1_requireYear 1 none, .methodLink RX1 71 yX1_requireRange, .static yX1_requireRange, .code yX1_requireRange cX1_requireRange 3 none, .classLink RX1 128 "java/lang/IllegalArgumentException", .initialized "java/lang/IllegalArgumentException"] ++ wsX10 ++ (vx_atS RX1 139 "java/lang/IllegalStateException" ["java/lang/RuntimeException", "java/lang/Exception"]).filter goodWord ++ (vx_atS RX1 132 "java/lang/IllegalArgumentException" ["java/lang/RuntimeException", "java/lang/Exception"]).filter goodWord)
def wsX1_makeUpLeft : List Cond := .code yX1_makeUpLeft cX1_makeUpLeft 2 (some .int) :: ([.fieldLink RX1 44 "MakeupGas" "makeUpStock" "LMakeupGas$Stock;", .methodLink RX1 118 yX1_requireClosedYear, .instanceMethod yX1_requireClosedYear, .selects RX1 yX1_requireClosedYear yX1_requireClosedYear, .initialized RX1, .code yX1_requireClosedYear cX1_requireClosedYear 2 none, .classLink RX1 135 "java/lang/IllegalStateException", .initialized "java/lang/IllegalStateException", .fieldLink RX1 103 "MakeupGas" "closedYears" "I", .methodLink RX1 81 yX1_requireYear, .static yX1_requireYear, .code yX1_requireYear cX1_requireYear 1 none, .methodLink RX1 71 yX1_requireRange, .static yX1_requireRange, .code yX1_requireRange cX1_requireRange 3 none, .classLink RX1 128 "java/lang/IllegalArgumentException", .initialized "java/lang/IllegalArgumentException", .methodLink RX1 121 yX0_leftFrom, .instanceMethod yX0_leftFrom, .selects RX0 yX0_leftFrom yX0_leftFrom, .initialized RX0, .code yX0_leftFrom cX0_leftFrom 2 (some .int), .fieldLink RX0 9 "MakeupGas$Stock" "left" "[I"] ++ wsX10 ++ wsX00 ++ (vx_atS RX1 139 "java/lang/IllegalStateException" ["java/lang/RuntimeException", "java/lang/Exception"]).filter goodWord ++ (vx_atS RX1 132 "java/lang/IllegalArgumentException" ["java/lang/RuntimeException", "java/lang/Exception"]).filter goodWord)
def wsX1_surplusLeft : List Cond := .code yX1_surplusLeft cX1_surplusLeft 2 (some .int) :: ([.fieldLink RX1 48 "MakeupGas" "surplusStock" "LMakeupGas$Stock;", .methodLink RX1 118 yX1_requireClosedYear, .instanceMethod yX1_requireClosedYear, .selects RX1 yX1_requireClosedYear yX1_requireClosedYear, .initialized RX1, .code yX1_requireClosedYear cX1_requireClosedYear 2 none, .classLink RX1 135 "java/lang/IllegalStateException", .initialized "java/lang/IllegalStateException", .fieldLink RX1 103 "MakeupGas" "closedYears" "I", .methodLink RX1 81 yX1_requireYear, .static yX1_requireYear, .code yX1_requireYear cX1_requireYear 1 none, .methodLink RX1 71 yX1_requireRange, .static yX1_requireRange, .code yX1_requireRange cX1_requireRange 3 none, .classLink RX1 128 "java/lang/IllegalArgumentException", .initialized "java/lang/IllegalArgumentException", .methodLink RX1 121 yX0_leftFrom, .instanceMethod yX0_leftFrom, .selects RX0 yX0_leftFrom yX0_leftFrom, .initialized RX0, .code yX0_leftFrom cX0_leftFrom 2 (some .int), .fieldLink RX0 9 "MakeupGas$Stock" "left" "[I"] ++ wsX10 ++ wsX00 ++ (vx_atS RX1 139 "java/lang/IllegalStateException" ["java/lang/RuntimeException", "java/lang/Exception"]).filter goodWord ++ (vx_atS RX1 132 "java/lang/IllegalArgumentException" ["java/lang/RuntimeException", "java/lang/Exception"]).filter goodWord)
def wsX1_lapsed : List Cond := .code yX1_lapsed cX1_lapsed 1 (some .int) :: ([.fieldLink RX1 44 "MakeupGas" "makeUpStock" "LMakeupGas$Stock;", .methodLink RX1 124 yX0_lapsedInAll, .instanceMethod yX0_lapsedInAll, .selects RX0 yX0_lapsedInAll yX0_lapsedInAll, .initialized RX0, .code yX0_lapsedInAll cX0_lapsedInAll 1 (some .int), .fieldLink RX0 25 "MakeupGas$Stock" "lapsedSum" "I"] ++ wsX10 ++ wsX00)
def wsX1_open : List Cond := .code yX1_open cX1_open 1 (some .long) :: ([.fieldLink RX1 110 "MakeupGas" "billedInAll" "J", .methodLink RX1 106 yX1_dueInAll, .instanceMethod yX1_dueInAll, .selects RX1 yX1_dueInAll yX1_dueInAll, .initialized RX1, .code yX1_dueInAll cX1_dueInAll 4 (some .long), .fieldLink RX1 103 "MakeupGas" "closedYears" "I", .fieldLink RX1 63 "MakeupGas" "duePerYear" "[J"] ++ wsX10)
def wsX2_init : List Cond := .code yX2_init cX2_init 2 none :: ([.methodLink RX2 1 objectInit, .instanceMethod objectInit, .code objectInit ⟨#[0xb1]⟩ 1 none, .constant RX2 7 (36000), .fieldLink RX2 8 "MakeupGasModel" "quantity" "I", .fieldLink RX2 14 "MakeupGasModel" "percent" "I", .fieldLink RX2 17 "MakeupGasModel" "share" "I", .fieldLink RX2 20 "MakeupGasModel" "makeUpYears" "I", .fieldLink RX2 23 "MakeupGasModel" "surplusYears" "I", .arrayClass .int, .fieldLink RX2 26 "MakeupGasModel" "prices" "[I", .fieldLink RX2 30 "MakeupGasModel" "excused" "[I", .fieldLink RX2 33 "MakeupGasModel" "days" "[I", .fieldLink RX2 36 "MakeupGasModel" "taken" "[I", .arrayClass .long, .fieldLink RX2 39 "MakeupGasModel" "bills" "[J", .fieldLink RX2 43 "MakeupGasModel" "shortfalls" "[I", .fieldLink RX2 46 "MakeupGasModel" "surpluses" "[I", .fieldLink RX2 49 "MakeupGasModel" "makeUpLeft" "[I", .fieldLink RX2 52 "MakeupGasModel" "surplusLeft" "[I", .fieldLink RX2 55 "MakeupGasModel" "madeUp" "[I", .fieldLink RX2 58 "MakeupGasModel" "covered" "[I", .fieldLink RX2 61 "MakeupGasModel" "dues" "[J"] ++ wsX20)
def wsX2_thrown : List Cond := .code yX2_thrown cX2_thrown 1 (some .int) :: ([.fieldLink RX2 64 "MakeupGasModel" "thrown" "I"] ++ wsX20)
def wsX2_holds : List Cond := .code yX2_holds cX2_holds 2 (some .boolean) :: ([.fieldLink RX2 64 "MakeupGasModel" "thrown" "I"] ++ wsX20)
def wsX2_isIn : List Cond := .code yX2_isIn cX2_isIn 3 (some .boolean) :: ([])
def wsX2_isYear : List Cond := .code yX2_isYear cX2_isYear 1 (some .boolean) :: ([.methodLink RX2 67 yX2_isIn, .static yX2_isIn, .initialized RX2, .code yX2_isIn cX2_isIn 3 (some .boolean)])
def wsX2_leastOf : List Cond := .code yX2_leastOf cX2_leastOf 2 (some .int) :: ([.fieldLink RX2 8 "MakeupGasModel" "quantity" "I", .fieldLink RX2 14 "MakeupGasModel" "percent" "I", .fieldLink RX2 30 "MakeupGasModel" "excused" "[I", .constantLong RX2 71 (36000)] ++ wsX20)
def wsX2_shortfallPrice : List Cond := .code yX2_shortfallPrice cX2_shortfallPrice 2 (some .int) :: ([.fieldLink RX2 26 "MakeupGasModel" "prices" "[I", .fieldLink RX2 17 "MakeupGasModel" "share" "I"] ++ wsX20)
def wsX2_lapses : List Cond := .code yX2_lapses cX2_lapses 3 none :: ([.fieldLink RX2 20 "MakeupGasModel" "makeUpYears" "I", .fieldLink RX2 73 "MakeupGasModel" "lapsed" "I", .fieldLink RX2 49 "MakeupGasModel" "makeUpLeft" "[I", .fieldLink RX2 23 "MakeupGasModel" "surplusYears" "I", .fieldLink RX2 52 "MakeupGasModel" "surplusLeft" "[I"] ++ wsX20)
def wsX2_covers : List Cond := .code yX2_covers cX2_covers 6 none :: ([.fieldLink RX2 52 "MakeupGasModel" "surplusLeft" "[I", .fieldLink RX2 58 "MakeupGasModel" "covered" "[I", .fieldLink RX2 43 "MakeupGasModel" "shortfalls" "[I", .fieldLink RX2 49 "MakeupGasModel" "makeUpLeft" "[I", .fieldLink RX2 61 "MakeupGasModel" "dues" "[J", .fieldLink RX2 36 "MakeupGasModel" "taken" "[I", .fieldLink RX2 26 "MakeupGasModel" "prices" "[I", .methodLink RX2 76 yX2_shortfallPrice, .instanceMethod yX2_shortfallPrice, .selects RX2 yX2_shortfallPrice yX2_shortfallPrice, .initialized RX2, .code yX2_shortfallPrice cX2_shortfallPrice 2 (some .int), .fieldLink RX2 17 "MakeupGasModel" "share" "I"] ++ wsX20)
def wsX2_makesUp : List Cond := .code yX2_makesUp cX2_makesUp 9 none :: ([.fieldLink RX2 49 "MakeupGasModel" "makeUpLeft" "[I", .fieldLink RX2 26 "MakeupGasModel" "prices" "[I", .fieldLink RX2 55 "MakeupGasModel" "madeUp" "[I", .fieldLink RX2 36 "MakeupGasModel" "taken" "[I", .fieldLink RX2 46 "MakeupGasModel" "surpluses" "[I", .fieldLink RX2 8 "MakeupGasModel" "quantity" "I", .fieldLink RX2 52 "MakeupGasModel" "surplusLeft" "[I", .fieldLink RX2 61 "MakeupGasModel" "dues" "[J", .methodLink RX2 76 yX2_shortfallPrice, .instanceMethod yX2_shortfallPrice, .selects RX2 yX2_shortfallPrice yX2_shortfallPrice, .initialized RX2, .code yX2_shortfallPrice cX2_shortfallPrice 2 (some .int), .fieldLink RX2 17 "MakeupGasModel" "share" "I"] ++ wsX20)
def wsX2_goesThrough_r1 : List Cond := [Cond.fieldLink RX2 73 "MakeupGasModel" "lapsed" "I", Cond.fieldLink RX2 80 "MakeupGasModel" "closed" "I", Cond.fieldLink RX2 43 "MakeupGasModel" "shortfalls" "[I", Cond.fieldLink RX2 46 "MakeupGasModel" "surpluses" "[I", Cond.fieldLink RX2 49 "MakeupGasModel" "makeUpLeft" "[I", Cond.fieldLink RX2 52 "MakeupGasModel" "surplusLeft" "[I", Cond.fieldLink RX2 55 "MakeupGasModel" "madeUp" "[I", Cond.fieldLink RX2 58 "MakeupGasModel" "covered" "[I", Cond.fieldLink RX2 36 "MakeupGasModel" "taken" "[I", Cond.methodLink RX2 83 yX2_lapses, Cond.instanceMethod yX2_lapses, Cond.selects RX2 yX2_lapses yX2_lapses, Cond.initialized RX2, Cond.code yX2_lapses cX2_lapses 3 none, Cond.fieldLink RX2 20 "MakeupGasModel" "makeUpYears" "I", Cond.fieldLink RX2 23 "MakeupGasModel" "surplusYears" "I", Cond.methodLink RX2 87 yX2_leastOf, Cond.instanceMethod yX2_leastOf, Cond.selects RX2 yX2_leastOf yX2_leastOf, Cond.code yX2_leastOf cX2_leastOf 2 (some .int), Cond.fieldLink RX2 8 "MakeupGasModel" "quantity" "I", Cond.fieldLink RX2 14 "MakeupGasModel" "percent" "I", Cond.fieldLink RX2 30 "MakeupGasModel" "excused" "[I", Cond.constantLong RX2 71 (36000)]
def wsX2_goesThrough_r2 : List Cond := [Cond.methodLink RX2 90 yX2_covers, Cond.instanceMethod yX2_covers, Cond.selects RX2 yX2_covers yX2_covers, Cond.code yX2_covers cX2_covers 6 none, Cond.fieldLink RX2 61 "MakeupGasModel" "dues" "[J", Cond.fieldLink RX2 26 "MakeupGasModel" "prices" "[I", Cond.methodLink RX2 76 yX2_shortfallPrice, Cond.instanceMethod yX2_shortfallPrice, Cond.selects RX2 yX2_shortfallPrice yX2_shortfallPrice, Cond.code yX2_shortfallPrice cX2_shortfallPrice 2 (some .int), Cond.fieldLink RX2 17 "MakeupGasModel" "share" "I", Cond.methodLink RX2 94 yX2_makesUp, Cond.instanceMethod yX2_makesUp, Cond.selects RX2 yX2_makesUp yX2_makesUp, Cond.code yX2_makesUp cX2_makesUp 9 none]
def wsX2_goesThrough : List Cond := .code yX2_goesThrough cX2_goesThrough 3 none :: ((wsX2_goesThrough_r1 ++ wsX2_goesThrough_r2) ++ wsX20)
def wsX2_openNow_r1 : List Cond := [Cond.fieldLink RX2 80 "MakeupGasModel" "closed" "I", Cond.fieldLink RX2 61 "MakeupGasModel" "dues" "[J", Cond.fieldLink RX2 39 "MakeupGasModel" "bills" "[J", Cond.methodLink RX2 97 yX2_goesThrough, Cond.instanceMethod yX2_goesThrough, Cond.selects RX2 yX2_goesThrough yX2_goesThrough, Cond.initialized RX2, Cond.code yX2_goesThrough cX2_goesThrough 3 none, Cond.fieldLink RX2 73 "MakeupGasModel" "lapsed" "I", Cond.fieldLink RX2 43 "MakeupGasModel" "shortfalls" "[I", Cond.fieldLink RX2 46 "MakeupGasModel" "surpluses" "[I", Cond.fieldLink RX2 49 "MakeupGasModel" "makeUpLeft" "[I", Cond.fieldLink RX2 52 "MakeupGasModel" "surplusLeft" "[I", Cond.fieldLink RX2 55 "MakeupGasModel" "madeUp" "[I", Cond.fieldLink RX2 58 "MakeupGasModel" "covered" "[I", Cond.fieldLink RX2 36 "MakeupGasModel" "taken" "[I", Cond.methodLink RX2 83 yX2_lapses, Cond.instanceMethod yX2_lapses, Cond.selects RX2 yX2_lapses yX2_lapses, Cond.code yX2_lapses cX2_lapses 3 none, Cond.fieldLink RX2 20 "MakeupGasModel" "makeUpYears" "I", Cond.fieldLink RX2 23 "MakeupGasModel" "surplusYears" "I", Cond.methodLink RX2 87 yX2_leastOf, Cond.instanceMethod yX2_leastOf]
def wsX2_openNow_r2 : List Cond := [Cond.selects RX2 yX2_leastOf yX2_leastOf, Cond.code yX2_leastOf cX2_leastOf 2 (some .int), Cond.fieldLink RX2 8 "MakeupGasModel" "quantity" "I", Cond.fieldLink RX2 14 "MakeupGasModel" "percent" "I", Cond.fieldLink RX2 30 "MakeupGasModel" "excused" "[I", Cond.constantLong RX2 71 (36000), Cond.methodLink RX2 90 yX2_covers, Cond.instanceMethod yX2_covers, Cond.selects RX2 yX2_covers yX2_covers, Cond.code yX2_covers cX2_covers 6 none, Cond.fieldLink RX2 26 "MakeupGasModel" "prices" "[I", Cond.methodLink RX2 76 yX2_shortfallPrice, Cond.instanceMethod yX2_shortfallPrice, Cond.selects RX2 yX2_shortfallPrice yX2_shortfallPrice, Cond.code yX2_shortfallPrice cX2_shortfallPrice 2 (some .int), Cond.fieldLink RX2 17 "MakeupGasModel" "share" "I", Cond.methodLink RX2 94 yX2_makesUp, Cond.instanceMethod yX2_makesUp, Cond.selects RX2 yX2_makesUp yX2_makesUp, Cond.code yX2_makesUp cX2_makesUp 9 none]
def wsX2_openNow : List Cond := .code yX2_openNow cX2_openNow 4 (some .long) :: ((wsX2_openNow_r1 ++ wsX2_openNow_r2) ++ wsX20)
def wsX2_set : List Cond := .code yX2_set cX2_set 7 none :: ([.constant RX2 100 (100000), .fieldLink RX2 80 "MakeupGasModel" "closed" "I", .fieldLink RX2 36 "MakeupGasModel" "taken" "[I", .fieldLink RX2 8 "MakeupGasModel" "quantity" "I", .fieldLink RX2 14 "MakeupGasModel" "percent" "I", .fieldLink RX2 17 "MakeupGasModel" "share" "I", .fieldLink RX2 20 "MakeupGasModel" "makeUpYears" "I", .fieldLink RX2 23 "MakeupGasModel" "surplusYears" "I", .methodLink RX2 67 yX2_isIn, .static yX2_isIn, .initialized RX2, .code yX2_isIn cX2_isIn 3 (some .boolean), .methodLink RX2 101 yX2_holds, .instanceMethod yX2_holds, .selects RX2 yX2_holds yX2_holds, .code yX2_holds cX2_holds 2 (some .boolean), .fieldLink RX2 64 "MakeupGasModel" "thrown" "I"] ++ wsX20)
def wsX2_review : List Cond := .code yX2_review cX2_review 5 (some .int) :: ([.fieldLink RX2 26 "MakeupGasModel" "prices" "[I", .methodLink RX2 105 yX2_isYear, .static yX2_isYear, .initialized RX2, .code yX2_isYear cX2_isYear 1 (some .boolean), .methodLink RX2 67 yX2_isIn, .static yX2_isIn, .code yX2_isIn cX2_isIn 3 (some .boolean), .methodLink RX2 101 yX2_holds, .instanceMethod yX2_holds, .selects RX2 yX2_holds yX2_holds, .code yX2_holds cX2_holds 2 (some .boolean), .fieldLink RX2 64 "MakeupGasModel" "thrown" "I"] ++ wsX20)
def wsX2_excuse : List Cond := .code yX2_excuse cX2_excuse 4 (some .int) :: ([.fieldLink RX2 30 "MakeupGasModel" "excused" "[I", .methodLink RX2 105 yX2_isYear, .static yX2_isYear, .initialized RX2, .code yX2_isYear cX2_isYear 1 (some .boolean), .methodLink RX2 67 yX2_isIn, .static yX2_isIn, .code yX2_isIn cX2_isIn 3 (some .boolean), .methodLink RX2 101 yX2_holds, .instanceMethod yX2_holds, .selects RX2 yX2_holds yX2_holds, .code yX2_holds cX2_holds 2 (some .boolean), .fieldLink RX2 64 "MakeupGasModel" "thrown" "I"] ++ wsX20)
def wsX2_isRange : List Cond := .code yX2_isRange cX2_isRange 2 (some .boolean) :: ([])
def wsX2_isTooMuch : List Cond := .code yX2_isTooMuch cX2_isTooMuch 6 (some .boolean) :: ([.fieldLink RX2 33 "MakeupGasModel" "days" "[I"] ++ wsX20)
def wsX2_canTake : List Cond := .code yX2_canTake cX2_canTake 5 (some .boolean) :: ([.fieldLink RX2 80 "MakeupGasModel" "closed" "I", .methodLink RX2 108 yX2_isRange, .static yX2_isRange, .initialized RX2, .code yX2_isRange cX2_isRange 2 (some .boolean), .methodLink RX2 67 yX2_isIn, .static yX2_isIn, .code yX2_isIn cX2_isIn 3 (some .boolean), .methodLink RX2 112 yX2_isTooMuch, .instanceMethod yX2_isTooMuch, .selects RX2 yX2_isTooMuch yX2_isTooMuch, .code yX2_isTooMuch cX2_isTooMuch 6 (some .boolean), .fieldLink RX2 33 "MakeupGasModel" "days" "[I", .methodLink RX2 101 yX2_holds, .instanceMethod yX2_holds, .selects RX2 yX2_holds yX2_holds, .code yX2_holds cX2_holds 2 (some .boolean), .fieldLink RX2 64 "MakeupGasModel" "thrown" "I"] ++ wsX20)
def wsX2_takes : List Cond := .code yX2_takes cX2_takes 5 none :: ([.fieldLink RX2 33 "MakeupGasModel" "days" "[I", .fieldLink RX2 36 "MakeupGasModel" "taken" "[I", .fieldLink RX2 80 "MakeupGasModel" "closed" "I"] ++ wsX20)
def wsX2_take_r1 : List Cond := [Cond.fieldLink RX2 33 "MakeupGasModel" "days" "[I", Cond.methodLink RX2 115 yX2_canTake, Cond.instanceMethod yX2_canTake, Cond.selects RX2 yX2_canTake yX2_canTake, Cond.initialized RX2, Cond.code yX2_canTake cX2_canTake 5 (some .boolean), Cond.fieldLink RX2 80 "MakeupGasModel" "closed" "I", Cond.methodLink RX2 108 yX2_isRange, Cond.static yX2_isRange, Cond.code yX2_isRange cX2_isRange 2 (some .boolean), Cond.methodLink RX2 67 yX2_isIn, Cond.static yX2_isIn, Cond.code yX2_isIn cX2_isIn 3 (some .boolean), Cond.methodLink RX2 112 yX2_isTooMuch, Cond.instanceMethod yX2_isTooMuch, Cond.selects RX2 yX2_isTooMuch yX2_isTooMuch, Cond.code yX2_isTooMuch cX2_isTooMuch 6 (some .boolean), Cond.methodLink RX2 101 yX2_holds, Cond.instanceMethod yX2_holds, Cond.selects RX2 yX2_holds yX2_holds, Cond.code yX2_holds cX2_holds 2 (some .boolean), Cond.fieldLink RX2 64 "MakeupGasModel" "thrown" "I", Cond.methodLink RX2 118 yX2_takes, Cond.instanceMethod yX2_takes]
def wsX2_take_r2 : List Cond := [Cond.selects RX2 yX2_takes yX2_takes, Cond.code yX2_takes cX2_takes 5 none, Cond.fieldLink RX2 36 "MakeupGasModel" "taken" "[I"]
def wsX2_take : List Cond := .code yX2_take cX2_take 3 (some .int) :: ((wsX2_take_r1 ++ wsX2_take_r2) ++ wsX20)
def wsX2_takeDaily_r1 : List Cond := [Cond.fieldLink RX2 36 "MakeupGasModel" "taken" "[I", Cond.fieldLink RX2 80 "MakeupGasModel" "closed" "I", Cond.methodLink RX2 115 yX2_canTake, Cond.instanceMethod yX2_canTake, Cond.selects RX2 yX2_canTake yX2_canTake, Cond.initialized RX2, Cond.code yX2_canTake cX2_canTake 5 (some .boolean), Cond.methodLink RX2 108 yX2_isRange, Cond.static yX2_isRange, Cond.code yX2_isRange cX2_isRange 2 (some .boolean), Cond.methodLink RX2 67 yX2_isIn, Cond.static yX2_isIn, Cond.code yX2_isIn cX2_isIn 3 (some .boolean), Cond.methodLink RX2 112 yX2_isTooMuch, Cond.instanceMethod yX2_isTooMuch, Cond.selects RX2 yX2_isTooMuch yX2_isTooMuch, Cond.code yX2_isTooMuch cX2_isTooMuch 6 (some .boolean), Cond.fieldLink RX2 33 "MakeupGasModel" "days" "[I", Cond.methodLink RX2 101 yX2_holds, Cond.instanceMethod yX2_holds, Cond.selects RX2 yX2_holds yX2_holds, Cond.code yX2_holds cX2_holds 2 (some .boolean), Cond.fieldLink RX2 64 "MakeupGasModel" "thrown" "I", Cond.methodLink RX2 118 yX2_takes]
def wsX2_takeDaily_r2 : List Cond := [Cond.instanceMethod yX2_takes, Cond.selects RX2 yX2_takes yX2_takes, Cond.code yX2_takes cX2_takes 5 none]
def wsX2_takeDaily : List Cond := .code yX2_takeDaily cX2_takeDaily 4 (some .int) :: ((wsX2_takeDaily_r1 ++ wsX2_takeDaily_r2) ++ wsX20)
def wsX2_close_r1 : List Cond := [Cond.fieldLink RX2 80 "MakeupGasModel" "closed" "I", Cond.fieldLink RX2 39 "MakeupGasModel" "bills" "[J", Cond.fieldLink RX2 33 "MakeupGasModel" "days" "[I", Cond.methodLink RX2 101 yX2_holds, Cond.instanceMethod yX2_holds, Cond.selects RX2 yX2_holds yX2_holds, Cond.initialized RX2, Cond.code yX2_holds cX2_holds 2 (some .boolean), Cond.fieldLink RX2 64 "MakeupGasModel" "thrown" "I", Cond.methodLink RX2 122 yX2_openNow, Cond.instanceMethod yX2_openNow, Cond.selects RX2 yX2_openNow yX2_openNow, Cond.code yX2_openNow cX2_openNow 4 (some .long), Cond.fieldLink RX2 61 "MakeupGasModel" "dues" "[J", Cond.methodLink RX2 97 yX2_goesThrough, Cond.instanceMethod yX2_goesThrough, Cond.selects RX2 yX2_goesThrough yX2_goesThrough, Cond.code yX2_goesThrough cX2_goesThrough 3 none, Cond.fieldLink RX2 73 "MakeupGasModel" "lapsed" "I", Cond.fieldLink RX2 43 "MakeupGasModel" "shortfalls" "[I", Cond.fieldLink RX2 46 "MakeupGasModel" "surpluses" "[I", Cond.fieldLink RX2 49 "MakeupGasModel" "makeUpLeft" "[I", Cond.fieldLink RX2 52 "MakeupGasModel" "surplusLeft" "[I", Cond.fieldLink RX2 55 "MakeupGasModel" "madeUp" "[I"]
def wsX2_close_r2 : List Cond := [Cond.fieldLink RX2 58 "MakeupGasModel" "covered" "[I", Cond.fieldLink RX2 36 "MakeupGasModel" "taken" "[I", Cond.methodLink RX2 83 yX2_lapses, Cond.instanceMethod yX2_lapses, Cond.selects RX2 yX2_lapses yX2_lapses, Cond.code yX2_lapses cX2_lapses 3 none, Cond.fieldLink RX2 20 "MakeupGasModel" "makeUpYears" "I", Cond.fieldLink RX2 23 "MakeupGasModel" "surplusYears" "I", Cond.methodLink RX2 87 yX2_leastOf, Cond.instanceMethod yX2_leastOf, Cond.selects RX2 yX2_leastOf yX2_leastOf, Cond.code yX2_leastOf cX2_leastOf 2 (some .int), Cond.fieldLink RX2 8 "MakeupGasModel" "quantity" "I", Cond.fieldLink RX2 14 "MakeupGasModel" "percent" "I", Cond.fieldLink RX2 30 "MakeupGasModel" "excused" "[I", Cond.constantLong RX2 71 (36000), Cond.methodLink RX2 90 yX2_covers, Cond.instanceMethod yX2_covers, Cond.selects RX2 yX2_covers yX2_covers, Cond.code yX2_covers cX2_covers 6 none, Cond.fieldLink RX2 26 "MakeupGasModel" "prices" "[I", Cond.methodLink RX2 76 yX2_shortfallPrice, Cond.instanceMethod yX2_shortfallPrice, Cond.selects RX2 yX2_shortfallPrice yX2_shortfallPrice]
def wsX2_close_r3 : List Cond := [Cond.code yX2_shortfallPrice cX2_shortfallPrice 2 (some .int), Cond.fieldLink RX2 17 "MakeupGasModel" "share" "I", Cond.methodLink RX2 94 yX2_makesUp, Cond.instanceMethod yX2_makesUp, Cond.selects RX2 yX2_makesUp yX2_makesUp, Cond.code yX2_makesUp cX2_makesUp 9 none]
def wsX2_close : List Cond := .code yX2_close cX2_close 2 (some .long) :: ((wsX2_close_r1 ++ (wsX2_close_r2 ++ wsX2_close_r3)) ++ wsX20)
def wsX2_closed : List Cond := .code yX2_closed cX2_closed 1 (some .int) :: ([.fieldLink RX2 64 "MakeupGasModel" "thrown" "I", .fieldLink RX2 80 "MakeupGasModel" "closed" "I"] ++ wsX20)
def wsX2_taken : List Cond := .code yX2_taken cX2_taken 2 (some .int) :: ([.fieldLink RX2 36 "MakeupGasModel" "taken" "[I", .methodLink RX2 105 yX2_isYear, .static yX2_isYear, .initialized RX2, .code yX2_isYear cX2_isYear 1 (some .boolean), .methodLink RX2 67 yX2_isIn, .static yX2_isIn, .code yX2_isIn cX2_isIn 3 (some .boolean), .methodLink RX2 101 yX2_holds, .instanceMethod yX2_holds, .selects RX2 yX2_holds yX2_holds, .code yX2_holds cX2_holds 2 (some .boolean), .fieldLink RX2 64 "MakeupGasModel" "thrown" "I"] ++ wsX20)
def wsX2_takenFrom : List Cond := .code yX2_takenFrom cX2_takenFrom 5 (some .int) :: ([.fieldLink RX2 33 "MakeupGasModel" "days" "[I", .methodLink RX2 108 yX2_isRange, .static yX2_isRange, .initialized RX2, .code yX2_isRange cX2_isRange 2 (some .boolean), .methodLink RX2 101 yX2_holds, .instanceMethod yX2_holds, .selects RX2 yX2_holds yX2_holds, .code yX2_holds cX2_holds 2 (some .boolean), .fieldLink RX2 64 "MakeupGasModel" "thrown" "I"] ++ wsX20)
def wsX2_price : List Cond := .code yX2_price cX2_price 2 (some .int) :: ([.fieldLink RX2 26 "MakeupGasModel" "prices" "[I", .methodLink RX2 105 yX2_isYear, .static yX2_isYear, .initialized RX2, .code yX2_isYear cX2_isYear 1 (some .boolean), .methodLink RX2 67 yX2_isIn, .static yX2_isIn, .code yX2_isIn cX2_isIn 3 (some .boolean), .methodLink RX2 101 yX2_holds, .instanceMethod yX2_holds, .selects RX2 yX2_holds yX2_holds, .code yX2_holds cX2_holds 2 (some .boolean), .fieldLink RX2 64 "MakeupGasModel" "thrown" "I"] ++ wsX20)
def wsX2_least : List Cond := .code yX2_least cX2_least 2 (some .int) :: ([.methodLink RX2 105 yX2_isYear, .static yX2_isYear, .initialized RX2, .code yX2_isYear cX2_isYear 1 (some .boolean), .methodLink RX2 67 yX2_isIn, .static yX2_isIn, .code yX2_isIn cX2_isIn 3 (some .boolean), .methodLink RX2 101 yX2_holds, .instanceMethod yX2_holds, .selects RX2 yX2_holds yX2_holds, .code yX2_holds cX2_holds 2 (some .boolean), .fieldLink RX2 64 "MakeupGasModel" "thrown" "I", .methodLink RX2 87 yX2_leastOf, .instanceMethod yX2_leastOf, .selects RX2 yX2_leastOf yX2_leastOf, .code yX2_leastOf cX2_leastOf 2 (some .int), .fieldLink RX2 8 "MakeupGasModel" "quantity" "I", .fieldLink RX2 14 "MakeupGasModel" "percent" "I", .fieldLink RX2 30 "MakeupGasModel" "excused" "[I", .constantLong RX2 71 (36000)] ++ wsX20)
def wsX2_isClosed_r1 : List Cond := [Cond.fieldLink RX2 80 "MakeupGasModel" "closed" "I", Cond.methodLink RX2 105 yX2_isYear, Cond.static yX2_isYear, Cond.initialized RX2, Cond.code yX2_isYear cX2_isYear 1 (some .boolean), Cond.methodLink RX2 67 yX2_isIn, Cond.static yX2_isIn, Cond.code yX2_isIn cX2_isIn 3 (some .boolean), Cond.methodLink RX2 101 yX2_holds, Cond.instanceMethod yX2_holds, Cond.selects RX2 yX2_holds yX2_holds, Cond.code yX2_holds cX2_holds 2 (some .boolean), Cond.fieldLink RX2 64 "MakeupGasModel" "thrown" "I", Cond.methodLink RX2 97 yX2_goesThrough, Cond.instanceMethod yX2_goesThrough, Cond.selects RX2 yX2_goesThrough yX2_goesThrough, Cond.code yX2_goesThrough cX2_goesThrough 3 none, Cond.fieldLink RX2 73 "MakeupGasModel" "lapsed" "I", Cond.fieldLink RX2 43 "MakeupGasModel" "shortfalls" "[I", Cond.fieldLink RX2 46 "MakeupGasModel" "surpluses" "[I", Cond.fieldLink RX2 49 "MakeupGasModel" "makeUpLeft" "[I", Cond.fieldLink RX2 52 "MakeupGasModel" "surplusLeft" "[I", Cond.fieldLink RX2 55 "MakeupGasModel" "madeUp" "[I", Cond.fieldLink RX2 58 "MakeupGasModel" "covered" "[I"]
def wsX2_isClosed_r2 : List Cond := [Cond.fieldLink RX2 36 "MakeupGasModel" "taken" "[I", Cond.methodLink RX2 83 yX2_lapses, Cond.instanceMethod yX2_lapses, Cond.selects RX2 yX2_lapses yX2_lapses, Cond.code yX2_lapses cX2_lapses 3 none, Cond.fieldLink RX2 20 "MakeupGasModel" "makeUpYears" "I", Cond.fieldLink RX2 23 "MakeupGasModel" "surplusYears" "I", Cond.methodLink RX2 87 yX2_leastOf, Cond.instanceMethod yX2_leastOf, Cond.selects RX2 yX2_leastOf yX2_leastOf, Cond.code yX2_leastOf cX2_leastOf 2 (some .int), Cond.fieldLink RX2 8 "MakeupGasModel" "quantity" "I", Cond.fieldLink RX2 14 "MakeupGasModel" "percent" "I", Cond.fieldLink RX2 30 "MakeupGasModel" "excused" "[I", Cond.constantLong RX2 71 (36000), Cond.methodLink RX2 90 yX2_covers, Cond.instanceMethod yX2_covers, Cond.selects RX2 yX2_covers yX2_covers, Cond.code yX2_covers cX2_covers 6 none, Cond.fieldLink RX2 61 "MakeupGasModel" "dues" "[J", Cond.fieldLink RX2 26 "MakeupGasModel" "prices" "[I", Cond.methodLink RX2 76 yX2_shortfallPrice, Cond.instanceMethod yX2_shortfallPrice, Cond.selects RX2 yX2_shortfallPrice yX2_shortfallPrice]
def wsX2_isClosed_r3 : List Cond := [Cond.code yX2_shortfallPrice cX2_shortfallPrice 2 (some .int), Cond.fieldLink RX2 17 "MakeupGasModel" "share" "I", Cond.methodLink RX2 94 yX2_makesUp, Cond.instanceMethod yX2_makesUp, Cond.selects RX2 yX2_makesUp yX2_makesUp, Cond.code yX2_makesUp cX2_makesUp 9 none]
def wsX2_isClosed : List Cond := .code yX2_isClosed cX2_isClosed 2 (some .boolean) :: ((wsX2_isClosed_r1 ++ (wsX2_isClosed_r2 ++ wsX2_isClosed_r3)) ++ wsX20)
def wsX2_shortfall_r1 : List Cond := [Cond.fieldLink RX2 43 "MakeupGasModel" "shortfalls" "[I", Cond.methodLink RX2 126 yX2_isClosed, Cond.instanceMethod yX2_isClosed, Cond.selects RX2 yX2_isClosed yX2_isClosed, Cond.initialized RX2, Cond.code yX2_isClosed cX2_isClosed 2 (some .boolean), Cond.fieldLink RX2 80 "MakeupGasModel" "closed" "I", Cond.methodLink RX2 105 yX2_isYear, Cond.static yX2_isYear, Cond.code yX2_isYear cX2_isYear 1 (some .boolean), Cond.methodLink RX2 67 yX2_isIn, Cond.static yX2_isIn, Cond.code yX2_isIn cX2_isIn 3 (some .boolean), Cond.methodLink RX2 101 yX2_holds, Cond.instanceMethod yX2_holds, Cond.selects RX2 yX2_holds yX2_holds, Cond.code yX2_holds cX2_holds 2 (some .boolean), Cond.fieldLink RX2 64 "MakeupGasModel" "thrown" "I", Cond.methodLink RX2 97 yX2_goesThrough, Cond.instanceMethod yX2_goesThrough, Cond.selects RX2 yX2_goesThrough yX2_goesThrough, Cond.code yX2_goesThrough cX2_goesThrough 3 none, Cond.fieldLink RX2 73 "MakeupGasModel" "lapsed" "I", Cond.fieldLink RX2 46 "MakeupGasModel" "surpluses" "[I"]
def wsX2_shortfall_r2 : List Cond := [Cond.fieldLink RX2 49 "MakeupGasModel" "makeUpLeft" "[I", Cond.fieldLink RX2 52 "MakeupGasModel" "surplusLeft" "[I", Cond.fieldLink RX2 55 "MakeupGasModel" "madeUp" "[I", Cond.fieldLink RX2 58 "MakeupGasModel" "covered" "[I", Cond.fieldLink RX2 36 "MakeupGasModel" "taken" "[I", Cond.methodLink RX2 83 yX2_lapses, Cond.instanceMethod yX2_lapses, Cond.selects RX2 yX2_lapses yX2_lapses, Cond.code yX2_lapses cX2_lapses 3 none, Cond.fieldLink RX2 20 "MakeupGasModel" "makeUpYears" "I", Cond.fieldLink RX2 23 "MakeupGasModel" "surplusYears" "I", Cond.methodLink RX2 87 yX2_leastOf, Cond.instanceMethod yX2_leastOf, Cond.selects RX2 yX2_leastOf yX2_leastOf, Cond.code yX2_leastOf cX2_leastOf 2 (some .int), Cond.fieldLink RX2 8 "MakeupGasModel" "quantity" "I", Cond.fieldLink RX2 14 "MakeupGasModel" "percent" "I", Cond.fieldLink RX2 30 "MakeupGasModel" "excused" "[I", Cond.constantLong RX2 71 (36000), Cond.methodLink RX2 90 yX2_covers, Cond.instanceMethod yX2_covers, Cond.selects RX2 yX2_covers yX2_covers, Cond.code yX2_covers cX2_covers 6 none, Cond.fieldLink RX2 61 "MakeupGasModel" "dues" "[J"]
def wsX2_shortfall_r3 : List Cond := [Cond.fieldLink RX2 26 "MakeupGasModel" "prices" "[I", Cond.methodLink RX2 76 yX2_shortfallPrice, Cond.instanceMethod yX2_shortfallPrice, Cond.selects RX2 yX2_shortfallPrice yX2_shortfallPrice, Cond.code yX2_shortfallPrice cX2_shortfallPrice 2 (some .int), Cond.fieldLink RX2 17 "MakeupGasModel" "share" "I", Cond.methodLink RX2 94 yX2_makesUp, Cond.instanceMethod yX2_makesUp, Cond.selects RX2 yX2_makesUp yX2_makesUp, Cond.code yX2_makesUp cX2_makesUp 9 none]
def wsX2_shortfall : List Cond := .code yX2_shortfall cX2_shortfall 2 (some .int) :: ((wsX2_shortfall_r1 ++ (wsX2_shortfall_r2 ++ wsX2_shortfall_r3)) ++ wsX20)
def wsX2_madeUp_r1 : List Cond := [Cond.fieldLink RX2 55 "MakeupGasModel" "madeUp" "[I", Cond.methodLink RX2 126 yX2_isClosed, Cond.instanceMethod yX2_isClosed, Cond.selects RX2 yX2_isClosed yX2_isClosed, Cond.initialized RX2, Cond.code yX2_isClosed cX2_isClosed 2 (some .boolean), Cond.fieldLink RX2 80 "MakeupGasModel" "closed" "I", Cond.methodLink RX2 105 yX2_isYear, Cond.static yX2_isYear, Cond.code yX2_isYear cX2_isYear 1 (some .boolean), Cond.methodLink RX2 67 yX2_isIn, Cond.static yX2_isIn, Cond.code yX2_isIn cX2_isIn 3 (some .boolean), Cond.methodLink RX2 101 yX2_holds, Cond.instanceMethod yX2_holds, Cond.selects RX2 yX2_holds yX2_holds, Cond.code yX2_holds cX2_holds 2 (some .boolean), Cond.fieldLink RX2 64 "MakeupGasModel" "thrown" "I", Cond.methodLink RX2 97 yX2_goesThrough, Cond.instanceMethod yX2_goesThrough, Cond.selects RX2 yX2_goesThrough yX2_goesThrough, Cond.code yX2_goesThrough cX2_goesThrough 3 none, Cond.fieldLink RX2 73 "MakeupGasModel" "lapsed" "I", Cond.fieldLink RX2 43 "MakeupGasModel" "shortfalls" "[I"]
def wsX2_madeUp_r2 : List Cond := [Cond.fieldLink RX2 46 "MakeupGasModel" "surpluses" "[I", Cond.fieldLink RX2 49 "MakeupGasModel" "makeUpLeft" "[I", Cond.fieldLink RX2 52 "MakeupGasModel" "surplusLeft" "[I", Cond.fieldLink RX2 58 "MakeupGasModel" "covered" "[I", Cond.fieldLink RX2 36 "MakeupGasModel" "taken" "[I", Cond.methodLink RX2 83 yX2_lapses, Cond.instanceMethod yX2_lapses, Cond.selects RX2 yX2_lapses yX2_lapses, Cond.code yX2_lapses cX2_lapses 3 none, Cond.fieldLink RX2 20 "MakeupGasModel" "makeUpYears" "I", Cond.fieldLink RX2 23 "MakeupGasModel" "surplusYears" "I", Cond.methodLink RX2 87 yX2_leastOf, Cond.instanceMethod yX2_leastOf, Cond.selects RX2 yX2_leastOf yX2_leastOf, Cond.code yX2_leastOf cX2_leastOf 2 (some .int), Cond.fieldLink RX2 8 "MakeupGasModel" "quantity" "I", Cond.fieldLink RX2 14 "MakeupGasModel" "percent" "I", Cond.fieldLink RX2 30 "MakeupGasModel" "excused" "[I", Cond.constantLong RX2 71 (36000), Cond.methodLink RX2 90 yX2_covers, Cond.instanceMethod yX2_covers, Cond.selects RX2 yX2_covers yX2_covers, Cond.code yX2_covers cX2_covers 6 none, Cond.fieldLink RX2 61 "MakeupGasModel" "dues" "[J"]
def wsX2_madeUp_r3 : List Cond := [Cond.fieldLink RX2 26 "MakeupGasModel" "prices" "[I", Cond.methodLink RX2 76 yX2_shortfallPrice, Cond.instanceMethod yX2_shortfallPrice, Cond.selects RX2 yX2_shortfallPrice yX2_shortfallPrice, Cond.code yX2_shortfallPrice cX2_shortfallPrice 2 (some .int), Cond.fieldLink RX2 17 "MakeupGasModel" "share" "I", Cond.methodLink RX2 94 yX2_makesUp, Cond.instanceMethod yX2_makesUp, Cond.selects RX2 yX2_makesUp yX2_makesUp, Cond.code yX2_makesUp cX2_makesUp 9 none]
def wsX2_madeUp : List Cond := .code yX2_madeUp cX2_madeUp 2 (some .int) :: ((wsX2_madeUp_r1 ++ (wsX2_madeUp_r2 ++ wsX2_madeUp_r3)) ++ wsX20)
def wsX2_covered_r1 : List Cond := [Cond.fieldLink RX2 58 "MakeupGasModel" "covered" "[I", Cond.methodLink RX2 126 yX2_isClosed, Cond.instanceMethod yX2_isClosed, Cond.selects RX2 yX2_isClosed yX2_isClosed, Cond.initialized RX2, Cond.code yX2_isClosed cX2_isClosed 2 (some .boolean), Cond.fieldLink RX2 80 "MakeupGasModel" "closed" "I", Cond.methodLink RX2 105 yX2_isYear, Cond.static yX2_isYear, Cond.code yX2_isYear cX2_isYear 1 (some .boolean), Cond.methodLink RX2 67 yX2_isIn, Cond.static yX2_isIn, Cond.code yX2_isIn cX2_isIn 3 (some .boolean), Cond.methodLink RX2 101 yX2_holds, Cond.instanceMethod yX2_holds, Cond.selects RX2 yX2_holds yX2_holds, Cond.code yX2_holds cX2_holds 2 (some .boolean), Cond.fieldLink RX2 64 "MakeupGasModel" "thrown" "I", Cond.methodLink RX2 97 yX2_goesThrough, Cond.instanceMethod yX2_goesThrough, Cond.selects RX2 yX2_goesThrough yX2_goesThrough, Cond.code yX2_goesThrough cX2_goesThrough 3 none, Cond.fieldLink RX2 73 "MakeupGasModel" "lapsed" "I", Cond.fieldLink RX2 43 "MakeupGasModel" "shortfalls" "[I"]
def wsX2_covered_r2 : List Cond := [Cond.fieldLink RX2 46 "MakeupGasModel" "surpluses" "[I", Cond.fieldLink RX2 49 "MakeupGasModel" "makeUpLeft" "[I", Cond.fieldLink RX2 52 "MakeupGasModel" "surplusLeft" "[I", Cond.fieldLink RX2 55 "MakeupGasModel" "madeUp" "[I", Cond.fieldLink RX2 36 "MakeupGasModel" "taken" "[I", Cond.methodLink RX2 83 yX2_lapses, Cond.instanceMethod yX2_lapses, Cond.selects RX2 yX2_lapses yX2_lapses, Cond.code yX2_lapses cX2_lapses 3 none, Cond.fieldLink RX2 20 "MakeupGasModel" "makeUpYears" "I", Cond.fieldLink RX2 23 "MakeupGasModel" "surplusYears" "I", Cond.methodLink RX2 87 yX2_leastOf, Cond.instanceMethod yX2_leastOf, Cond.selects RX2 yX2_leastOf yX2_leastOf, Cond.code yX2_leastOf cX2_leastOf 2 (some .int), Cond.fieldLink RX2 8 "MakeupGasModel" "quantity" "I", Cond.fieldLink RX2 14 "MakeupGasModel" "percent" "I", Cond.fieldLink RX2 30 "MakeupGasModel" "excused" "[I", Cond.constantLong RX2 71 (36000), Cond.methodLink RX2 90 yX2_covers, Cond.instanceMethod yX2_covers, Cond.selects RX2 yX2_covers yX2_covers, Cond.code yX2_covers cX2_covers 6 none, Cond.fieldLink RX2 61 "MakeupGasModel" "dues" "[J"]
def wsX2_covered_r3 : List Cond := [Cond.fieldLink RX2 26 "MakeupGasModel" "prices" "[I", Cond.methodLink RX2 76 yX2_shortfallPrice, Cond.instanceMethod yX2_shortfallPrice, Cond.selects RX2 yX2_shortfallPrice yX2_shortfallPrice, Cond.code yX2_shortfallPrice cX2_shortfallPrice 2 (some .int), Cond.fieldLink RX2 17 "MakeupGasModel" "share" "I", Cond.methodLink RX2 94 yX2_makesUp, Cond.instanceMethod yX2_makesUp, Cond.selects RX2 yX2_makesUp yX2_makesUp, Cond.code yX2_makesUp cX2_makesUp 9 none]
def wsX2_covered : List Cond := .code yX2_covered cX2_covered 2 (some .int) :: ((wsX2_covered_r1 ++ (wsX2_covered_r2 ++ wsX2_covered_r3)) ++ wsX20)
def wsX2_surplus_r1 : List Cond := [Cond.fieldLink RX2 46 "MakeupGasModel" "surpluses" "[I", Cond.methodLink RX2 126 yX2_isClosed, Cond.instanceMethod yX2_isClosed, Cond.selects RX2 yX2_isClosed yX2_isClosed, Cond.initialized RX2, Cond.code yX2_isClosed cX2_isClosed 2 (some .boolean), Cond.fieldLink RX2 80 "MakeupGasModel" "closed" "I", Cond.methodLink RX2 105 yX2_isYear, Cond.static yX2_isYear, Cond.code yX2_isYear cX2_isYear 1 (some .boolean), Cond.methodLink RX2 67 yX2_isIn, Cond.static yX2_isIn, Cond.code yX2_isIn cX2_isIn 3 (some .boolean), Cond.methodLink RX2 101 yX2_holds, Cond.instanceMethod yX2_holds, Cond.selects RX2 yX2_holds yX2_holds, Cond.code yX2_holds cX2_holds 2 (some .boolean), Cond.fieldLink RX2 64 "MakeupGasModel" "thrown" "I", Cond.methodLink RX2 97 yX2_goesThrough, Cond.instanceMethod yX2_goesThrough, Cond.selects RX2 yX2_goesThrough yX2_goesThrough, Cond.code yX2_goesThrough cX2_goesThrough 3 none, Cond.fieldLink RX2 73 "MakeupGasModel" "lapsed" "I", Cond.fieldLink RX2 43 "MakeupGasModel" "shortfalls" "[I"]
def wsX2_surplus_r2 : List Cond := [Cond.fieldLink RX2 49 "MakeupGasModel" "makeUpLeft" "[I", Cond.fieldLink RX2 52 "MakeupGasModel" "surplusLeft" "[I", Cond.fieldLink RX2 55 "MakeupGasModel" "madeUp" "[I", Cond.fieldLink RX2 58 "MakeupGasModel" "covered" "[I", Cond.fieldLink RX2 36 "MakeupGasModel" "taken" "[I", Cond.methodLink RX2 83 yX2_lapses, Cond.instanceMethod yX2_lapses, Cond.selects RX2 yX2_lapses yX2_lapses, Cond.code yX2_lapses cX2_lapses 3 none, Cond.fieldLink RX2 20 "MakeupGasModel" "makeUpYears" "I", Cond.fieldLink RX2 23 "MakeupGasModel" "surplusYears" "I", Cond.methodLink RX2 87 yX2_leastOf, Cond.instanceMethod yX2_leastOf, Cond.selects RX2 yX2_leastOf yX2_leastOf, Cond.code yX2_leastOf cX2_leastOf 2 (some .int), Cond.fieldLink RX2 8 "MakeupGasModel" "quantity" "I", Cond.fieldLink RX2 14 "MakeupGasModel" "percent" "I", Cond.fieldLink RX2 30 "MakeupGasModel" "excused" "[I", Cond.constantLong RX2 71 (36000), Cond.methodLink RX2 90 yX2_covers, Cond.instanceMethod yX2_covers, Cond.selects RX2 yX2_covers yX2_covers, Cond.code yX2_covers cX2_covers 6 none, Cond.fieldLink RX2 61 "MakeupGasModel" "dues" "[J"]
def wsX2_surplus_r3 : List Cond := [Cond.fieldLink RX2 26 "MakeupGasModel" "prices" "[I", Cond.methodLink RX2 76 yX2_shortfallPrice, Cond.instanceMethod yX2_shortfallPrice, Cond.selects RX2 yX2_shortfallPrice yX2_shortfallPrice, Cond.code yX2_shortfallPrice cX2_shortfallPrice 2 (some .int), Cond.fieldLink RX2 17 "MakeupGasModel" "share" "I", Cond.methodLink RX2 94 yX2_makesUp, Cond.instanceMethod yX2_makesUp, Cond.selects RX2 yX2_makesUp yX2_makesUp, Cond.code yX2_makesUp cX2_makesUp 9 none]
def wsX2_surplus : List Cond := .code yX2_surplus cX2_surplus 2 (some .int) :: ((wsX2_surplus_r1 ++ (wsX2_surplus_r2 ++ wsX2_surplus_r3)) ++ wsX20)
def wsX2_due_r1 : List Cond := [Cond.fieldLink RX2 61 "MakeupGasModel" "dues" "[J", Cond.methodLink RX2 126 yX2_isClosed, Cond.instanceMethod yX2_isClosed, Cond.selects RX2 yX2_isClosed yX2_isClosed, Cond.initialized RX2, Cond.code yX2_isClosed cX2_isClosed 2 (some .boolean), Cond.fieldLink RX2 80 "MakeupGasModel" "closed" "I", Cond.methodLink RX2 105 yX2_isYear, Cond.static yX2_isYear, Cond.code yX2_isYear cX2_isYear 1 (some .boolean), Cond.methodLink RX2 67 yX2_isIn, Cond.static yX2_isIn, Cond.code yX2_isIn cX2_isIn 3 (some .boolean), Cond.methodLink RX2 101 yX2_holds, Cond.instanceMethod yX2_holds, Cond.selects RX2 yX2_holds yX2_holds, Cond.code yX2_holds cX2_holds 2 (some .boolean), Cond.fieldLink RX2 64 "MakeupGasModel" "thrown" "I", Cond.methodLink RX2 97 yX2_goesThrough, Cond.instanceMethod yX2_goesThrough, Cond.selects RX2 yX2_goesThrough yX2_goesThrough, Cond.code yX2_goesThrough cX2_goesThrough 3 none, Cond.fieldLink RX2 73 "MakeupGasModel" "lapsed" "I", Cond.fieldLink RX2 43 "MakeupGasModel" "shortfalls" "[I"]
def wsX2_due_r2 : List Cond := [Cond.fieldLink RX2 46 "MakeupGasModel" "surpluses" "[I", Cond.fieldLink RX2 49 "MakeupGasModel" "makeUpLeft" "[I", Cond.fieldLink RX2 52 "MakeupGasModel" "surplusLeft" "[I", Cond.fieldLink RX2 55 "MakeupGasModel" "madeUp" "[I", Cond.fieldLink RX2 58 "MakeupGasModel" "covered" "[I", Cond.fieldLink RX2 36 "MakeupGasModel" "taken" "[I", Cond.methodLink RX2 83 yX2_lapses, Cond.instanceMethod yX2_lapses, Cond.selects RX2 yX2_lapses yX2_lapses, Cond.code yX2_lapses cX2_lapses 3 none, Cond.fieldLink RX2 20 "MakeupGasModel" "makeUpYears" "I", Cond.fieldLink RX2 23 "MakeupGasModel" "surplusYears" "I", Cond.methodLink RX2 87 yX2_leastOf, Cond.instanceMethod yX2_leastOf, Cond.selects RX2 yX2_leastOf yX2_leastOf, Cond.code yX2_leastOf cX2_leastOf 2 (some .int), Cond.fieldLink RX2 8 "MakeupGasModel" "quantity" "I", Cond.fieldLink RX2 14 "MakeupGasModel" "percent" "I", Cond.fieldLink RX2 30 "MakeupGasModel" "excused" "[I", Cond.constantLong RX2 71 (36000), Cond.methodLink RX2 90 yX2_covers, Cond.instanceMethod yX2_covers, Cond.selects RX2 yX2_covers yX2_covers, Cond.code yX2_covers cX2_covers 6 none]
def wsX2_due_r3 : List Cond := [Cond.fieldLink RX2 26 "MakeupGasModel" "prices" "[I", Cond.methodLink RX2 76 yX2_shortfallPrice, Cond.instanceMethod yX2_shortfallPrice, Cond.selects RX2 yX2_shortfallPrice yX2_shortfallPrice, Cond.code yX2_shortfallPrice cX2_shortfallPrice 2 (some .int), Cond.fieldLink RX2 17 "MakeupGasModel" "share" "I", Cond.methodLink RX2 94 yX2_makesUp, Cond.instanceMethod yX2_makesUp, Cond.selects RX2 yX2_makesUp yX2_makesUp, Cond.code yX2_makesUp cX2_makesUp 9 none]
def wsX2_due : List Cond := .code yX2_due cX2_due 2 (some .long) :: ((wsX2_due_r1 ++ (wsX2_due_r2 ++ wsX2_due_r3)) ++ wsX20)
def wsX2_bill_r1 : List Cond := [Cond.fieldLink RX2 39 "MakeupGasModel" "bills" "[J", Cond.methodLink RX2 126 yX2_isClosed, Cond.instanceMethod yX2_isClosed, Cond.selects RX2 yX2_isClosed yX2_isClosed, Cond.initialized RX2, Cond.code yX2_isClosed cX2_isClosed 2 (some .boolean), Cond.fieldLink RX2 80 "MakeupGasModel" "closed" "I", Cond.methodLink RX2 105 yX2_isYear, Cond.static yX2_isYear, Cond.code yX2_isYear cX2_isYear 1 (some .boolean), Cond.methodLink RX2 67 yX2_isIn, Cond.static yX2_isIn, Cond.code yX2_isIn cX2_isIn 3 (some .boolean), Cond.methodLink RX2 101 yX2_holds, Cond.instanceMethod yX2_holds, Cond.selects RX2 yX2_holds yX2_holds, Cond.code yX2_holds cX2_holds 2 (some .boolean), Cond.fieldLink RX2 64 "MakeupGasModel" "thrown" "I", Cond.methodLink RX2 97 yX2_goesThrough, Cond.instanceMethod yX2_goesThrough, Cond.selects RX2 yX2_goesThrough yX2_goesThrough, Cond.code yX2_goesThrough cX2_goesThrough 3 none, Cond.fieldLink RX2 73 "MakeupGasModel" "lapsed" "I", Cond.fieldLink RX2 43 "MakeupGasModel" "shortfalls" "[I"]
def wsX2_bill_r2 : List Cond := [Cond.fieldLink RX2 46 "MakeupGasModel" "surpluses" "[I", Cond.fieldLink RX2 49 "MakeupGasModel" "makeUpLeft" "[I", Cond.fieldLink RX2 52 "MakeupGasModel" "surplusLeft" "[I", Cond.fieldLink RX2 55 "MakeupGasModel" "madeUp" "[I", Cond.fieldLink RX2 58 "MakeupGasModel" "covered" "[I", Cond.fieldLink RX2 36 "MakeupGasModel" "taken" "[I", Cond.methodLink RX2 83 yX2_lapses, Cond.instanceMethod yX2_lapses, Cond.selects RX2 yX2_lapses yX2_lapses, Cond.code yX2_lapses cX2_lapses 3 none, Cond.fieldLink RX2 20 "MakeupGasModel" "makeUpYears" "I", Cond.fieldLink RX2 23 "MakeupGasModel" "surplusYears" "I", Cond.methodLink RX2 87 yX2_leastOf, Cond.instanceMethod yX2_leastOf, Cond.selects RX2 yX2_leastOf yX2_leastOf, Cond.code yX2_leastOf cX2_leastOf 2 (some .int), Cond.fieldLink RX2 8 "MakeupGasModel" "quantity" "I", Cond.fieldLink RX2 14 "MakeupGasModel" "percent" "I", Cond.fieldLink RX2 30 "MakeupGasModel" "excused" "[I", Cond.constantLong RX2 71 (36000), Cond.methodLink RX2 90 yX2_covers, Cond.instanceMethod yX2_covers, Cond.selects RX2 yX2_covers yX2_covers, Cond.code yX2_covers cX2_covers 6 none]
def wsX2_bill_r3 : List Cond := [Cond.fieldLink RX2 61 "MakeupGasModel" "dues" "[J", Cond.fieldLink RX2 26 "MakeupGasModel" "prices" "[I", Cond.methodLink RX2 76 yX2_shortfallPrice, Cond.instanceMethod yX2_shortfallPrice, Cond.selects RX2 yX2_shortfallPrice yX2_shortfallPrice, Cond.code yX2_shortfallPrice cX2_shortfallPrice 2 (some .int), Cond.fieldLink RX2 17 "MakeupGasModel" "share" "I", Cond.methodLink RX2 94 yX2_makesUp, Cond.instanceMethod yX2_makesUp, Cond.selects RX2 yX2_makesUp yX2_makesUp, Cond.code yX2_makesUp cX2_makesUp 9 none]
def wsX2_bill : List Cond := .code yX2_bill cX2_bill 2 (some .long) :: ((wsX2_bill_r1 ++ (wsX2_bill_r2 ++ wsX2_bill_r3)) ++ wsX20)
def wsX2_makeUpLeft_r1 : List Cond := [Cond.fieldLink RX2 49 "MakeupGasModel" "makeUpLeft" "[I", Cond.methodLink RX2 126 yX2_isClosed, Cond.instanceMethod yX2_isClosed, Cond.selects RX2 yX2_isClosed yX2_isClosed, Cond.initialized RX2, Cond.code yX2_isClosed cX2_isClosed 2 (some .boolean), Cond.fieldLink RX2 80 "MakeupGasModel" "closed" "I", Cond.methodLink RX2 105 yX2_isYear, Cond.static yX2_isYear, Cond.code yX2_isYear cX2_isYear 1 (some .boolean), Cond.methodLink RX2 67 yX2_isIn, Cond.static yX2_isIn, Cond.code yX2_isIn cX2_isIn 3 (some .boolean), Cond.methodLink RX2 101 yX2_holds, Cond.instanceMethod yX2_holds, Cond.selects RX2 yX2_holds yX2_holds, Cond.code yX2_holds cX2_holds 2 (some .boolean), Cond.fieldLink RX2 64 "MakeupGasModel" "thrown" "I", Cond.methodLink RX2 97 yX2_goesThrough, Cond.instanceMethod yX2_goesThrough, Cond.selects RX2 yX2_goesThrough yX2_goesThrough, Cond.code yX2_goesThrough cX2_goesThrough 3 none, Cond.fieldLink RX2 73 "MakeupGasModel" "lapsed" "I", Cond.fieldLink RX2 43 "MakeupGasModel" "shortfalls" "[I"]
def wsX2_makeUpLeft_r2 : List Cond := [Cond.fieldLink RX2 46 "MakeupGasModel" "surpluses" "[I", Cond.fieldLink RX2 52 "MakeupGasModel" "surplusLeft" "[I", Cond.fieldLink RX2 55 "MakeupGasModel" "madeUp" "[I", Cond.fieldLink RX2 58 "MakeupGasModel" "covered" "[I", Cond.fieldLink RX2 36 "MakeupGasModel" "taken" "[I", Cond.methodLink RX2 83 yX2_lapses, Cond.instanceMethod yX2_lapses, Cond.selects RX2 yX2_lapses yX2_lapses, Cond.code yX2_lapses cX2_lapses 3 none, Cond.fieldLink RX2 20 "MakeupGasModel" "makeUpYears" "I", Cond.fieldLink RX2 23 "MakeupGasModel" "surplusYears" "I", Cond.methodLink RX2 87 yX2_leastOf, Cond.instanceMethod yX2_leastOf, Cond.selects RX2 yX2_leastOf yX2_leastOf, Cond.code yX2_leastOf cX2_leastOf 2 (some .int), Cond.fieldLink RX2 8 "MakeupGasModel" "quantity" "I", Cond.fieldLink RX2 14 "MakeupGasModel" "percent" "I", Cond.fieldLink RX2 30 "MakeupGasModel" "excused" "[I", Cond.constantLong RX2 71 (36000), Cond.methodLink RX2 90 yX2_covers, Cond.instanceMethod yX2_covers, Cond.selects RX2 yX2_covers yX2_covers, Cond.code yX2_covers cX2_covers 6 none, Cond.fieldLink RX2 61 "MakeupGasModel" "dues" "[J"]
def wsX2_makeUpLeft_r3 : List Cond := [Cond.fieldLink RX2 26 "MakeupGasModel" "prices" "[I", Cond.methodLink RX2 76 yX2_shortfallPrice, Cond.instanceMethod yX2_shortfallPrice, Cond.selects RX2 yX2_shortfallPrice yX2_shortfallPrice, Cond.code yX2_shortfallPrice cX2_shortfallPrice 2 (some .int), Cond.fieldLink RX2 17 "MakeupGasModel" "share" "I", Cond.methodLink RX2 94 yX2_makesUp, Cond.instanceMethod yX2_makesUp, Cond.selects RX2 yX2_makesUp yX2_makesUp, Cond.code yX2_makesUp cX2_makesUp 9 none]
def wsX2_makeUpLeft : List Cond := .code yX2_makeUpLeft cX2_makeUpLeft 2 (some .int) :: ((wsX2_makeUpLeft_r1 ++ (wsX2_makeUpLeft_r2 ++ wsX2_makeUpLeft_r3)) ++ wsX20)
def wsX2_surplusLeft_r1 : List Cond := [Cond.fieldLink RX2 52 "MakeupGasModel" "surplusLeft" "[I", Cond.methodLink RX2 126 yX2_isClosed, Cond.instanceMethod yX2_isClosed, Cond.selects RX2 yX2_isClosed yX2_isClosed, Cond.initialized RX2, Cond.code yX2_isClosed cX2_isClosed 2 (some .boolean), Cond.fieldLink RX2 80 "MakeupGasModel" "closed" "I", Cond.methodLink RX2 105 yX2_isYear, Cond.static yX2_isYear, Cond.code yX2_isYear cX2_isYear 1 (some .boolean), Cond.methodLink RX2 67 yX2_isIn, Cond.static yX2_isIn, Cond.code yX2_isIn cX2_isIn 3 (some .boolean), Cond.methodLink RX2 101 yX2_holds, Cond.instanceMethod yX2_holds, Cond.selects RX2 yX2_holds yX2_holds, Cond.code yX2_holds cX2_holds 2 (some .boolean), Cond.fieldLink RX2 64 "MakeupGasModel" "thrown" "I", Cond.methodLink RX2 97 yX2_goesThrough, Cond.instanceMethod yX2_goesThrough, Cond.selects RX2 yX2_goesThrough yX2_goesThrough, Cond.code yX2_goesThrough cX2_goesThrough 3 none, Cond.fieldLink RX2 73 "MakeupGasModel" "lapsed" "I", Cond.fieldLink RX2 43 "MakeupGasModel" "shortfalls" "[I"]
def wsX2_surplusLeft_r2 : List Cond := [Cond.fieldLink RX2 46 "MakeupGasModel" "surpluses" "[I", Cond.fieldLink RX2 49 "MakeupGasModel" "makeUpLeft" "[I", Cond.fieldLink RX2 55 "MakeupGasModel" "madeUp" "[I", Cond.fieldLink RX2 58 "MakeupGasModel" "covered" "[I", Cond.fieldLink RX2 36 "MakeupGasModel" "taken" "[I", Cond.methodLink RX2 83 yX2_lapses, Cond.instanceMethod yX2_lapses, Cond.selects RX2 yX2_lapses yX2_lapses, Cond.code yX2_lapses cX2_lapses 3 none, Cond.fieldLink RX2 20 "MakeupGasModel" "makeUpYears" "I", Cond.fieldLink RX2 23 "MakeupGasModel" "surplusYears" "I", Cond.methodLink RX2 87 yX2_leastOf, Cond.instanceMethod yX2_leastOf, Cond.selects RX2 yX2_leastOf yX2_leastOf, Cond.code yX2_leastOf cX2_leastOf 2 (some .int), Cond.fieldLink RX2 8 "MakeupGasModel" "quantity" "I", Cond.fieldLink RX2 14 "MakeupGasModel" "percent" "I", Cond.fieldLink RX2 30 "MakeupGasModel" "excused" "[I", Cond.constantLong RX2 71 (36000), Cond.methodLink RX2 90 yX2_covers, Cond.instanceMethod yX2_covers, Cond.selects RX2 yX2_covers yX2_covers, Cond.code yX2_covers cX2_covers 6 none, Cond.fieldLink RX2 61 "MakeupGasModel" "dues" "[J"]
def wsX2_surplusLeft_r3 : List Cond := [Cond.fieldLink RX2 26 "MakeupGasModel" "prices" "[I", Cond.methodLink RX2 76 yX2_shortfallPrice, Cond.instanceMethod yX2_shortfallPrice, Cond.selects RX2 yX2_shortfallPrice yX2_shortfallPrice, Cond.code yX2_shortfallPrice cX2_shortfallPrice 2 (some .int), Cond.fieldLink RX2 17 "MakeupGasModel" "share" "I", Cond.methodLink RX2 94 yX2_makesUp, Cond.instanceMethod yX2_makesUp, Cond.selects RX2 yX2_makesUp yX2_makesUp, Cond.code yX2_makesUp cX2_makesUp 9 none]
def wsX2_surplusLeft : List Cond := .code yX2_surplusLeft cX2_surplusLeft 2 (some .int) :: ((wsX2_surplusLeft_r1 ++ (wsX2_surplusLeft_r2 ++ wsX2_surplusLeft_r3)) ++ wsX20)
def wsX2_lapsed_r1 : List Cond := [Cond.fieldLink RX2 64 "MakeupGasModel" "thrown" "I", Cond.fieldLink RX2 73 "MakeupGasModel" "lapsed" "I", Cond.methodLink RX2 97 yX2_goesThrough, Cond.instanceMethod yX2_goesThrough, Cond.selects RX2 yX2_goesThrough yX2_goesThrough, Cond.initialized RX2, Cond.code yX2_goesThrough cX2_goesThrough 3 none, Cond.fieldLink RX2 80 "MakeupGasModel" "closed" "I", Cond.fieldLink RX2 43 "MakeupGasModel" "shortfalls" "[I", Cond.fieldLink RX2 46 "MakeupGasModel" "surpluses" "[I", Cond.fieldLink RX2 49 "MakeupGasModel" "makeUpLeft" "[I", Cond.fieldLink RX2 52 "MakeupGasModel" "surplusLeft" "[I", Cond.fieldLink RX2 55 "MakeupGasModel" "madeUp" "[I", Cond.fieldLink RX2 58 "MakeupGasModel" "covered" "[I", Cond.fieldLink RX2 36 "MakeupGasModel" "taken" "[I", Cond.methodLink RX2 83 yX2_lapses, Cond.instanceMethod yX2_lapses, Cond.selects RX2 yX2_lapses yX2_lapses, Cond.code yX2_lapses cX2_lapses 3 none, Cond.fieldLink RX2 20 "MakeupGasModel" "makeUpYears" "I", Cond.fieldLink RX2 23 "MakeupGasModel" "surplusYears" "I", Cond.methodLink RX2 87 yX2_leastOf, Cond.instanceMethod yX2_leastOf, Cond.selects RX2 yX2_leastOf yX2_leastOf]
def wsX2_lapsed_r2 : List Cond := [Cond.code yX2_leastOf cX2_leastOf 2 (some .int), Cond.fieldLink RX2 8 "MakeupGasModel" "quantity" "I", Cond.fieldLink RX2 14 "MakeupGasModel" "percent" "I", Cond.fieldLink RX2 30 "MakeupGasModel" "excused" "[I", Cond.constantLong RX2 71 (36000), Cond.methodLink RX2 90 yX2_covers, Cond.instanceMethod yX2_covers, Cond.selects RX2 yX2_covers yX2_covers, Cond.code yX2_covers cX2_covers 6 none, Cond.fieldLink RX2 61 "MakeupGasModel" "dues" "[J", Cond.fieldLink RX2 26 "MakeupGasModel" "prices" "[I", Cond.methodLink RX2 76 yX2_shortfallPrice, Cond.instanceMethod yX2_shortfallPrice, Cond.selects RX2 yX2_shortfallPrice yX2_shortfallPrice, Cond.code yX2_shortfallPrice cX2_shortfallPrice 2 (some .int), Cond.fieldLink RX2 17 "MakeupGasModel" "share" "I", Cond.methodLink RX2 94 yX2_makesUp, Cond.instanceMethod yX2_makesUp, Cond.selects RX2 yX2_makesUp yX2_makesUp, Cond.code yX2_makesUp cX2_makesUp 9 none]
def wsX2_lapsed : List Cond := .code yX2_lapsed cX2_lapsed 1 (some .int) :: ((wsX2_lapsed_r1 ++ wsX2_lapsed_r2) ++ wsX20)
def wsX2_open_r1 : List Cond := [Cond.fieldLink RX2 64 "MakeupGasModel" "thrown" "I", Cond.methodLink RX2 122 yX2_openNow, Cond.instanceMethod yX2_openNow, Cond.selects RX2 yX2_openNow yX2_openNow, Cond.initialized RX2, Cond.code yX2_openNow cX2_openNow 4 (some .long), Cond.fieldLink RX2 80 "MakeupGasModel" "closed" "I", Cond.fieldLink RX2 61 "MakeupGasModel" "dues" "[J", Cond.fieldLink RX2 39 "MakeupGasModel" "bills" "[J", Cond.methodLink RX2 97 yX2_goesThrough, Cond.instanceMethod yX2_goesThrough, Cond.selects RX2 yX2_goesThrough yX2_goesThrough, Cond.code yX2_goesThrough cX2_goesThrough 3 none, Cond.fieldLink RX2 73 "MakeupGasModel" "lapsed" "I", Cond.fieldLink RX2 43 "MakeupGasModel" "shortfalls" "[I", Cond.fieldLink RX2 46 "MakeupGasModel" "surpluses" "[I", Cond.fieldLink RX2 49 "MakeupGasModel" "makeUpLeft" "[I", Cond.fieldLink RX2 52 "MakeupGasModel" "surplusLeft" "[I", Cond.fieldLink RX2 55 "MakeupGasModel" "madeUp" "[I", Cond.fieldLink RX2 58 "MakeupGasModel" "covered" "[I", Cond.fieldLink RX2 36 "MakeupGasModel" "taken" "[I", Cond.methodLink RX2 83 yX2_lapses, Cond.instanceMethod yX2_lapses, Cond.selects RX2 yX2_lapses yX2_lapses]
def wsX2_open_r2 : List Cond := [Cond.code yX2_lapses cX2_lapses 3 none, Cond.fieldLink RX2 20 "MakeupGasModel" "makeUpYears" "I", Cond.fieldLink RX2 23 "MakeupGasModel" "surplusYears" "I", Cond.methodLink RX2 87 yX2_leastOf, Cond.instanceMethod yX2_leastOf, Cond.selects RX2 yX2_leastOf yX2_leastOf, Cond.code yX2_leastOf cX2_leastOf 2 (some .int), Cond.fieldLink RX2 8 "MakeupGasModel" "quantity" "I", Cond.fieldLink RX2 14 "MakeupGasModel" "percent" "I", Cond.fieldLink RX2 30 "MakeupGasModel" "excused" "[I", Cond.constantLong RX2 71 (36000), Cond.methodLink RX2 90 yX2_covers, Cond.instanceMethod yX2_covers, Cond.selects RX2 yX2_covers yX2_covers, Cond.code yX2_covers cX2_covers 6 none, Cond.fieldLink RX2 26 "MakeupGasModel" "prices" "[I", Cond.methodLink RX2 76 yX2_shortfallPrice, Cond.instanceMethod yX2_shortfallPrice, Cond.selects RX2 yX2_shortfallPrice yX2_shortfallPrice, Cond.code yX2_shortfallPrice cX2_shortfallPrice 2 (some .int), Cond.fieldLink RX2 17 "MakeupGasModel" "share" "I", Cond.methodLink RX2 94 yX2_makesUp, Cond.instanceMethod yX2_makesUp, Cond.selects RX2 yX2_makesUp yX2_makesUp]
def wsX2_open_r3 : List Cond := [Cond.code yX2_makesUp cX2_makesUp 9 none]
def wsX2_open : List Cond := .code yX2_open cX2_open 1 (some .long) :: ((wsX2_open_r1 ++ (wsX2_open_r2 ++ wsX2_open_r3)) ++ wsX20)
def wsJ9_max_7cf53 : List Cond := .code yJ9_max_7cf53 cJ9_max_7cf53 2 (some .int) :: ([])
def wsJ9_min_7cf53 : List Cond := .code yJ9_min_7cf53 cJ9_min_7cf53 2 (some .int) :: ([])
def wsL_set_r1 : List Cond := [Cond.classLink RL 13 "java/lang/IllegalArgumentException", Cond.classLink RL 15 "java/lang/IllegalStateException", Cond.methodLink RL 7 yX1_set, Cond.instanceMethod yX1_set, Cond.selects RX1 yX1_set yX1_set, Cond.initialized RX1, Cond.code yX1_set cX1_set 6 none, Cond.constant RX1 70 (100000), Cond.fieldLink RX1 10 "MakeupGas" "yearlyQuantity" "I", Cond.fieldLink RX1 14 "MakeupGas" "leastPercent" "I", Cond.fieldLink RX1 17 "MakeupGas" "shortfallPercent" "I", Cond.fieldLink RX1 44 "MakeupGas" "makeUpStock" "LMakeupGas$Stock;", Cond.fieldLink RX1 48 "MakeupGas" "surplusStock" "LMakeupGas$Stock;", Cond.methodLink RX1 71 yX1_requireRange, Cond.static yX1_requireRange, Cond.code yX1_requireRange cX1_requireRange 3 none, Cond.classLink RX1 128 "java/lang/IllegalArgumentException", Cond.initialized "java/lang/IllegalArgumentException", Cond.methodLink RX1 75 yX1_requireUnused, Cond.instanceMethod yX1_requireUnused, Cond.selects RX1 yX1_requireUnused yX1_requireUnused, Cond.code yX1_requireUnused cX1_requireUnused 1 none, Cond.classLink RX1 135 "java/lang/IllegalStateException", Cond.initialized "java/lang/IllegalStateException"]
def wsL_set_r2 : List Cond := [Cond.fieldLink RX1 103 "MakeupGas" "closedYears" "I", Cond.fieldLink RX1 36 "MakeupGas" "takenPerYear" "[I", Cond.methodLink RX1 78 yX0_keepFor, Cond.instanceMethod yX0_keepFor, Cond.selects RX0 yX0_keepFor yX0_keepFor, Cond.initialized RX0, Cond.code yX0_keepFor cX0_keepFor 2 none, Cond.fieldLink RX0 15 "MakeupGas$Stock" "yearsKept" "I"]
def wsL_set : List Cond := .codeWith yL_set cL_set 7 (some .int) [(0, 11, 14, 13), (0, 11, 18, 15)] :: ((wsL_set_r1 ++ wsL_set_r2) ++ wsX10 ++ wsX00 ++ (vx_atS RX1 132 "java/lang/IllegalArgumentException" ["java/lang/RuntimeException", "java/lang/Exception"]).filter goodWord ++ (vx_atS RX1 139 "java/lang/IllegalStateException" ["java/lang/RuntimeException", "java/lang/Exception"]).filter goodWord)
def wsL_review_r1 : List Cond := [Cond.classLink RL 13 "java/lang/IllegalArgumentException", Cond.methodLink RL 17 yX1_review, Cond.instanceMethod yX1_review, Cond.selects RX1 yX1_review yX1_review, Cond.initialized RX1, Cond.code yX1_review cX1_review 5 (some .int), Cond.fieldLink RX1 20 "MakeupGas" "pricePerYear" "[I", Cond.methodLink RX1 81 yX1_requireYear, Cond.static yX1_requireYear, Cond.code yX1_requireYear cX1_requireYear 1 none, Cond.methodLink RX1 71 yX1_requireRange, Cond.static yX1_requireRange, Cond.code yX1_requireRange cX1_requireRange 3 none, Cond.classLink RX1 128 "java/lang/IllegalArgumentException", Cond.initialized "java/lang/IllegalArgumentException", Cond.methodLink RX1 84 yX1_settleClosedYears, Cond.instanceMethod yX1_settleClosedYears, Cond.selects RX1 yX1_settleClosedYears yX1_settleClosedYears, Cond.code yX1_settleClosedYears cX1_settleClosedYears 2 none, Cond.fieldLink RX1 44 "MakeupGas" "makeUpStock" "LMakeupGas$Stock;", Cond.fieldLink RX1 48 "MakeupGas" "surplusStock" "LMakeupGas$Stock;", Cond.fieldLink RX1 103 "MakeupGas" "closedYears" "I", Cond.fieldLink RX1 36 "MakeupGas" "takenPerYear" "[I", Cond.methodLink RX1 148 yX0_empty]
def wsL_review_r2 : List Cond := [Cond.instanceMethod yX0_empty, Cond.selects RX0 yX0_empty yX0_empty, Cond.initialized RX0, Cond.code yX0_empty cX0_empty 1 none, Cond.fieldLink RX0 9 "MakeupGas$Stock" "left" "[I", Cond.fieldLink RX0 25 "MakeupGas$Stock" "lapsedSum" "I", Cond.methodLink RX0 19 yJ7_fill_53178, Cond.static yJ7_fill_53178, Cond.initialized RJ7, Cond.code yJ7_fill_53178 cJ7_fill_53178 4 none, Cond.methodLink RX1 151 yX0_lapseBefore, Cond.instanceMethod yX0_lapseBefore, Cond.selects RX0 yX0_lapseBefore yX0_lapseBefore, Cond.code yX0_lapseBefore cX0_lapseBefore 3 none, Cond.fieldLink RX0 15 "MakeupGas$Stock" "yearsKept" "I", Cond.methodLink RX1 114 yX1_leastQuantity, Cond.instanceMethod yX1_leastQuantity, Cond.selects RX1 yX1_leastQuantity yX1_leastQuantity, Cond.code yX1_leastQuantity cX1_leastQuantity 4 (some .int), Cond.fieldLink RX1 10 "MakeupGas" "yearlyQuantity" "I", Cond.fieldLink RX1 14 "MakeupGas" "leastPercent" "I", Cond.fieldLink RX1 30 "MakeupGas" "excusedDays" "[I", Cond.constantLong RX1 146 (36000), Cond.methodLink RX1 154 yX1_settleGap]
def wsL_review_r3 : List Cond := [Cond.instanceMethod yX1_settleGap, Cond.selects RX1 yX1_settleGap yX1_settleGap, Cond.code yX1_settleGap cX1_settleGap 5 none, Cond.fieldLink RX1 57 "MakeupGas" "coveredPerYear" "[I", Cond.fieldLink RX1 51 "MakeupGas" "shortfallPerYear" "[I", Cond.fieldLink RX1 54 "MakeupGas" "madeUpPerYear" "[I", Cond.fieldLink RX1 60 "MakeupGas" "surplusPerYear" "[I", Cond.fieldLink RX1 63 "MakeupGas" "duePerYear" "[J", Cond.methodLink RX1 160 yX1_drawSurplus, Cond.instanceMethod yX1_drawSurplus, Cond.selects RX1 yX1_drawSurplus yX1_drawSurplus, Cond.code yX1_drawSurplus cX1_drawSurplus 5 (some .int), Cond.methodLink RX1 170 yX0_drawFrom, Cond.instanceMethod yX0_drawFrom, Cond.selects RX0 yX0_drawFrom yX0_drawFrom, Cond.code yX0_drawFrom cX0_drawFrom 4 (some .int), Cond.methodLink RX0 28 Lib.Math.min.name, Cond.static Lib.Math.min.name, Cond.initialized "java/lang/Math", Cond.code Lib.Math.min.name Lib.Math.min.code 2 (some .int), Cond.methodLink RX1 164 yX0_put, Cond.instanceMethod yX0_put, Cond.selects RX0 yX0_put yX0_put, Cond.code yX0_put cX0_put 3 none]
def wsL_review_r4 : List Cond := [Cond.methodLink RX1 167 yX1_shortfallPrice, Cond.instanceMethod yX1_shortfallPrice, Cond.selects RX1 yX1_shortfallPrice yX1_shortfallPrice, Cond.code yX1_shortfallPrice cX1_shortfallPrice 2 (some .int), Cond.fieldLink RX1 17 "MakeupGas" "shortfallPercent" "I", Cond.methodLink RX1 157 yX1_settleEnough, Cond.instanceMethod yX1_settleEnough, Cond.selects RX1 yX1_settleEnough yX1_settleEnough, Cond.code yX1_settleEnough cX1_settleEnough 8 none, Cond.methodLink RX1 173 Lib.Math.max.name, Cond.static Lib.Math.max.name, Cond.code Lib.Math.max.name Lib.Math.max.code 2 (some .int)]
def wsL_review : List Cond := .codeWith yL_review cL_review 5 (some .int) [(0, 10, 13, 13)] :: ((wsL_review_r1 ++ (wsL_review_r2 ++ (wsL_review_r3 ++ wsL_review_r4))) ++ wsX10 ++ wsX00 ++ (vx_atS RX1 132 "java/lang/IllegalArgumentException" ["java/lang/RuntimeException", "java/lang/Exception"]).filter goodWord)
def wsL_excuse_r1 : List Cond := [Cond.classLink RL 13 "java/lang/IllegalArgumentException", Cond.methodLink RL 21 yX1_excuse, Cond.instanceMethod yX1_excuse, Cond.selects RX1 yX1_excuse yX1_excuse, Cond.initialized RX1, Cond.code yX1_excuse cX1_excuse 4 (some .int), Cond.fieldLink RX1 30 "MakeupGas" "excusedDays" "[I", Cond.methodLink RX1 81 yX1_requireYear, Cond.static yX1_requireYear, Cond.code yX1_requireYear cX1_requireYear 1 none, Cond.methodLink RX1 71 yX1_requireRange, Cond.static yX1_requireRange, Cond.code yX1_requireRange cX1_requireRange 3 none, Cond.classLink RX1 128 "java/lang/IllegalArgumentException", Cond.initialized "java/lang/IllegalArgumentException", Cond.methodLink RX1 84 yX1_settleClosedYears, Cond.instanceMethod yX1_settleClosedYears, Cond.selects RX1 yX1_settleClosedYears yX1_settleClosedYears, Cond.code yX1_settleClosedYears cX1_settleClosedYears 2 none, Cond.fieldLink RX1 44 "MakeupGas" "makeUpStock" "LMakeupGas$Stock;", Cond.fieldLink RX1 48 "MakeupGas" "surplusStock" "LMakeupGas$Stock;", Cond.fieldLink RX1 103 "MakeupGas" "closedYears" "I", Cond.fieldLink RX1 36 "MakeupGas" "takenPerYear" "[I", Cond.methodLink RX1 148 yX0_empty]
def wsL_excuse_r2 : List Cond := [Cond.instanceMethod yX0_empty, Cond.selects RX0 yX0_empty yX0_empty, Cond.initialized RX0, Cond.code yX0_empty cX0_empty 1 none, Cond.fieldLink RX0 9 "MakeupGas$Stock" "left" "[I", Cond.fieldLink RX0 25 "MakeupGas$Stock" "lapsedSum" "I", Cond.methodLink RX0 19 yJ7_fill_53178, Cond.static yJ7_fill_53178, Cond.initialized RJ7, Cond.code yJ7_fill_53178 cJ7_fill_53178 4 none, Cond.methodLink RX1 151 yX0_lapseBefore, Cond.instanceMethod yX0_lapseBefore, Cond.selects RX0 yX0_lapseBefore yX0_lapseBefore, Cond.code yX0_lapseBefore cX0_lapseBefore 3 none, Cond.fieldLink RX0 15 "MakeupGas$Stock" "yearsKept" "I", Cond.methodLink RX1 114 yX1_leastQuantity, Cond.instanceMethod yX1_leastQuantity, Cond.selects RX1 yX1_leastQuantity yX1_leastQuantity, Cond.code yX1_leastQuantity cX1_leastQuantity 4 (some .int), Cond.fieldLink RX1 10 "MakeupGas" "yearlyQuantity" "I", Cond.fieldLink RX1 14 "MakeupGas" "leastPercent" "I", Cond.constantLong RX1 146 (36000), Cond.methodLink RX1 154 yX1_settleGap, Cond.instanceMethod yX1_settleGap]
def wsL_excuse_r3 : List Cond := [Cond.selects RX1 yX1_settleGap yX1_settleGap, Cond.code yX1_settleGap cX1_settleGap 5 none, Cond.fieldLink RX1 57 "MakeupGas" "coveredPerYear" "[I", Cond.fieldLink RX1 51 "MakeupGas" "shortfallPerYear" "[I", Cond.fieldLink RX1 54 "MakeupGas" "madeUpPerYear" "[I", Cond.fieldLink RX1 60 "MakeupGas" "surplusPerYear" "[I", Cond.fieldLink RX1 63 "MakeupGas" "duePerYear" "[J", Cond.fieldLink RX1 20 "MakeupGas" "pricePerYear" "[I", Cond.methodLink RX1 160 yX1_drawSurplus, Cond.instanceMethod yX1_drawSurplus, Cond.selects RX1 yX1_drawSurplus yX1_drawSurplus, Cond.code yX1_drawSurplus cX1_drawSurplus 5 (some .int), Cond.methodLink RX1 170 yX0_drawFrom, Cond.instanceMethod yX0_drawFrom, Cond.selects RX0 yX0_drawFrom yX0_drawFrom, Cond.code yX0_drawFrom cX0_drawFrom 4 (some .int), Cond.methodLink RX0 28 Lib.Math.min.name, Cond.static Lib.Math.min.name, Cond.initialized "java/lang/Math", Cond.code Lib.Math.min.name Lib.Math.min.code 2 (some .int), Cond.methodLink RX1 164 yX0_put, Cond.instanceMethod yX0_put, Cond.selects RX0 yX0_put yX0_put, Cond.code yX0_put cX0_put 3 none]
def wsL_excuse_r4 : List Cond := [Cond.methodLink RX1 167 yX1_shortfallPrice, Cond.instanceMethod yX1_shortfallPrice, Cond.selects RX1 yX1_shortfallPrice yX1_shortfallPrice, Cond.code yX1_shortfallPrice cX1_shortfallPrice 2 (some .int), Cond.fieldLink RX1 17 "MakeupGas" "shortfallPercent" "I", Cond.methodLink RX1 157 yX1_settleEnough, Cond.instanceMethod yX1_settleEnough, Cond.selects RX1 yX1_settleEnough yX1_settleEnough, Cond.code yX1_settleEnough cX1_settleEnough 8 none, Cond.methodLink RX1 173 Lib.Math.max.name, Cond.static Lib.Math.max.name, Cond.code Lib.Math.max.name Lib.Math.max.code 2 (some .int)]
def wsL_excuse : List Cond := .codeWith yL_excuse cL_excuse 5 (some .int) [(0, 10, 13, 13)] :: ((wsL_excuse_r1 ++ (wsL_excuse_r2 ++ (wsL_excuse_r3 ++ wsL_excuse_r4))) ++ wsX10 ++ wsX00 ++ (vx_atS RX1 132 "java/lang/IllegalArgumentException" ["java/lang/RuntimeException", "java/lang/Exception"]).filter goodWord)
def wsL_take_r1 : List Cond := [Cond.classLink RL 13 "java/lang/IllegalArgumentException", Cond.classLink RL 15 "java/lang/IllegalStateException", Cond.methodLink RL 24 yX1_take, Cond.instanceMethod yX1_take, Cond.selects RX1 yX1_take yX1_take, Cond.initialized RX1, Cond.code yX1_take cX1_take 3 (some .int), Cond.fieldLink RX1 33 "MakeupGas" "takenPerDay" "[I", Cond.methodLink RX1 87 yX1_requireDay, Cond.static yX1_requireDay, Cond.code yX1_requireDay cX1_requireDay 1 none, Cond.methodLink RX1 71 yX1_requireRange, Cond.static yX1_requireRange, Cond.code yX1_requireRange cX1_requireRange 3 none, Cond.classLink RX1 128 "java/lang/IllegalArgumentException", Cond.initialized "java/lang/IllegalArgumentException", Cond.methodLink RX1 90 yX1_requireYearGoingOn, Cond.instanceMethod yX1_requireYearGoingOn, Cond.selects RX1 yX1_requireYearGoingOn yX1_requireYearGoingOn, Cond.code yX1_requireYearGoingOn cX1_requireYearGoingOn 1 none, Cond.classLink RX1 135 "java/lang/IllegalStateException", Cond.initialized "java/lang/IllegalStateException", Cond.fieldLink RX1 103 "MakeupGas" "closedYears" "I", Cond.methodLink RX1 93 yX1_requireRoom]
def wsL_take_r2 : List Cond := [Cond.instanceMethod yX1_requireRoom, Cond.selects RX1 yX1_requireRoom yX1_requireRoom, Cond.code yX1_requireRoom cX1_requireRoom 5 none, Cond.methodLink RX1 96 yX1_addTakes, Cond.instanceMethod yX1_addTakes, Cond.selects RX1 yX1_addTakes yX1_addTakes, Cond.code yX1_addTakes cX1_addTakes 5 none, Cond.fieldLink RX1 36 "MakeupGas" "takenPerYear" "[I"]
def wsL_take : List Cond := .codeWith yL_take cL_take 5 (some .int) [(0, 10, 13, 13), (0, 10, 17, 15)] :: ((wsL_take_r1 ++ wsL_take_r2) ++ wsX10 ++ (vx_atS RX1 132 "java/lang/IllegalArgumentException" ["java/lang/RuntimeException", "java/lang/Exception"]).filter goodWord ++ (vx_atS RX1 139 "java/lang/IllegalStateException" ["java/lang/RuntimeException", "java/lang/Exception"]).filter goodWord)
def wsL_takeDaily_r1 : List Cond := [Cond.classLink RL 13 "java/lang/IllegalArgumentException", Cond.classLink RL 15 "java/lang/IllegalStateException", Cond.methodLink RL 27 yX1_takeDaily, Cond.instanceMethod yX1_takeDaily, Cond.selects RX1 yX1_takeDaily yX1_takeDaily, Cond.initialized RX1, Cond.code yX1_takeDaily cX1_takeDaily 4 (some .int), Cond.fieldLink RX1 36 "MakeupGas" "takenPerYear" "[I", Cond.fieldLink RX1 103 "MakeupGas" "closedYears" "I", Cond.methodLink RX1 99 yX1_requireDays, Cond.static yX1_requireDays, Cond.code yX1_requireDays cX1_requireDays 2 none, Cond.methodLink RX1 87 yX1_requireDay, Cond.static yX1_requireDay, Cond.code yX1_requireDay cX1_requireDay 1 none, Cond.methodLink RX1 71 yX1_requireRange, Cond.static yX1_requireRange, Cond.code yX1_requireRange cX1_requireRange 3 none, Cond.classLink RX1 128 "java/lang/IllegalArgumentException", Cond.initialized "java/lang/IllegalArgumentException", Cond.methodLink RX1 90 yX1_requireYearGoingOn, Cond.instanceMethod yX1_requireYearGoingOn, Cond.selects RX1 yX1_requireYearGoingOn yX1_requireYearGoingOn, Cond.code yX1_requireYearGoingOn cX1_requireYearGoingOn 1 none]
def wsL_takeDaily_r2 : List Cond := [Cond.classLink RX1 135 "java/lang/IllegalStateException", Cond.initialized "java/lang/IllegalStateException", Cond.methodLink RX1 93 yX1_requireRoom, Cond.instanceMethod yX1_requireRoom, Cond.selects RX1 yX1_requireRoom yX1_requireRoom, Cond.code yX1_requireRoom cX1_requireRoom 5 none, Cond.fieldLink RX1 33 "MakeupGas" "takenPerDay" "[I", Cond.methodLink RX1 96 yX1_addTakes, Cond.instanceMethod yX1_addTakes, Cond.selects RX1 yX1_addTakes yX1_addTakes, Cond.code yX1_addTakes cX1_addTakes 5 none]
def wsL_takeDaily : List Cond := .codeWith yL_takeDaily cL_takeDaily 6 (some .int) [(0, 12, 15, 13), (0, 12, 19, 15)] :: ((wsL_takeDaily_r1 ++ wsL_takeDaily_r2) ++ wsX10 ++ (vx_atS RX1 132 "java/lang/IllegalArgumentException" ["java/lang/RuntimeException", "java/lang/Exception"]).filter goodWord ++ (vx_atS RX1 139 "java/lang/IllegalStateException" ["java/lang/RuntimeException", "java/lang/Exception"]).filter goodWord)
def wsL_close_r1 : List Cond := [Cond.classLink RL 15 "java/lang/IllegalStateException", Cond.methodLink RL 31 yX1_close, Cond.instanceMethod yX1_close, Cond.selects RX1 yX1_close yX1_close, Cond.initialized RX1, Cond.code yX1_close cX1_close 4 (some .long), Cond.fieldLink RX1 103 "MakeupGas" "closedYears" "I", Cond.fieldLink RX1 33 "MakeupGas" "takenPerDay" "[I", Cond.fieldLink RX1 110 "MakeupGas" "billedInAll" "J", Cond.fieldLink RX1 67 "MakeupGas" "billPerYear" "[J", Cond.methodLink RX1 90 yX1_requireYearGoingOn, Cond.instanceMethod yX1_requireYearGoingOn, Cond.selects RX1 yX1_requireYearGoingOn yX1_requireYearGoingOn, Cond.code yX1_requireYearGoingOn cX1_requireYearGoingOn 1 none, Cond.classLink RX1 135 "java/lang/IllegalStateException", Cond.initialized "java/lang/IllegalStateException", Cond.methodLink RX1 24 yJ7_fill_53178, Cond.static yJ7_fill_53178, Cond.initialized RJ7, Cond.code yJ7_fill_53178 cJ7_fill_53178 4 none, Cond.methodLink RX1 84 yX1_settleClosedYears, Cond.instanceMethod yX1_settleClosedYears, Cond.selects RX1 yX1_settleClosedYears yX1_settleClosedYears, Cond.code yX1_settleClosedYears cX1_settleClosedYears 2 none]
def wsL_close_r2 : List Cond := [Cond.fieldLink RX1 44 "MakeupGas" "makeUpStock" "LMakeupGas$Stock;", Cond.fieldLink RX1 48 "MakeupGas" "surplusStock" "LMakeupGas$Stock;", Cond.fieldLink RX1 36 "MakeupGas" "takenPerYear" "[I", Cond.methodLink RX1 148 yX0_empty, Cond.instanceMethod yX0_empty, Cond.selects RX0 yX0_empty yX0_empty, Cond.initialized RX0, Cond.code yX0_empty cX0_empty 1 none, Cond.fieldLink RX0 9 "MakeupGas$Stock" "left" "[I", Cond.fieldLink RX0 25 "MakeupGas$Stock" "lapsedSum" "I", Cond.methodLink RX0 19 yJ7_fill_53178, Cond.methodLink RX1 151 yX0_lapseBefore, Cond.instanceMethod yX0_lapseBefore, Cond.selects RX0 yX0_lapseBefore yX0_lapseBefore, Cond.code yX0_lapseBefore cX0_lapseBefore 3 none, Cond.fieldLink RX0 15 "MakeupGas$Stock" "yearsKept" "I", Cond.methodLink RX1 114 yX1_leastQuantity, Cond.instanceMethod yX1_leastQuantity, Cond.selects RX1 yX1_leastQuantity yX1_leastQuantity, Cond.code yX1_leastQuantity cX1_leastQuantity 4 (some .int), Cond.fieldLink RX1 10 "MakeupGas" "yearlyQuantity" "I", Cond.fieldLink RX1 14 "MakeupGas" "leastPercent" "I", Cond.fieldLink RX1 30 "MakeupGas" "excusedDays" "[I", Cond.constantLong RX1 146 (36000)]
def wsL_close_r3 : List Cond := [Cond.methodLink RX1 154 yX1_settleGap, Cond.instanceMethod yX1_settleGap, Cond.selects RX1 yX1_settleGap yX1_settleGap, Cond.code yX1_settleGap cX1_settleGap 5 none, Cond.fieldLink RX1 57 "MakeupGas" "coveredPerYear" "[I", Cond.fieldLink RX1 51 "MakeupGas" "shortfallPerYear" "[I", Cond.fieldLink RX1 54 "MakeupGas" "madeUpPerYear" "[I", Cond.fieldLink RX1 60 "MakeupGas" "surplusPerYear" "[I", Cond.fieldLink RX1 63 "MakeupGas" "duePerYear" "[J", Cond.fieldLink RX1 20 "MakeupGas" "pricePerYear" "[I", Cond.methodLink RX1 160 yX1_drawSurplus, Cond.instanceMethod yX1_drawSurplus, Cond.selects RX1 yX1_drawSurplus yX1_drawSurplus, Cond.code yX1_drawSurplus cX1_drawSurplus 5 (some .int), Cond.methodLink RX1 170 yX0_drawFrom, Cond.instanceMethod yX0_drawFrom, Cond.selects RX0 yX0_drawFrom yX0_drawFrom, Cond.code yX0_drawFrom cX0_drawFrom 4 (some .int), Cond.methodLink RX0 28 Lib.Math.min.name, Cond.static Lib.Math.min.name, Cond.initialized "java/lang/Math", Cond.code Lib.Math.min.name Lib.Math.min.code 2 (some .int), Cond.methodLink RX1 164 yX0_put, Cond.instanceMethod yX0_put]
def wsL_close_r4 : List Cond := [Cond.selects RX0 yX0_put yX0_put, Cond.code yX0_put cX0_put 3 none, Cond.methodLink RX1 167 yX1_shortfallPrice, Cond.instanceMethod yX1_shortfallPrice, Cond.selects RX1 yX1_shortfallPrice yX1_shortfallPrice, Cond.code yX1_shortfallPrice cX1_shortfallPrice 2 (some .int), Cond.fieldLink RX1 17 "MakeupGas" "shortfallPercent" "I", Cond.methodLink RX1 157 yX1_settleEnough, Cond.instanceMethod yX1_settleEnough, Cond.selects RX1 yX1_settleEnough yX1_settleEnough, Cond.code yX1_settleEnough cX1_settleEnough 8 none, Cond.methodLink RX1 173 Lib.Math.max.name, Cond.static Lib.Math.max.name, Cond.code Lib.Math.max.name Lib.Math.max.code 2 (some .int), Cond.methodLink RX1 106 yX1_dueInAll, Cond.instanceMethod yX1_dueInAll, Cond.selects RX1 yX1_dueInAll yX1_dueInAll, Cond.code yX1_dueInAll cX1_dueInAll 4 (some .long)]
def wsL_close : List Cond := .codeWith yL_close cL_close 3 (some .int) [(0, 7, 10, 15)] :: ((wsL_close_r1 ++ (wsL_close_r2 ++ (wsL_close_r3 ++ wsL_close_r4))) ++ wsX10 ++ wsX00 ++ (vx_atS RX1 139 "java/lang/IllegalStateException" ["java/lang/RuntimeException", "java/lang/Exception"]).filter goodWord)
def wsL_taken : List Cond := .codeWith yL_taken cL_taken 4 (some .int) [(0, 9, 12, 13)] :: ([.classLink RL 13 "java/lang/IllegalArgumentException", .methodLink RL 35 yX1_taken, .instanceMethod yX1_taken, .selects RX1 yX1_taken yX1_taken, .initialized RX1, .code yX1_taken cX1_taken 2 (some .int), .fieldLink RX1 36 "MakeupGas" "takenPerYear" "[I", .methodLink RX1 81 yX1_requireYear, .static yX1_requireYear, .code yX1_requireYear cX1_requireYear 1 none, .methodLink RX1 71 yX1_requireRange, .static yX1_requireRange, .code yX1_requireRange cX1_requireRange 3 none, .classLink RX1 128 "java/lang/IllegalArgumentException", .initialized "java/lang/IllegalArgumentException"] ++ wsX10 ++ (vx_atS RX1 132 "java/lang/IllegalArgumentException" ["java/lang/RuntimeException", "java/lang/Exception"]).filter goodWord)
def wsL_takenFrom : List Cond := .codeWith yL_takenFrom cL_takenFrom 5 (some .int) [(0, 10, 13, 13)] :: ([.classLink RL 13 "java/lang/IllegalArgumentException", .methodLink RL 39 yX1_takenFrom, .instanceMethod yX1_takenFrom, .selects RX1 yX1_takenFrom yX1_takenFrom, .initialized RX1, .code yX1_takenFrom cX1_takenFrom 5 (some .int), .fieldLink RX1 33 "MakeupGas" "takenPerDay" "[I", .methodLink RX1 99 yX1_requireDays, .static yX1_requireDays, .code yX1_requireDays cX1_requireDays 2 none, .methodLink RX1 87 yX1_requireDay, .static yX1_requireDay, .code yX1_requireDay cX1_requireDay 1 none, .methodLink RX1 71 yX1_requireRange, .static yX1_requireRange, .code yX1_requireRange cX1_requireRange 3 none, .classLink RX1 128 "java/lang/IllegalArgumentException", .initialized "java/lang/IllegalArgumentException"] ++ wsX10 ++ (vx_atS RX1 132 "java/lang/IllegalArgumentException" ["java/lang/RuntimeException", "java/lang/Exception"]).filter goodWord)
def wsL_price : List Cond := .codeWith yL_price cL_price 4 (some .int) [(0, 9, 12, 13)] :: ([.classLink RL 13 "java/lang/IllegalArgumentException", .methodLink RL 42 yX1_price, .instanceMethod yX1_price, .selects RX1 yX1_price yX1_price, .initialized RX1, .code yX1_price cX1_price 2 (some .int), .fieldLink RX1 20 "MakeupGas" "pricePerYear" "[I", .methodLink RX1 81 yX1_requireYear, .static yX1_requireYear, .code yX1_requireYear cX1_requireYear 1 none, .methodLink RX1 71 yX1_requireRange, .static yX1_requireRange, .code yX1_requireRange cX1_requireRange 3 none, .classLink RX1 128 "java/lang/IllegalArgumentException", .initialized "java/lang/IllegalArgumentException"] ++ wsX10 ++ (vx_atS RX1 132 "java/lang/IllegalArgumentException" ["java/lang/RuntimeException", "java/lang/Exception"]).filter goodWord)
def wsL_least : List Cond := .codeWith yL_least cL_least 4 (some .int) [(0, 9, 12, 13)] :: ([.classLink RL 13 "java/lang/IllegalArgumentException", .methodLink RL 45 yX1_least, .instanceMethod yX1_least, .selects RX1 yX1_least yX1_least, .initialized RX1, .code yX1_least cX1_least 2 (some .int), .methodLink RX1 81 yX1_requireYear, .static yX1_requireYear, .code yX1_requireYear cX1_requireYear 1 none, .methodLink RX1 71 yX1_requireRange, .static yX1_requireRange, .code yX1_requireRange cX1_requireRange 3 none, .classLink RX1 128 "java/lang/IllegalArgumentException", .initialized "java/lang/IllegalArgumentException", .methodLink RX1 114 yX1_leastQuantity, .instanceMethod yX1_leastQuantity, .selects RX1 yX1_leastQuantity yX1_leastQuantity, .code yX1_leastQuantity cX1_leastQuantity 4 (some .int), .fieldLink RX1 10 "MakeupGas" "yearlyQuantity" "I", .fieldLink RX1 14 "MakeupGas" "leastPercent" "I", .fieldLink RX1 30 "MakeupGas" "excusedDays" "[I", .constantLong RX1 146 (36000)] ++ wsX10 ++ (vx_atS RX1 132 "java/lang/IllegalArgumentException" ["java/lang/RuntimeException", "java/lang/Exception"]).filter goodWord)
def wsL_shortfall : List Cond := .codeWith yL_shortfall cL_shortfall 4 (some .int) [(0, 9, 12, 13), (0, 9, 15, 15)] :: ([.classLink RL 13 "java/lang/IllegalArgumentException", .classLink RL 15 "java/lang/IllegalStateException", .methodLink RL 48 yX1_shortfall, .instanceMethod yX1_shortfall, .selects RX1 yX1_shortfall yX1_shortfall, .initialized RX1, .code yX1_shortfall cX1_shortfall 2 (some .int), .fieldLink RX1 51 "MakeupGas" "shortfallPerYear" "[I", .methodLink RX1 118 yX1_requireClosedYear, .instanceMethod yX1_requireClosedYear, .selects RX1 yX1_requireClosedYear yX1_requireClosedYear, .code yX1_requireClosedYear cX1_requireClosedYear 2 none, .classLink RX1 135 "java/lang/IllegalStateException", .initialized "java/lang/IllegalStateException", .fieldLink RX1 103 "MakeupGas" "closedYears" "I", .methodLink RX1 81 yX1_requireYear, .static yX1_requireYear, .code yX1_requireYear cX1_requireYear 1 none, .methodLink RX1 71 yX1_requireRange, .static yX1_requireRange, .code yX1_requireRange cX1_requireRange 3 none, .classLink RX1 128 "java/lang/IllegalArgumentException", .initialized "java/lang/IllegalArgumentException"] ++ wsX10 ++ (vx_atS RX1 139 "java/lang/IllegalStateException" ["java/lang/RuntimeException", "java/lang/Exception"]).filter goodWord ++ (vx_atS RX1 132 "java/lang/IllegalArgumentException" ["java/lang/RuntimeException", "java/lang/Exception"]).filter goodWord)
def wsL_madeUp : List Cond := .codeWith yL_madeUp cL_madeUp 4 (some .int) [(0, 9, 12, 13), (0, 9, 15, 15)] :: ([.classLink RL 13 "java/lang/IllegalArgumentException", .classLink RL 15 "java/lang/IllegalStateException", .methodLink RL 51 yX1_madeUp, .instanceMethod yX1_madeUp, .selects RX1 yX1_madeUp yX1_madeUp, .initialized RX1, .code yX1_madeUp cX1_madeUp 2 (some .int), .fieldLink RX1 54 "MakeupGas" "madeUpPerYear" "[I", .methodLink RX1 118 yX1_requireClosedYear, .instanceMethod yX1_requireClosedYear, .selects RX1 yX1_requireClosedYear yX1_requireClosedYear, .code yX1_requireClosedYear cX1_requireClosedYear 2 none, .classLink RX1 135 "java/lang/IllegalStateException", .initialized "java/lang/IllegalStateException", .fieldLink RX1 103 "MakeupGas" "closedYears" "I", .methodLink RX1 81 yX1_requireYear, .static yX1_requireYear, .code yX1_requireYear cX1_requireYear 1 none, .methodLink RX1 71 yX1_requireRange, .static yX1_requireRange, .code yX1_requireRange cX1_requireRange 3 none, .classLink RX1 128 "java/lang/IllegalArgumentException", .initialized "java/lang/IllegalArgumentException"] ++ wsX10 ++ (vx_atS RX1 139 "java/lang/IllegalStateException" ["java/lang/RuntimeException", "java/lang/Exception"]).filter goodWord ++ (vx_atS RX1 132 "java/lang/IllegalArgumentException" ["java/lang/RuntimeException", "java/lang/Exception"]).filter goodWord)
def wsL_covered : List Cond := .codeWith yL_covered cL_covered 4 (some .int) [(0, 9, 12, 13), (0, 9, 15, 15)] :: ([.classLink RL 13 "java/lang/IllegalArgumentException", .classLink RL 15 "java/lang/IllegalStateException", .methodLink RL 54 yX1_covered, .instanceMethod yX1_covered, .selects RX1 yX1_covered yX1_covered, .initialized RX1, .code yX1_covered cX1_covered 2 (some .int), .fieldLink RX1 57 "MakeupGas" "coveredPerYear" "[I", .methodLink RX1 118 yX1_requireClosedYear, .instanceMethod yX1_requireClosedYear, .selects RX1 yX1_requireClosedYear yX1_requireClosedYear, .code yX1_requireClosedYear cX1_requireClosedYear 2 none, .classLink RX1 135 "java/lang/IllegalStateException", .initialized "java/lang/IllegalStateException", .fieldLink RX1 103 "MakeupGas" "closedYears" "I", .methodLink RX1 81 yX1_requireYear, .static yX1_requireYear, .code yX1_requireYear cX1_requireYear 1 none, .methodLink RX1 71 yX1_requireRange, .static yX1_requireRange, .code yX1_requireRange cX1_requireRange 3 none, .classLink RX1 128 "java/lang/IllegalArgumentException", .initialized "java/lang/IllegalArgumentException"] ++ wsX10 ++ (vx_atS RX1 139 "java/lang/IllegalStateException" ["java/lang/RuntimeException", "java/lang/Exception"]).filter goodWord ++ (vx_atS RX1 132 "java/lang/IllegalArgumentException" ["java/lang/RuntimeException", "java/lang/Exception"]).filter goodWord)
def wsL_surplus : List Cond := .codeWith yL_surplus cL_surplus 4 (some .int) [(0, 9, 12, 13), (0, 9, 15, 15)] :: ([.classLink RL 13 "java/lang/IllegalArgumentException", .classLink RL 15 "java/lang/IllegalStateException", .methodLink RL 57 yX1_surplus, .instanceMethod yX1_surplus, .selects RX1 yX1_surplus yX1_surplus, .initialized RX1, .code yX1_surplus cX1_surplus 2 (some .int), .fieldLink RX1 60 "MakeupGas" "surplusPerYear" "[I", .methodLink RX1 118 yX1_requireClosedYear, .instanceMethod yX1_requireClosedYear, .selects RX1 yX1_requireClosedYear yX1_requireClosedYear, .code yX1_requireClosedYear cX1_requireClosedYear 2 none, .classLink RX1 135 "java/lang/IllegalStateException", .initialized "java/lang/IllegalStateException", .fieldLink RX1 103 "MakeupGas" "closedYears" "I", .methodLink RX1 81 yX1_requireYear, .static yX1_requireYear, .code yX1_requireYear cX1_requireYear 1 none, .methodLink RX1 71 yX1_requireRange, .static yX1_requireRange, .code yX1_requireRange cX1_requireRange 3 none, .classLink RX1 128 "java/lang/IllegalArgumentException", .initialized "java/lang/IllegalArgumentException"] ++ wsX10 ++ (vx_atS RX1 139 "java/lang/IllegalStateException" ["java/lang/RuntimeException", "java/lang/Exception"]).filter goodWord ++ (vx_atS RX1 132 "java/lang/IllegalArgumentException" ["java/lang/RuntimeException", "java/lang/Exception"]).filter goodWord)
def wsL_due : List Cond := .codeWith yL_due cL_due 4 (some .int) [(0, 8, 11, 13), (0, 8, 14, 15)] :: ([.classLink RL 13 "java/lang/IllegalArgumentException", .classLink RL 15 "java/lang/IllegalStateException", .methodLink RL 60 yX1_due, .instanceMethod yX1_due, .selects RX1 yX1_due yX1_due, .initialized RX1, .code yX1_due cX1_due 2 (some .long), .fieldLink RX1 63 "MakeupGas" "duePerYear" "[J", .methodLink RX1 118 yX1_requireClosedYear, .instanceMethod yX1_requireClosedYear, .selects RX1 yX1_requireClosedYear yX1_requireClosedYear, .code yX1_requireClosedYear cX1_requireClosedYear 2 none, .classLink RX1 135 "java/lang/IllegalStateException", .initialized "java/lang/IllegalStateException", .fieldLink RX1 103 "MakeupGas" "closedYears" "I", .methodLink RX1 81 yX1_requireYear, .static yX1_requireYear, .code yX1_requireYear cX1_requireYear 1 none, .methodLink RX1 71 yX1_requireRange, .static yX1_requireRange, .code yX1_requireRange cX1_requireRange 3 none, .classLink RX1 128 "java/lang/IllegalArgumentException", .initialized "java/lang/IllegalArgumentException"] ++ wsX10 ++ (vx_atS RX1 139 "java/lang/IllegalStateException" ["java/lang/RuntimeException", "java/lang/Exception"]).filter goodWord ++ (vx_atS RX1 132 "java/lang/IllegalArgumentException" ["java/lang/RuntimeException", "java/lang/Exception"]).filter goodWord)
def wsL_bill : List Cond := .codeWith yL_bill cL_bill 4 (some .int) [(0, 8, 11, 13), (0, 8, 14, 15)] :: ([.classLink RL 13 "java/lang/IllegalArgumentException", .classLink RL 15 "java/lang/IllegalStateException", .methodLink RL 64 yX1_bill, .instanceMethod yX1_bill, .selects RX1 yX1_bill yX1_bill, .initialized RX1, .code yX1_bill cX1_bill 2 (some .long), .fieldLink RX1 67 "MakeupGas" "billPerYear" "[J", .methodLink RX1 118 yX1_requireClosedYear, .instanceMethod yX1_requireClosedYear, .selects RX1 yX1_requireClosedYear yX1_requireClosedYear, .code yX1_requireClosedYear cX1_requireClosedYear 2 none, .classLink RX1 135 "java/lang/IllegalStateException", .initialized "java/lang/IllegalStateException", .fieldLink RX1 103 "MakeupGas" "closedYears" "I", .methodLink RX1 81 yX1_requireYear, .static yX1_requireYear, .code yX1_requireYear cX1_requireYear 1 none, .methodLink RX1 71 yX1_requireRange, .static yX1_requireRange, .code yX1_requireRange cX1_requireRange 3 none, .classLink RX1 128 "java/lang/IllegalArgumentException", .initialized "java/lang/IllegalArgumentException"] ++ wsX10 ++ (vx_atS RX1 139 "java/lang/IllegalStateException" ["java/lang/RuntimeException", "java/lang/Exception"]).filter goodWord ++ (vx_atS RX1 132 "java/lang/IllegalArgumentException" ["java/lang/RuntimeException", "java/lang/Exception"]).filter goodWord)
def wsL_makeUpLeft_r1 : List Cond := [Cond.classLink RL 13 "java/lang/IllegalArgumentException", Cond.classLink RL 15 "java/lang/IllegalStateException", Cond.methodLink RL 67 yX1_makeUpLeft, Cond.instanceMethod yX1_makeUpLeft, Cond.selects RX1 yX1_makeUpLeft yX1_makeUpLeft, Cond.initialized RX1, Cond.code yX1_makeUpLeft cX1_makeUpLeft 2 (some .int), Cond.fieldLink RX1 44 "MakeupGas" "makeUpStock" "LMakeupGas$Stock;", Cond.methodLink RX1 118 yX1_requireClosedYear, Cond.instanceMethod yX1_requireClosedYear, Cond.selects RX1 yX1_requireClosedYear yX1_requireClosedYear, Cond.code yX1_requireClosedYear cX1_requireClosedYear 2 none, Cond.classLink RX1 135 "java/lang/IllegalStateException", Cond.initialized "java/lang/IllegalStateException", Cond.fieldLink RX1 103 "MakeupGas" "closedYears" "I", Cond.methodLink RX1 81 yX1_requireYear, Cond.static yX1_requireYear, Cond.code yX1_requireYear cX1_requireYear 1 none, Cond.methodLink RX1 71 yX1_requireRange, Cond.static yX1_requireRange, Cond.code yX1_requireRange cX1_requireRange 3 none, Cond.classLink RX1 128 "java/lang/IllegalArgumentException", Cond.initialized "java/lang/IllegalArgumentException", Cond.methodLink RX1 121 yX0_leftFrom]
def wsL_makeUpLeft_r2 : List Cond := [Cond.instanceMethod yX0_leftFrom, Cond.selects RX0 yX0_leftFrom yX0_leftFrom, Cond.initialized RX0, Cond.code yX0_leftFrom cX0_leftFrom 2 (some .int), Cond.fieldLink RX0 9 "MakeupGas$Stock" "left" "[I"]
def wsL_makeUpLeft : List Cond := .codeWith yL_makeUpLeft cL_makeUpLeft 4 (some .int) [(0, 9, 12, 13), (0, 9, 15, 15)] :: ((wsL_makeUpLeft_r1 ++ wsL_makeUpLeft_r2) ++ wsX10 ++ wsX00 ++ (vx_atS RX1 139 "java/lang/IllegalStateException" ["java/lang/RuntimeException", "java/lang/Exception"]).filter goodWord ++ (vx_atS RX1 132 "java/lang/IllegalArgumentException" ["java/lang/RuntimeException", "java/lang/Exception"]).filter goodWord)
def wsL_surplusLeft_r1 : List Cond := [Cond.classLink RL 13 "java/lang/IllegalArgumentException", Cond.classLink RL 15 "java/lang/IllegalStateException", Cond.methodLink RL 70 yX1_surplusLeft, Cond.instanceMethod yX1_surplusLeft, Cond.selects RX1 yX1_surplusLeft yX1_surplusLeft, Cond.initialized RX1, Cond.code yX1_surplusLeft cX1_surplusLeft 2 (some .int), Cond.fieldLink RX1 48 "MakeupGas" "surplusStock" "LMakeupGas$Stock;", Cond.methodLink RX1 118 yX1_requireClosedYear, Cond.instanceMethod yX1_requireClosedYear, Cond.selects RX1 yX1_requireClosedYear yX1_requireClosedYear, Cond.code yX1_requireClosedYear cX1_requireClosedYear 2 none, Cond.classLink RX1 135 "java/lang/IllegalStateException", Cond.initialized "java/lang/IllegalStateException", Cond.fieldLink RX1 103 "MakeupGas" "closedYears" "I", Cond.methodLink RX1 81 yX1_requireYear, Cond.static yX1_requireYear, Cond.code yX1_requireYear cX1_requireYear 1 none, Cond.methodLink RX1 71 yX1_requireRange, Cond.static yX1_requireRange, Cond.code yX1_requireRange cX1_requireRange 3 none, Cond.classLink RX1 128 "java/lang/IllegalArgumentException", Cond.initialized "java/lang/IllegalArgumentException", Cond.methodLink RX1 121 yX0_leftFrom]
def wsL_surplusLeft_r2 : List Cond := [Cond.instanceMethod yX0_leftFrom, Cond.selects RX0 yX0_leftFrom yX0_leftFrom, Cond.initialized RX0, Cond.code yX0_leftFrom cX0_leftFrom 2 (some .int), Cond.fieldLink RX0 9 "MakeupGas$Stock" "left" "[I"]
def wsL_surplusLeft : List Cond := .codeWith yL_surplusLeft cL_surplusLeft 4 (some .int) [(0, 9, 12, 13), (0, 9, 15, 15)] :: ((wsL_surplusLeft_r1 ++ wsL_surplusLeft_r2) ++ wsX10 ++ wsX00 ++ (vx_atS RX1 139 "java/lang/IllegalStateException" ["java/lang/RuntimeException", "java/lang/Exception"]).filter goodWord ++ (vx_atS RX1 132 "java/lang/IllegalArgumentException" ["java/lang/RuntimeException", "java/lang/Exception"]).filter goodWord)
def wsL_law0_r1 : List Cond := [Cond.classLink RL 8 RX1, Cond.instantiable RX1 17, Cond.initialized RX1, Cond.classLink RL 74 RX2, Cond.instantiable RX2 20, Cond.initialized RX2, Cond.arrayClass .long, Cond.methodLink RL 73 yX1_init, Cond.instanceMethod yX1_init, Cond.code yX1_init cX1_init 1 none, Cond.methodLink RX1 1 objectInit, Cond.instanceMethod objectInit, Cond.code objectInit ⟨#[0xb1]⟩ 1 none, Cond.constant RX1 9 (36000), Cond.fieldLink RX1 10 "MakeupGas" "yearlyQuantity" "I", Cond.fieldLink RX1 14 "MakeupGas" "leastPercent" "I", Cond.fieldLink RX1 17 "MakeupGas" "shortfallPercent" "I", Cond.arrayClass .int, Cond.fieldLink RX1 20 "MakeupGas" "pricePerYear" "[I", Cond.fieldLink RX1 30 "MakeupGas" "excusedDays" "[I", Cond.fieldLink RX1 33 "MakeupGas" "takenPerDay" "[I", Cond.fieldLink RX1 36 "MakeupGas" "takenPerYear" "[I", Cond.classLink RX1 39 RX0, Cond.instantiable RX0 3]
def wsL_law0_r2 : List Cond := [Cond.initialized RX0, Cond.fieldLink RX1 44 "MakeupGas" "makeUpStock" "LMakeupGas$Stock;", Cond.fieldLink RX1 48 "MakeupGas" "surplusStock" "LMakeupGas$Stock;", Cond.fieldLink RX1 51 "MakeupGas" "shortfallPerYear" "[I", Cond.fieldLink RX1 54 "MakeupGas" "madeUpPerYear" "[I", Cond.fieldLink RX1 57 "MakeupGas" "coveredPerYear" "[I", Cond.fieldLink RX1 60 "MakeupGas" "surplusPerYear" "[I", Cond.fieldLink RX1 63 "MakeupGas" "duePerYear" "[J", Cond.fieldLink RX1 67 "MakeupGas" "billPerYear" "[J", Cond.methodLink RX1 24 yJ7_fill_53178, Cond.static yJ7_fill_53178, Cond.initialized RJ7, Cond.code yJ7_fill_53178 cJ7_fill_53178 4 none, Cond.methodLink RX1 41 yX0_init, Cond.instanceMethod yX0_init, Cond.code yX0_init cX0_init 2 none, Cond.methodLink RX0 3 objectInit, Cond.fieldLink RX0 9 "MakeupGas$Stock" "left" "[I", Cond.fieldLink RX0 15 "MakeupGas$Stock" "yearsKept" "I", Cond.methodLink RL 76 yX2_init, Cond.instanceMethod yX2_init, Cond.code yX2_init cX2_init 2 none, Cond.methodLink RX2 1 objectInit, Cond.constant RX2 7 (36000)]
def wsL_law0_r3 : List Cond := [Cond.fieldLink RX2 8 "MakeupGasModel" "quantity" "I", Cond.fieldLink RX2 14 "MakeupGasModel" "percent" "I", Cond.fieldLink RX2 17 "MakeupGasModel" "share" "I", Cond.fieldLink RX2 20 "MakeupGasModel" "makeUpYears" "I", Cond.fieldLink RX2 23 "MakeupGasModel" "surplusYears" "I", Cond.fieldLink RX2 26 "MakeupGasModel" "prices" "[I", Cond.fieldLink RX2 30 "MakeupGasModel" "excused" "[I", Cond.fieldLink RX2 33 "MakeupGasModel" "days" "[I", Cond.fieldLink RX2 36 "MakeupGasModel" "taken" "[I", Cond.fieldLink RX2 39 "MakeupGasModel" "bills" "[J", Cond.fieldLink RX2 43 "MakeupGasModel" "shortfalls" "[I", Cond.fieldLink RX2 46 "MakeupGasModel" "surpluses" "[I", Cond.fieldLink RX2 49 "MakeupGasModel" "makeUpLeft" "[I", Cond.fieldLink RX2 52 "MakeupGasModel" "surplusLeft" "[I", Cond.fieldLink RX2 55 "MakeupGasModel" "madeUp" "[I", Cond.fieldLink RX2 58 "MakeupGasModel" "covered" "[I", Cond.fieldLink RX2 61 "MakeupGasModel" "dues" "[J", Cond.methodLink RL 77 yL_set, Cond.static yL_set, Cond.initialized RL, Cond.codeWith yL_set cL_set 7 (some .int) [(0, 11, 14, 13), (0, 11, 18, 15)], Cond.classLink RL 13 "java/lang/IllegalArgumentException", Cond.classLink RL 15 "java/lang/IllegalStateException", Cond.methodLink RL 7 yX1_set]
def wsL_law0_r4 : List Cond := [Cond.instanceMethod yX1_set, Cond.selects RX1 yX1_set yX1_set, Cond.code yX1_set cX1_set 6 none, Cond.constant RX1 70 (100000), Cond.methodLink RX1 71 yX1_requireRange, Cond.static yX1_requireRange, Cond.code yX1_requireRange cX1_requireRange 3 none, Cond.classLink RX1 128 "java/lang/IllegalArgumentException", Cond.initialized "java/lang/IllegalArgumentException", Cond.methodLink RX1 75 yX1_requireUnused, Cond.instanceMethod yX1_requireUnused, Cond.selects RX1 yX1_requireUnused yX1_requireUnused, Cond.code yX1_requireUnused cX1_requireUnused 1 none, Cond.classLink RX1 135 "java/lang/IllegalStateException", Cond.initialized "java/lang/IllegalStateException", Cond.fieldLink RX1 103 "MakeupGas" "closedYears" "I", Cond.methodLink RX1 78 yX0_keepFor, Cond.instanceMethod yX0_keepFor, Cond.selects RX0 yX0_keepFor yX0_keepFor, Cond.code yX0_keepFor cX0_keepFor 2 none, Cond.methodLink RL 82 yX2_set, Cond.instanceMethod yX2_set, Cond.selects RX2 yX2_set yX2_set, Cond.code yX2_set cX2_set 7 none]
def wsL_law0_r5 : List Cond := [Cond.constant RX2 100 (100000), Cond.fieldLink RX2 80 "MakeupGasModel" "closed" "I", Cond.methodLink RX2 67 yX2_isIn, Cond.static yX2_isIn, Cond.code yX2_isIn cX2_isIn 3 (some .boolean), Cond.methodLink RX2 101 yX2_holds, Cond.instanceMethod yX2_holds, Cond.selects RX2 yX2_holds yX2_holds, Cond.code yX2_holds cX2_holds 2 (some .boolean), Cond.fieldLink RX2 64 "MakeupGasModel" "thrown" "I", Cond.methodLink RL 83 yX2_thrown, Cond.instanceMethod yX2_thrown, Cond.selects RX2 yX2_thrown yX2_thrown, Cond.code yX2_thrown cX2_thrown 1 (some .int), Cond.methodLink RL 87 yL_review, Cond.static yL_review, Cond.codeWith yL_review cL_review 5 (some .int) [(0, 10, 13, 13)], Cond.methodLink RL 17 yX1_review, Cond.instanceMethod yX1_review, Cond.selects RX1 yX1_review yX1_review, Cond.code yX1_review cX1_review 5 (some .int), Cond.methodLink RX1 81 yX1_requireYear, Cond.static yX1_requireYear, Cond.code yX1_requireYear cX1_requireYear 1 none]
def wsL_law0_r6 : List Cond := [Cond.methodLink RX1 84 yX1_settleClosedYears, Cond.instanceMethod yX1_settleClosedYears, Cond.selects RX1 yX1_settleClosedYears yX1_settleClosedYears, Cond.code yX1_settleClosedYears cX1_settleClosedYears 2 none, Cond.methodLink RX1 148 yX0_empty, Cond.instanceMethod yX0_empty, Cond.selects RX0 yX0_empty yX0_empty, Cond.code yX0_empty cX0_empty 1 none, Cond.fieldLink RX0 25 "MakeupGas$Stock" "lapsedSum" "I", Cond.methodLink RX0 19 yJ7_fill_53178, Cond.methodLink RX1 151 yX0_lapseBefore, Cond.instanceMethod yX0_lapseBefore, Cond.selects RX0 yX0_lapseBefore yX0_lapseBefore, Cond.code yX0_lapseBefore cX0_lapseBefore 3 none, Cond.methodLink RX1 114 yX1_leastQuantity, Cond.instanceMethod yX1_leastQuantity, Cond.selects RX1 yX1_leastQuantity yX1_leastQuantity, Cond.code yX1_leastQuantity cX1_leastQuantity 4 (some .int), Cond.constantLong RX1 146 (36000), Cond.methodLink RX1 154 yX1_settleGap, Cond.instanceMethod yX1_settleGap, Cond.selects RX1 yX1_settleGap yX1_settleGap, Cond.code yX1_settleGap cX1_settleGap 5 none, Cond.methodLink RX1 160 yX1_drawSurplus]
def wsL_law0_r7 : List Cond := [Cond.instanceMethod yX1_drawSurplus, Cond.selects RX1 yX1_drawSurplus yX1_drawSurplus, Cond.code yX1_drawSurplus cX1_drawSurplus 5 (some .int), Cond.methodLink RX1 170 yX0_drawFrom, Cond.instanceMethod yX0_drawFrom, Cond.selects RX0 yX0_drawFrom yX0_drawFrom, Cond.code yX0_drawFrom cX0_drawFrom 4 (some .int), Cond.methodLink RX0 28 Lib.Math.min.name, Cond.static Lib.Math.min.name, Cond.initialized "java/lang/Math", Cond.code Lib.Math.min.name Lib.Math.min.code 2 (some .int), Cond.methodLink RX1 164 yX0_put, Cond.instanceMethod yX0_put, Cond.selects RX0 yX0_put yX0_put, Cond.code yX0_put cX0_put 3 none, Cond.methodLink RX1 167 yX1_shortfallPrice, Cond.instanceMethod yX1_shortfallPrice, Cond.selects RX1 yX1_shortfallPrice yX1_shortfallPrice, Cond.code yX1_shortfallPrice cX1_shortfallPrice 2 (some .int), Cond.methodLink RX1 157 yX1_settleEnough, Cond.instanceMethod yX1_settleEnough, Cond.selects RX1 yX1_settleEnough yX1_settleEnough, Cond.code yX1_settleEnough cX1_settleEnough 8 none, Cond.methodLink RX1 173 Lib.Math.max.name]
def wsL_law0_r8 : List Cond := [Cond.static Lib.Math.max.name, Cond.code Lib.Math.max.name Lib.Math.max.code 2 (some .int), Cond.methodLink RL 90 yX2_review, Cond.instanceMethod yX2_review, Cond.selects RX2 yX2_review yX2_review, Cond.code yX2_review cX2_review 5 (some .int), Cond.methodLink RX2 105 yX2_isYear, Cond.static yX2_isYear, Cond.code yX2_isYear cX2_isYear 1 (some .boolean), Cond.methodLink RL 91 yL_excuse, Cond.static yL_excuse, Cond.codeWith yL_excuse cL_excuse 5 (some .int) [(0, 10, 13, 13)], Cond.methodLink RL 21 yX1_excuse, Cond.instanceMethod yX1_excuse, Cond.selects RX1 yX1_excuse yX1_excuse, Cond.code yX1_excuse cX1_excuse 4 (some .int), Cond.methodLink RL 93 yX2_excuse, Cond.instanceMethod yX2_excuse, Cond.selects RX2 yX2_excuse yX2_excuse, Cond.code yX2_excuse cX2_excuse 4 (some .int), Cond.methodLink RL 94 yL_take, Cond.static yL_take, Cond.codeWith yL_take cL_take 5 (some .int) [(0, 10, 13, 13), (0, 10, 17, 15)], Cond.methodLink RL 24 yX1_take]
def wsL_law0_r9 : List Cond := [Cond.instanceMethod yX1_take, Cond.selects RX1 yX1_take yX1_take, Cond.code yX1_take cX1_take 3 (some .int), Cond.methodLink RX1 87 yX1_requireDay, Cond.static yX1_requireDay, Cond.code yX1_requireDay cX1_requireDay 1 none, Cond.methodLink RX1 90 yX1_requireYearGoingOn, Cond.instanceMethod yX1_requireYearGoingOn, Cond.selects RX1 yX1_requireYearGoingOn yX1_requireYearGoingOn, Cond.code yX1_requireYearGoingOn cX1_requireYearGoingOn 1 none, Cond.methodLink RX1 93 yX1_requireRoom, Cond.instanceMethod yX1_requireRoom, Cond.selects RX1 yX1_requireRoom yX1_requireRoom, Cond.code yX1_requireRoom cX1_requireRoom 5 none, Cond.methodLink RX1 96 yX1_addTakes, Cond.instanceMethod yX1_addTakes, Cond.selects RX1 yX1_addTakes yX1_addTakes, Cond.code yX1_addTakes cX1_addTakes 5 none, Cond.methodLink RL 96 yX2_take, Cond.instanceMethod yX2_take, Cond.selects RX2 yX2_take yX2_take, Cond.code yX2_take cX2_take 3 (some .int), Cond.methodLink RX2 115 yX2_canTake, Cond.instanceMethod yX2_canTake]
def wsL_law0_r10 : List Cond := [Cond.selects RX2 yX2_canTake yX2_canTake, Cond.code yX2_canTake cX2_canTake 5 (some .boolean), Cond.methodLink RX2 108 yX2_isRange, Cond.static yX2_isRange, Cond.code yX2_isRange cX2_isRange 2 (some .boolean), Cond.methodLink RX2 112 yX2_isTooMuch, Cond.instanceMethod yX2_isTooMuch, Cond.selects RX2 yX2_isTooMuch yX2_isTooMuch, Cond.code yX2_isTooMuch cX2_isTooMuch 6 (some .boolean), Cond.methodLink RX2 118 yX2_takes, Cond.instanceMethod yX2_takes, Cond.selects RX2 yX2_takes yX2_takes, Cond.code yX2_takes cX2_takes 5 none, Cond.methodLink RL 97 yL_takeDaily, Cond.static yL_takeDaily, Cond.codeWith yL_takeDaily cL_takeDaily 6 (some .int) [(0, 12, 15, 13), (0, 12, 19, 15)], Cond.methodLink RL 27 yX1_takeDaily, Cond.instanceMethod yX1_takeDaily, Cond.selects RX1 yX1_takeDaily yX1_takeDaily, Cond.code yX1_takeDaily cX1_takeDaily 4 (some .int), Cond.methodLink RX1 99 yX1_requireDays, Cond.static yX1_requireDays, Cond.code yX1_requireDays cX1_requireDays 2 none, Cond.methodLink RL 100 yX2_takeDaily]
def wsL_law0_r11 : List Cond := [Cond.instanceMethod yX2_takeDaily, Cond.selects RX2 yX2_takeDaily yX2_takeDaily, Cond.code yX2_takeDaily cX2_takeDaily 4 (some .int), Cond.methodLink RL 101 yL_close, Cond.static yL_close, Cond.codeWith yL_close cL_close 3 (some .int) [(0, 7, 10, 15)], Cond.methodLink RL 31 yX1_close, Cond.instanceMethod yX1_close, Cond.selects RX1 yX1_close yX1_close, Cond.code yX1_close cX1_close 4 (some .long), Cond.fieldLink RX1 110 "MakeupGas" "billedInAll" "J", Cond.methodLink RX1 106 yX1_dueInAll, Cond.instanceMethod yX1_dueInAll, Cond.selects RX1 yX1_dueInAll yX1_dueInAll, Cond.code yX1_dueInAll cX1_dueInAll 4 (some .long), Cond.methodLink RL 104 yX2_close, Cond.instanceMethod yX2_close, Cond.selects RX2 yX2_close yX2_close, Cond.code yX2_close cX2_close 2 (some .long), Cond.methodLink RX2 122 yX2_openNow, Cond.instanceMethod yX2_openNow, Cond.selects RX2 yX2_openNow yX2_openNow, Cond.code yX2_openNow cX2_openNow 4 (some .long), Cond.methodLink RX2 97 yX2_goesThrough]
def wsL_law0_r12 : List Cond := [Cond.instanceMethod yX2_goesThrough, Cond.selects RX2 yX2_goesThrough yX2_goesThrough, Cond.code yX2_goesThrough cX2_goesThrough 3 none, Cond.fieldLink RX2 73 "MakeupGasModel" "lapsed" "I", Cond.methodLink RX2 83 yX2_lapses, Cond.instanceMethod yX2_lapses, Cond.selects RX2 yX2_lapses yX2_lapses, Cond.code yX2_lapses cX2_lapses 3 none, Cond.methodLink RX2 87 yX2_leastOf, Cond.instanceMethod yX2_leastOf, Cond.selects RX2 yX2_leastOf yX2_leastOf, Cond.code yX2_leastOf cX2_leastOf 2 (some .int), Cond.constantLong RX2 71 (36000), Cond.methodLink RX2 90 yX2_covers, Cond.instanceMethod yX2_covers, Cond.selects RX2 yX2_covers yX2_covers, Cond.code yX2_covers cX2_covers 6 none, Cond.methodLink RX2 76 yX2_shortfallPrice, Cond.instanceMethod yX2_shortfallPrice, Cond.selects RX2 yX2_shortfallPrice yX2_shortfallPrice, Cond.code yX2_shortfallPrice cX2_shortfallPrice 2 (some .int), Cond.methodLink RX2 94 yX2_makesUp, Cond.instanceMethod yX2_makesUp, Cond.selects RX2 yX2_makesUp yX2_makesUp]
def wsL_law0_r13 : List Cond := [Cond.code yX2_makesUp cX2_makesUp 9 none, Cond.methodLink RL 105 yX1_closed, Cond.instanceMethod yX1_closed, Cond.selects RX1 yX1_closed yX1_closed, Cond.code yX1_closed cX1_closed 1 (some .int), Cond.methodLink RL 108 yX2_closed, Cond.instanceMethod yX2_closed, Cond.selects RX2 yX2_closed yX2_closed, Cond.code yX2_closed cX2_closed 1 (some .int), Cond.methodLink RL 109 yL_taken, Cond.static yL_taken, Cond.codeWith yL_taken cL_taken 4 (some .int) [(0, 9, 12, 13)], Cond.methodLink RL 35 yX1_taken, Cond.instanceMethod yX1_taken, Cond.selects RX1 yX1_taken yX1_taken, Cond.code yX1_taken cX1_taken 2 (some .int), Cond.methodLink RL 112 yX2_taken, Cond.instanceMethod yX2_taken, Cond.selects RX2 yX2_taken yX2_taken, Cond.code yX2_taken cX2_taken 2 (some .int), Cond.methodLink RL 113 yL_takenFrom, Cond.static yL_takenFrom, Cond.codeWith yL_takenFrom cL_takenFrom 5 (some .int) [(0, 10, 13, 13)], Cond.methodLink RL 39 yX1_takenFrom]
def wsL_law0_r14 : List Cond := [Cond.instanceMethod yX1_takenFrom, Cond.selects RX1 yX1_takenFrom yX1_takenFrom, Cond.code yX1_takenFrom cX1_takenFrom 5 (some .int), Cond.methodLink RL 115 yX2_takenFrom, Cond.instanceMethod yX2_takenFrom, Cond.selects RX2 yX2_takenFrom yX2_takenFrom, Cond.code yX2_takenFrom cX2_takenFrom 5 (some .int), Cond.methodLink RL 116 yL_price, Cond.static yL_price, Cond.codeWith yL_price cL_price 4 (some .int) [(0, 9, 12, 13)], Cond.methodLink RL 42 yX1_price, Cond.instanceMethod yX1_price, Cond.selects RX1 yX1_price yX1_price, Cond.code yX1_price cX1_price 2 (some .int), Cond.methodLink RL 118 yX2_price, Cond.instanceMethod yX2_price, Cond.selects RX2 yX2_price yX2_price, Cond.code yX2_price cX2_price 2 (some .int), Cond.methodLink RL 119 yL_least, Cond.static yL_least, Cond.codeWith yL_least cL_least 4 (some .int) [(0, 9, 12, 13)], Cond.methodLink RL 45 yX1_least, Cond.instanceMethod yX1_least, Cond.selects RX1 yX1_least yX1_least]
def wsL_law0_r15 : List Cond := [Cond.code yX1_least cX1_least 2 (some .int), Cond.methodLink RL 121 yX2_least, Cond.instanceMethod yX2_least, Cond.selects RX2 yX2_least yX2_least, Cond.code yX2_least cX2_least 2 (some .int), Cond.methodLink RL 122 yL_shortfall, Cond.static yL_shortfall, Cond.codeWith yL_shortfall cL_shortfall 4 (some .int) [(0, 9, 12, 13), (0, 9, 15, 15)], Cond.methodLink RL 48 yX1_shortfall, Cond.instanceMethod yX1_shortfall, Cond.selects RX1 yX1_shortfall yX1_shortfall, Cond.code yX1_shortfall cX1_shortfall 2 (some .int), Cond.methodLink RX1 118 yX1_requireClosedYear, Cond.instanceMethod yX1_requireClosedYear, Cond.selects RX1 yX1_requireClosedYear yX1_requireClosedYear, Cond.code yX1_requireClosedYear cX1_requireClosedYear 2 none, Cond.methodLink RL 124 yX2_shortfall, Cond.instanceMethod yX2_shortfall, Cond.selects RX2 yX2_shortfall yX2_shortfall, Cond.code yX2_shortfall cX2_shortfall 2 (some .int), Cond.methodLink RX2 126 yX2_isClosed, Cond.instanceMethod yX2_isClosed, Cond.selects RX2 yX2_isClosed yX2_isClosed, Cond.code yX2_isClosed cX2_isClosed 2 (some .boolean)]
def wsL_law0_r16 : List Cond := [Cond.methodLink RL 125 yL_madeUp, Cond.static yL_madeUp, Cond.codeWith yL_madeUp cL_madeUp 4 (some .int) [(0, 9, 12, 13), (0, 9, 15, 15)], Cond.methodLink RL 51 yX1_madeUp, Cond.instanceMethod yX1_madeUp, Cond.selects RX1 yX1_madeUp yX1_madeUp, Cond.code yX1_madeUp cX1_madeUp 2 (some .int), Cond.methodLink RL 127 yX2_madeUp, Cond.instanceMethod yX2_madeUp, Cond.selects RX2 yX2_madeUp yX2_madeUp, Cond.code yX2_madeUp cX2_madeUp 2 (some .int), Cond.methodLink RL 128 yL_covered, Cond.static yL_covered, Cond.codeWith yL_covered cL_covered 4 (some .int) [(0, 9, 12, 13), (0, 9, 15, 15)], Cond.methodLink RL 54 yX1_covered, Cond.instanceMethod yX1_covered, Cond.selects RX1 yX1_covered yX1_covered, Cond.code yX1_covered cX1_covered 2 (some .int), Cond.methodLink RL 130 yX2_covered, Cond.instanceMethod yX2_covered, Cond.selects RX2 yX2_covered yX2_covered, Cond.code yX2_covered cX2_covered 2 (some .int), Cond.methodLink RL 131 yL_surplus, Cond.static yL_surplus]
def wsL_law0_r17 : List Cond := [Cond.codeWith yL_surplus cL_surplus 4 (some .int) [(0, 9, 12, 13), (0, 9, 15, 15)], Cond.methodLink RL 57 yX1_surplus, Cond.instanceMethod yX1_surplus, Cond.selects RX1 yX1_surplus yX1_surplus, Cond.code yX1_surplus cX1_surplus 2 (some .int), Cond.methodLink RL 133 yX2_surplus, Cond.instanceMethod yX2_surplus, Cond.selects RX2 yX2_surplus yX2_surplus, Cond.code yX2_surplus cX2_surplus 2 (some .int), Cond.methodLink RL 134 yL_due, Cond.static yL_due, Cond.codeWith yL_due cL_due 4 (some .int) [(0, 8, 11, 13), (0, 8, 14, 15)], Cond.methodLink RL 60 yX1_due, Cond.instanceMethod yX1_due, Cond.selects RX1 yX1_due yX1_due, Cond.code yX1_due cX1_due 2 (some .long), Cond.methodLink RL 136 yX2_due, Cond.instanceMethod yX2_due, Cond.selects RX2 yX2_due yX2_due, Cond.code yX2_due cX2_due 2 (some .long), Cond.methodLink RL 137 yL_bill, Cond.static yL_bill, Cond.codeWith yL_bill cL_bill 4 (some .int) [(0, 8, 11, 13), (0, 8, 14, 15)], Cond.methodLink RL 64 yX1_bill]
def wsL_law0_r18 : List Cond := [Cond.instanceMethod yX1_bill, Cond.selects RX1 yX1_bill yX1_bill, Cond.code yX1_bill cX1_bill 2 (some .long), Cond.methodLink RL 139 yX2_bill, Cond.instanceMethod yX2_bill, Cond.selects RX2 yX2_bill yX2_bill, Cond.code yX2_bill cX2_bill 2 (some .long), Cond.methodLink RL 140 yL_makeUpLeft, Cond.static yL_makeUpLeft, Cond.codeWith yL_makeUpLeft cL_makeUpLeft 4 (some .int) [(0, 9, 12, 13), (0, 9, 15, 15)], Cond.methodLink RL 67 yX1_makeUpLeft, Cond.instanceMethod yX1_makeUpLeft, Cond.selects RX1 yX1_makeUpLeft yX1_makeUpLeft, Cond.code yX1_makeUpLeft cX1_makeUpLeft 2 (some .int), Cond.methodLink RX1 121 yX0_leftFrom, Cond.instanceMethod yX0_leftFrom, Cond.selects RX0 yX0_leftFrom yX0_leftFrom, Cond.code yX0_leftFrom cX0_leftFrom 2 (some .int), Cond.methodLink RL 142 yX2_makeUpLeft, Cond.instanceMethod yX2_makeUpLeft, Cond.selects RX2 yX2_makeUpLeft yX2_makeUpLeft, Cond.code yX2_makeUpLeft cX2_makeUpLeft 2 (some .int), Cond.methodLink RL 143 yL_surplusLeft, Cond.static yL_surplusLeft]
def wsL_law0_r19 : List Cond := [Cond.codeWith yL_surplusLeft cL_surplusLeft 4 (some .int) [(0, 9, 12, 13), (0, 9, 15, 15)], Cond.methodLink RL 70 yX1_surplusLeft, Cond.instanceMethod yX1_surplusLeft, Cond.selects RX1 yX1_surplusLeft yX1_surplusLeft, Cond.code yX1_surplusLeft cX1_surplusLeft 2 (some .int), Cond.methodLink RL 145 yX2_surplusLeft, Cond.instanceMethod yX2_surplusLeft, Cond.selects RX2 yX2_surplusLeft yX2_surplusLeft, Cond.code yX2_surplusLeft cX2_surplusLeft 2 (some .int), Cond.methodLink RL 146 yX1_lapsed, Cond.instanceMethod yX1_lapsed, Cond.selects RX1 yX1_lapsed yX1_lapsed, Cond.code yX1_lapsed cX1_lapsed 1 (some .int), Cond.methodLink RX1 124 yX0_lapsedInAll, Cond.instanceMethod yX0_lapsedInAll, Cond.selects RX0 yX0_lapsedInAll yX0_lapsedInAll, Cond.code yX0_lapsedInAll cX0_lapsedInAll 1 (some .int), Cond.methodLink RL 149 yX2_lapsed, Cond.instanceMethod yX2_lapsed, Cond.selects RX2 yX2_lapsed yX2_lapsed, Cond.code yX2_lapsed cX2_lapsed 1 (some .int), Cond.methodLink RL 150 yX1_open, Cond.instanceMethod yX1_open, Cond.selects RX1 yX1_open yX1_open]
def wsL_law0_r20 : List Cond := [Cond.code yX1_open cX1_open 1 (some .long), Cond.methodLink RL 153 yX2_open, Cond.instanceMethod yX2_open, Cond.selects RX2 yX2_open yX2_open, Cond.code yX2_open cX2_open 1 (some .long)]
def wsL_law0 : List Cond := (wsL_law0_r1 ++ (wsL_law0_r2 ++ (wsL_law0_r3 ++ (wsL_law0_r4 ++ (wsL_law0_r5 ++ (wsL_law0_r6 ++ (wsL_law0_r7 ++ (wsL_law0_r8 ++ (wsL_law0_r9 ++ (wsL_law0_r10 ++ (wsL_law0_r11 ++ (wsL_law0_r12 ++ (wsL_law0_r13 ++ (wsL_law0_r14 ++ (wsL_law0_r15 ++ (wsL_law0_r16 ++ (wsL_law0_r17 ++ (wsL_law0_r18 ++ (wsL_law0_r19 ++ wsL_law0_r20))))))))))))))))))) ++ wsX10 ++ wsX20 ++ wsX00 ++ ([] : List Cond)
def wsL_law : List Cond := wsL_law0 ++ (vx_atS RX1 132 "java/lang/IllegalArgumentException" ["java/lang/RuntimeException", "java/lang/Exception"]).filter goodWord ++ (vx_atS RX1 139 "java/lang/IllegalStateException" ["java/lang/RuntimeException", "java/lang/Exception"]).filter goodWord
abbrev vwCl : List vw_C := [(RX0, TX0, 3), (RX1, TX1, 17), (RX2, TX2, 20)]
end
section
set_option maxRecDepth 20000 in
theorem wsL_law0_r1_in : ∀ w ∈ wsL_law0_r1, w ∈ lw_tbl := fun w h => (goodIn_p wsL_law0_r1 [40, 43] (by decide +kernel) (by decide +kernel) w h).1
set_option maxRecDepth 20000 in
theorem wsL_law0_r2_in : ∀ w ∈ wsL_law0_r2, w ∈ lw_tbl := fun w h => (goodIn_p wsL_law0_r2 [47, 52, 445] (by decide +kernel) (by decide +kernel) w h).1
set_option maxRecDepth 20000 in
theorem wsL_law0_r3_in : ∀ w ∈ wsL_law0_r3, w ∈ lw_tbl := fun w h => (goodIn_p wsL_law0_r3 [] (by decide +kernel) (by decide +kernel) w h).1
set_option maxRecDepth 20000 in
theorem wsL_law0_r4_in : ∀ w ∈ wsL_law0_r4, w ∈ lw_tbl := fun w h => (goodIn_p wsL_law0_r4 [146, 150, 221, 241, 516] (by decide +kernel) (by decide +kernel) w h).1
set_option maxRecDepth 20000 in
theorem wsL_law0_r5_in : ∀ w ∈ wsL_law0_r5, w ∈ lw_tbl := fun w h => (goodIn_p wsL_law0_r5 [520, 524, 512, 248, 251] (by decide +kernel) (by decide +kernel) w h).1
set_option maxRecDepth 20000 in
theorem wsL_law0_r6_in : ∀ w ∈ wsL_law0_r6, w ∈ lw_tbl := fun w h => (goodIn_p wsL_law0_r6 [255, 259, 264, 268, 273] (by decide +kernel) (by decide +kernel) w h).1
set_option maxRecDepth 20000 in
theorem wsL_law0_r7_in : ∀ w ∈ wsL_law0_r7, w ∈ lw_tbl := fun w h => (goodIn_p wsL_law0_r7 [277, 281, 284, 288, 292, 296] (by decide +kernel) (by decide +kernel) w h).1
set_option maxRecDepth 20000 in
theorem wsL_law0_r8_in : ∀ w ∈ wsL_law0_r8, w ∈ lw_tbl := fun w h => (goodIn_p wsL_law0_r8 [299, 528, 531, 306, 535] (by decide +kernel) (by decide +kernel) w h).1
set_option maxRecDepth 20000 in
theorem wsL_law0_r9_in : ∀ w ∈ wsL_law0_r9, w ∈ lw_tbl := fun w h => (goodIn_p wsL_law0_r9 [313, 316, 320, 325, 330, 539] (by decide +kernel) (by decide +kernel) w h).1
set_option maxRecDepth 20000 in
theorem wsL_law0_r10_in : ∀ w ∈ wsL_law0_r10, w ∈ lw_tbl := fun w h => (goodIn_p wsL_law0_r10 [543, 546, 550, 554, 337, 340] (by decide +kernel) (by decide +kernel) w h).1
set_option maxRecDepth 20000 in
theorem wsL_law0_r11_in : ∀ w ∈ wsL_law0_r11, w ∈ lw_tbl := fun w h => (goodIn_p wsL_law0_r11 [558, 347, 137, 562, 566] (by decide +kernel) (by decide +kernel) w h).1
set_option maxRecDepth 20000 in
theorem wsL_law0_r12_in : ∀ w ∈ wsL_law0_r12, w ∈ lw_tbl := fun w h => (goodIn_p wsL_law0_r12 [570, 574, 578, 583, 587] (by decide +kernel) (by decide +kernel) w h).1
set_option maxRecDepth 20000 in
theorem wsL_law0_r13_in : ∀ w ∈ wsL_law0_r13, w ∈ lw_tbl := fun w h => (goodIn_p wsL_law0_r13 [591, 121, 595, 354, 599] (by decide +kernel) (by decide +kernel) w h).1
set_option maxRecDepth 20000 in
theorem wsL_law0_r14_in : ∀ w ∈ wsL_law0_r14, w ∈ lw_tbl := fun w h => (goodIn_p wsL_law0_r14 [361, 603, 368, 607] (by decide +kernel) (by decide +kernel) w h).1
set_option maxRecDepth 20000 in
theorem wsL_law0_r15_in : ∀ w ∈ wsL_law0_r15, w ∈ lw_tbl := fun w h => (goodIn_p wsL_law0_r15 [375, 611, 382, 386, 615, 619] (by decide +kernel) (by decide +kernel) w h).1
set_option maxRecDepth 20000 in
theorem wsL_law0_r16_in : ∀ w ∈ wsL_law0_r16, w ∈ lw_tbl := fun w h => (goodIn_p wsL_law0_r16 [394, 623, 401, 627] (by decide +kernel) (by decide +kernel) w h).1
set_option maxRecDepth 20000 in
theorem wsL_law0_r17_in : ∀ w ∈ wsL_law0_r17, w ∈ lw_tbl := fun w h => (goodIn_p wsL_law0_r17 [408, 631, 415, 635] (by decide +kernel) (by decide +kernel) w h).1
set_option maxRecDepth 20000 in
theorem wsL_law0_r18_in : ∀ w ∈ wsL_law0_r18, w ∈ lw_tbl := fun w h => (goodIn_p wsL_law0_r18 [422, 639, 429, 433, 643] (by decide +kernel) (by decide +kernel) w h).1
set_option maxRecDepth 20000 in
theorem wsL_law0_r19_in : ∀ w ∈ wsL_law0_r19, w ∈ lw_tbl := fun w h => (goodIn_p wsL_law0_r19 [440, 647, 125, 129, 651] (by decide +kernel) (by decide +kernel) w h).1
set_option maxRecDepth 20000 in
theorem wsL_law0_r20_in : ∀ w ∈ wsL_law0_r20, w ∈ lw_tbl := fun w h => (goodIn_p wsL_law0_r20 [133, 655] (by decide +kernel) (by decide +kernel) w h).1
set_option maxRecDepth 20000 in
theorem wsX10_inT : ∀ w ∈ wsX10, w ∈ lw_tbl := by decide +kernel
set_option maxRecDepth 20000 in
theorem wsX20_inT : ∀ w ∈ wsX20, w ∈ lw_tbl := by decide +kernel
set_option maxRecDepth 20000 in
theorem wsX00_inT : ∀ w ∈ wsX00, w ∈ lw_tbl := by decide +kernel
set_option maxRecDepth 20000 in
theorem wsL_law_in0 : ∀ w ∈ wsL_law0, w ∈ lw_tbl := fun w h => (List.mem_append.mp h).elim (fun h => (List.mem_append.mp h).elim (fun h => (List.mem_append.mp h).elim (fun h => (List.mem_append.mp h).elim (fun h => (List.mem_append.mp h).elim (fun h => wsL_law0_r1_in w h) (fun h => (List.mem_append.mp h).elim (fun h => wsL_law0_r2_in w h) (fun h => (List.mem_append.mp h).elim (fun h => wsL_law0_r3_in w h) (fun h => (List.mem_append.mp h).elim (fun h => wsL_law0_r4_in w h) (fun h => (List.mem_append.mp h).elim (fun h => wsL_law0_r5_in w h) (fun h => (List.mem_append.mp h).elim (fun h => wsL_law0_r6_in w h) (fun h => (List.mem_append.mp h).elim (fun h => wsL_law0_r7_in w h) (fun h => (List.mem_append.mp h).elim (fun h => wsL_law0_r8_in w h) (fun h => (List.mem_append.mp h).elim (fun h => wsL_law0_r9_in w h) (fun h => (List.mem_append.mp h).elim (fun h => wsL_law0_r10_in w h) (fun h => (List.mem_append.mp h).elim (fun h => wsL_law0_r11_in w h) (fun h => (List.mem_append.mp h).elim (fun h => wsL_law0_r12_in w h) (fun h => (List.mem_append.mp h).elim (fun h => wsL_law0_r13_in w h) (fun h => (List.mem_append.mp h).elim (fun h => wsL_law0_r14_in w h) (fun h => (List.mem_append.mp h).elim (fun h => wsL_law0_r15_in w h) (fun h => (List.mem_append.mp h).elim (fun h => wsL_law0_r16_in w h) (fun h => (List.mem_append.mp h).elim (fun h => wsL_law0_r17_in w h) (fun h => (List.mem_append.mp h).elim (fun h => wsL_law0_r18_in w h) (fun h => (List.mem_append.mp h).elim (fun h => wsL_law0_r19_in w h) (fun h => wsL_law0_r20_in w h)))))))))))))))))))) (fun h => wsX10_inT w h)) (fun h => wsX20_inT w h)) (fun h => wsX00_inT w h)) (fun h => absurd h List.not_mem_nil)
end
section
theorem wsL_law_x0 : ∀ w ∈ (vx_atS RX1 132 "java/lang/IllegalArgumentException" ["java/lang/RuntimeException", "java/lang/Exception"]).filter goodWord, w ∈ lw_tbl := by decide +kernel
theorem wsL_law_x1 : ∀ w ∈ (vx_atS RX1 139 "java/lang/IllegalStateException" ["java/lang/RuntimeException", "java/lang/Exception"]).filter goodWord, w ∈ lw_tbl := by decide +kernel
theorem wsL_law_in : ∀ w ∈ wsL_law, w ∈ lw_tbl := fun w h => (List.mem_append.mp h).elim (fun h => (List.mem_append.mp h).elim (fun h => wsL_law_in0 w h) (fun h => wsL_law_x0 w h)) (fun h => wsL_law_x1 w h)
theorem inlX0 : ∀ w ∈ wsX00, w ∈ wsL_law := fun _ h => List.mem_append_left _ (List.mem_append_left _ (List.mem_append_left _ (List.mem_append_right _ h)))
theorem inX0 : ∀ w ∈ wsX00, w ∈ lw_tbl := fun w h => wsL_law_in w (inlX0 w h)
theorem inlX1 : ∀ w ∈ wsX10, w ∈ wsL_law := fun _ h => List.mem_append_left _ (List.mem_append_left _ (List.mem_append_left _ (List.mem_append_left _ (List.mem_append_left _ (List.mem_append_right _ h)))))
theorem inX1 : ∀ w ∈ wsX10, w ∈ lw_tbl := fun w h => wsL_law_in w (inlX1 w h)
theorem inlX2 : ∀ w ∈ wsX20, w ∈ wsL_law := fun _ h => List.mem_append_left _ (List.mem_append_left _ (List.mem_append_left _ (List.mem_append_left _ (List.mem_append_right _ h))))
theorem inX2 : ∀ w ∈ wsX20, w ∈ lw_tbl := fun w h => wsL_law_in w (inlX2 w h)
theorem inJx145de : ∀ w ∈ wsJx145de0, w ∈ lw_tbl := by decide +kernel
theorem inJ9 : ∀ w ∈ wsJ90, w ∈ lw_tbl := by decide +kernel
theorem inJ0 : ∀ w ∈ wsJ00, w ∈ lw_tbl := by decide +kernel
theorem inJ7 : ∀ w ∈ wsJ70, w ∈ lw_tbl := by decide +kernel
theorem dX0_init_0 : decode cX0_init 0 = .ok (.aload_n 0, 1) := by decide +kernel
theorem dX0_init_1 : decode cX0_init 1 = .ok (.invokespecial 3, 3) := by decide +kernel
theorem dX0_init_4 : decode cX0_init 4 = .ok (.aload_n 0, 1) := by decide +kernel
theorem dX0_init_5 : decode cX0_init 5 = .ok (.bipush 20, 2) := by decide +kernel
theorem dX0_init_7 : decode cX0_init 7 = .ok (.newarray .int, 2) := by decide +kernel
theorem dX0_init_9 : decode cX0_init 9 = .ok (.putfield 9, 3) := by decide +kernel
theorem dX0_init_12 : decode cX0_init 12 = .ok (.aload_n 0, 1) := by decide +kernel
theorem dX0_init_13 : decode cX0_init 13 = .ok (.iload_n 1, 1) := by decide +kernel
theorem dX0_init_14 : decode cX0_init 14 = .ok (.putfield 15, 3) := by decide +kernel
theorem dX0_init_17 : decode cX0_init 17 = .ok (.return_, 1) := by decide +kernel
theorem dX0_keepFor_0 : decode cX0_keepFor 0 = .ok (.aload_n 0, 1) := by decide +kernel
theorem dX0_keepFor_1 : decode cX0_keepFor 1 = .ok (.iload_n 1, 1) := by decide +kernel
theorem dX0_keepFor_2 : decode cX0_keepFor 2 = .ok (.putfield 15, 3) := by decide +kernel
theorem dX0_keepFor_5 : decode cX0_keepFor 5 = .ok (.return_, 1) := by decide +kernel
set_option maxRecDepth 20000 in
theorem ggX0_empty_J7_fill_53178 : GoodIn wsX0_empty wsJ7_fill_53178 := goodIn_r _ [6] (by decide +kernel) (by decide +kernel)
set_option maxRecDepth 20000 in
theorem gX0_empty_J7_fill_53178 : GoodIn wsX0_empty (va_wsS RX0 19 yJ7_fill_53178 wsJ7_fill_53178) := goodIn_app (goodIn_of _ (by decide +kernel)) ggX0_empty_J7_fill_53178
theorem dX0_empty_0 : decode cX0_empty 0 = .ok (.aload_n 0, 1) := by decide +kernel
theorem dX0_empty_1 : decode cX0_empty 1 = .ok (.getfield 9, 3) := by decide +kernel
theorem dX0_empty_4 : decode cX0_empty 4 = .ok (.iconst 0, 1) := by decide +kernel
theorem dX0_empty_5 : decode cX0_empty 5 = .ok (.invokestatic 19, 3) := by decide +kernel
theorem dX0_empty_8 : decode cX0_empty 8 = .ok (.aload_n 0, 1) := by decide +kernel
theorem dX0_empty_9 : decode cX0_empty 9 = .ok (.iconst 0, 1) := by decide +kernel
theorem dX0_empty_10 : decode cX0_empty 10 = .ok (.putfield 25, 3) := by decide +kernel
theorem dX0_empty_13 : decode cX0_empty 13 = .ok (.return_, 1) := by decide +kernel
theorem dX0_lapseBefore_0 : decode cX0_lapseBefore 0 = .ok (.iload_n 1, 1) := by decide +kernel
theorem dX0_lapseBefore_1 : decode cX0_lapseBefore 1 = .ok (.aload_n 0, 1) := by decide +kernel
theorem dX0_lapseBefore_2 : decode cX0_lapseBefore 2 = .ok (.getfield 15, 3) := by decide +kernel
theorem dX0_lapseBefore_5 : decode cX0_lapseBefore 5 = .ok (.isub, 1) := by decide +kernel
theorem dX0_lapseBefore_6 : decode cX0_lapseBefore 6 = .ok (.iconst 1, 1) := by decide +kernel
theorem dX0_lapseBefore_7 : decode cX0_lapseBefore 7 = .ok (.isub, 1) := by decide +kernel
theorem dX0_lapseBefore_8 : decode cX0_lapseBefore 8 = .ok (.istore_n 2, 1) := by decide +kernel
theorem dX0_lapseBefore_9 : decode cX0_lapseBefore 9 = .ok (.iload_n 2, 1) := by decide +kernel
theorem dX0_lapseBefore_10 : decode cX0_lapseBefore 10 = .ok (.ifCond .lt 31, 3) := by decide +kernel
theorem dX0_lapseBefore_13 : decode cX0_lapseBefore 13 = .ok (.iload_n 2, 1) := by decide +kernel
theorem dX0_lapseBefore_14 : decode cX0_lapseBefore 14 = .ok (.bipush 20, 2) := by decide +kernel
theorem dX0_lapseBefore_16 : decode cX0_lapseBefore 16 = .ok (.if_icmp .ge 25, 3) := by decide +kernel
theorem dX0_lapseBefore_19 : decode cX0_lapseBefore 19 = .ok (.aload_n 0, 1) := by decide +kernel
theorem dX0_lapseBefore_20 : decode cX0_lapseBefore 20 = .ok (.dup, 1) := by decide +kernel
theorem dX0_lapseBefore_21 : decode cX0_lapseBefore 21 = .ok (.getfield 25, 3) := by decide +kernel
theorem dX0_lapseBefore_24 : decode cX0_lapseBefore 24 = .ok (.aload_n 0, 1) := by decide +kernel
theorem dX0_lapseBefore_25 : decode cX0_lapseBefore 25 = .ok (.getfield 9, 3) := by decide +kernel
theorem dX0_lapseBefore_28 : decode cX0_lapseBefore 28 = .ok (.iload_n 2, 1) := by decide +kernel
theorem dX0_lapseBefore_29 : decode cX0_lapseBefore 29 = .ok (.iaload, 1) := by decide +kernel
theorem dX0_lapseBefore_30 : decode cX0_lapseBefore 30 = .ok (.iadd, 1) := by decide +kernel
theorem dX0_lapseBefore_31 : decode cX0_lapseBefore 31 = .ok (.putfield 25, 3) := by decide +kernel
theorem dX0_lapseBefore_34 : decode cX0_lapseBefore 34 = .ok (.aload_n 0, 1) := by decide +kernel
theorem dX0_lapseBefore_35 : decode cX0_lapseBefore 35 = .ok (.getfield 9, 3) := by decide +kernel
theorem dX0_lapseBefore_38 : decode cX0_lapseBefore 38 = .ok (.iload_n 2, 1) := by decide +kernel
theorem dX0_lapseBefore_39 : decode cX0_lapseBefore 39 = .ok (.iconst 0, 1) := by decide +kernel
theorem dX0_lapseBefore_40 : decode cX0_lapseBefore 40 = .ok (.iastore, 1) := by decide +kernel
theorem dX0_lapseBefore_41 : decode cX0_lapseBefore 41 = .ok (.return_, 1) := by decide +kernel
theorem dX0_put_0 : decode cX0_put 0 = .ok (.aload_n 0, 1) := by decide +kernel
theorem dX0_put_1 : decode cX0_put 1 = .ok (.getfield 9, 3) := by decide +kernel
theorem dX0_put_4 : decode cX0_put 4 = .ok (.iload_n 1, 1) := by decide +kernel
theorem dX0_put_5 : decode cX0_put 5 = .ok (.iload_n 2, 1) := by decide +kernel
theorem dX0_put_6 : decode cX0_put 6 = .ok (.iastore, 1) := by decide +kernel
theorem dX0_put_7 : decode cX0_put 7 = .ok (.return_, 1) := by decide +kernel
theorem dX0_drawFrom_0 : decode cX0_drawFrom 0 = .ok (.iload_n 2, 1) := by decide +kernel
theorem dX0_drawFrom_1 : decode cX0_drawFrom 1 = .ok (.aload_n 0, 1) := by decide +kernel
theorem dX0_drawFrom_2 : decode cX0_drawFrom 2 = .ok (.getfield 9, 3) := by decide +kernel
theorem dX0_drawFrom_5 : decode cX0_drawFrom 5 = .ok (.iload_n 1, 1) := by decide +kernel
theorem dX0_drawFrom_6 : decode cX0_drawFrom 6 = .ok (.iaload, 1) := by decide +kernel
theorem dX0_drawFrom_7 : decode cX0_drawFrom 7 = .ok (.invokestatic 28, 3) := by decide +kernel
theorem dX0_drawFrom_10 : decode cX0_drawFrom 10 = .ok (.istore_n 3, 1) := by decide +kernel
theorem dX0_drawFrom_11 : decode cX0_drawFrom 11 = .ok (.aload_n 0, 1) := by decide +kernel
theorem dX0_drawFrom_12 : decode cX0_drawFrom 12 = .ok (.getfield 9, 3) := by decide +kernel
theorem dX0_drawFrom_15 : decode cX0_drawFrom 15 = .ok (.iload_n 1, 1) := by decide +kernel
theorem dX0_drawFrom_16 : decode cX0_drawFrom 16 = .ok (.dup2, 1) := by decide +kernel
theorem dX0_drawFrom_17 : decode cX0_drawFrom 17 = .ok (.iaload, 1) := by decide +kernel
theorem dX0_drawFrom_18 : decode cX0_drawFrom 18 = .ok (.iload_n 3, 1) := by decide +kernel
theorem dX0_drawFrom_19 : decode cX0_drawFrom 19 = .ok (.isub, 1) := by decide +kernel
theorem dX0_drawFrom_20 : decode cX0_drawFrom 20 = .ok (.iastore, 1) := by decide +kernel
theorem dX0_drawFrom_21 : decode cX0_drawFrom 21 = .ok (.iload_n 3, 1) := by decide +kernel
theorem dX0_drawFrom_22 : decode cX0_drawFrom 22 = .ok (.ireturn, 1) := by decide +kernel
theorem dX0_leftFrom_0 : decode cX0_leftFrom 0 = .ok (.aload_n 0, 1) := by decide +kernel
theorem dX0_leftFrom_1 : decode cX0_leftFrom 1 = .ok (.getfield 9, 3) := by decide +kernel
theorem dX0_leftFrom_4 : decode cX0_leftFrom 4 = .ok (.iload_n 1, 1) := by decide +kernel
theorem dX0_leftFrom_5 : decode cX0_leftFrom 5 = .ok (.iaload, 1) := by decide +kernel
theorem dX0_leftFrom_6 : decode cX0_leftFrom 6 = .ok (.ireturn, 1) := by decide +kernel
theorem dX0_lapsedInAll_0 : decode cX0_lapsedInAll 0 = .ok (.aload_n 0, 1) := by decide +kernel
theorem dX0_lapsedInAll_1 : decode cX0_lapsedInAll 1 = .ok (.getfield 25, 3) := by decide +kernel
theorem dX0_lapsedInAll_4 : decode cX0_lapsedInAll 4 = .ok (.ireturn, 1) := by decide +kernel
set_option maxRecDepth 20000 in
theorem ggX1_init_J7_fill_53178 : GoodIn wsX1_init wsJ7_fill_53178 := goodIn_r _ [28] (by decide +kernel) (by decide +kernel)
set_option maxRecDepth 20000 in
theorem gX1_init_J7_fill_53178 : GoodIn wsX1_init (va_wsS RX1 24 yJ7_fill_53178 wsJ7_fill_53178) := goodIn_app (goodIn_of _ (by decide +kernel)) ggX1_init_J7_fill_53178
set_option maxRecDepth 20000 in
theorem ggX1_init_X0_init : GoodIn wsX1_init wsX0_init := goodIn_r _ [31, 32, 2, 3, 8, 33, 34, 52, 53, 54] (by decide +kernel) (by decide +kernel)
set_option maxRecDepth 20000 in
theorem gX1_init_X0_init : GoodIn wsX1_init (wsX0_init) := ggX1_init_X0_init
theorem dX1_init_0 : decode cX1_init 0 = .ok (.aload_n 0, 1) := by decide +kernel
theorem dX1_init_1 : decode cX1_init 1 = .ok (.invokespecial 1, 3) := by decide +kernel
theorem dX1_init_4 : decode cX1_init 4 = .ok (.aload_n 0, 1) := by decide +kernel
theorem dX1_init_5 : decode cX1_init 5 = .ok (.ldc 9, 2) := by decide +kernel
theorem dX1_init_7 : decode cX1_init 7 = .ok (.putfield 10, 3) := by decide +kernel
theorem dX1_init_10 : decode cX1_init 10 = .ok (.aload_n 0, 1) := by decide +kernel
theorem dX1_init_11 : decode cX1_init 11 = .ok (.bipush 80, 2) := by decide +kernel
theorem dX1_init_13 : decode cX1_init 13 = .ok (.putfield 14, 3) := by decide +kernel
theorem dX1_init_16 : decode cX1_init 16 = .ok (.aload_n 0, 1) := by decide +kernel
theorem dX1_init_17 : decode cX1_init 17 = .ok (.bipush 100, 2) := by decide +kernel
theorem dX1_init_19 : decode cX1_init 19 = .ok (.putfield 17, 3) := by decide +kernel
theorem dX1_init_22 : decode cX1_init 22 = .ok (.aload_n 0, 1) := by decide +kernel
theorem dX1_init_23 : decode cX1_init 23 = .ok (.bipush 20, 2) := by decide +kernel
theorem dX1_init_25 : decode cX1_init 25 = .ok (.newarray .int, 2) := by decide +kernel
theorem dX1_init_27 : decode cX1_init 27 = .ok (.putfield 20, 3) := by decide +kernel
theorem dX1_init_30 : decode cX1_init 30 = .ok (.aload_n 0, 1) := by decide +kernel
theorem dX1_init_31 : decode cX1_init 31 = .ok (.getfield 20, 3) := by decide +kernel
theorem dX1_init_34 : decode cX1_init 34 = .ok (.bipush 100, 2) := by decide +kernel
theorem dX1_init_36 : decode cX1_init 36 = .ok (.invokestatic 24, 3) := by decide +kernel
theorem dX1_init_39 : decode cX1_init 39 = .ok (.aload_n 0, 1) := by decide +kernel
theorem dX1_init_40 : decode cX1_init 40 = .ok (.bipush 20, 2) := by decide +kernel
theorem dX1_init_42 : decode cX1_init 42 = .ok (.newarray .int, 2) := by decide +kernel
theorem dX1_init_44 : decode cX1_init 44 = .ok (.putfield 30, 3) := by decide +kernel
theorem dX1_init_47 : decode cX1_init 47 = .ok (.aload_n 0, 1) := by decide +kernel
theorem dX1_init_48 : decode cX1_init 48 = .ok (.sipush 360, 3) := by decide +kernel
theorem dX1_init_51 : decode cX1_init 51 = .ok (.newarray .int, 2) := by decide +kernel
theorem dX1_init_53 : decode cX1_init 53 = .ok (.putfield 33, 3) := by decide +kernel
theorem dX1_init_56 : decode cX1_init 56 = .ok (.aload_n 0, 1) := by decide +kernel
theorem dX1_init_57 : decode cX1_init 57 = .ok (.bipush 20, 2) := by decide +kernel
theorem dX1_init_59 : decode cX1_init 59 = .ok (.newarray .int, 2) := by decide +kernel
theorem dX1_init_61 : decode cX1_init 61 = .ok (.putfield 36, 3) := by decide +kernel
theorem dX1_init_64 : decode cX1_init 64 = .ok (.aload_n 0, 1) := by decide +kernel
theorem dX1_init_65 : decode cX1_init 65 = .ok (.new 39, 3) := by decide +kernel
theorem dX1_init_68 : decode cX1_init 68 = .ok (.dup, 1) := by decide +kernel
theorem dX1_init_69 : decode cX1_init 69 = .ok (.iconst 3, 1) := by decide +kernel
theorem dX1_init_70 : decode cX1_init 70 = .ok (.invokespecial 41, 3) := by decide +kernel
theorem dX1_init_73 : decode cX1_init 73 = .ok (.putfield 44, 3) := by decide +kernel
theorem dX1_init_76 : decode cX1_init 76 = .ok (.aload_n 0, 1) := by decide +kernel
theorem dX1_init_77 : decode cX1_init 77 = .ok (.new 39, 3) := by decide +kernel
theorem dX1_init_80 : decode cX1_init 80 = .ok (.dup, 1) := by decide +kernel
theorem dX1_init_81 : decode cX1_init 81 = .ok (.iconst 2, 1) := by decide +kernel
theorem dX1_init_82 : decode cX1_init 82 = .ok (.invokespecial 41, 3) := by decide +kernel
theorem dX1_init_85 : decode cX1_init 85 = .ok (.putfield 48, 3) := by decide +kernel
theorem dX1_init_88 : decode cX1_init 88 = .ok (.aload_n 0, 1) := by decide +kernel
theorem dX1_init_89 : decode cX1_init 89 = .ok (.bipush 20, 2) := by decide +kernel
theorem dX1_init_91 : decode cX1_init 91 = .ok (.newarray .int, 2) := by decide +kernel
theorem dX1_init_93 : decode cX1_init 93 = .ok (.putfield 51, 3) := by decide +kernel
theorem dX1_init_96 : decode cX1_init 96 = .ok (.aload_n 0, 1) := by decide +kernel
theorem dX1_init_97 : decode cX1_init 97 = .ok (.bipush 20, 2) := by decide +kernel
theorem dX1_init_99 : decode cX1_init 99 = .ok (.newarray .int, 2) := by decide +kernel
theorem dX1_init_101 : decode cX1_init 101 = .ok (.putfield 54, 3) := by decide +kernel
theorem dX1_init_104 : decode cX1_init 104 = .ok (.aload_n 0, 1) := by decide +kernel
theorem dX1_init_105 : decode cX1_init 105 = .ok (.bipush 20, 2) := by decide +kernel
theorem dX1_init_107 : decode cX1_init 107 = .ok (.newarray .int, 2) := by decide +kernel
theorem dX1_init_109 : decode cX1_init 109 = .ok (.putfield 57, 3) := by decide +kernel
theorem dX1_init_112 : decode cX1_init 112 = .ok (.aload_n 0, 1) := by decide +kernel
theorem dX1_init_113 : decode cX1_init 113 = .ok (.bipush 20, 2) := by decide +kernel
theorem dX1_init_115 : decode cX1_init 115 = .ok (.newarray .int, 2) := by decide +kernel
theorem dX1_init_117 : decode cX1_init 117 = .ok (.putfield 60, 3) := by decide +kernel
theorem dX1_init_120 : decode cX1_init 120 = .ok (.aload_n 0, 1) := by decide +kernel
theorem dX1_init_121 : decode cX1_init 121 = .ok (.bipush 20, 2) := by decide +kernel
theorem dX1_init_123 : decode cX1_init 123 = .ok (.newarray .long, 2) := by decide +kernel
theorem dX1_init_125 : decode cX1_init 125 = .ok (.putfield 63, 3) := by decide +kernel
theorem dX1_init_128 : decode cX1_init 128 = .ok (.aload_n 0, 1) := by decide +kernel
theorem dX1_init_129 : decode cX1_init 129 = .ok (.bipush 20, 2) := by decide +kernel
theorem dX1_init_131 : decode cX1_init 131 = .ok (.newarray .long, 2) := by decide +kernel
theorem dX1_init_133 : decode cX1_init 133 = .ok (.putfield 67, 3) := by decide +kernel
theorem dX1_init_136 : decode cX1_init 136 = .ok (.return_, 1) := by decide +kernel
set_option maxRecDepth 20000 in
theorem ggX1_set_X1_requireRange : GoodIn wsX1_set wsX1_requireRange := goodIn_ca (goodIn_r _ [10, 11, 12] (by decide +kernel) (by decide +kernel)) (goodIn_sub (fun _ h => List.mem_cons_of_mem _ (List.mem_append_left _ (List.mem_append_right _ h))) (by decide +kernel))
set_option maxRecDepth 20000 in
theorem gX1_set_X1_requireRange : GoodIn wsX1_set (va_wsS RX1 71 yX1_requireRange wsX1_requireRange) := goodIn_app (goodIn_of _ (by decide +kernel)) ggX1_set_X1_requireRange
set_option maxRecDepth 20000 in
theorem ggX1_set_X1_requireUnused : GoodIn wsX1_set wsX1_requireUnused := goodIn_ca (goodIn_r _ [16, 17, 18, 19, 20, 27, 28, 29, 30, 31, 32, 33, 34, 35, 36, 37, 38, 39, 40, 41, 42, 43] (by decide +kernel) (by decide +kernel)) (goodIn_sub (fun _ h => List.mem_cons_of_mem _ (List.mem_append_right _ h)) (by decide +kernel))
set_option maxRecDepth 20000 in
theorem gX1_set_X1_requireUnused : GoodIn wsX1_set (wsV RX1 75 RX1 yX1_requireUnused wsX1_requireUnused) := goodIn_app (goodIn_of _ (by decide +kernel)) ggX1_set_X1_requireUnused
set_option maxRecDepth 20000 in
theorem ggX1_set_X0_keepFor : GoodIn wsX1_set wsX0_keepFor := goodIn_r _ [25, 26, 44, 45, 46] (by decide +kernel) (by decide +kernel)
set_option maxRecDepth 20000 in
theorem gX1_set_X0_keepFor : GoodIn wsX1_set (wsV RX1 78 RX0 yX0_keepFor wsX0_keepFor) := goodIn_app (goodIn_of _ (by decide +kernel)) ggX1_set_X0_keepFor
theorem dX1_set_0 : decode cX1_set 0 = .ok (.iload_n 1, 1) := by decide +kernel
theorem dX1_set_1 : decode cX1_set 1 = .ok (.iconst 1, 1) := by decide +kernel
theorem dX1_set_2 : decode cX1_set 2 = .ok (.ldc 70, 2) := by decide +kernel
theorem dX1_set_4 : decode cX1_set 4 = .ok (.invokestatic 71, 3) := by decide +kernel
theorem dX1_set_7 : decode cX1_set 7 = .ok (.iload_n 2, 1) := by decide +kernel
theorem dX1_set_8 : decode cX1_set 8 = .ok (.iconst 0, 1) := by decide +kernel
theorem dX1_set_9 : decode cX1_set 9 = .ok (.bipush 100, 2) := by decide +kernel
theorem dX1_set_11 : decode cX1_set 11 = .ok (.invokestatic 71, 3) := by decide +kernel
theorem dX1_set_14 : decode cX1_set 14 = .ok (.iload_n 3, 1) := by decide +kernel
theorem dX1_set_15 : decode cX1_set 15 = .ok (.iconst 0, 1) := by decide +kernel
theorem dX1_set_16 : decode cX1_set 16 = .ok (.bipush 100, 2) := by decide +kernel
theorem dX1_set_18 : decode cX1_set 18 = .ok (.invokestatic 71, 3) := by decide +kernel
theorem dX1_set_21 : decode cX1_set 21 = .ok (.iload 4, 2) := by decide +kernel
theorem dX1_set_23 : decode cX1_set 23 = .ok (.iconst 1, 1) := by decide +kernel
theorem dX1_set_24 : decode cX1_set 24 = .ok (.iconst 5, 1) := by decide +kernel
theorem dX1_set_25 : decode cX1_set 25 = .ok (.invokestatic 71, 3) := by decide +kernel
theorem dX1_set_28 : decode cX1_set 28 = .ok (.iload 5, 2) := by decide +kernel
theorem dX1_set_30 : decode cX1_set 30 = .ok (.iconst 1, 1) := by decide +kernel
theorem dX1_set_31 : decode cX1_set 31 = .ok (.iconst 5, 1) := by decide +kernel
theorem dX1_set_32 : decode cX1_set 32 = .ok (.invokestatic 71, 3) := by decide +kernel
theorem dX1_set_35 : decode cX1_set 35 = .ok (.aload_n 0, 1) := by decide +kernel
theorem dX1_set_36 : decode cX1_set 36 = .ok (.invokevirtual 75, 3) := by decide +kernel
theorem dX1_set_39 : decode cX1_set 39 = .ok (.aload_n 0, 1) := by decide +kernel
theorem dX1_set_40 : decode cX1_set 40 = .ok (.iload_n 1, 1) := by decide +kernel
theorem dX1_set_41 : decode cX1_set 41 = .ok (.putfield 10, 3) := by decide +kernel
theorem dX1_set_44 : decode cX1_set 44 = .ok (.aload_n 0, 1) := by decide +kernel
theorem dX1_set_45 : decode cX1_set 45 = .ok (.iload_n 2, 1) := by decide +kernel
theorem dX1_set_46 : decode cX1_set 46 = .ok (.putfield 14, 3) := by decide +kernel
theorem dX1_set_49 : decode cX1_set 49 = .ok (.aload_n 0, 1) := by decide +kernel
theorem dX1_set_50 : decode cX1_set 50 = .ok (.iload_n 3, 1) := by decide +kernel
theorem dX1_set_51 : decode cX1_set 51 = .ok (.putfield 17, 3) := by decide +kernel
theorem dX1_set_54 : decode cX1_set 54 = .ok (.aload_n 0, 1) := by decide +kernel
theorem dX1_set_55 : decode cX1_set 55 = .ok (.getfield 44, 3) := by decide +kernel
theorem dX1_set_58 : decode cX1_set 58 = .ok (.iload 4, 2) := by decide +kernel
theorem dX1_set_60 : decode cX1_set 60 = .ok (.invokevirtual 78, 3) := by decide +kernel
theorem dX1_set_63 : decode cX1_set 63 = .ok (.aload_n 0, 1) := by decide +kernel
theorem dX1_set_64 : decode cX1_set 64 = .ok (.getfield 48, 3) := by decide +kernel
theorem dX1_set_67 : decode cX1_set 67 = .ok (.iload 5, 2) := by decide +kernel
theorem dX1_set_69 : decode cX1_set 69 = .ok (.invokevirtual 78, 3) := by decide +kernel
theorem dX1_set_72 : decode cX1_set 72 = .ok (.return_, 1) := by decide +kernel
set_option maxRecDepth 20000 in
theorem ggX1_review_X1_requireYear : GoodIn wsX1_review wsX1_requireYear := goodIn_ca (goodIn_r _ [5, 6, 7, 4, 8, 9, 10] (by decide +kernel) (by decide +kernel)) (goodIn_sub (fun _ h => List.mem_cons_of_mem _ (List.mem_append_right _ h)) (by decide +kernel))
set_option maxRecDepth 20000 in
theorem gX1_review_X1_requireYear : GoodIn wsX1_review (va_wsS RX1 81 yX1_requireYear wsX1_requireYear) := goodIn_app (goodIn_of _ (by decide +kernel)) ggX1_review_X1_requireYear
set_option maxRecDepth 20000 in
theorem ggX1_review_X1_requireRange : GoodIn wsX1_review wsX1_requireRange := goodIn_ca (goodIn_r _ [8, 9, 10] (by decide +kernel) (by decide +kernel)) (goodIn_sub (fun _ h => List.mem_cons_of_mem _ (List.mem_append_right _ h)) (by decide +kernel))
set_option maxRecDepth 20000 in
theorem gX1_review_X1_requireRange : GoodIn wsX1_review (va_wsS RX1 71 yX1_requireRange wsX1_requireRange) := goodIn_app (goodIn_of _ (by decide +kernel)) ggX1_review_X1_requireRange
set_option maxRecDepth 20000 in
theorem ggX1_review_X1_settleClosedYears : GoodIn wsX1_review wsX1_settleClosedYears := goodIn_r _ [14, 15, 16, 17, 18, 19, 20, 21, 22, 23, 24, 25, 26, 27, 28, 29, 30, 31, 32, 33, 34, 35, 36, 37, 4, 38, 39, 40, 41, 42, 43, 44, 45, 46, 47, 48, 49, 50, 51, 1, 52, 53, 54, 55, 56, 57, 58, 59, 60, 61, 62, 63, 64, 65, 66, 67, 68, 69, 70, 71, 72, 73, 74, 75, 76, 77, 78, 79, 80, 81, 82, 83, 84, 85, 86, 87, 88, 89, 90, 91, 92, 93, 94, 95, 96, 97, 98, 99] (by decide +kernel) (by decide +kernel)
set_option maxRecDepth 20000 in
theorem gX1_review_X1_settleClosedYears : GoodIn wsX1_review (wsV RX1 84 RX1 yX1_settleClosedYears wsX1_settleClosedYears) := goodIn_app (goodIn_of _ (by decide +kernel)) ggX1_review_X1_settleClosedYears
theorem dX1_review_0 : decode cX1_review 0 = .ok (.iload_n 1, 1) := by decide +kernel
theorem dX1_review_1 : decode cX1_review 1 = .ok (.invokestatic 81, 3) := by decide +kernel
theorem dX1_review_4 : decode cX1_review 4 = .ok (.iload_n 2, 1) := by decide +kernel
theorem dX1_review_5 : decode cX1_review 5 = .ok (.iconst 1, 1) := by decide +kernel
theorem dX1_review_6 : decode cX1_review 6 = .ok (.sipush 1000, 3) := by decide +kernel
theorem dX1_review_9 : decode cX1_review 9 = .ok (.invokestatic 71, 3) := by decide +kernel
theorem dX1_review_12 : decode cX1_review 12 = .ok (.aload_n 0, 1) := by decide +kernel
theorem dX1_review_13 : decode cX1_review 13 = .ok (.getfield 20, 3) := by decide +kernel
theorem dX1_review_16 : decode cX1_review 16 = .ok (.iload_n 1, 1) := by decide +kernel
theorem dX1_review_17 : decode cX1_review 17 = .ok (.iaload, 1) := by decide +kernel
theorem dX1_review_18 : decode cX1_review 18 = .ok (.istore_n 3, 1) := by decide +kernel
theorem dX1_review_19 : decode cX1_review 19 = .ok (.iload_n 1, 1) := by decide +kernel
theorem dX1_review_20 : decode cX1_review 20 = .ok (.istore 4, 2) := by decide +kernel
theorem dX1_review_22 : decode cX1_review 22 = .ok (.iload 4, 2) := by decide +kernel
theorem dX1_review_24 : decode cX1_review 24 = .ok (.bipush 20, 2) := by decide +kernel
theorem dX1_review_26 : decode cX1_review 26 = .ok (.if_icmp .ge 17, 3) := by decide +kernel
theorem dX1_review_29 : decode cX1_review 29 = .ok (.aload_n 0, 1) := by decide +kernel
theorem dX1_review_30 : decode cX1_review 30 = .ok (.getfield 20, 3) := by decide +kernel
theorem dX1_review_33 : decode cX1_review 33 = .ok (.iload 4, 2) := by decide +kernel
theorem dX1_review_35 : decode cX1_review 35 = .ok (.iload_n 2, 1) := by decide +kernel
theorem dX1_review_36 : decode cX1_review 36 = .ok (.iastore, 1) := by decide +kernel
theorem dX1_review_37 : decode cX1_review 37 = .ok (.iinc 4 1, 3) := by decide +kernel
theorem dX1_review_40 : decode cX1_review 40 = .ok (.goto (-18), 3) := by decide +kernel
theorem dX1_review_43 : decode cX1_review 43 = .ok (.aload_n 0, 1) := by decide +kernel
theorem dX1_review_44 : decode cX1_review 44 = .ok (.invokevirtual 84, 3) := by decide +kernel
theorem dX1_review_47 : decode cX1_review 47 = .ok (.iload_n 3, 1) := by decide +kernel
theorem dX1_review_48 : decode cX1_review 48 = .ok (.ireturn, 1) := by decide +kernel
set_option maxRecDepth 20000 in
theorem ggX1_excuse_X1_requireYear : GoodIn wsX1_excuse wsX1_requireYear := goodIn_ca (goodIn_r _ [5, 6, 7, 4, 8, 9, 10] (by decide +kernel) (by decide +kernel)) (goodIn_sub (fun _ h => List.mem_cons_of_mem _ (List.mem_append_right _ h)) (by decide +kernel))
set_option maxRecDepth 20000 in
theorem gX1_excuse_X1_requireYear : GoodIn wsX1_excuse (va_wsS RX1 81 yX1_requireYear wsX1_requireYear) := goodIn_app (goodIn_of _ (by decide +kernel)) ggX1_excuse_X1_requireYear
set_option maxRecDepth 20000 in
theorem ggX1_excuse_X1_requireRange : GoodIn wsX1_excuse wsX1_requireRange := goodIn_ca (goodIn_r _ [8, 9, 10] (by decide +kernel) (by decide +kernel)) (goodIn_sub (fun _ h => List.mem_cons_of_mem _ (List.mem_append_right _ h)) (by decide +kernel))
set_option maxRecDepth 20000 in
theorem gX1_excuse_X1_requireRange : GoodIn wsX1_excuse (va_wsS RX1 71 yX1_requireRange wsX1_requireRange) := goodIn_app (goodIn_of _ (by decide +kernel)) ggX1_excuse_X1_requireRange
set_option maxRecDepth 20000 in
theorem ggX1_excuse_X1_settleClosedYears : GoodIn wsX1_excuse wsX1_settleClosedYears := goodIn_r _ [14, 15, 16, 17, 18, 19, 20, 21, 22, 23, 24, 25, 26, 27, 28, 29, 30, 31, 32, 33, 34, 35, 36, 37, 4, 38, 39, 40, 1, 41, 42, 43, 44, 45, 46, 47, 48, 49, 50, 51, 52, 53, 54, 55, 56, 57, 58, 59, 60, 61, 62, 63, 64, 65, 66, 67, 68, 69, 70, 71, 72, 73, 74, 75, 76, 77, 78, 79, 80, 81, 82, 83, 84, 85, 86, 87, 88, 89, 90, 91, 92, 93, 94, 95, 96, 97, 98, 99] (by decide +kernel) (by decide +kernel)
set_option maxRecDepth 20000 in
theorem gX1_excuse_X1_settleClosedYears : GoodIn wsX1_excuse (wsV RX1 84 RX1 yX1_settleClosedYears wsX1_settleClosedYears) := goodIn_app (goodIn_of _ (by decide +kernel)) ggX1_excuse_X1_settleClosedYears
theorem dX1_excuse_0 : decode cX1_excuse 0 = .ok (.iload_n 1, 1) := by decide +kernel
theorem dX1_excuse_1 : decode cX1_excuse 1 = .ok (.invokestatic 81, 3) := by decide +kernel
theorem dX1_excuse_4 : decode cX1_excuse 4 = .ok (.iload_n 2, 1) := by decide +kernel
theorem dX1_excuse_5 : decode cX1_excuse 5 = .ok (.iconst 0, 1) := by decide +kernel
theorem dX1_excuse_6 : decode cX1_excuse 6 = .ok (.sipush 360, 3) := by decide +kernel
theorem dX1_excuse_9 : decode cX1_excuse 9 = .ok (.invokestatic 71, 3) := by decide +kernel
theorem dX1_excuse_12 : decode cX1_excuse 12 = .ok (.aload_n 0, 1) := by decide +kernel
theorem dX1_excuse_13 : decode cX1_excuse 13 = .ok (.getfield 30, 3) := by decide +kernel
theorem dX1_excuse_16 : decode cX1_excuse 16 = .ok (.iload_n 1, 1) := by decide +kernel
theorem dX1_excuse_17 : decode cX1_excuse 17 = .ok (.iaload, 1) := by decide +kernel
theorem dX1_excuse_18 : decode cX1_excuse 18 = .ok (.istore_n 3, 1) := by decide +kernel
theorem dX1_excuse_19 : decode cX1_excuse 19 = .ok (.aload_n 0, 1) := by decide +kernel
theorem dX1_excuse_20 : decode cX1_excuse 20 = .ok (.getfield 30, 3) := by decide +kernel
theorem dX1_excuse_23 : decode cX1_excuse 23 = .ok (.iload_n 1, 1) := by decide +kernel
theorem dX1_excuse_24 : decode cX1_excuse 24 = .ok (.iload_n 2, 1) := by decide +kernel
theorem dX1_excuse_25 : decode cX1_excuse 25 = .ok (.iastore, 1) := by decide +kernel
theorem dX1_excuse_26 : decode cX1_excuse 26 = .ok (.aload_n 0, 1) := by decide +kernel
theorem dX1_excuse_27 : decode cX1_excuse 27 = .ok (.invokevirtual 84, 3) := by decide +kernel
theorem dX1_excuse_30 : decode cX1_excuse 30 = .ok (.iload_n 3, 1) := by decide +kernel
theorem dX1_excuse_31 : decode cX1_excuse 31 = .ok (.ireturn, 1) := by decide +kernel
set_option maxRecDepth 20000 in
theorem ggX1_take_X1_requireDay : GoodIn wsX1_take wsX1_requireDay := goodIn_ca (goodIn_r _ [5, 6, 7, 4, 8, 9, 10] (by decide +kernel) (by decide +kernel)) (goodIn_sub (fun _ h => List.mem_cons_of_mem _ (List.mem_append_left _ (List.mem_append_right _ h))) (by decide +kernel))
set_option maxRecDepth 20000 in
theorem gX1_take_X1_requireDay : GoodIn wsX1_take (va_wsS RX1 87 yX1_requireDay wsX1_requireDay) := goodIn_app (goodIn_of _ (by decide +kernel)) ggX1_take_X1_requireDay
set_option maxRecDepth 20000 in
theorem ggX1_take_X1_requireRange : GoodIn wsX1_take wsX1_requireRange := goodIn_ca (goodIn_r _ [8, 9, 10] (by decide +kernel) (by decide +kernel)) (goodIn_sub (fun _ h => List.mem_cons_of_mem _ (List.mem_append_left _ (List.mem_append_right _ h))) (by decide +kernel))
set_option maxRecDepth 20000 in
theorem gX1_take_X1_requireRange : GoodIn wsX1_take (va_wsS RX1 71 yX1_requireRange wsX1_requireRange) := goodIn_app (goodIn_of _ (by decide +kernel)) ggX1_take_X1_requireRange
set_option maxRecDepth 20000 in
theorem ggX1_take_X1_requireYearGoingOn : GoodIn wsX1_take wsX1_requireYearGoingOn := goodIn_ca (goodIn_r _ [14, 15, 16, 17, 27, 28, 29, 30, 31, 32, 33, 34, 35, 36, 37, 38, 39, 40, 41, 42, 43] (by decide +kernel) (by decide +kernel)) (goodIn_sub (fun _ h => List.mem_cons_of_mem _ (List.mem_append_right _ h)) (by decide +kernel))
set_option maxRecDepth 20000 in
theorem gX1_take_X1_requireYearGoingOn : GoodIn wsX1_take (wsV RX1 90 RX1 yX1_requireYearGoingOn wsX1_requireYearGoingOn) := goodIn_app (goodIn_of _ (by decide +kernel)) ggX1_take_X1_requireYearGoingOn
set_option maxRecDepth 20000 in
theorem ggX1_take_X1_requireRoom : GoodIn wsX1_take wsX1_requireRoom := goodIn_ca (goodIn_r _ [21, 15, 16, 1, 27, 28, 29, 30, 31, 32, 33, 34, 35, 36, 37, 38, 39, 40, 41, 42, 43] (by decide +kernel) (by decide +kernel)) (goodIn_sub (fun _ h => List.mem_cons_of_mem _ (List.mem_append_right _ h)) (by decide +kernel))
set_option maxRecDepth 20000 in
theorem gX1_take_X1_requireRoom : GoodIn wsX1_take (wsV RX1 93 RX1 yX1_requireRoom wsX1_requireRoom) := goodIn_app (goodIn_of _ (by decide +kernel)) ggX1_take_X1_requireRoom
set_option maxRecDepth 20000 in
theorem ggX1_take_X1_addTakes : GoodIn wsX1_take wsX1_addTakes := goodIn_r _ [25, 1, 26, 17, 27, 28, 29, 30, 31, 32, 33, 34, 35, 36, 37, 38, 39, 40, 41, 42, 43] (by decide +kernel) (by decide +kernel)
set_option maxRecDepth 20000 in
theorem gX1_take_X1_addTakes : GoodIn wsX1_take (wsV RX1 96 RX1 yX1_addTakes wsX1_addTakes) := goodIn_app (goodIn_of _ (by decide +kernel)) ggX1_take_X1_addTakes
theorem dX1_take_0 : decode cX1_take 0 = .ok (.iload_n 1, 1) := by decide +kernel
theorem dX1_take_1 : decode cX1_take 1 = .ok (.invokestatic 87, 3) := by decide +kernel
theorem dX1_take_4 : decode cX1_take 4 = .ok (.iload_n 2, 1) := by decide +kernel
theorem dX1_take_5 : decode cX1_take 5 = .ok (.iconst 1, 1) := by decide +kernel
theorem dX1_take_6 : decode cX1_take 6 = .ok (.sipush 500, 3) := by decide +kernel
theorem dX1_take_9 : decode cX1_take 9 = .ok (.invokestatic 71, 3) := by decide +kernel
theorem dX1_take_12 : decode cX1_take 12 = .ok (.aload_n 0, 1) := by decide +kernel
theorem dX1_take_13 : decode cX1_take 13 = .ok (.invokevirtual 90, 3) := by decide +kernel
theorem dX1_take_16 : decode cX1_take 16 = .ok (.aload_n 0, 1) := by decide +kernel
theorem dX1_take_17 : decode cX1_take 17 = .ok (.iload_n 1, 1) := by decide +kernel
theorem dX1_take_18 : decode cX1_take 18 = .ok (.iload_n 1, 1) := by decide +kernel
theorem dX1_take_19 : decode cX1_take 19 = .ok (.iload_n 2, 1) := by decide +kernel
theorem dX1_take_20 : decode cX1_take 20 = .ok (.invokevirtual 93, 3) := by decide +kernel
theorem dX1_take_23 : decode cX1_take 23 = .ok (.aload_n 0, 1) := by decide +kernel
theorem dX1_take_24 : decode cX1_take 24 = .ok (.iload_n 1, 1) := by decide +kernel
theorem dX1_take_25 : decode cX1_take 25 = .ok (.iload_n 1, 1) := by decide +kernel
theorem dX1_take_26 : decode cX1_take 26 = .ok (.iload_n 2, 1) := by decide +kernel
theorem dX1_take_27 : decode cX1_take 27 = .ok (.invokevirtual 96, 3) := by decide +kernel
theorem dX1_take_30 : decode cX1_take 30 = .ok (.aload_n 0, 1) := by decide +kernel
theorem dX1_take_31 : decode cX1_take 31 = .ok (.getfield 33, 3) := by decide +kernel
theorem dX1_take_34 : decode cX1_take 34 = .ok (.iload_n 1, 1) := by decide +kernel
theorem dX1_take_35 : decode cX1_take 35 = .ok (.iaload, 1) := by decide +kernel
theorem dX1_take_36 : decode cX1_take 36 = .ok (.ireturn, 1) := by decide +kernel
set_option maxRecDepth 20000 in
theorem ggX1_takeDaily_X1_requireDays : GoodIn wsX1_takeDaily wsX1_requireDays := goodIn_ca (goodIn_r _ [6, 7, 8, 5, 9, 10, 11, 12, 13, 14] (by decide +kernel) (by decide +kernel)) (goodIn_sub (fun _ h => List.mem_cons_of_mem _ (List.mem_append_left _ (List.mem_append_right _ h))) (by decide +kernel))
set_option maxRecDepth 20000 in
theorem gX1_takeDaily_X1_requireDays : GoodIn wsX1_takeDaily (va_wsS RX1 99 yX1_requireDays wsX1_requireDays) := goodIn_app (goodIn_of _ (by decide +kernel)) ggX1_takeDaily_X1_requireDays
set_option maxRecDepth 20000 in
theorem ggX1_takeDaily_X1_requireRange : GoodIn wsX1_takeDaily wsX1_requireRange := goodIn_ca (goodIn_r _ [12, 13, 14] (by decide +kernel) (by decide +kernel)) (goodIn_sub (fun _ h => List.mem_cons_of_mem _ (List.mem_append_left _ (List.mem_append_right _ h))) (by decide +kernel))
set_option maxRecDepth 20000 in
theorem gX1_takeDaily_X1_requireRange : GoodIn wsX1_takeDaily (va_wsS RX1 71 yX1_requireRange wsX1_requireRange) := goodIn_app (goodIn_of _ (by decide +kernel)) ggX1_takeDaily_X1_requireRange
set_option maxRecDepth 20000 in
theorem ggX1_takeDaily_X1_requireYearGoingOn : GoodIn wsX1_takeDaily wsX1_requireYearGoingOn := goodIn_ca (goodIn_r _ [18, 19, 20, 2, 30, 31, 32, 33, 34, 35, 36, 37, 38, 39, 40, 41, 42, 43, 44, 45, 46] (by decide +kernel) (by decide +kernel)) (goodIn_sub (fun _ h => List.mem_cons_of_mem _ (List.mem_append_right _ h)) (by decide +kernel))
set_option maxRecDepth 20000 in
theorem gX1_takeDaily_X1_requireYearGoingOn : GoodIn wsX1_takeDaily (wsV RX1 90 RX1 yX1_requireYearGoingOn wsX1_requireYearGoingOn) := goodIn_app (goodIn_of _ (by decide +kernel)) ggX1_takeDaily_X1_requireYearGoingOn
set_option maxRecDepth 20000 in
theorem ggX1_takeDaily_X1_requireRoom : GoodIn wsX1_takeDaily wsX1_requireRoom := goodIn_ca (goodIn_r _ [24, 19, 20, 25, 30, 31, 32, 33, 34, 35, 36, 37, 38, 39, 40, 41, 42, 43, 44, 45, 46] (by decide +kernel) (by decide +kernel)) (goodIn_sub (fun _ h => List.mem_cons_of_mem _ (List.mem_append_right _ h)) (by decide +kernel))
set_option maxRecDepth 20000 in
theorem gX1_takeDaily_X1_requireRoom : GoodIn wsX1_takeDaily (wsV RX1 93 RX1 yX1_requireRoom wsX1_requireRoom) := goodIn_app (goodIn_of _ (by decide +kernel)) ggX1_takeDaily_X1_requireRoom
set_option maxRecDepth 20000 in
theorem ggX1_takeDaily_X1_addTakes : GoodIn wsX1_takeDaily wsX1_addTakes := goodIn_r _ [29, 25, 1, 2, 30, 31, 32, 33, 34, 35, 36, 37, 38, 39, 40, 41, 42, 43, 44, 45, 46] (by decide +kernel) (by decide +kernel)
set_option maxRecDepth 20000 in
theorem gX1_takeDaily_X1_addTakes : GoodIn wsX1_takeDaily (wsV RX1 96 RX1 yX1_addTakes wsX1_addTakes) := goodIn_app (goodIn_of _ (by decide +kernel)) ggX1_takeDaily_X1_addTakes
theorem dX1_takeDaily_0 : decode cX1_takeDaily 0 = .ok (.iload_n 1, 1) := by decide +kernel
theorem dX1_takeDaily_1 : decode cX1_takeDaily 1 = .ok (.iload_n 2, 1) := by decide +kernel
theorem dX1_takeDaily_2 : decode cX1_takeDaily 2 = .ok (.invokestatic 99, 3) := by decide +kernel
theorem dX1_takeDaily_5 : decode cX1_takeDaily 5 = .ok (.iload_n 3, 1) := by decide +kernel
theorem dX1_takeDaily_6 : decode cX1_takeDaily 6 = .ok (.iconst 1, 1) := by decide +kernel
theorem dX1_takeDaily_7 : decode cX1_takeDaily 7 = .ok (.sipush 500, 3) := by decide +kernel
theorem dX1_takeDaily_10 : decode cX1_takeDaily 10 = .ok (.invokestatic 71, 3) := by decide +kernel
theorem dX1_takeDaily_13 : decode cX1_takeDaily 13 = .ok (.aload_n 0, 1) := by decide +kernel
theorem dX1_takeDaily_14 : decode cX1_takeDaily 14 = .ok (.invokevirtual 90, 3) := by decide +kernel
theorem dX1_takeDaily_17 : decode cX1_takeDaily 17 = .ok (.aload_n 0, 1) := by decide +kernel
theorem dX1_takeDaily_18 : decode cX1_takeDaily 18 = .ok (.iload_n 1, 1) := by decide +kernel
theorem dX1_takeDaily_19 : decode cX1_takeDaily 19 = .ok (.iload_n 2, 1) := by decide +kernel
theorem dX1_takeDaily_20 : decode cX1_takeDaily 20 = .ok (.iload_n 3, 1) := by decide +kernel
theorem dX1_takeDaily_21 : decode cX1_takeDaily 21 = .ok (.invokevirtual 93, 3) := by decide +kernel
theorem dX1_takeDaily_24 : decode cX1_takeDaily 24 = .ok (.aload_n 0, 1) := by decide +kernel
theorem dX1_takeDaily_25 : decode cX1_takeDaily 25 = .ok (.iload_n 1, 1) := by decide +kernel
theorem dX1_takeDaily_26 : decode cX1_takeDaily 26 = .ok (.iload_n 2, 1) := by decide +kernel
theorem dX1_takeDaily_27 : decode cX1_takeDaily 27 = .ok (.iload_n 3, 1) := by decide +kernel
theorem dX1_takeDaily_28 : decode cX1_takeDaily 28 = .ok (.invokevirtual 96, 3) := by decide +kernel
theorem dX1_takeDaily_31 : decode cX1_takeDaily 31 = .ok (.aload_n 0, 1) := by decide +kernel
theorem dX1_takeDaily_32 : decode cX1_takeDaily 32 = .ok (.getfield 36, 3) := by decide +kernel
theorem dX1_takeDaily_35 : decode cX1_takeDaily 35 = .ok (.aload_n 0, 1) := by decide +kernel
theorem dX1_takeDaily_36 : decode cX1_takeDaily 36 = .ok (.getfield 103, 3) := by decide +kernel
theorem dX1_takeDaily_39 : decode cX1_takeDaily 39 = .ok (.iaload, 1) := by decide +kernel
theorem dX1_takeDaily_40 : decode cX1_takeDaily 40 = .ok (.ireturn, 1) := by decide +kernel
set_option maxRecDepth 20000 in
theorem ggX1_close_X1_requireYearGoingOn : GoodIn wsX1_close wsX1_requireYearGoingOn := goodIn_ca (goodIn_r _ [9, 10, 11, 1, 86, 87, 88, 89, 90, 91, 92, 93, 94, 95, 96, 97, 98, 99, 100, 101, 102] (by decide +kernel) (by decide +kernel)) (goodIn_sub (fun _ h => List.mem_cons_of_mem _ (List.mem_append_right _ h)) (by decide +kernel))
set_option maxRecDepth 20000 in
theorem gX1_close_X1_requireYearGoingOn : GoodIn wsX1_close (wsV RX1 90 RX1 yX1_requireYearGoingOn wsX1_requireYearGoingOn) := goodIn_app (goodIn_of _ (by decide +kernel)) ggX1_close_X1_requireYearGoingOn
set_option maxRecDepth 20000 in
theorem ggX1_close_J7_fill_53178 : GoodIn wsX1_close wsJ7_fill_53178 := goodIn_r _ [15] (by decide +kernel) (by decide +kernel)
set_option maxRecDepth 20000 in
theorem gX1_close_J7_fill_53178 : GoodIn wsX1_close (va_wsS RX1 24 yJ7_fill_53178 wsJ7_fill_53178) := goodIn_app (goodIn_of _ (by decide +kernel)) ggX1_close_J7_fill_53178
set_option maxRecDepth 20000 in
theorem ggX1_close_X1_settleClosedYears : GoodIn wsX1_close wsX1_settleClosedYears := goodIn_r _ [19, 20, 21, 1, 22, 23, 24, 25, 26, 27, 28, 29, 30, 13, 14, 15, 31, 32, 33, 34, 35, 36, 37, 38, 8, 39, 40, 41, 42, 43, 44, 45, 46, 47, 48, 49, 50, 51, 52, 53, 54, 55, 56, 57, 58, 59, 60, 61, 62, 63, 64, 65, 66, 67, 68, 69, 70, 71, 72, 73, 74, 75, 76, 77, 78, 79, 80, 81, 86, 87, 88, 89, 90, 91, 92, 93, 94, 95, 96, 97, 98, 99, 100, 101, 102, 103, 104, 105] (by decide +kernel) (by decide +kernel)
set_option maxRecDepth 20000 in
theorem gX1_close_X1_settleClosedYears : GoodIn wsX1_close (wsV RX1 84 RX1 yX1_settleClosedYears wsX1_settleClosedYears) := goodIn_app (goodIn_of _ (by decide +kernel)) ggX1_close_X1_settleClosedYears
set_option maxRecDepth 20000 in
theorem ggX1_close_X1_dueInAll : GoodIn wsX1_close wsX1_dueInAll := goodIn_r _ [85, 1, 52, 86, 87, 88, 89, 90, 91, 92, 93, 94, 95, 96, 97, 98, 99, 100, 101, 102] (by decide +kernel) (by decide +kernel)
set_option maxRecDepth 20000 in
theorem gX1_close_X1_dueInAll : GoodIn wsX1_close (wsV RX1 106 RX1 yX1_dueInAll wsX1_dueInAll) := goodIn_app (goodIn_of _ (by decide +kernel)) ggX1_close_X1_dueInAll
theorem dX1_close_0 : decode cX1_close 0 = .ok (.aload_n 0, 1) := by decide +kernel
theorem dX1_close_1 : decode cX1_close 1 = .ok (.invokevirtual 90, 3) := by decide +kernel
theorem dX1_close_4 : decode cX1_close 4 = .ok (.aload_n 0, 1) := by decide +kernel
theorem dX1_close_5 : decode cX1_close 5 = .ok (.getfield 103, 3) := by decide +kernel
theorem dX1_close_8 : decode cX1_close 8 = .ok (.istore_n 1, 1) := by decide +kernel
theorem dX1_close_9 : decode cX1_close 9 = .ok (.aload_n 0, 1) := by decide +kernel
theorem dX1_close_10 : decode cX1_close 10 = .ok (.iload_n 1, 1) := by decide +kernel
theorem dX1_close_11 : decode cX1_close 11 = .ok (.iconst 1, 1) := by decide +kernel
theorem dX1_close_12 : decode cX1_close 12 = .ok (.iadd, 1) := by decide +kernel
theorem dX1_close_13 : decode cX1_close 13 = .ok (.putfield 103, 3) := by decide +kernel
theorem dX1_close_16 : decode cX1_close 16 = .ok (.aload_n 0, 1) := by decide +kernel
theorem dX1_close_17 : decode cX1_close 17 = .ok (.getfield 33, 3) := by decide +kernel
theorem dX1_close_20 : decode cX1_close 20 = .ok (.iconst 0, 1) := by decide +kernel
theorem dX1_close_21 : decode cX1_close 21 = .ok (.invokestatic 24, 3) := by decide +kernel
theorem dX1_close_24 : decode cX1_close 24 = .ok (.aload_n 0, 1) := by decide +kernel
theorem dX1_close_25 : decode cX1_close 25 = .ok (.invokevirtual 84, 3) := by decide +kernel
theorem dX1_close_28 : decode cX1_close 28 = .ok (.aload_n 0, 1) := by decide +kernel
theorem dX1_close_29 : decode cX1_close 29 = .ok (.invokevirtual 106, 3) := by decide +kernel
theorem dX1_close_32 : decode cX1_close 32 = .ok (.aload_n 0, 1) := by decide +kernel
theorem dX1_close_33 : decode cX1_close 33 = .ok (.getfield 110, 3) := by decide +kernel
theorem dX1_close_36 : decode cX1_close 36 = .ok (.lsub, 1) := by decide +kernel
theorem dX1_close_37 : decode cX1_close 37 = .ok (.lstore_n 2, 1) := by decide +kernel
theorem dX1_close_38 : decode cX1_close 38 = .ok (.aload_n 0, 1) := by decide +kernel
theorem dX1_close_39 : decode cX1_close 39 = .ok (.getfield 67, 3) := by decide +kernel
theorem dX1_close_42 : decode cX1_close 42 = .ok (.iload_n 1, 1) := by decide +kernel
theorem dX1_close_43 : decode cX1_close 43 = .ok (.lload_n 2, 1) := by decide +kernel
theorem dX1_close_44 : decode cX1_close 44 = .ok (.lastore, 1) := by decide +kernel
theorem dX1_close_45 : decode cX1_close 45 = .ok (.aload_n 0, 1) := by decide +kernel
theorem dX1_close_46 : decode cX1_close 46 = .ok (.dup, 1) := by decide +kernel
theorem dX1_close_47 : decode cX1_close 47 = .ok (.getfield 110, 3) := by decide +kernel
theorem dX1_close_50 : decode cX1_close 50 = .ok (.lload_n 2, 1) := by decide +kernel
theorem dX1_close_51 : decode cX1_close 51 = .ok (.ladd, 1) := by decide +kernel
theorem dX1_close_52 : decode cX1_close 52 = .ok (.putfield 110, 3) := by decide +kernel
theorem dX1_close_55 : decode cX1_close 55 = .ok (.lload_n 2, 1) := by decide +kernel
theorem dX1_close_56 : decode cX1_close 56 = .ok (.lreturn, 1) := by decide +kernel
theorem dX1_closed_0 : decode cX1_closed 0 = .ok (.aload_n 0, 1) := by decide +kernel
theorem dX1_closed_1 : decode cX1_closed 1 = .ok (.getfield 103, 3) := by decide +kernel
theorem dX1_closed_4 : decode cX1_closed 4 = .ok (.ireturn, 1) := by decide +kernel
set_option maxRecDepth 20000 in
theorem ggX1_taken_X1_requireYear : GoodIn wsX1_taken wsX1_requireYear := goodIn_ca (goodIn_r _ [5, 6, 7, 4, 8, 9, 10] (by decide +kernel) (by decide +kernel)) (goodIn_sub (fun _ h => List.mem_cons_of_mem _ (List.mem_append_right _ h)) (by decide +kernel))
set_option maxRecDepth 20000 in
theorem gX1_taken_X1_requireYear : GoodIn wsX1_taken (va_wsS RX1 81 yX1_requireYear wsX1_requireYear) := goodIn_app (goodIn_of _ (by decide +kernel)) ggX1_taken_X1_requireYear
theorem dX1_taken_0 : decode cX1_taken 0 = .ok (.iload_n 1, 1) := by decide +kernel
theorem dX1_taken_1 : decode cX1_taken 1 = .ok (.invokestatic 81, 3) := by decide +kernel
theorem dX1_taken_4 : decode cX1_taken 4 = .ok (.aload_n 0, 1) := by decide +kernel
theorem dX1_taken_5 : decode cX1_taken 5 = .ok (.getfield 36, 3) := by decide +kernel
theorem dX1_taken_8 : decode cX1_taken 8 = .ok (.iload_n 1, 1) := by decide +kernel
theorem dX1_taken_9 : decode cX1_taken 9 = .ok (.iaload, 1) := by decide +kernel
theorem dX1_taken_10 : decode cX1_taken 10 = .ok (.ireturn, 1) := by decide +kernel
set_option maxRecDepth 20000 in
theorem ggX1_takenFrom_X1_requireDays : GoodIn wsX1_takenFrom wsX1_requireDays := goodIn_ca (goodIn_r _ [5, 6, 7, 4, 8, 9, 10, 11, 12, 13] (by decide +kernel) (by decide +kernel)) (goodIn_sub (fun _ h => List.mem_cons_of_mem _ (List.mem_append_right _ h)) (by decide +kernel))
set_option maxRecDepth 20000 in
theorem gX1_takenFrom_X1_requireDays : GoodIn wsX1_takenFrom (va_wsS RX1 99 yX1_requireDays wsX1_requireDays) := goodIn_app (goodIn_of _ (by decide +kernel)) ggX1_takenFrom_X1_requireDays
theorem dX1_takenFrom_0 : decode cX1_takenFrom 0 = .ok (.iload_n 1, 1) := by decide +kernel
theorem dX1_takenFrom_1 : decode cX1_takenFrom 1 = .ok (.iload_n 2, 1) := by decide +kernel
theorem dX1_takenFrom_2 : decode cX1_takenFrom 2 = .ok (.invokestatic 99, 3) := by decide +kernel
theorem dX1_takenFrom_5 : decode cX1_takenFrom 5 = .ok (.iconst 0, 1) := by decide +kernel
theorem dX1_takenFrom_6 : decode cX1_takenFrom 6 = .ok (.istore_n 3, 1) := by decide +kernel
theorem dX1_takenFrom_7 : decode cX1_takenFrom 7 = .ok (.iload_n 1, 1) := by decide +kernel
theorem dX1_takenFrom_8 : decode cX1_takenFrom 8 = .ok (.istore 4, 2) := by decide +kernel
theorem dX1_takenFrom_10 : decode cX1_takenFrom 10 = .ok (.iload 4, 2) := by decide +kernel
theorem dX1_takenFrom_12 : decode cX1_takenFrom 12 = .ok (.iload_n 2, 1) := by decide +kernel
theorem dX1_takenFrom_13 : decode cX1_takenFrom 13 = .ok (.if_icmp .gt 19, 3) := by decide +kernel
theorem dX1_takenFrom_16 : decode cX1_takenFrom 16 = .ok (.iload_n 3, 1) := by decide +kernel
theorem dX1_takenFrom_17 : decode cX1_takenFrom 17 = .ok (.aload_n 0, 1) := by decide +kernel
theorem dX1_takenFrom_18 : decode cX1_takenFrom 18 = .ok (.getfield 33, 3) := by decide +kernel
theorem dX1_takenFrom_21 : decode cX1_takenFrom 21 = .ok (.iload 4, 2) := by decide +kernel
theorem dX1_takenFrom_23 : decode cX1_takenFrom 23 = .ok (.iaload, 1) := by decide +kernel
theorem dX1_takenFrom_24 : decode cX1_takenFrom 24 = .ok (.iadd, 1) := by decide +kernel
theorem dX1_takenFrom_25 : decode cX1_takenFrom 25 = .ok (.istore_n 3, 1) := by decide +kernel
theorem dX1_takenFrom_26 : decode cX1_takenFrom 26 = .ok (.iinc 4 1, 3) := by decide +kernel
theorem dX1_takenFrom_29 : decode cX1_takenFrom 29 = .ok (.goto (-19), 3) := by decide +kernel
theorem dX1_takenFrom_32 : decode cX1_takenFrom 32 = .ok (.iload_n 3, 1) := by decide +kernel
theorem dX1_takenFrom_33 : decode cX1_takenFrom 33 = .ok (.ireturn, 1) := by decide +kernel
set_option maxRecDepth 20000 in
theorem ggX1_price_X1_requireYear : GoodIn wsX1_price wsX1_requireYear := goodIn_ca (goodIn_r _ [5, 6, 7, 4, 8, 9, 10] (by decide +kernel) (by decide +kernel)) (goodIn_sub (fun _ h => List.mem_cons_of_mem _ (List.mem_append_right _ h)) (by decide +kernel))
set_option maxRecDepth 20000 in
theorem gX1_price_X1_requireYear : GoodIn wsX1_price (va_wsS RX1 81 yX1_requireYear wsX1_requireYear) := goodIn_app (goodIn_of _ (by decide +kernel)) ggX1_price_X1_requireYear
theorem dX1_price_0 : decode cX1_price 0 = .ok (.iload_n 1, 1) := by decide +kernel
theorem dX1_price_1 : decode cX1_price 1 = .ok (.invokestatic 81, 3) := by decide +kernel
theorem dX1_price_4 : decode cX1_price 4 = .ok (.aload_n 0, 1) := by decide +kernel
theorem dX1_price_5 : decode cX1_price 5 = .ok (.getfield 20, 3) := by decide +kernel
theorem dX1_price_8 : decode cX1_price 8 = .ok (.iload_n 1, 1) := by decide +kernel
theorem dX1_price_9 : decode cX1_price 9 = .ok (.iaload, 1) := by decide +kernel
theorem dX1_price_10 : decode cX1_price 10 = .ok (.ireturn, 1) := by decide +kernel
set_option maxRecDepth 20000 in
theorem ggX1_least_X1_requireYear : GoodIn wsX1_least wsX1_requireYear := goodIn_ca (goodIn_r _ [4, 5, 6, 3, 7, 8, 9] (by decide +kernel) (by decide +kernel)) (goodIn_sub (fun _ h => List.mem_cons_of_mem _ (List.mem_append_right _ h)) (by decide +kernel))
set_option maxRecDepth 20000 in
theorem gX1_least_X1_requireYear : GoodIn wsX1_least (va_wsS RX1 81 yX1_requireYear wsX1_requireYear) := goodIn_app (goodIn_of _ (by decide +kernel)) ggX1_least_X1_requireYear
set_option maxRecDepth 20000 in
theorem ggX1_least_X1_leastQuantity : GoodIn wsX1_least wsX1_leastQuantity := goodIn_r _ [13, 14, 15, 16, 17, 18, 19, 20, 21, 22, 23, 24, 25, 26, 27, 28, 29, 30, 31, 32, 33, 34] (by decide +kernel) (by decide +kernel)
set_option maxRecDepth 20000 in
theorem gX1_least_X1_leastQuantity : GoodIn wsX1_least (wsV RX1 114 RX1 yX1_leastQuantity wsX1_leastQuantity) := goodIn_app (goodIn_of _ (by decide +kernel)) ggX1_least_X1_leastQuantity
theorem dX1_least_0 : decode cX1_least 0 = .ok (.iload_n 1, 1) := by decide +kernel
theorem dX1_least_1 : decode cX1_least 1 = .ok (.invokestatic 81, 3) := by decide +kernel
theorem dX1_least_4 : decode cX1_least 4 = .ok (.aload_n 0, 1) := by decide +kernel
theorem dX1_least_5 : decode cX1_least 5 = .ok (.iload_n 1, 1) := by decide +kernel
theorem dX1_least_6 : decode cX1_least 6 = .ok (.invokevirtual 114, 3) := by decide +kernel
theorem dX1_least_9 : decode cX1_least 9 = .ok (.ireturn, 1) := by decide +kernel
set_option maxRecDepth 20000 in
theorem ggX1_shortfall_X1_requireClosedYear : GoodIn wsX1_shortfall wsX1_requireClosedYear := goodIn_ca (goodIn_ca (goodIn_r _ [6, 7, 8, 9, 10, 11, 5, 12, 13, 14, 15, 16, 17, 18, 19, 20, 21, 22, 23, 24, 25, 26, 27, 28, 29, 30, 31, 32, 33, 34] (by decide +kernel) (by decide +kernel)) (goodIn_sub (fun _ h => List.mem_cons_of_mem _ (List.mem_append_left _ (List.mem_append_right _ h))) (by decide +kernel))) (goodIn_sub (fun _ h => List.mem_cons_of_mem _ (List.mem_append_right _ h)) (by decide +kernel))
set_option maxRecDepth 20000 in
theorem gX1_shortfall_X1_requireClosedYear : GoodIn wsX1_shortfall (wsV RX1 118 RX1 yX1_requireClosedYear wsX1_requireClosedYear) := goodIn_app (goodIn_of _ (by decide +kernel)) ggX1_shortfall_X1_requireClosedYear
theorem dX1_shortfall_0 : decode cX1_shortfall 0 = .ok (.aload_n 0, 1) := by decide +kernel
theorem dX1_shortfall_1 : decode cX1_shortfall 1 = .ok (.iload_n 1, 1) := by decide +kernel
theorem dX1_shortfall_2 : decode cX1_shortfall 2 = .ok (.invokevirtual 118, 3) := by decide +kernel
theorem dX1_shortfall_5 : decode cX1_shortfall 5 = .ok (.aload_n 0, 1) := by decide +kernel
theorem dX1_shortfall_6 : decode cX1_shortfall 6 = .ok (.getfield 51, 3) := by decide +kernel
theorem dX1_shortfall_9 : decode cX1_shortfall 9 = .ok (.iload_n 1, 1) := by decide +kernel
theorem dX1_shortfall_10 : decode cX1_shortfall 10 = .ok (.iaload, 1) := by decide +kernel
theorem dX1_shortfall_11 : decode cX1_shortfall 11 = .ok (.ireturn, 1) := by decide +kernel
set_option maxRecDepth 20000 in
theorem ggX1_madeUp_X1_requireClosedYear : GoodIn wsX1_madeUp wsX1_requireClosedYear := goodIn_ca (goodIn_ca (goodIn_r _ [6, 7, 8, 9, 10, 11, 5, 12, 13, 14, 15, 16, 17, 18, 19, 20, 21, 22, 23, 24, 25, 26, 27, 28, 29, 30, 31, 32, 33, 34] (by decide +kernel) (by decide +kernel)) (goodIn_sub (fun _ h => List.mem_cons_of_mem _ (List.mem_append_left _ (List.mem_append_right _ h))) (by decide +kernel))) (goodIn_sub (fun _ h => List.mem_cons_of_mem _ (List.mem_append_right _ h)) (by decide +kernel))
set_option maxRecDepth 20000 in
theorem gX1_madeUp_X1_requireClosedYear : GoodIn wsX1_madeUp (wsV RX1 118 RX1 yX1_requireClosedYear wsX1_requireClosedYear) := goodIn_app (goodIn_of _ (by decide +kernel)) ggX1_madeUp_X1_requireClosedYear
theorem dX1_madeUp_0 : decode cX1_madeUp 0 = .ok (.aload_n 0, 1) := by decide +kernel
theorem dX1_madeUp_1 : decode cX1_madeUp 1 = .ok (.iload_n 1, 1) := by decide +kernel
theorem dX1_madeUp_2 : decode cX1_madeUp 2 = .ok (.invokevirtual 118, 3) := by decide +kernel
theorem dX1_madeUp_5 : decode cX1_madeUp 5 = .ok (.aload_n 0, 1) := by decide +kernel
theorem dX1_madeUp_6 : decode cX1_madeUp 6 = .ok (.getfield 54, 3) := by decide +kernel
theorem dX1_madeUp_9 : decode cX1_madeUp 9 = .ok (.iload_n 1, 1) := by decide +kernel
theorem dX1_madeUp_10 : decode cX1_madeUp 10 = .ok (.iaload, 1) := by decide +kernel
theorem dX1_madeUp_11 : decode cX1_madeUp 11 = .ok (.ireturn, 1) := by decide +kernel
set_option maxRecDepth 20000 in
theorem ggX1_covered_X1_requireClosedYear : GoodIn wsX1_covered wsX1_requireClosedYear := goodIn_ca (goodIn_ca (goodIn_r _ [6, 7, 8, 9, 10, 11, 5, 12, 13, 14, 15, 16, 17, 18, 19, 20, 21, 22, 23, 24, 25, 26, 27, 28, 29, 30, 31, 32, 33, 34] (by decide +kernel) (by decide +kernel)) (goodIn_sub (fun _ h => List.mem_cons_of_mem _ (List.mem_append_left _ (List.mem_append_right _ h))) (by decide +kernel))) (goodIn_sub (fun _ h => List.mem_cons_of_mem _ (List.mem_append_right _ h)) (by decide +kernel))
set_option maxRecDepth 20000 in
theorem gX1_covered_X1_requireClosedYear : GoodIn wsX1_covered (wsV RX1 118 RX1 yX1_requireClosedYear wsX1_requireClosedYear) := goodIn_app (goodIn_of _ (by decide +kernel)) ggX1_covered_X1_requireClosedYear
theorem dX1_covered_0 : decode cX1_covered 0 = .ok (.aload_n 0, 1) := by decide +kernel
theorem dX1_covered_1 : decode cX1_covered 1 = .ok (.iload_n 1, 1) := by decide +kernel
theorem dX1_covered_2 : decode cX1_covered 2 = .ok (.invokevirtual 118, 3) := by decide +kernel
theorem dX1_covered_5 : decode cX1_covered 5 = .ok (.aload_n 0, 1) := by decide +kernel
theorem dX1_covered_6 : decode cX1_covered 6 = .ok (.getfield 57, 3) := by decide +kernel
theorem dX1_covered_9 : decode cX1_covered 9 = .ok (.iload_n 1, 1) := by decide +kernel
theorem dX1_covered_10 : decode cX1_covered 10 = .ok (.iaload, 1) := by decide +kernel
theorem dX1_covered_11 : decode cX1_covered 11 = .ok (.ireturn, 1) := by decide +kernel
set_option maxRecDepth 20000 in
theorem ggX1_surplus_X1_requireClosedYear : GoodIn wsX1_surplus wsX1_requireClosedYear := goodIn_ca (goodIn_ca (goodIn_r _ [6, 7, 8, 9, 10, 11, 5, 12, 13, 14, 15, 16, 17, 18, 19, 20, 21, 22, 23, 24, 25, 26, 27, 28, 29, 30, 31, 32, 33, 34] (by decide +kernel) (by decide +kernel)) (goodIn_sub (fun _ h => List.mem_cons_of_mem _ (List.mem_append_left _ (List.mem_append_right _ h))) (by decide +kernel))) (goodIn_sub (fun _ h => List.mem_cons_of_mem _ (List.mem_append_right _ h)) (by decide +kernel))
set_option maxRecDepth 20000 in
theorem gX1_surplus_X1_requireClosedYear : GoodIn wsX1_surplus (wsV RX1 118 RX1 yX1_requireClosedYear wsX1_requireClosedYear) := goodIn_app (goodIn_of _ (by decide +kernel)) ggX1_surplus_X1_requireClosedYear
theorem dX1_surplus_0 : decode cX1_surplus 0 = .ok (.aload_n 0, 1) := by decide +kernel
theorem dX1_surplus_1 : decode cX1_surplus 1 = .ok (.iload_n 1, 1) := by decide +kernel
theorem dX1_surplus_2 : decode cX1_surplus 2 = .ok (.invokevirtual 118, 3) := by decide +kernel
theorem dX1_surplus_5 : decode cX1_surplus 5 = .ok (.aload_n 0, 1) := by decide +kernel
theorem dX1_surplus_6 : decode cX1_surplus 6 = .ok (.getfield 60, 3) := by decide +kernel
theorem dX1_surplus_9 : decode cX1_surplus 9 = .ok (.iload_n 1, 1) := by decide +kernel
theorem dX1_surplus_10 : decode cX1_surplus 10 = .ok (.iaload, 1) := by decide +kernel
theorem dX1_surplus_11 : decode cX1_surplus 11 = .ok (.ireturn, 1) := by decide +kernel
set_option maxRecDepth 20000 in
theorem ggX1_due_X1_requireClosedYear : GoodIn wsX1_due wsX1_requireClosedYear := goodIn_ca (goodIn_ca (goodIn_r _ [6, 7, 8, 9, 10, 11, 5, 12, 13, 14, 15, 16, 17, 18, 19, 20, 21, 22, 23, 24, 25, 26, 27, 28, 29, 30, 31, 32, 33, 34] (by decide +kernel) (by decide +kernel)) (goodIn_sub (fun _ h => List.mem_cons_of_mem _ (List.mem_append_left _ (List.mem_append_right _ h))) (by decide +kernel))) (goodIn_sub (fun _ h => List.mem_cons_of_mem _ (List.mem_append_right _ h)) (by decide +kernel))
set_option maxRecDepth 20000 in
theorem gX1_due_X1_requireClosedYear : GoodIn wsX1_due (wsV RX1 118 RX1 yX1_requireClosedYear wsX1_requireClosedYear) := goodIn_app (goodIn_of _ (by decide +kernel)) ggX1_due_X1_requireClosedYear
theorem dX1_due_0 : decode cX1_due 0 = .ok (.aload_n 0, 1) := by decide +kernel
theorem dX1_due_1 : decode cX1_due 1 = .ok (.iload_n 1, 1) := by decide +kernel
theorem dX1_due_2 : decode cX1_due 2 = .ok (.invokevirtual 118, 3) := by decide +kernel
theorem dX1_due_5 : decode cX1_due 5 = .ok (.aload_n 0, 1) := by decide +kernel
theorem dX1_due_6 : decode cX1_due 6 = .ok (.getfield 63, 3) := by decide +kernel
theorem dX1_due_9 : decode cX1_due 9 = .ok (.iload_n 1, 1) := by decide +kernel
theorem dX1_due_10 : decode cX1_due 10 = .ok (.laload, 1) := by decide +kernel
theorem dX1_due_11 : decode cX1_due 11 = .ok (.lreturn, 1) := by decide +kernel
set_option maxRecDepth 20000 in
theorem ggX1_bill_X1_requireClosedYear : GoodIn wsX1_bill wsX1_requireClosedYear := goodIn_ca (goodIn_ca (goodIn_r _ [6, 7, 8, 9, 10, 11, 5, 12, 13, 14, 15, 16, 17, 18, 19, 20, 21, 22, 23, 24, 25, 26, 27, 28, 29, 30, 31, 32, 33, 34] (by decide +kernel) (by decide +kernel)) (goodIn_sub (fun _ h => List.mem_cons_of_mem _ (List.mem_append_left _ (List.mem_append_right _ h))) (by decide +kernel))) (goodIn_sub (fun _ h => List.mem_cons_of_mem _ (List.mem_append_right _ h)) (by decide +kernel))
set_option maxRecDepth 20000 in
theorem gX1_bill_X1_requireClosedYear : GoodIn wsX1_bill (wsV RX1 118 RX1 yX1_requireClosedYear wsX1_requireClosedYear) := goodIn_app (goodIn_of _ (by decide +kernel)) ggX1_bill_X1_requireClosedYear
theorem dX1_bill_0 : decode cX1_bill 0 = .ok (.aload_n 0, 1) := by decide +kernel
theorem dX1_bill_1 : decode cX1_bill 1 = .ok (.iload_n 1, 1) := by decide +kernel
theorem dX1_bill_2 : decode cX1_bill 2 = .ok (.invokevirtual 118, 3) := by decide +kernel
theorem dX1_bill_5 : decode cX1_bill 5 = .ok (.aload_n 0, 1) := by decide +kernel
theorem dX1_bill_6 : decode cX1_bill 6 = .ok (.getfield 67, 3) := by decide +kernel
theorem dX1_bill_9 : decode cX1_bill 9 = .ok (.iload_n 1, 1) := by decide +kernel
theorem dX1_bill_10 : decode cX1_bill 10 = .ok (.laload, 1) := by decide +kernel
theorem dX1_bill_11 : decode cX1_bill 11 = .ok (.lreturn, 1) := by decide +kernel
set_option maxRecDepth 20000 in
theorem ggX1_makeUpLeft_X1_requireClosedYear : GoodIn wsX1_makeUpLeft wsX1_requireClosedYear := goodIn_ca (goodIn_ca (goodIn_r _ [6, 7, 8, 9, 10, 11, 5, 12, 13, 14, 15, 16, 17, 24, 25, 26, 27, 28, 29, 30, 31, 32, 33, 34, 35, 36, 37, 38, 39, 40] (by decide +kernel) (by decide +kernel)) (goodIn_sub (fun _ h => List.mem_cons_of_mem _ (List.mem_append_left _ (List.mem_append_right _ h))) (by decide +kernel))) (goodIn_sub (fun _ h => List.mem_cons_of_mem _ (List.mem_append_right _ h)) (by decide +kernel))
set_option maxRecDepth 20000 in
theorem gX1_makeUpLeft_X1_requireClosedYear : GoodIn wsX1_makeUpLeft (wsV RX1 118 RX1 yX1_requireClosedYear wsX1_requireClosedYear) := goodIn_app (goodIn_of _ (by decide +kernel)) ggX1_makeUpLeft_X1_requireClosedYear
set_option maxRecDepth 20000 in
theorem ggX1_makeUpLeft_X0_leftFrom : GoodIn wsX1_makeUpLeft wsX0_leftFrom := goodIn_r _ [22, 23, 41, 42, 43] (by decide +kernel) (by decide +kernel)
set_option maxRecDepth 20000 in
theorem gX1_makeUpLeft_X0_leftFrom : GoodIn wsX1_makeUpLeft (wsV RX1 121 RX0 yX0_leftFrom wsX0_leftFrom) := goodIn_app (goodIn_of _ (by decide +kernel)) ggX1_makeUpLeft_X0_leftFrom
theorem dX1_makeUpLeft_0 : decode cX1_makeUpLeft 0 = .ok (.aload_n 0, 1) := by decide +kernel
theorem dX1_makeUpLeft_1 : decode cX1_makeUpLeft 1 = .ok (.iload_n 1, 1) := by decide +kernel
theorem dX1_makeUpLeft_2 : decode cX1_makeUpLeft 2 = .ok (.invokevirtual 118, 3) := by decide +kernel
theorem dX1_makeUpLeft_5 : decode cX1_makeUpLeft 5 = .ok (.aload_n 0, 1) := by decide +kernel
theorem dX1_makeUpLeft_6 : decode cX1_makeUpLeft 6 = .ok (.getfield 44, 3) := by decide +kernel
theorem dX1_makeUpLeft_9 : decode cX1_makeUpLeft 9 = .ok (.iload_n 1, 1) := by decide +kernel
theorem dX1_makeUpLeft_10 : decode cX1_makeUpLeft 10 = .ok (.invokevirtual 121, 3) := by decide +kernel
theorem dX1_makeUpLeft_13 : decode cX1_makeUpLeft 13 = .ok (.ireturn, 1) := by decide +kernel
set_option maxRecDepth 20000 in
theorem ggX1_surplusLeft_X1_requireClosedYear : GoodIn wsX1_surplusLeft wsX1_requireClosedYear := goodIn_ca (goodIn_ca (goodIn_r _ [6, 7, 8, 9, 10, 11, 5, 12, 13, 14, 15, 16, 17, 24, 25, 26, 27, 28, 29, 30, 31, 32, 33, 34, 35, 36, 37, 38, 39, 40] (by decide +kernel) (by decide +kernel)) (goodIn_sub (fun _ h => List.mem_cons_of_mem _ (List.mem_append_left _ (List.mem_append_right _ h))) (by decide +kernel))) (goodIn_sub (fun _ h => List.mem_cons_of_mem _ (List.mem_append_right _ h)) (by decide +kernel))
set_option maxRecDepth 20000 in
theorem gX1_surplusLeft_X1_requireClosedYear : GoodIn wsX1_surplusLeft (wsV RX1 118 RX1 yX1_requireClosedYear wsX1_requireClosedYear) := goodIn_app (goodIn_of _ (by decide +kernel)) ggX1_surplusLeft_X1_requireClosedYear
set_option maxRecDepth 20000 in
theorem ggX1_surplusLeft_X0_leftFrom : GoodIn wsX1_surplusLeft wsX0_leftFrom := goodIn_r _ [22, 23, 41, 42, 43] (by decide +kernel) (by decide +kernel)
set_option maxRecDepth 20000 in
theorem gX1_surplusLeft_X0_leftFrom : GoodIn wsX1_surplusLeft (wsV RX1 121 RX0 yX0_leftFrom wsX0_leftFrom) := goodIn_app (goodIn_of _ (by decide +kernel)) ggX1_surplusLeft_X0_leftFrom
theorem dX1_surplusLeft_0 : decode cX1_surplusLeft 0 = .ok (.aload_n 0, 1) := by decide +kernel
theorem dX1_surplusLeft_1 : decode cX1_surplusLeft 1 = .ok (.iload_n 1, 1) := by decide +kernel
theorem dX1_surplusLeft_2 : decode cX1_surplusLeft 2 = .ok (.invokevirtual 118, 3) := by decide +kernel
theorem dX1_surplusLeft_5 : decode cX1_surplusLeft 5 = .ok (.aload_n 0, 1) := by decide +kernel
theorem dX1_surplusLeft_6 : decode cX1_surplusLeft 6 = .ok (.getfield 48, 3) := by decide +kernel
theorem dX1_surplusLeft_9 : decode cX1_surplusLeft 9 = .ok (.iload_n 1, 1) := by decide +kernel
theorem dX1_surplusLeft_10 : decode cX1_surplusLeft 10 = .ok (.invokevirtual 121, 3) := by decide +kernel
theorem dX1_surplusLeft_13 : decode cX1_surplusLeft 13 = .ok (.ireturn, 1) := by decide +kernel
set_option maxRecDepth 20000 in
theorem ggX1_lapsed_X0_lapsedInAll : GoodIn wsX1_lapsed wsX0_lapsedInAll := goodIn_r _ [6, 7, 25, 26, 27] (by decide +kernel) (by decide +kernel)
set_option maxRecDepth 20000 in
theorem gX1_lapsed_X0_lapsedInAll : GoodIn wsX1_lapsed (wsV RX1 124 RX0 yX0_lapsedInAll wsX0_lapsedInAll) := goodIn_app (goodIn_of _ (by decide +kernel)) ggX1_lapsed_X0_lapsedInAll
theorem dX1_lapsed_0 : decode cX1_lapsed 0 = .ok (.aload_n 0, 1) := by decide +kernel
theorem dX1_lapsed_1 : decode cX1_lapsed 1 = .ok (.getfield 44, 3) := by decide +kernel
theorem dX1_lapsed_4 : decode cX1_lapsed 4 = .ok (.invokevirtual 124, 3) := by decide +kernel
theorem dX1_lapsed_7 : decode cX1_lapsed 7 = .ok (.ireturn, 1) := by decide +kernel
set_option maxRecDepth 20000 in
theorem ggX1_open_X1_dueInAll : GoodIn wsX1_open wsX1_dueInAll := goodIn_r _ [6, 7, 8, 9, 10, 11, 12, 13, 14, 15, 16, 17, 18, 19, 20, 21, 22, 23, 24, 25] (by decide +kernel) (by decide +kernel)
set_option maxRecDepth 20000 in
theorem gX1_open_X1_dueInAll : GoodIn wsX1_open (wsV RX1 106 RX1 yX1_dueInAll wsX1_dueInAll) := goodIn_app (goodIn_of _ (by decide +kernel)) ggX1_open_X1_dueInAll
theorem dX1_open_0 : decode cX1_open 0 = .ok (.aload_n 0, 1) := by decide +kernel
theorem dX1_open_1 : decode cX1_open 1 = .ok (.invokevirtual 106, 3) := by decide +kernel
theorem dX1_open_4 : decode cX1_open 4 = .ok (.aload_n 0, 1) := by decide +kernel
theorem dX1_open_5 : decode cX1_open 5 = .ok (.getfield 110, 3) := by decide +kernel
theorem dX1_open_8 : decode cX1_open 8 = .ok (.lsub, 1) := by decide +kernel
theorem dX1_open_9 : decode cX1_open 9 = .ok (.lreturn, 1) := by decide +kernel
theorem dX1_requireRange_0 : decode cX1_requireRange 0 = .ok (.iload_n 0, 1) := by decide +kernel
theorem dX1_requireRange_1 : decode cX1_requireRange 1 = .ok (.iload_n 1, 1) := by decide +kernel
theorem dX1_requireRange_2 : decode cX1_requireRange 2 = .ok (.if_icmp .lt 8, 3) := by decide +kernel
theorem dX1_requireRange_5 : decode cX1_requireRange 5 = .ok (.iload_n 0, 1) := by decide +kernel
theorem dX1_requireRange_6 : decode cX1_requireRange 6 = .ok (.iload_n 2, 1) := by decide +kernel
theorem dX1_requireRange_7 : decode cX1_requireRange 7 = .ok (.if_icmp .le 13, 3) := by decide +kernel
theorem dX1_requireRange_10 : decode cX1_requireRange 10 = .ok (.new 128, 3) := by decide +kernel
theorem dX1_requireRange_13 : decode cX1_requireRange 13 = .ok (.dup, 1) := by decide +kernel
theorem dX1_requireRange_14 : decode cX1_requireRange 14 = .ok (.ldc 130, 2) := by decide +kernel
theorem dX1_requireRange_16 : decode cX1_requireRange 16 = .ok (.invokespecial 132, 3) := by decide +kernel
theorem dX1_requireRange_19 : decode cX1_requireRange 19 = .ok (.athrow, 1) := by decide +kernel
theorem dX1_requireRange_20 : decode cX1_requireRange 20 = .ok (.return_, 1) := by decide +kernel
set_option maxRecDepth 20000 in
theorem ggX1_requireYear_X1_requireRange : GoodIn wsX1_requireYear wsX1_requireRange := goodIn_ca (goodIn_r _ [4, 5, 6] (by decide +kernel) (by decide +kernel)) (goodIn_sub (fun _ h => List.mem_cons_of_mem _ (List.mem_append_right _ h)) (by decide +kernel))
set_option maxRecDepth 20000 in
theorem gX1_requireYear_X1_requireRange : GoodIn wsX1_requireYear (va_wsS RX1 71 yX1_requireRange wsX1_requireRange) := goodIn_app (goodIn_of _ (by decide +kernel)) ggX1_requireYear_X1_requireRange
theorem dX1_requireYear_0 : decode cX1_requireYear 0 = .ok (.iload_n 0, 1) := by decide +kernel
theorem dX1_requireYear_1 : decode cX1_requireYear 1 = .ok (.iconst 0, 1) := by decide +kernel
theorem dX1_requireYear_2 : decode cX1_requireYear 2 = .ok (.bipush 19, 2) := by decide +kernel
theorem dX1_requireYear_4 : decode cX1_requireYear 4 = .ok (.invokestatic 71, 3) := by decide +kernel
theorem dX1_requireYear_7 : decode cX1_requireYear 7 = .ok (.return_, 1) := by decide +kernel
set_option maxRecDepth 20000 in
theorem ggX1_requireDay_X1_requireRange : GoodIn wsX1_requireDay wsX1_requireRange := goodIn_ca (goodIn_r _ [4, 5, 6] (by decide +kernel) (by decide +kernel)) (goodIn_sub (fun _ h => List.mem_cons_of_mem _ (List.mem_append_right _ h)) (by decide +kernel))
set_option maxRecDepth 20000 in
theorem gX1_requireDay_X1_requireRange : GoodIn wsX1_requireDay (va_wsS RX1 71 yX1_requireRange wsX1_requireRange) := goodIn_app (goodIn_of _ (by decide +kernel)) ggX1_requireDay_X1_requireRange
theorem dX1_requireDay_0 : decode cX1_requireDay 0 = .ok (.iload_n 0, 1) := by decide +kernel
theorem dX1_requireDay_1 : decode cX1_requireDay 1 = .ok (.iconst 0, 1) := by decide +kernel
theorem dX1_requireDay_2 : decode cX1_requireDay 2 = .ok (.sipush 359, 3) := by decide +kernel
theorem dX1_requireDay_5 : decode cX1_requireDay 5 = .ok (.invokestatic 71, 3) := by decide +kernel
theorem dX1_requireDay_8 : decode cX1_requireDay 8 = .ok (.return_, 1) := by decide +kernel
set_option maxRecDepth 20000 in
theorem ggX1_requireDays_X1_requireDay : GoodIn wsX1_requireDays wsX1_requireDay := goodIn_ca (goodIn_r _ [4, 5, 6, 3, 7, 8, 9] (by decide +kernel) (by decide +kernel)) (goodIn_sub (fun _ h => List.mem_cons_of_mem _ (List.mem_append_right _ h)) (by decide +kernel))
set_option maxRecDepth 20000 in
theorem gX1_requireDays_X1_requireDay : GoodIn wsX1_requireDays (va_wsS RX1 87 yX1_requireDay wsX1_requireDay) := goodIn_app (goodIn_of _ (by decide +kernel)) ggX1_requireDays_X1_requireDay
set_option maxRecDepth 20000 in
theorem ggX1_requireDays_X1_requireRange : GoodIn wsX1_requireDays wsX1_requireRange := goodIn_ca (goodIn_r _ [7, 8, 9] (by decide +kernel) (by decide +kernel)) (goodIn_sub (fun _ h => List.mem_cons_of_mem _ (List.mem_append_right _ h)) (by decide +kernel))
set_option maxRecDepth 20000 in
theorem gX1_requireDays_X1_requireRange : GoodIn wsX1_requireDays (va_wsS RX1 71 yX1_requireRange wsX1_requireRange) := goodIn_app (goodIn_of _ (by decide +kernel)) ggX1_requireDays_X1_requireRange
theorem dX1_requireDays_0 : decode cX1_requireDays 0 = .ok (.iload_n 0, 1) := by decide +kernel
theorem dX1_requireDays_1 : decode cX1_requireDays 1 = .ok (.invokestatic 87, 3) := by decide +kernel
theorem dX1_requireDays_4 : decode cX1_requireDays 4 = .ok (.iload_n 1, 1) := by decide +kernel
theorem dX1_requireDays_5 : decode cX1_requireDays 5 = .ok (.iload_n 0, 1) := by decide +kernel
theorem dX1_requireDays_6 : decode cX1_requireDays 6 = .ok (.sipush 359, 3) := by decide +kernel
theorem dX1_requireDays_9 : decode cX1_requireDays 9 = .ok (.invokestatic 71, 3) := by decide +kernel
theorem dX1_requireDays_12 : decode cX1_requireDays 12 = .ok (.return_, 1) := by decide +kernel
set_option maxRecDepth 20000 in
theorem ggX1_requireClosedYear_X1_requireYear : GoodIn wsX1_requireClosedYear wsX1_requireYear := goodIn_ca (goodIn_r _ [7, 8, 9, 6, 10, 11, 12] (by decide +kernel) (by decide +kernel)) (goodIn_sub (fun _ h => List.mem_cons_of_mem _ (List.mem_append_right _ h)) (by decide +kernel))
set_option maxRecDepth 20000 in
theorem gX1_requireClosedYear_X1_requireYear : GoodIn wsX1_requireClosedYear (va_wsS RX1 81 yX1_requireYear wsX1_requireYear) := goodIn_app (goodIn_of _ (by decide +kernel)) ggX1_requireClosedYear_X1_requireYear
theorem dX1_requireClosedYear_0 : decode cX1_requireClosedYear 0 = .ok (.iload_n 1, 1) := by decide +kernel
theorem dX1_requireClosedYear_1 : decode cX1_requireClosedYear 1 = .ok (.invokestatic 81, 3) := by decide +kernel
theorem dX1_requireClosedYear_4 : decode cX1_requireClosedYear 4 = .ok (.iload_n 1, 1) := by decide +kernel
theorem dX1_requireClosedYear_5 : decode cX1_requireClosedYear 5 = .ok (.aload_n 0, 1) := by decide +kernel
theorem dX1_requireClosedYear_6 : decode cX1_requireClosedYear 6 = .ok (.getfield 103, 3) := by decide +kernel
theorem dX1_requireClosedYear_9 : decode cX1_requireClosedYear 9 = .ok (.if_icmp .lt 13, 3) := by decide +kernel
theorem dX1_requireClosedYear_12 : decode cX1_requireClosedYear 12 = .ok (.new 135, 3) := by decide +kernel
theorem dX1_requireClosedYear_15 : decode cX1_requireClosedYear 15 = .ok (.dup, 1) := by decide +kernel
theorem dX1_requireClosedYear_16 : decode cX1_requireClosedYear 16 = .ok (.ldc 137, 2) := by decide +kernel
theorem dX1_requireClosedYear_18 : decode cX1_requireClosedYear 18 = .ok (.invokespecial 139, 3) := by decide +kernel
theorem dX1_requireClosedYear_21 : decode cX1_requireClosedYear 21 = .ok (.athrow, 1) := by decide +kernel
theorem dX1_requireClosedYear_22 : decode cX1_requireClosedYear 22 = .ok (.return_, 1) := by decide +kernel
theorem dX1_requireYearGoingOn_0 : decode cX1_requireYearGoingOn 0 = .ok (.aload_n 0, 1) := by decide +kernel
theorem dX1_requireYearGoingOn_1 : decode cX1_requireYearGoingOn 1 = .ok (.getfield 103, 3) := by decide +kernel
theorem dX1_requireYearGoingOn_4 : decode cX1_requireYearGoingOn 4 = .ok (.bipush 20, 2) := by decide +kernel
theorem dX1_requireYearGoingOn_6 : decode cX1_requireYearGoingOn 6 = .ok (.if_icmp .lt 13, 3) := by decide +kernel
theorem dX1_requireYearGoingOn_9 : decode cX1_requireYearGoingOn 9 = .ok (.new 135, 3) := by decide +kernel
theorem dX1_requireYearGoingOn_12 : decode cX1_requireYearGoingOn 12 = .ok (.dup, 1) := by decide +kernel
theorem dX1_requireYearGoingOn_13 : decode cX1_requireYearGoingOn 13 = .ok (.ldc 140, 2) := by decide +kernel
theorem dX1_requireYearGoingOn_15 : decode cX1_requireYearGoingOn 15 = .ok (.invokespecial 139, 3) := by decide +kernel
theorem dX1_requireYearGoingOn_18 : decode cX1_requireYearGoingOn 18 = .ok (.athrow, 1) := by decide +kernel
theorem dX1_requireYearGoingOn_19 : decode cX1_requireYearGoingOn 19 = .ok (.return_, 1) := by decide +kernel
theorem dX1_requireUnused_0 : decode cX1_requireUnused 0 = .ok (.aload_n 0, 1) := by decide +kernel
theorem dX1_requireUnused_1 : decode cX1_requireUnused 1 = .ok (.getfield 103, 3) := by decide +kernel
theorem dX1_requireUnused_4 : decode cX1_requireUnused 4 = .ok (.ifCond .gt 12, 3) := by decide +kernel
theorem dX1_requireUnused_7 : decode cX1_requireUnused 7 = .ok (.aload_n 0, 1) := by decide +kernel
theorem dX1_requireUnused_8 : decode cX1_requireUnused 8 = .ok (.getfield 36, 3) := by decide +kernel
theorem dX1_requireUnused_11 : decode cX1_requireUnused 11 = .ok (.iconst 0, 1) := by decide +kernel
theorem dX1_requireUnused_12 : decode cX1_requireUnused 12 = .ok (.iaload, 1) := by decide +kernel
theorem dX1_requireUnused_13 : decode cX1_requireUnused 13 = .ok (.ifCond .le 13, 3) := by decide +kernel
theorem dX1_requireUnused_16 : decode cX1_requireUnused 16 = .ok (.new 135, 3) := by decide +kernel
theorem dX1_requireUnused_19 : decode cX1_requireUnused 19 = .ok (.dup, 1) := by decide +kernel
theorem dX1_requireUnused_20 : decode cX1_requireUnused 20 = .ok (.ldc 142, 2) := by decide +kernel
theorem dX1_requireUnused_22 : decode cX1_requireUnused 22 = .ok (.invokespecial 139, 3) := by decide +kernel
theorem dX1_requireUnused_25 : decode cX1_requireUnused 25 = .ok (.athrow, 1) := by decide +kernel
theorem dX1_requireUnused_26 : decode cX1_requireUnused 26 = .ok (.return_, 1) := by decide +kernel
theorem dX1_requireRoom_0 : decode cX1_requireRoom 0 = .ok (.iload_n 1, 1) := by decide +kernel
theorem dX1_requireRoom_1 : decode cX1_requireRoom 1 = .ok (.istore 4, 2) := by decide +kernel
theorem dX1_requireRoom_3 : decode cX1_requireRoom 3 = .ok (.iload 4, 2) := by decide +kernel
theorem dX1_requireRoom_5 : decode cX1_requireRoom 5 = .ok (.iload_n 2, 1) := by decide +kernel
theorem dX1_requireRoom_6 : decode cX1_requireRoom 6 = .ok (.if_icmp .gt 34, 3) := by decide +kernel
theorem dX1_requireRoom_9 : decode cX1_requireRoom 9 = .ok (.aload_n 0, 1) := by decide +kernel
theorem dX1_requireRoom_10 : decode cX1_requireRoom 10 = .ok (.getfield 33, 3) := by decide +kernel
theorem dX1_requireRoom_13 : decode cX1_requireRoom 13 = .ok (.iload 4, 2) := by decide +kernel
theorem dX1_requireRoom_15 : decode cX1_requireRoom 15 = .ok (.iaload, 1) := by decide +kernel
theorem dX1_requireRoom_16 : decode cX1_requireRoom 16 = .ok (.iload_n 3, 1) := by decide +kernel
theorem dX1_requireRoom_17 : decode cX1_requireRoom 17 = .ok (.iadd, 1) := by decide +kernel
theorem dX1_requireRoom_18 : decode cX1_requireRoom 18 = .ok (.sipush 500, 3) := by decide +kernel
theorem dX1_requireRoom_21 : decode cX1_requireRoom 21 = .ok (.if_icmp .le 13, 3) := by decide +kernel
theorem dX1_requireRoom_24 : decode cX1_requireRoom 24 = .ok (.new 135, 3) := by decide +kernel
theorem dX1_requireRoom_27 : decode cX1_requireRoom 27 = .ok (.dup, 1) := by decide +kernel
theorem dX1_requireRoom_28 : decode cX1_requireRoom 28 = .ok (.ldc 144, 2) := by decide +kernel
theorem dX1_requireRoom_30 : decode cX1_requireRoom 30 = .ok (.invokespecial 139, 3) := by decide +kernel
theorem dX1_requireRoom_33 : decode cX1_requireRoom 33 = .ok (.athrow, 1) := by decide +kernel
theorem dX1_requireRoom_34 : decode cX1_requireRoom 34 = .ok (.iinc 4 1, 3) := by decide +kernel
theorem dX1_requireRoom_37 : decode cX1_requireRoom 37 = .ok (.goto (-34), 3) := by decide +kernel
theorem dX1_requireRoom_40 : decode cX1_requireRoom 40 = .ok (.return_, 1) := by decide +kernel
theorem dX1_addTakes_0 : decode cX1_addTakes 0 = .ok (.iload_n 1, 1) := by decide +kernel
theorem dX1_addTakes_1 : decode cX1_addTakes 1 = .ok (.istore 4, 2) := by decide +kernel
theorem dX1_addTakes_3 : decode cX1_addTakes 3 = .ok (.iload 4, 2) := by decide +kernel
theorem dX1_addTakes_5 : decode cX1_addTakes 5 = .ok (.iload_n 2, 1) := by decide +kernel
theorem dX1_addTakes_6 : decode cX1_addTakes 6 = .ok (.if_icmp .gt 20, 3) := by decide +kernel
theorem dX1_addTakes_9 : decode cX1_addTakes 9 = .ok (.aload_n 0, 1) := by decide +kernel
theorem dX1_addTakes_10 : decode cX1_addTakes 10 = .ok (.getfield 33, 3) := by decide +kernel
theorem dX1_addTakes_13 : decode cX1_addTakes 13 = .ok (.iload 4, 2) := by decide +kernel
theorem dX1_addTakes_15 : decode cX1_addTakes 15 = .ok (.dup2, 1) := by decide +kernel
theorem dX1_addTakes_16 : decode cX1_addTakes 16 = .ok (.iaload, 1) := by decide +kernel
theorem dX1_addTakes_17 : decode cX1_addTakes 17 = .ok (.iload_n 3, 1) := by decide +kernel
theorem dX1_addTakes_18 : decode cX1_addTakes 18 = .ok (.iadd, 1) := by decide +kernel
theorem dX1_addTakes_19 : decode cX1_addTakes 19 = .ok (.iastore, 1) := by decide +kernel
theorem dX1_addTakes_20 : decode cX1_addTakes 20 = .ok (.iinc 4 1, 3) := by decide +kernel
theorem dX1_addTakes_23 : decode cX1_addTakes 23 = .ok (.goto (-20), 3) := by decide +kernel
theorem dX1_addTakes_26 : decode cX1_addTakes 26 = .ok (.aload_n 0, 1) := by decide +kernel
theorem dX1_addTakes_27 : decode cX1_addTakes 27 = .ok (.getfield 36, 3) := by decide +kernel
theorem dX1_addTakes_30 : decode cX1_addTakes 30 = .ok (.aload_n 0, 1) := by decide +kernel
theorem dX1_addTakes_31 : decode cX1_addTakes 31 = .ok (.getfield 103, 3) := by decide +kernel
theorem dX1_addTakes_34 : decode cX1_addTakes 34 = .ok (.dup2, 1) := by decide +kernel
theorem dX1_addTakes_35 : decode cX1_addTakes 35 = .ok (.iaload, 1) := by decide +kernel
theorem dX1_addTakes_36 : decode cX1_addTakes 36 = .ok (.iload_n 3, 1) := by decide +kernel
theorem dX1_addTakes_37 : decode cX1_addTakes 37 = .ok (.iload_n 2, 1) := by decide +kernel
theorem dX1_addTakes_38 : decode cX1_addTakes 38 = .ok (.iload_n 1, 1) := by decide +kernel
theorem dX1_addTakes_39 : decode cX1_addTakes 39 = .ok (.isub, 1) := by decide +kernel
theorem dX1_addTakes_40 : decode cX1_addTakes 40 = .ok (.iconst 1, 1) := by decide +kernel
theorem dX1_addTakes_41 : decode cX1_addTakes 41 = .ok (.iadd, 1) := by decide +kernel
theorem dX1_addTakes_42 : decode cX1_addTakes 42 = .ok (.imul, 1) := by decide +kernel
theorem dX1_addTakes_43 : decode cX1_addTakes 43 = .ok (.iadd, 1) := by decide +kernel
theorem dX1_addTakes_44 : decode cX1_addTakes 44 = .ok (.iastore, 1) := by decide +kernel
theorem dX1_addTakes_45 : decode cX1_addTakes 45 = .ok (.return_, 1) := by decide +kernel
theorem dX1_leastQuantity_0 : decode cX1_leastQuantity 0 = .ok (.aload_n 0, 1) := by decide +kernel
theorem dX1_leastQuantity_1 : decode cX1_leastQuantity 1 = .ok (.getfield 10, 3) := by decide +kernel
theorem dX1_leastQuantity_4 : decode cX1_leastQuantity 4 = .ok (.i2l, 1) := by decide +kernel
theorem dX1_leastQuantity_5 : decode cX1_leastQuantity 5 = .ok (.aload_n 0, 1) := by decide +kernel
theorem dX1_leastQuantity_6 : decode cX1_leastQuantity 6 = .ok (.getfield 14, 3) := by decide +kernel
theorem dX1_leastQuantity_9 : decode cX1_leastQuantity 9 = .ok (.i2l, 1) := by decide +kernel
theorem dX1_leastQuantity_10 : decode cX1_leastQuantity 10 = .ok (.lmul, 1) := by decide +kernel
theorem dX1_leastQuantity_11 : decode cX1_leastQuantity 11 = .ok (.sipush 360, 3) := by decide +kernel
theorem dX1_leastQuantity_14 : decode cX1_leastQuantity 14 = .ok (.aload_n 0, 1) := by decide +kernel
theorem dX1_leastQuantity_15 : decode cX1_leastQuantity 15 = .ok (.getfield 30, 3) := by decide +kernel
theorem dX1_leastQuantity_18 : decode cX1_leastQuantity 18 = .ok (.iload_n 1, 1) := by decide +kernel
theorem dX1_leastQuantity_19 : decode cX1_leastQuantity 19 = .ok (.iaload, 1) := by decide +kernel
theorem dX1_leastQuantity_20 : decode cX1_leastQuantity 20 = .ok (.isub, 1) := by decide +kernel
theorem dX1_leastQuantity_21 : decode cX1_leastQuantity 21 = .ok (.i2l, 1) := by decide +kernel
theorem dX1_leastQuantity_22 : decode cX1_leastQuantity 22 = .ok (.lmul, 1) := by decide +kernel
theorem dX1_leastQuantity_23 : decode cX1_leastQuantity 23 = .ok (.lstore_n 2, 1) := by decide +kernel
theorem dX1_leastQuantity_24 : decode cX1_leastQuantity 24 = .ok (.lload_n 2, 1) := by decide +kernel
theorem dX1_leastQuantity_25 : decode cX1_leastQuantity 25 = .ok (.ldc2_w 146, 3) := by decide +kernel
theorem dX1_leastQuantity_28 : decode cX1_leastQuantity 28 = .ok (.ldiv, 1) := by decide +kernel
theorem dX1_leastQuantity_29 : decode cX1_leastQuantity 29 = .ok (.l2i, 1) := by decide +kernel
theorem dX1_leastQuantity_30 : decode cX1_leastQuantity 30 = .ok (.ireturn, 1) := by decide +kernel
theorem dX1_shortfallPrice_0 : decode cX1_shortfallPrice 0 = .ok (.aload_n 0, 1) := by decide +kernel
theorem dX1_shortfallPrice_1 : decode cX1_shortfallPrice 1 = .ok (.getfield 20, 3) := by decide +kernel
theorem dX1_shortfallPrice_4 : decode cX1_shortfallPrice 4 = .ok (.iload_n 1, 1) := by decide +kernel
theorem dX1_shortfallPrice_5 : decode cX1_shortfallPrice 5 = .ok (.iaload, 1) := by decide +kernel
theorem dX1_shortfallPrice_6 : decode cX1_shortfallPrice 6 = .ok (.aload_n 0, 1) := by decide +kernel
theorem dX1_shortfallPrice_7 : decode cX1_shortfallPrice 7 = .ok (.getfield 17, 3) := by decide +kernel
theorem dX1_shortfallPrice_10 : decode cX1_shortfallPrice 10 = .ok (.imul, 1) := by decide +kernel
theorem dX1_shortfallPrice_11 : decode cX1_shortfallPrice 11 = .ok (.bipush 100, 2) := by decide +kernel
theorem dX1_shortfallPrice_13 : decode cX1_shortfallPrice 13 = .ok (.idiv, 1) := by decide +kernel
theorem dX1_shortfallPrice_14 : decode cX1_shortfallPrice 14 = .ok (.ireturn, 1) := by decide +kernel
set_option maxRecDepth 20000 in
theorem ggX1_settleClosedYears_X0_empty : GoodIn wsX1_settleClosedYears wsX0_empty := goodIn_r _ [9, 10, 11, 12, 13, 14, 15, 85, 86, 87] (by decide +kernel) (by decide +kernel)
set_option maxRecDepth 20000 in
theorem gX1_settleClosedYears_X0_empty : GoodIn wsX1_settleClosedYears (wsV RX1 148 RX0 yX0_empty wsX0_empty) := goodIn_app (goodIn_of _ (by decide +kernel)) ggX1_settleClosedYears_X0_empty
set_option maxRecDepth 20000 in
theorem ggX1_settleClosedYears_X0_lapseBefore : GoodIn wsX1_settleClosedYears wsX0_lapseBefore := goodIn_r _ [19, 20, 11, 10, 85, 86, 87] (by decide +kernel) (by decide +kernel)
set_option maxRecDepth 20000 in
theorem gX1_settleClosedYears_X0_lapseBefore : GoodIn wsX1_settleClosedYears (wsV RX1 151 RX0 yX0_lapseBefore wsX0_lapseBefore) := goodIn_app (goodIn_of _ (by decide +kernel)) ggX1_settleClosedYears_X0_lapseBefore
set_option maxRecDepth 20000 in
theorem ggX1_settleClosedYears_X1_leastQuantity : GoodIn wsX1_settleClosedYears wsX1_leastQuantity := goodIn_r _ [25, 26, 27, 28, 29, 68, 69, 70, 71, 72, 73, 74, 75, 76, 77, 78, 79, 80, 81, 82, 83, 84] (by decide +kernel) (by decide +kernel)
set_option maxRecDepth 20000 in
theorem gX1_settleClosedYears_X1_leastQuantity : GoodIn wsX1_settleClosedYears (wsV RX1 114 RX1 yX1_leastQuantity wsX1_leastQuantity) := goodIn_app (goodIn_of _ (by decide +kernel)) ggX1_settleClosedYears_X1_leastQuantity
end
section
set_option maxRecDepth 20000 in
theorem ggX1_settleClosedYears_X1_settleGap : GoodIn wsX1_settleClosedYears wsX1_settleGap := goodIn_r _ [33, 4, 1, 34, 35, 36, 37, 38, 39, 21, 22, 23, 24, 25, 26, 27, 28, 29, 40, 41, 42, 43, 2, 44, 45, 46, 8, 47, 10, 48, 49, 50, 51, 52, 53, 54, 55, 56, 57, 58, 59, 60, 68, 69, 70, 71, 72, 73, 74, 75, 76, 77, 78, 79, 80, 81, 82, 83, 84, 85, 86, 87] (by decide +kernel) (by decide +kernel)
set_option maxRecDepth 20000 in
theorem gX1_settleClosedYears_X1_settleGap : GoodIn wsX1_settleClosedYears (wsV RX1 154 RX1 yX1_settleGap wsX1_settleGap) := goodIn_app (goodIn_of _ (by decide +kernel)) ggX1_settleClosedYears_X1_settleGap
set_option maxRecDepth 20000 in
theorem ggX1_settleClosedYears_X1_settleEnough : GoodIn wsX1_settleClosedYears wsX1_settleEnough := goodIn_r _ [64, 4, 1, 39, 65, 66, 50, 67, 26, 2, 34, 35, 36, 37, 38, 21, 22, 23, 24, 25, 27, 28, 29, 44, 45, 46, 8, 47, 10, 48, 49, 51, 56, 57, 58, 59, 60, 52, 53, 54, 55, 68, 69, 70, 71, 72, 73, 74, 75, 76, 77, 78, 79, 80, 81, 82, 83, 84, 85, 86, 87] (by decide +kernel) (by decide +kernel)
set_option maxRecDepth 20000 in
theorem gX1_settleClosedYears_X1_settleEnough : GoodIn wsX1_settleClosedYears (wsV RX1 157 RX1 yX1_settleEnough wsX1_settleEnough) := goodIn_app (goodIn_of _ (by decide +kernel)) ggX1_settleClosedYears_X1_settleEnough
theorem dX1_settleClosedYears_0 : decode cX1_settleClosedYears 0 = .ok (.aload_n 0, 1) := by decide +kernel
theorem dX1_settleClosedYears_1 : decode cX1_settleClosedYears 1 = .ok (.getfield 44, 3) := by decide +kernel
theorem dX1_settleClosedYears_4 : decode cX1_settleClosedYears 4 = .ok (.invokevirtual 148, 3) := by decide +kernel
theorem dX1_settleClosedYears_7 : decode cX1_settleClosedYears 7 = .ok (.aload_n 0, 1) := by decide +kernel
theorem dX1_settleClosedYears_8 : decode cX1_settleClosedYears 8 = .ok (.getfield 48, 3) := by decide +kernel
theorem dX1_settleClosedYears_11 : decode cX1_settleClosedYears 11 = .ok (.invokevirtual 148, 3) := by decide +kernel
theorem dX1_settleClosedYears_14 : decode cX1_settleClosedYears 14 = .ok (.iconst 0, 1) := by decide +kernel
theorem dX1_settleClosedYears_15 : decode cX1_settleClosedYears 15 = .ok (.istore_n 1, 1) := by decide +kernel
theorem dX1_settleClosedYears_16 : decode cX1_settleClosedYears 16 = .ok (.iload_n 1, 1) := by decide +kernel
theorem dX1_settleClosedYears_17 : decode cX1_settleClosedYears 17 = .ok (.aload_n 0, 1) := by decide +kernel
theorem dX1_settleClosedYears_18 : decode cX1_settleClosedYears 18 = .ok (.getfield 103, 3) := by decide +kernel
theorem dX1_settleClosedYears_21 : decode cX1_settleClosedYears 21 = .ok (.if_icmp .ge 52, 3) := by decide +kernel
theorem dX1_settleClosedYears_24 : decode cX1_settleClosedYears 24 = .ok (.aload_n 0, 1) := by decide +kernel
theorem dX1_settleClosedYears_25 : decode cX1_settleClosedYears 25 = .ok (.getfield 44, 3) := by decide +kernel
theorem dX1_settleClosedYears_28 : decode cX1_settleClosedYears 28 = .ok (.iload_n 1, 1) := by decide +kernel
theorem dX1_settleClosedYears_29 : decode cX1_settleClosedYears 29 = .ok (.invokevirtual 151, 3) := by decide +kernel
theorem dX1_settleClosedYears_32 : decode cX1_settleClosedYears 32 = .ok (.aload_n 0, 1) := by decide +kernel
theorem dX1_settleClosedYears_33 : decode cX1_settleClosedYears 33 = .ok (.getfield 48, 3) := by decide +kernel
theorem dX1_settleClosedYears_36 : decode cX1_settleClosedYears 36 = .ok (.iload_n 1, 1) := by decide +kernel
theorem dX1_settleClosedYears_37 : decode cX1_settleClosedYears 37 = .ok (.invokevirtual 151, 3) := by decide +kernel
theorem dX1_settleClosedYears_40 : decode cX1_settleClosedYears 40 = .ok (.aload_n 0, 1) := by decide +kernel
theorem dX1_settleClosedYears_41 : decode cX1_settleClosedYears 41 = .ok (.getfield 36, 3) := by decide +kernel
theorem dX1_settleClosedYears_44 : decode cX1_settleClosedYears 44 = .ok (.iload_n 1, 1) := by decide +kernel
theorem dX1_settleClosedYears_45 : decode cX1_settleClosedYears 45 = .ok (.iaload, 1) := by decide +kernel
theorem dX1_settleClosedYears_46 : decode cX1_settleClosedYears 46 = .ok (.aload_n 0, 1) := by decide +kernel
theorem dX1_settleClosedYears_47 : decode cX1_settleClosedYears 47 = .ok (.iload_n 1, 1) := by decide +kernel
theorem dX1_settleClosedYears_48 : decode cX1_settleClosedYears 48 = .ok (.invokevirtual 114, 3) := by decide +kernel
theorem dX1_settleClosedYears_51 : decode cX1_settleClosedYears 51 = .ok (.if_icmp .ge 11, 3) := by decide +kernel
theorem dX1_settleClosedYears_54 : decode cX1_settleClosedYears 54 = .ok (.aload_n 0, 1) := by decide +kernel
theorem dX1_settleClosedYears_55 : decode cX1_settleClosedYears 55 = .ok (.iload_n 1, 1) := by decide +kernel
theorem dX1_settleClosedYears_56 : decode cX1_settleClosedYears 56 = .ok (.invokevirtual 154, 3) := by decide +kernel
theorem dX1_settleClosedYears_59 : decode cX1_settleClosedYears 59 = .ok (.goto 8, 3) := by decide +kernel
theorem dX1_settleClosedYears_62 : decode cX1_settleClosedYears 62 = .ok (.aload_n 0, 1) := by decide +kernel
theorem dX1_settleClosedYears_63 : decode cX1_settleClosedYears 63 = .ok (.iload_n 1, 1) := by decide +kernel
theorem dX1_settleClosedYears_64 : decode cX1_settleClosedYears 64 = .ok (.invokevirtual 157, 3) := by decide +kernel
theorem dX1_settleClosedYears_67 : decode cX1_settleClosedYears 67 = .ok (.iinc 1 1, 3) := by decide +kernel
theorem dX1_settleClosedYears_70 : decode cX1_settleClosedYears 70 = .ok (.goto (-54), 3) := by decide +kernel
theorem dX1_settleClosedYears_73 : decode cX1_settleClosedYears 73 = .ok (.return_, 1) := by decide +kernel
set_option maxRecDepth 20000 in
theorem ggX1_settleGap_X1_leastQuantity : GoodIn wsX1_settleGap wsX1_leastQuantity := goodIn_r _ [13, 14, 15, 16, 17, 42, 43, 44, 45, 46, 47, 48, 49, 50, 51, 52, 53, 54, 55, 56, 57, 58] (by decide +kernel) (by decide +kernel)
set_option maxRecDepth 20000 in
theorem gX1_settleGap_X1_leastQuantity : GoodIn wsX1_settleGap (wsV RX1 114 RX1 yX1_leastQuantity wsX1_leastQuantity) := goodIn_app (goodIn_of _ (by decide +kernel)) ggX1_settleGap_X1_leastQuantity
set_option maxRecDepth 20000 in
theorem ggX1_settleGap_X1_drawSurplus : GoodIn wsX1_settleGap wsX1_drawSurplus := goodIn_r _ [21, 22, 23, 24, 25, 26, 27, 28, 29, 30, 31, 32, 42, 43, 44, 45, 46, 47, 48, 49, 50, 51, 52, 53, 54, 55, 56, 57, 58, 59, 60, 61] (by decide +kernel) (by decide +kernel)
set_option maxRecDepth 20000 in
theorem gX1_settleGap_X1_drawSurplus : GoodIn wsX1_settleGap (wsV RX1 160 RX1 yX1_drawSurplus wsX1_drawSurplus) := goodIn_app (goodIn_of _ (by decide +kernel)) ggX1_settleGap_X1_drawSurplus
set_option maxRecDepth 20000 in
theorem ggX1_settleGap_X0_put : GoodIn wsX1_settleGap wsX0_put := goodIn_r _ [36, 28, 59, 60, 61] (by decide +kernel) (by decide +kernel)
set_option maxRecDepth 20000 in
theorem gX1_settleGap_X0_put : GoodIn wsX1_settleGap (wsV RX1 164 RX0 yX0_put wsX0_put) := goodIn_app (goodIn_of _ (by decide +kernel)) ggX1_settleGap_X0_put
set_option maxRecDepth 20000 in
theorem ggX1_settleGap_X1_shortfallPrice : GoodIn wsX1_settleGap wsX1_shortfallPrice := goodIn_r _ [40, 8, 41, 42, 43, 44, 45, 46, 47, 48, 49, 50, 51, 52, 53, 54, 55, 56, 57, 58] (by decide +kernel) (by decide +kernel)
set_option maxRecDepth 20000 in
theorem gX1_settleGap_X1_shortfallPrice : GoodIn wsX1_settleGap (wsV RX1 167 RX1 yX1_shortfallPrice wsX1_shortfallPrice) := goodIn_app (goodIn_of _ (by decide +kernel)) ggX1_settleGap_X1_shortfallPrice
theorem dX1_settleGap_0 : decode cX1_settleGap 0 = .ok (.aload_n 0, 1) := by decide +kernel
theorem dX1_settleGap_1 : decode cX1_settleGap 1 = .ok (.iload_n 1, 1) := by decide +kernel
theorem dX1_settleGap_2 : decode cX1_settleGap 2 = .ok (.invokevirtual 114, 3) := by decide +kernel
theorem dX1_settleGap_5 : decode cX1_settleGap 5 = .ok (.aload_n 0, 1) := by decide +kernel
theorem dX1_settleGap_6 : decode cX1_settleGap 6 = .ok (.getfield 36, 3) := by decide +kernel
theorem dX1_settleGap_9 : decode cX1_settleGap 9 = .ok (.iload_n 1, 1) := by decide +kernel
theorem dX1_settleGap_10 : decode cX1_settleGap 10 = .ok (.iaload, 1) := by decide +kernel
theorem dX1_settleGap_11 : decode cX1_settleGap 11 = .ok (.isub, 1) := by decide +kernel
theorem dX1_settleGap_12 : decode cX1_settleGap 12 = .ok (.istore_n 2, 1) := by decide +kernel
theorem dX1_settleGap_13 : decode cX1_settleGap 13 = .ok (.aload_n 0, 1) := by decide +kernel
theorem dX1_settleGap_14 : decode cX1_settleGap 14 = .ok (.iload_n 1, 1) := by decide +kernel
theorem dX1_settleGap_15 : decode cX1_settleGap 15 = .ok (.iload_n 2, 1) := by decide +kernel
theorem dX1_settleGap_16 : decode cX1_settleGap 16 = .ok (.invokevirtual 160, 3) := by decide +kernel
theorem dX1_settleGap_19 : decode cX1_settleGap 19 = .ok (.istore_n 3, 1) := by decide +kernel
theorem dX1_settleGap_20 : decode cX1_settleGap 20 = .ok (.iload_n 2, 1) := by decide +kernel
theorem dX1_settleGap_21 : decode cX1_settleGap 21 = .ok (.iload_n 3, 1) := by decide +kernel
theorem dX1_settleGap_22 : decode cX1_settleGap 22 = .ok (.isub, 1) := by decide +kernel
theorem dX1_settleGap_23 : decode cX1_settleGap 23 = .ok (.istore 4, 2) := by decide +kernel
theorem dX1_settleGap_25 : decode cX1_settleGap 25 = .ok (.aload_n 0, 1) := by decide +kernel
theorem dX1_settleGap_26 : decode cX1_settleGap 26 = .ok (.getfield 44, 3) := by decide +kernel
theorem dX1_settleGap_29 : decode cX1_settleGap 29 = .ok (.iload_n 1, 1) := by decide +kernel
theorem dX1_settleGap_30 : decode cX1_settleGap 30 = .ok (.iload 4, 2) := by decide +kernel
theorem dX1_settleGap_32 : decode cX1_settleGap 32 = .ok (.invokevirtual 164, 3) := by decide +kernel
theorem dX1_settleGap_35 : decode cX1_settleGap 35 = .ok (.aload_n 0, 1) := by decide +kernel
theorem dX1_settleGap_36 : decode cX1_settleGap 36 = .ok (.getfield 57, 3) := by decide +kernel
theorem dX1_settleGap_39 : decode cX1_settleGap 39 = .ok (.iload_n 1, 1) := by decide +kernel
theorem dX1_settleGap_40 : decode cX1_settleGap 40 = .ok (.iload_n 3, 1) := by decide +kernel
theorem dX1_settleGap_41 : decode cX1_settleGap 41 = .ok (.iastore, 1) := by decide +kernel
theorem dX1_settleGap_42 : decode cX1_settleGap 42 = .ok (.aload_n 0, 1) := by decide +kernel
theorem dX1_settleGap_43 : decode cX1_settleGap 43 = .ok (.getfield 51, 3) := by decide +kernel
theorem dX1_settleGap_46 : decode cX1_settleGap 46 = .ok (.iload_n 1, 1) := by decide +kernel
theorem dX1_settleGap_47 : decode cX1_settleGap 47 = .ok (.iload 4, 2) := by decide +kernel
theorem dX1_settleGap_49 : decode cX1_settleGap 49 = .ok (.iastore, 1) := by decide +kernel
theorem dX1_settleGap_50 : decode cX1_settleGap 50 = .ok (.aload_n 0, 1) := by decide +kernel
theorem dX1_settleGap_51 : decode cX1_settleGap 51 = .ok (.getfield 54, 3) := by decide +kernel
theorem dX1_settleGap_54 : decode cX1_settleGap 54 = .ok (.iload_n 1, 1) := by decide +kernel
theorem dX1_settleGap_55 : decode cX1_settleGap 55 = .ok (.iconst 0, 1) := by decide +kernel
theorem dX1_settleGap_56 : decode cX1_settleGap 56 = .ok (.iastore, 1) := by decide +kernel
theorem dX1_settleGap_57 : decode cX1_settleGap 57 = .ok (.aload_n 0, 1) := by decide +kernel
theorem dX1_settleGap_58 : decode cX1_settleGap 58 = .ok (.getfield 60, 3) := by decide +kernel
theorem dX1_settleGap_61 : decode cX1_settleGap 61 = .ok (.iload_n 1, 1) := by decide +kernel
theorem dX1_settleGap_62 : decode cX1_settleGap 62 = .ok (.iconst 0, 1) := by decide +kernel
theorem dX1_settleGap_63 : decode cX1_settleGap 63 = .ok (.iastore, 1) := by decide +kernel
theorem dX1_settleGap_64 : decode cX1_settleGap 64 = .ok (.aload_n 0, 1) := by decide +kernel
theorem dX1_settleGap_65 : decode cX1_settleGap 65 = .ok (.getfield 63, 3) := by decide +kernel
theorem dX1_settleGap_68 : decode cX1_settleGap 68 = .ok (.iload_n 1, 1) := by decide +kernel
theorem dX1_settleGap_69 : decode cX1_settleGap 69 = .ok (.aload_n 0, 1) := by decide +kernel
theorem dX1_settleGap_70 : decode cX1_settleGap 70 = .ok (.getfield 36, 3) := by decide +kernel
theorem dX1_settleGap_73 : decode cX1_settleGap 73 = .ok (.iload_n 1, 1) := by decide +kernel
theorem dX1_settleGap_74 : decode cX1_settleGap 74 = .ok (.iaload, 1) := by decide +kernel
theorem dX1_settleGap_75 : decode cX1_settleGap 75 = .ok (.i2l, 1) := by decide +kernel
theorem dX1_settleGap_76 : decode cX1_settleGap 76 = .ok (.aload_n 0, 1) := by decide +kernel
theorem dX1_settleGap_77 : decode cX1_settleGap 77 = .ok (.getfield 20, 3) := by decide +kernel
theorem dX1_settleGap_80 : decode cX1_settleGap 80 = .ok (.iload_n 1, 1) := by decide +kernel
theorem dX1_settleGap_81 : decode cX1_settleGap 81 = .ok (.iaload, 1) := by decide +kernel
theorem dX1_settleGap_82 : decode cX1_settleGap 82 = .ok (.i2l, 1) := by decide +kernel
theorem dX1_settleGap_83 : decode cX1_settleGap 83 = .ok (.lmul, 1) := by decide +kernel
theorem dX1_settleGap_84 : decode cX1_settleGap 84 = .ok (.iload 4, 2) := by decide +kernel
theorem dX1_settleGap_86 : decode cX1_settleGap 86 = .ok (.i2l, 1) := by decide +kernel
theorem dX1_settleGap_87 : decode cX1_settleGap 87 = .ok (.aload_n 0, 1) := by decide +kernel
theorem dX1_settleGap_88 : decode cX1_settleGap 88 = .ok (.iload_n 1, 1) := by decide +kernel
theorem dX1_settleGap_89 : decode cX1_settleGap 89 = .ok (.invokevirtual 167, 3) := by decide +kernel
theorem dX1_settleGap_92 : decode cX1_settleGap 92 = .ok (.i2l, 1) := by decide +kernel
theorem dX1_settleGap_93 : decode cX1_settleGap 93 = .ok (.lmul, 1) := by decide +kernel
theorem dX1_settleGap_94 : decode cX1_settleGap 94 = .ok (.ladd, 1) := by decide +kernel
theorem dX1_settleGap_95 : decode cX1_settleGap 95 = .ok (.lastore, 1) := by decide +kernel
theorem dX1_settleGap_96 : decode cX1_settleGap 96 = .ok (.return_, 1) := by decide +kernel
set_option maxRecDepth 20000 in
theorem ggX1_drawSurplus_X0_drawFrom : GoodIn wsX1_drawSurplus wsX0_drawFrom := goodIn_r _ [6, 7, 8, 9, 10, 11, 29, 30, 31] (by decide +kernel) (by decide +kernel)
set_option maxRecDepth 20000 in
theorem gX1_drawSurplus_X0_drawFrom : GoodIn wsX1_drawSurplus (wsV RX1 170 RX0 yX0_drawFrom wsX0_drawFrom) := goodIn_app (goodIn_of _ (by decide +kernel)) ggX1_drawSurplus_X0_drawFrom
theorem dX1_drawSurplus_0 : decode cX1_drawSurplus 0 = .ok (.iconst 0, 1) := by decide +kernel
theorem dX1_drawSurplus_1 : decode cX1_drawSurplus 1 = .ok (.istore_n 3, 1) := by decide +kernel
theorem dX1_drawSurplus_2 : decode cX1_drawSurplus 2 = .ok (.iconst 0, 1) := by decide +kernel
theorem dX1_drawSurplus_3 : decode cX1_drawSurplus 3 = .ok (.istore 4, 2) := by decide +kernel
theorem dX1_drawSurplus_5 : decode cX1_drawSurplus 5 = .ok (.iload 4, 2) := by decide +kernel
theorem dX1_drawSurplus_7 : decode cX1_drawSurplus 7 = .ok (.iload_n 1, 1) := by decide +kernel
theorem dX1_drawSurplus_8 : decode cX1_drawSurplus 8 = .ok (.if_icmp .ge 24, 3) := by decide +kernel
theorem dX1_drawSurplus_11 : decode cX1_drawSurplus 11 = .ok (.iload_n 3, 1) := by decide +kernel
theorem dX1_drawSurplus_12 : decode cX1_drawSurplus 12 = .ok (.aload_n 0, 1) := by decide +kernel
theorem dX1_drawSurplus_13 : decode cX1_drawSurplus 13 = .ok (.getfield 48, 3) := by decide +kernel
theorem dX1_drawSurplus_16 : decode cX1_drawSurplus 16 = .ok (.iload 4, 2) := by decide +kernel
theorem dX1_drawSurplus_18 : decode cX1_drawSurplus 18 = .ok (.iload_n 2, 1) := by decide +kernel
theorem dX1_drawSurplus_19 : decode cX1_drawSurplus 19 = .ok (.iload_n 3, 1) := by decide +kernel
theorem dX1_drawSurplus_20 : decode cX1_drawSurplus 20 = .ok (.isub, 1) := by decide +kernel
theorem dX1_drawSurplus_21 : decode cX1_drawSurplus 21 = .ok (.invokevirtual 170, 3) := by decide +kernel
theorem dX1_drawSurplus_24 : decode cX1_drawSurplus 24 = .ok (.iadd, 1) := by decide +kernel
theorem dX1_drawSurplus_25 : decode cX1_drawSurplus 25 = .ok (.istore_n 3, 1) := by decide +kernel
theorem dX1_drawSurplus_26 : decode cX1_drawSurplus 26 = .ok (.iinc 4 1, 3) := by decide +kernel
theorem dX1_drawSurplus_29 : decode cX1_drawSurplus 29 = .ok (.goto (-24), 3) := by decide +kernel
theorem dX1_drawSurplus_32 : decode cX1_drawSurplus 32 = .ok (.iload_n 3, 1) := by decide +kernel
theorem dX1_drawSurplus_33 : decode cX1_drawSurplus 33 = .ok (.ireturn, 1) := by decide +kernel
set_option maxRecDepth 20000 in
theorem ggX1_settleEnough_X1_leastQuantity : GoodIn wsX1_settleEnough wsX1_leastQuantity := goodIn_r _ [19, 8, 20, 21, 22, 41, 42, 43, 44, 45, 46, 47, 48, 49, 50, 51, 52, 53, 54, 55, 56, 57] (by decide +kernel) (by decide +kernel)
set_option maxRecDepth 20000 in
theorem gX1_settleEnough_X1_leastQuantity : GoodIn wsX1_settleEnough (wsV RX1 114 RX1 yX1_leastQuantity wsX1_leastQuantity) := goodIn_app (goodIn_of _ (by decide +kernel)) ggX1_settleEnough_X1_leastQuantity
set_option maxRecDepth 20000 in
theorem ggX1_settleEnough_X0_drawFrom : GoodIn wsX1_settleEnough wsX0_drawFrom := goodIn_r _ [27, 28, 29, 30, 6, 31, 58, 59, 60] (by decide +kernel) (by decide +kernel)
set_option maxRecDepth 20000 in
theorem gX1_settleEnough_X0_drawFrom : GoodIn wsX1_settleEnough (wsV RX1 170 RX0 yX0_drawFrom wsX0_drawFrom) := goodIn_app (goodIn_of _ (by decide +kernel)) ggX1_settleEnough_X0_drawFrom
set_option maxRecDepth 20000 in
theorem ggX1_settleEnough_X1_shortfallPrice : GoodIn wsX1_settleEnough wsX1_shortfallPrice := goodIn_r _ [35, 3, 36, 41, 42, 43, 44, 45, 46, 47, 48, 49, 50, 51, 52, 53, 54, 55, 56, 57] (by decide +kernel) (by decide +kernel)
set_option maxRecDepth 20000 in
theorem gX1_settleEnough_X1_shortfallPrice : GoodIn wsX1_settleEnough (wsV RX1 167 RX1 yX1_shortfallPrice wsX1_shortfallPrice) := goodIn_app (goodIn_of _ (by decide +kernel)) ggX1_settleEnough_X1_shortfallPrice
set_option maxRecDepth 20000 in
theorem ggX1_settleEnough_X0_put : GoodIn wsX1_settleEnough wsX0_put := goodIn_r _ [40, 28, 58, 59, 60] (by decide +kernel) (by decide +kernel)
set_option maxRecDepth 20000 in
theorem gX1_settleEnough_X0_put : GoodIn wsX1_settleEnough (wsV RX1 164 RX0 yX0_put wsX0_put) := goodIn_app (goodIn_of _ (by decide +kernel)) ggX1_settleEnough_X0_put
theorem dX1_settleEnough_0 : decode cX1_settleEnough 0 = .ok (.aload_n 0, 1) := by decide +kernel
theorem dX1_settleEnough_1 : decode cX1_settleEnough 1 = .ok (.getfield 36, 3) := by decide +kernel
theorem dX1_settleEnough_4 : decode cX1_settleEnough 4 = .ok (.iload_n 1, 1) := by decide +kernel
theorem dX1_settleEnough_5 : decode cX1_settleEnough 5 = .ok (.iaload, 1) := by decide +kernel
theorem dX1_settleEnough_6 : decode cX1_settleEnough 6 = .ok (.aload_n 0, 1) := by decide +kernel
theorem dX1_settleEnough_7 : decode cX1_settleEnough 7 = .ok (.iload_n 1, 1) := by decide +kernel
theorem dX1_settleEnough_8 : decode cX1_settleEnough 8 = .ok (.invokevirtual 114, 3) := by decide +kernel
theorem dX1_settleEnough_11 : decode cX1_settleEnough 11 = .ok (.isub, 1) := by decide +kernel
theorem dX1_settleEnough_12 : decode cX1_settleEnough 12 = .ok (.istore_n 2, 1) := by decide +kernel
theorem dX1_settleEnough_13 : decode cX1_settleEnough 13 = .ok (.iconst 0, 1) := by decide +kernel
theorem dX1_settleEnough_14 : decode cX1_settleEnough 14 = .ok (.istore_n 3, 1) := by decide +kernel
theorem dX1_settleEnough_15 : decode cX1_settleEnough 15 = .ok (.lconst 0, 1) := by decide +kernel
theorem dX1_settleEnough_16 : decode cX1_settleEnough 16 = .ok (.lstore 4, 2) := by decide +kernel
theorem dX1_settleEnough_18 : decode cX1_settleEnough 18 = .ok (.iconst 0, 1) := by decide +kernel
theorem dX1_settleEnough_19 : decode cX1_settleEnough 19 = .ok (.istore 6, 2) := by decide +kernel
theorem dX1_settleEnough_21 : decode cX1_settleEnough 21 = .ok (.iload 6, 2) := by decide +kernel
theorem dX1_settleEnough_23 : decode cX1_settleEnough 23 = .ok (.iload_n 1, 1) := by decide +kernel
theorem dX1_settleEnough_24 : decode cX1_settleEnough 24 = .ok (.if_icmp .ge 55, 3) := by decide +kernel
theorem dX1_settleEnough_27 : decode cX1_settleEnough 27 = .ok (.aload_n 0, 1) := by decide +kernel
theorem dX1_settleEnough_28 : decode cX1_settleEnough 28 = .ok (.getfield 44, 3) := by decide +kernel
theorem dX1_settleEnough_31 : decode cX1_settleEnough 31 = .ok (.iload 6, 2) := by decide +kernel
theorem dX1_settleEnough_33 : decode cX1_settleEnough 33 = .ok (.iload_n 2, 1) := by decide +kernel
theorem dX1_settleEnough_34 : decode cX1_settleEnough 34 = .ok (.iload_n 3, 1) := by decide +kernel
theorem dX1_settleEnough_35 : decode cX1_settleEnough 35 = .ok (.isub, 1) := by decide +kernel
theorem dX1_settleEnough_36 : decode cX1_settleEnough 36 = .ok (.invokevirtual 170, 3) := by decide +kernel
theorem dX1_settleEnough_39 : decode cX1_settleEnough 39 = .ok (.istore 7, 2) := by decide +kernel
theorem dX1_settleEnough_41 : decode cX1_settleEnough 41 = .ok (.iload_n 3, 1) := by decide +kernel
theorem dX1_settleEnough_42 : decode cX1_settleEnough 42 = .ok (.iload 7, 2) := by decide +kernel
theorem dX1_settleEnough_44 : decode cX1_settleEnough 44 = .ok (.iadd, 1) := by decide +kernel
theorem dX1_settleEnough_45 : decode cX1_settleEnough 45 = .ok (.istore_n 3, 1) := by decide +kernel
theorem dX1_settleEnough_46 : decode cX1_settleEnough 46 = .ok (.lload 4, 2) := by decide +kernel
theorem dX1_settleEnough_48 : decode cX1_settleEnough 48 = .ok (.iload 7, 2) := by decide +kernel
theorem dX1_settleEnough_50 : decode cX1_settleEnough 50 = .ok (.i2l, 1) := by decide +kernel
theorem dX1_settleEnough_51 : decode cX1_settleEnough 51 = .ok (.iconst 0, 1) := by decide +kernel
theorem dX1_settleEnough_52 : decode cX1_settleEnough 52 = .ok (.aload_n 0, 1) := by decide +kernel
theorem dX1_settleEnough_53 : decode cX1_settleEnough 53 = .ok (.getfield 20, 3) := by decide +kernel
theorem dX1_settleEnough_56 : decode cX1_settleEnough 56 = .ok (.iload_n 1, 1) := by decide +kernel
theorem dX1_settleEnough_57 : decode cX1_settleEnough 57 = .ok (.iaload, 1) := by decide +kernel
theorem dX1_settleEnough_58 : decode cX1_settleEnough 58 = .ok (.aload_n 0, 1) := by decide +kernel
theorem dX1_settleEnough_59 : decode cX1_settleEnough 59 = .ok (.iload 6, 2) := by decide +kernel
theorem dX1_settleEnough_61 : decode cX1_settleEnough 61 = .ok (.invokevirtual 167, 3) := by decide +kernel
theorem dX1_settleEnough_64 : decode cX1_settleEnough 64 = .ok (.isub, 1) := by decide +kernel
theorem dX1_settleEnough_65 : decode cX1_settleEnough 65 = .ok (.invokestatic 173, 3) := by decide +kernel
theorem dX1_settleEnough_68 : decode cX1_settleEnough 68 = .ok (.i2l, 1) := by decide +kernel
theorem dX1_settleEnough_69 : decode cX1_settleEnough 69 = .ok (.lmul, 1) := by decide +kernel
theorem dX1_settleEnough_70 : decode cX1_settleEnough 70 = .ok (.ladd, 1) := by decide +kernel
theorem dX1_settleEnough_71 : decode cX1_settleEnough 71 = .ok (.lstore 4, 2) := by decide +kernel
theorem dX1_settleEnough_73 : decode cX1_settleEnough 73 = .ok (.iinc 6 1, 3) := by decide +kernel
theorem dX1_settleEnough_76 : decode cX1_settleEnough 76 = .ok (.goto (-55), 3) := by decide +kernel
theorem dX1_settleEnough_79 : decode cX1_settleEnough 79 = .ok (.aload_n 0, 1) := by decide +kernel
theorem dX1_settleEnough_80 : decode cX1_settleEnough 80 = .ok (.getfield 36, 3) := by decide +kernel
theorem dX1_settleEnough_83 : decode cX1_settleEnough 83 = .ok (.iload_n 1, 1) := by decide +kernel
theorem dX1_settleEnough_84 : decode cX1_settleEnough 84 = .ok (.iaload, 1) := by decide +kernel
theorem dX1_settleEnough_85 : decode cX1_settleEnough 85 = .ok (.iload_n 3, 1) := by decide +kernel
theorem dX1_settleEnough_86 : decode cX1_settleEnough 86 = .ok (.isub, 1) := by decide +kernel
theorem dX1_settleEnough_87 : decode cX1_settleEnough 87 = .ok (.istore 6, 2) := by decide +kernel
theorem dX1_settleEnough_89 : decode cX1_settleEnough 89 = .ok (.iconst 0, 1) := by decide +kernel
theorem dX1_settleEnough_90 : decode cX1_settleEnough 90 = .ok (.iload 6, 2) := by decide +kernel
theorem dX1_settleEnough_92 : decode cX1_settleEnough 92 = .ok (.aload_n 0, 1) := by decide +kernel
theorem dX1_settleEnough_93 : decode cX1_settleEnough 93 = .ok (.getfield 10, 3) := by decide +kernel
theorem dX1_settleEnough_96 : decode cX1_settleEnough 96 = .ok (.isub, 1) := by decide +kernel
theorem dX1_settleEnough_97 : decode cX1_settleEnough 97 = .ok (.invokestatic 173, 3) := by decide +kernel
theorem dX1_settleEnough_100 : decode cX1_settleEnough 100 = .ok (.istore 7, 2) := by decide +kernel
theorem dX1_settleEnough_102 : decode cX1_settleEnough 102 = .ok (.aload_n 0, 1) := by decide +kernel
theorem dX1_settleEnough_103 : decode cX1_settleEnough 103 = .ok (.getfield 48, 3) := by decide +kernel
theorem dX1_settleEnough_106 : decode cX1_settleEnough 106 = .ok (.iload_n 1, 1) := by decide +kernel
theorem dX1_settleEnough_107 : decode cX1_settleEnough 107 = .ok (.iload 7, 2) := by decide +kernel
theorem dX1_settleEnough_109 : decode cX1_settleEnough 109 = .ok (.invokevirtual 164, 3) := by decide +kernel
theorem dX1_settleEnough_112 : decode cX1_settleEnough 112 = .ok (.aload_n 0, 1) := by decide +kernel
theorem dX1_settleEnough_113 : decode cX1_settleEnough 113 = .ok (.getfield 57, 3) := by decide +kernel
theorem dX1_settleEnough_116 : decode cX1_settleEnough 116 = .ok (.iload_n 1, 1) := by decide +kernel
theorem dX1_settleEnough_117 : decode cX1_settleEnough 117 = .ok (.iconst 0, 1) := by decide +kernel
theorem dX1_settleEnough_118 : decode cX1_settleEnough 118 = .ok (.iastore, 1) := by decide +kernel
theorem dX1_settleEnough_119 : decode cX1_settleEnough 119 = .ok (.aload_n 0, 1) := by decide +kernel
theorem dX1_settleEnough_120 : decode cX1_settleEnough 120 = .ok (.getfield 51, 3) := by decide +kernel
theorem dX1_settleEnough_123 : decode cX1_settleEnough 123 = .ok (.iload_n 1, 1) := by decide +kernel
theorem dX1_settleEnough_124 : decode cX1_settleEnough 124 = .ok (.iconst 0, 1) := by decide +kernel
theorem dX1_settleEnough_125 : decode cX1_settleEnough 125 = .ok (.iastore, 1) := by decide +kernel
theorem dX1_settleEnough_126 : decode cX1_settleEnough 126 = .ok (.aload_n 0, 1) := by decide +kernel
theorem dX1_settleEnough_127 : decode cX1_settleEnough 127 = .ok (.getfield 54, 3) := by decide +kernel
theorem dX1_settleEnough_130 : decode cX1_settleEnough 130 = .ok (.iload_n 1, 1) := by decide +kernel
theorem dX1_settleEnough_131 : decode cX1_settleEnough 131 = .ok (.iload_n 3, 1) := by decide +kernel
theorem dX1_settleEnough_132 : decode cX1_settleEnough 132 = .ok (.iastore, 1) := by decide +kernel
theorem dX1_settleEnough_133 : decode cX1_settleEnough 133 = .ok (.aload_n 0, 1) := by decide +kernel
theorem dX1_settleEnough_134 : decode cX1_settleEnough 134 = .ok (.getfield 60, 3) := by decide +kernel
theorem dX1_settleEnough_137 : decode cX1_settleEnough 137 = .ok (.iload_n 1, 1) := by decide +kernel
theorem dX1_settleEnough_138 : decode cX1_settleEnough 138 = .ok (.iload 7, 2) := by decide +kernel
theorem dX1_settleEnough_140 : decode cX1_settleEnough 140 = .ok (.iastore, 1) := by decide +kernel
theorem dX1_settleEnough_141 : decode cX1_settleEnough 141 = .ok (.aload_n 0, 1) := by decide +kernel
theorem dX1_settleEnough_142 : decode cX1_settleEnough 142 = .ok (.getfield 63, 3) := by decide +kernel
theorem dX1_settleEnough_145 : decode cX1_settleEnough 145 = .ok (.iload_n 1, 1) := by decide +kernel
theorem dX1_settleEnough_146 : decode cX1_settleEnough 146 = .ok (.iload 6, 2) := by decide +kernel
theorem dX1_settleEnough_148 : decode cX1_settleEnough 148 = .ok (.i2l, 1) := by decide +kernel
theorem dX1_settleEnough_149 : decode cX1_settleEnough 149 = .ok (.aload_n 0, 1) := by decide +kernel
theorem dX1_settleEnough_150 : decode cX1_settleEnough 150 = .ok (.getfield 20, 3) := by decide +kernel
theorem dX1_settleEnough_153 : decode cX1_settleEnough 153 = .ok (.iload_n 1, 1) := by decide +kernel
theorem dX1_settleEnough_154 : decode cX1_settleEnough 154 = .ok (.iaload, 1) := by decide +kernel
theorem dX1_settleEnough_155 : decode cX1_settleEnough 155 = .ok (.i2l, 1) := by decide +kernel
theorem dX1_settleEnough_156 : decode cX1_settleEnough 156 = .ok (.lmul, 1) := by decide +kernel
theorem dX1_settleEnough_157 : decode cX1_settleEnough 157 = .ok (.lload 4, 2) := by decide +kernel
theorem dX1_settleEnough_159 : decode cX1_settleEnough 159 = .ok (.ladd, 1) := by decide +kernel
theorem dX1_settleEnough_160 : decode cX1_settleEnough 160 = .ok (.lastore, 1) := by decide +kernel
theorem dX1_settleEnough_161 : decode cX1_settleEnough 161 = .ok (.return_, 1) := by decide +kernel
theorem dX1_dueInAll_0 : decode cX1_dueInAll 0 = .ok (.lconst 0, 1) := by decide +kernel
theorem dX1_dueInAll_1 : decode cX1_dueInAll 1 = .ok (.lstore_n 1, 1) := by decide +kernel
theorem dX1_dueInAll_2 : decode cX1_dueInAll 2 = .ok (.iconst 0, 1) := by decide +kernel
theorem dX1_dueInAll_3 : decode cX1_dueInAll 3 = .ok (.istore_n 3, 1) := by decide +kernel
theorem dX1_dueInAll_4 : decode cX1_dueInAll 4 = .ok (.iload_n 3, 1) := by decide +kernel
theorem dX1_dueInAll_5 : decode cX1_dueInAll 5 = .ok (.aload_n 0, 1) := by decide +kernel
theorem dX1_dueInAll_6 : decode cX1_dueInAll 6 = .ok (.getfield 103, 3) := by decide +kernel
theorem dX1_dueInAll_9 : decode cX1_dueInAll 9 = .ok (.if_icmp .ge 18, 3) := by decide +kernel
theorem dX1_dueInAll_12 : decode cX1_dueInAll 12 = .ok (.lload_n 1, 1) := by decide +kernel
theorem dX1_dueInAll_13 : decode cX1_dueInAll 13 = .ok (.aload_n 0, 1) := by decide +kernel
theorem dX1_dueInAll_14 : decode cX1_dueInAll 14 = .ok (.getfield 63, 3) := by decide +kernel
theorem dX1_dueInAll_17 : decode cX1_dueInAll 17 = .ok (.iload_n 3, 1) := by decide +kernel
theorem dX1_dueInAll_18 : decode cX1_dueInAll 18 = .ok (.laload, 1) := by decide +kernel
theorem dX1_dueInAll_19 : decode cX1_dueInAll 19 = .ok (.ladd, 1) := by decide +kernel
theorem dX1_dueInAll_20 : decode cX1_dueInAll 20 = .ok (.lstore_n 1, 1) := by decide +kernel
theorem dX1_dueInAll_21 : decode cX1_dueInAll 21 = .ok (.iinc 3 1, 3) := by decide +kernel
theorem dX1_dueInAll_24 : decode cX1_dueInAll 24 = .ok (.goto (-20), 3) := by decide +kernel
theorem dX1_dueInAll_27 : decode cX1_dueInAll 27 = .ok (.lload_n 1, 1) := by decide +kernel
theorem dX1_dueInAll_28 : decode cX1_dueInAll 28 = .ok (.lreturn, 1) := by decide +kernel
theorem dX2_init_0 : decode cX2_init 0 = .ok (.aload_n 0, 1) := by decide +kernel
theorem dX2_init_1 : decode cX2_init 1 = .ok (.invokespecial 1, 3) := by decide +kernel
theorem dX2_init_4 : decode cX2_init 4 = .ok (.aload_n 0, 1) := by decide +kernel
theorem dX2_init_5 : decode cX2_init 5 = .ok (.ldc 7, 2) := by decide +kernel
theorem dX2_init_7 : decode cX2_init 7 = .ok (.putfield 8, 3) := by decide +kernel
theorem dX2_init_10 : decode cX2_init 10 = .ok (.aload_n 0, 1) := by decide +kernel
theorem dX2_init_11 : decode cX2_init 11 = .ok (.bipush 80, 2) := by decide +kernel
theorem dX2_init_13 : decode cX2_init 13 = .ok (.putfield 14, 3) := by decide +kernel
theorem dX2_init_16 : decode cX2_init 16 = .ok (.aload_n 0, 1) := by decide +kernel
theorem dX2_init_17 : decode cX2_init 17 = .ok (.bipush 100, 2) := by decide +kernel
theorem dX2_init_19 : decode cX2_init 19 = .ok (.putfield 17, 3) := by decide +kernel
theorem dX2_init_22 : decode cX2_init 22 = .ok (.aload_n 0, 1) := by decide +kernel
theorem dX2_init_23 : decode cX2_init 23 = .ok (.iconst 3, 1) := by decide +kernel
theorem dX2_init_24 : decode cX2_init 24 = .ok (.putfield 20, 3) := by decide +kernel
theorem dX2_init_27 : decode cX2_init 27 = .ok (.aload_n 0, 1) := by decide +kernel
theorem dX2_init_28 : decode cX2_init 28 = .ok (.iconst 2, 1) := by decide +kernel
theorem dX2_init_29 : decode cX2_init 29 = .ok (.putfield 23, 3) := by decide +kernel
theorem dX2_init_32 : decode cX2_init 32 = .ok (.aload_n 0, 1) := by decide +kernel
theorem dX2_init_33 : decode cX2_init 33 = .ok (.bipush 20, 2) := by decide +kernel
theorem dX2_init_35 : decode cX2_init 35 = .ok (.newarray .int, 2) := by decide +kernel
theorem dX2_init_37 : decode cX2_init 37 = .ok (.putfield 26, 3) := by decide +kernel
theorem dX2_init_40 : decode cX2_init 40 = .ok (.aload_n 0, 1) := by decide +kernel
theorem dX2_init_41 : decode cX2_init 41 = .ok (.bipush 20, 2) := by decide +kernel
theorem dX2_init_43 : decode cX2_init 43 = .ok (.newarray .int, 2) := by decide +kernel
theorem dX2_init_45 : decode cX2_init 45 = .ok (.putfield 30, 3) := by decide +kernel
theorem dX2_init_48 : decode cX2_init 48 = .ok (.aload_n 0, 1) := by decide +kernel
theorem dX2_init_49 : decode cX2_init 49 = .ok (.sipush 360, 3) := by decide +kernel
theorem dX2_init_52 : decode cX2_init 52 = .ok (.newarray .int, 2) := by decide +kernel
theorem dX2_init_54 : decode cX2_init 54 = .ok (.putfield 33, 3) := by decide +kernel
theorem dX2_init_57 : decode cX2_init 57 = .ok (.aload_n 0, 1) := by decide +kernel
theorem dX2_init_58 : decode cX2_init 58 = .ok (.bipush 20, 2) := by decide +kernel
theorem dX2_init_60 : decode cX2_init 60 = .ok (.newarray .int, 2) := by decide +kernel
theorem dX2_init_62 : decode cX2_init 62 = .ok (.putfield 36, 3) := by decide +kernel
theorem dX2_init_65 : decode cX2_init 65 = .ok (.aload_n 0, 1) := by decide +kernel
theorem dX2_init_66 : decode cX2_init 66 = .ok (.bipush 20, 2) := by decide +kernel
theorem dX2_init_68 : decode cX2_init 68 = .ok (.newarray .long, 2) := by decide +kernel
theorem dX2_init_70 : decode cX2_init 70 = .ok (.putfield 39, 3) := by decide +kernel
theorem dX2_init_73 : decode cX2_init 73 = .ok (.aload_n 0, 1) := by decide +kernel
theorem dX2_init_74 : decode cX2_init 74 = .ok (.bipush 20, 2) := by decide +kernel
theorem dX2_init_76 : decode cX2_init 76 = .ok (.newarray .int, 2) := by decide +kernel
theorem dX2_init_78 : decode cX2_init 78 = .ok (.putfield 43, 3) := by decide +kernel
theorem dX2_init_81 : decode cX2_init 81 = .ok (.aload_n 0, 1) := by decide +kernel
theorem dX2_init_82 : decode cX2_init 82 = .ok (.bipush 20, 2) := by decide +kernel
theorem dX2_init_84 : decode cX2_init 84 = .ok (.newarray .int, 2) := by decide +kernel
theorem dX2_init_86 : decode cX2_init 86 = .ok (.putfield 46, 3) := by decide +kernel
theorem dX2_init_89 : decode cX2_init 89 = .ok (.aload_n 0, 1) := by decide +kernel
theorem dX2_init_90 : decode cX2_init 90 = .ok (.bipush 20, 2) := by decide +kernel
theorem dX2_init_92 : decode cX2_init 92 = .ok (.newarray .int, 2) := by decide +kernel
theorem dX2_init_94 : decode cX2_init 94 = .ok (.putfield 49, 3) := by decide +kernel
theorem dX2_init_97 : decode cX2_init 97 = .ok (.aload_n 0, 1) := by decide +kernel
theorem dX2_init_98 : decode cX2_init 98 = .ok (.bipush 20, 2) := by decide +kernel
theorem dX2_init_100 : decode cX2_init 100 = .ok (.newarray .int, 2) := by decide +kernel
theorem dX2_init_102 : decode cX2_init 102 = .ok (.putfield 52, 3) := by decide +kernel
theorem dX2_init_105 : decode cX2_init 105 = .ok (.aload_n 0, 1) := by decide +kernel
theorem dX2_init_106 : decode cX2_init 106 = .ok (.bipush 20, 2) := by decide +kernel
theorem dX2_init_108 : decode cX2_init 108 = .ok (.newarray .int, 2) := by decide +kernel
theorem dX2_init_110 : decode cX2_init 110 = .ok (.putfield 55, 3) := by decide +kernel
theorem dX2_init_113 : decode cX2_init 113 = .ok (.aload_n 0, 1) := by decide +kernel
theorem dX2_init_114 : decode cX2_init 114 = .ok (.bipush 20, 2) := by decide +kernel
theorem dX2_init_116 : decode cX2_init 116 = .ok (.newarray .int, 2) := by decide +kernel
theorem dX2_init_118 : decode cX2_init 118 = .ok (.putfield 58, 3) := by decide +kernel
theorem dX2_init_121 : decode cX2_init 121 = .ok (.aload_n 0, 1) := by decide +kernel
theorem dX2_init_122 : decode cX2_init 122 = .ok (.bipush 20, 2) := by decide +kernel
theorem dX2_init_124 : decode cX2_init 124 = .ok (.newarray .long, 2) := by decide +kernel
theorem dX2_init_126 : decode cX2_init 126 = .ok (.putfield 61, 3) := by decide +kernel
theorem dX2_init_129 : decode cX2_init 129 = .ok (.iconst 0, 1) := by decide +kernel
theorem dX2_init_130 : decode cX2_init 130 = .ok (.istore_n 1, 1) := by decide +kernel
theorem dX2_init_131 : decode cX2_init 131 = .ok (.iload_n 1, 1) := by decide +kernel
theorem dX2_init_132 : decode cX2_init 132 = .ok (.bipush 20, 2) := by decide +kernel
theorem dX2_init_134 : decode cX2_init 134 = .ok (.if_icmp .ge 17, 3) := by decide +kernel
theorem dX2_init_137 : decode cX2_init 137 = .ok (.aload_n 0, 1) := by decide +kernel
theorem dX2_init_138 : decode cX2_init 138 = .ok (.getfield 26, 3) := by decide +kernel
theorem dX2_init_141 : decode cX2_init 141 = .ok (.iload_n 1, 1) := by decide +kernel
theorem dX2_init_142 : decode cX2_init 142 = .ok (.bipush 100, 2) := by decide +kernel
theorem dX2_init_144 : decode cX2_init 144 = .ok (.iastore, 1) := by decide +kernel
theorem dX2_init_145 : decode cX2_init 145 = .ok (.iinc 1 1, 3) := by decide +kernel
theorem dX2_init_148 : decode cX2_init 148 = .ok (.goto (-17), 3) := by decide +kernel
theorem dX2_init_151 : decode cX2_init 151 = .ok (.return_, 1) := by decide +kernel
theorem dX2_thrown_0 : decode cX2_thrown 0 = .ok (.aload_n 0, 1) := by decide +kernel
theorem dX2_thrown_1 : decode cX2_thrown 1 = .ok (.getfield 64, 3) := by decide +kernel
theorem dX2_thrown_4 : decode cX2_thrown 4 = .ok (.ireturn, 1) := by decide +kernel
theorem dX2_holds_0 : decode cX2_holds 0 = .ok (.aload_n 0, 1) := by decide +kernel
theorem dX2_holds_1 : decode cX2_holds 1 = .ok (.iload_n 1, 1) := by decide +kernel
theorem dX2_holds_2 : decode cX2_holds 2 = .ok (.putfield 64, 3) := by decide +kernel
theorem dX2_holds_5 : decode cX2_holds 5 = .ok (.iload_n 1, 1) := by decide +kernel
theorem dX2_holds_6 : decode cX2_holds 6 = .ok (.ifCond .ne 7, 3) := by decide +kernel
theorem dX2_holds_9 : decode cX2_holds 9 = .ok (.iconst 1, 1) := by decide +kernel
theorem dX2_holds_10 : decode cX2_holds 10 = .ok (.goto 4, 3) := by decide +kernel
theorem dX2_holds_13 : decode cX2_holds 13 = .ok (.iconst 0, 1) := by decide +kernel
theorem dX2_holds_14 : decode cX2_holds 14 = .ok (.ireturn, 1) := by decide +kernel
theorem dX2_isIn_0 : decode cX2_isIn 0 = .ok (.iload_n 0, 1) := by decide +kernel
theorem dX2_isIn_1 : decode cX2_isIn 1 = .ok (.iload_n 1, 1) := by decide +kernel
theorem dX2_isIn_2 : decode cX2_isIn 2 = .ok (.if_icmp .lt 12, 3) := by decide +kernel
theorem dX2_isIn_5 : decode cX2_isIn 5 = .ok (.iload_n 0, 1) := by decide +kernel
theorem dX2_isIn_6 : decode cX2_isIn 6 = .ok (.iload_n 2, 1) := by decide +kernel
theorem dX2_isIn_7 : decode cX2_isIn 7 = .ok (.if_icmp .gt 7, 3) := by decide +kernel
theorem dX2_isIn_10 : decode cX2_isIn 10 = .ok (.iconst 1, 1) := by decide +kernel
theorem dX2_isIn_11 : decode cX2_isIn 11 = .ok (.goto 4, 3) := by decide +kernel
theorem dX2_isIn_14 : decode cX2_isIn 14 = .ok (.iconst 0, 1) := by decide +kernel
theorem dX2_isIn_15 : decode cX2_isIn 15 = .ok (.ireturn, 1) := by decide +kernel
set_option maxRecDepth 20000 in
theorem ggX2_isYear_X2_isIn : GoodIn wsX2_isYear wsX2_isIn := goodIn_r _ [4] (by decide +kernel) (by decide +kernel)
set_option maxRecDepth 20000 in
theorem gX2_isYear_X2_isIn : GoodIn wsX2_isYear (va_wsS RX2 67 yX2_isIn wsX2_isIn) := goodIn_app (goodIn_of _ (by decide +kernel)) ggX2_isYear_X2_isIn
theorem dX2_isYear_0 : decode cX2_isYear 0 = .ok (.iload_n 0, 1) := by decide +kernel
theorem dX2_isYear_1 : decode cX2_isYear 1 = .ok (.iconst 0, 1) := by decide +kernel
theorem dX2_isYear_2 : decode cX2_isYear 2 = .ok (.bipush 19, 2) := by decide +kernel
theorem dX2_isYear_4 : decode cX2_isYear 4 = .ok (.invokestatic 67, 3) := by decide +kernel
theorem dX2_isYear_7 : decode cX2_isYear 7 = .ok (.ireturn, 1) := by decide +kernel
theorem dX2_leastOf_0 : decode cX2_leastOf 0 = .ok (.aload_n 0, 1) := by decide +kernel
theorem dX2_leastOf_1 : decode cX2_leastOf 1 = .ok (.getfield 8, 3) := by decide +kernel
theorem dX2_leastOf_4 : decode cX2_leastOf 4 = .ok (.i2l, 1) := by decide +kernel
theorem dX2_leastOf_5 : decode cX2_leastOf 5 = .ok (.aload_n 0, 1) := by decide +kernel
theorem dX2_leastOf_6 : decode cX2_leastOf 6 = .ok (.getfield 14, 3) := by decide +kernel
theorem dX2_leastOf_9 : decode cX2_leastOf 9 = .ok (.i2l, 1) := by decide +kernel
theorem dX2_leastOf_10 : decode cX2_leastOf 10 = .ok (.lmul, 1) := by decide +kernel
theorem dX2_leastOf_11 : decode cX2_leastOf 11 = .ok (.sipush 360, 3) := by decide +kernel
theorem dX2_leastOf_14 : decode cX2_leastOf 14 = .ok (.aload_n 0, 1) := by decide +kernel
theorem dX2_leastOf_15 : decode cX2_leastOf 15 = .ok (.getfield 30, 3) := by decide +kernel
theorem dX2_leastOf_18 : decode cX2_leastOf 18 = .ok (.iload_n 1, 1) := by decide +kernel
theorem dX2_leastOf_19 : decode cX2_leastOf 19 = .ok (.iaload, 1) := by decide +kernel
theorem dX2_leastOf_20 : decode cX2_leastOf 20 = .ok (.isub, 1) := by decide +kernel
theorem dX2_leastOf_21 : decode cX2_leastOf 21 = .ok (.i2l, 1) := by decide +kernel
theorem dX2_leastOf_22 : decode cX2_leastOf 22 = .ok (.lmul, 1) := by decide +kernel
theorem dX2_leastOf_23 : decode cX2_leastOf 23 = .ok (.ldc2_w 71, 3) := by decide +kernel
theorem dX2_leastOf_26 : decode cX2_leastOf 26 = .ok (.ldiv, 1) := by decide +kernel
theorem dX2_leastOf_27 : decode cX2_leastOf 27 = .ok (.l2i, 1) := by decide +kernel
theorem dX2_leastOf_28 : decode cX2_leastOf 28 = .ok (.ireturn, 1) := by decide +kernel
theorem dX2_shortfallPrice_0 : decode cX2_shortfallPrice 0 = .ok (.aload_n 0, 1) := by decide +kernel
theorem dX2_shortfallPrice_1 : decode cX2_shortfallPrice 1 = .ok (.getfield 26, 3) := by decide +kernel
theorem dX2_shortfallPrice_4 : decode cX2_shortfallPrice 4 = .ok (.iload_n 1, 1) := by decide +kernel
theorem dX2_shortfallPrice_5 : decode cX2_shortfallPrice 5 = .ok (.iaload, 1) := by decide +kernel
theorem dX2_shortfallPrice_6 : decode cX2_shortfallPrice 6 = .ok (.aload_n 0, 1) := by decide +kernel
theorem dX2_shortfallPrice_7 : decode cX2_shortfallPrice 7 = .ok (.getfield 17, 3) := by decide +kernel
theorem dX2_shortfallPrice_10 : decode cX2_shortfallPrice 10 = .ok (.imul, 1) := by decide +kernel
theorem dX2_shortfallPrice_11 : decode cX2_shortfallPrice 11 = .ok (.bipush 100, 2) := by decide +kernel
theorem dX2_shortfallPrice_13 : decode cX2_shortfallPrice 13 = .ok (.idiv, 1) := by decide +kernel
theorem dX2_shortfallPrice_14 : decode cX2_shortfallPrice 14 = .ok (.ireturn, 1) := by decide +kernel
theorem dX2_lapses_0 : decode cX2_lapses 0 = .ok (.iconst 0, 1) := by decide +kernel
theorem dX2_lapses_1 : decode cX2_lapses 1 = .ok (.istore_n 2, 1) := by decide +kernel
theorem dX2_lapses_2 : decode cX2_lapses 2 = .ok (.iload_n 2, 1) := by decide +kernel
theorem dX2_lapses_3 : decode cX2_lapses 3 = .ok (.iload_n 1, 1) := by decide +kernel
theorem dX2_lapses_4 : decode cX2_lapses 4 = .ok (.if_icmp .ge 58, 3) := by decide +kernel
theorem dX2_lapses_7 : decode cX2_lapses 7 = .ok (.iload_n 1, 1) := by decide +kernel
theorem dX2_lapses_8 : decode cX2_lapses 8 = .ok (.iload_n 2, 1) := by decide +kernel
theorem dX2_lapses_9 : decode cX2_lapses 9 = .ok (.aload_n 0, 1) := by decide +kernel
theorem dX2_lapses_10 : decode cX2_lapses 10 = .ok (.getfield 20, 3) := by decide +kernel
theorem dX2_lapses_13 : decode cX2_lapses 13 = .ok (.iadd, 1) := by decide +kernel
theorem dX2_lapses_14 : decode cX2_lapses 14 = .ok (.if_icmp .le 25, 3) := by decide +kernel
theorem dX2_lapses_17 : decode cX2_lapses 17 = .ok (.aload_n 0, 1) := by decide +kernel
theorem dX2_lapses_18 : decode cX2_lapses 18 = .ok (.dup, 1) := by decide +kernel
theorem dX2_lapses_19 : decode cX2_lapses 19 = .ok (.getfield 73, 3) := by decide +kernel
theorem dX2_lapses_22 : decode cX2_lapses 22 = .ok (.aload_n 0, 1) := by decide +kernel
theorem dX2_lapses_23 : decode cX2_lapses 23 = .ok (.getfield 49, 3) := by decide +kernel
theorem dX2_lapses_26 : decode cX2_lapses 26 = .ok (.iload_n 2, 1) := by decide +kernel
theorem dX2_lapses_27 : decode cX2_lapses 27 = .ok (.iaload, 1) := by decide +kernel
theorem dX2_lapses_28 : decode cX2_lapses 28 = .ok (.iadd, 1) := by decide +kernel
theorem dX2_lapses_29 : decode cX2_lapses 29 = .ok (.putfield 73, 3) := by decide +kernel
theorem dX2_lapses_32 : decode cX2_lapses 32 = .ok (.aload_n 0, 1) := by decide +kernel
theorem dX2_lapses_33 : decode cX2_lapses 33 = .ok (.getfield 49, 3) := by decide +kernel
theorem dX2_lapses_36 : decode cX2_lapses 36 = .ok (.iload_n 2, 1) := by decide +kernel
theorem dX2_lapses_37 : decode cX2_lapses 37 = .ok (.iconst 0, 1) := by decide +kernel
theorem dX2_lapses_38 : decode cX2_lapses 38 = .ok (.iastore, 1) := by decide +kernel
theorem dX2_lapses_39 : decode cX2_lapses 39 = .ok (.iload_n 1, 1) := by decide +kernel
theorem dX2_lapses_40 : decode cX2_lapses 40 = .ok (.iload_n 2, 1) := by decide +kernel
theorem dX2_lapses_41 : decode cX2_lapses 41 = .ok (.aload_n 0, 1) := by decide +kernel
theorem dX2_lapses_42 : decode cX2_lapses 42 = .ok (.getfield 23, 3) := by decide +kernel
theorem dX2_lapses_45 : decode cX2_lapses 45 = .ok (.iadd, 1) := by decide +kernel
theorem dX2_lapses_46 : decode cX2_lapses 46 = .ok (.if_icmp .le 10, 3) := by decide +kernel
theorem dX2_lapses_49 : decode cX2_lapses 49 = .ok (.aload_n 0, 1) := by decide +kernel
theorem dX2_lapses_50 : decode cX2_lapses 50 = .ok (.getfield 52, 3) := by decide +kernel
theorem dX2_lapses_53 : decode cX2_lapses 53 = .ok (.iload_n 2, 1) := by decide +kernel
theorem dX2_lapses_54 : decode cX2_lapses 54 = .ok (.iconst 0, 1) := by decide +kernel
theorem dX2_lapses_55 : decode cX2_lapses 55 = .ok (.iastore, 1) := by decide +kernel
theorem dX2_lapses_56 : decode cX2_lapses 56 = .ok (.iinc 2 1, 3) := by decide +kernel
theorem dX2_lapses_59 : decode cX2_lapses 59 = .ok (.goto (-57), 3) := by decide +kernel
theorem dX2_lapses_62 : decode cX2_lapses 62 = .ok (.return_, 1) := by decide +kernel
set_option maxRecDepth 20000 in
theorem ggX2_covers_X2_shortfallPrice : GoodIn wsX2_covers wsX2_shortfallPrice := goodIn_r _ [12, 7, 13, 14, 15, 16, 17, 18, 19, 20, 21, 22, 23, 24, 25, 26, 27, 28, 29, 30, 31, 32, 33] (by decide +kernel) (by decide +kernel)
set_option maxRecDepth 20000 in
theorem gX2_covers_X2_shortfallPrice : GoodIn wsX2_covers (wsV RX2 76 RX2 yX2_shortfallPrice wsX2_shortfallPrice) := goodIn_app (goodIn_of _ (by decide +kernel)) ggX2_covers_X2_shortfallPrice
theorem dX2_covers_0 : decode cX2_covers 0 = .ok (.iload_n 2, 1) := by decide +kernel
theorem dX2_covers_1 : decode cX2_covers 1 = .ok (.istore_n 3, 1) := by decide +kernel
theorem dX2_covers_2 : decode cX2_covers 2 = .ok (.iconst 0, 1) := by decide +kernel
theorem dX2_covers_3 : decode cX2_covers 3 = .ok (.istore 4, 2) := by decide +kernel
theorem dX2_covers_5 : decode cX2_covers 5 = .ok (.iload 4, 2) := by decide +kernel
theorem dX2_covers_7 : decode cX2_covers 7 = .ok (.iload_n 1, 1) := by decide +kernel
theorem dX2_covers_8 : decode cX2_covers 8 = .ok (.if_icmp .ge 50, 3) := by decide +kernel
theorem dX2_covers_11 : decode cX2_covers 11 = .ok (.aload_n 0, 1) := by decide +kernel
theorem dX2_covers_12 : decode cX2_covers 12 = .ok (.getfield 52, 3) := by decide +kernel
theorem dX2_covers_15 : decode cX2_covers 15 = .ok (.iload 4, 2) := by decide +kernel
theorem dX2_covers_17 : decode cX2_covers 17 = .ok (.iaload, 1) := by decide +kernel
theorem dX2_covers_18 : decode cX2_covers 18 = .ok (.iload_n 3, 1) := by decide +kernel
theorem dX2_covers_19 : decode cX2_covers 19 = .ok (.if_icmp .ge 13, 3) := by decide +kernel
theorem dX2_covers_22 : decode cX2_covers 22 = .ok (.aload_n 0, 1) := by decide +kernel
theorem dX2_covers_23 : decode cX2_covers 23 = .ok (.getfield 52, 3) := by decide +kernel
theorem dX2_covers_26 : decode cX2_covers 26 = .ok (.iload 4, 2) := by decide +kernel
theorem dX2_covers_28 : decode cX2_covers 28 = .ok (.iaload, 1) := by decide +kernel
theorem dX2_covers_29 : decode cX2_covers 29 = .ok (.goto 4, 3) := by decide +kernel
theorem dX2_covers_32 : decode cX2_covers 32 = .ok (.iload_n 3, 1) := by decide +kernel
theorem dX2_covers_33 : decode cX2_covers 33 = .ok (.istore 5, 2) := by decide +kernel
theorem dX2_covers_35 : decode cX2_covers 35 = .ok (.aload_n 0, 1) := by decide +kernel
theorem dX2_covers_36 : decode cX2_covers 36 = .ok (.getfield 52, 3) := by decide +kernel
theorem dX2_covers_39 : decode cX2_covers 39 = .ok (.iload 4, 2) := by decide +kernel
theorem dX2_covers_41 : decode cX2_covers 41 = .ok (.dup2, 1) := by decide +kernel
theorem dX2_covers_42 : decode cX2_covers 42 = .ok (.iaload, 1) := by decide +kernel
theorem dX2_covers_43 : decode cX2_covers 43 = .ok (.iload 5, 2) := by decide +kernel
theorem dX2_covers_45 : decode cX2_covers 45 = .ok (.isub, 1) := by decide +kernel
theorem dX2_covers_46 : decode cX2_covers 46 = .ok (.iastore, 1) := by decide +kernel
theorem dX2_covers_47 : decode cX2_covers 47 = .ok (.iload_n 3, 1) := by decide +kernel
theorem dX2_covers_48 : decode cX2_covers 48 = .ok (.iload 5, 2) := by decide +kernel
theorem dX2_covers_50 : decode cX2_covers 50 = .ok (.isub, 1) := by decide +kernel
theorem dX2_covers_51 : decode cX2_covers 51 = .ok (.istore_n 3, 1) := by decide +kernel
theorem dX2_covers_52 : decode cX2_covers 52 = .ok (.iinc 4 1, 3) := by decide +kernel
theorem dX2_covers_55 : decode cX2_covers 55 = .ok (.goto (-50), 3) := by decide +kernel
theorem dX2_covers_58 : decode cX2_covers 58 = .ok (.aload_n 0, 1) := by decide +kernel
theorem dX2_covers_59 : decode cX2_covers 59 = .ok (.getfield 58, 3) := by decide +kernel
theorem dX2_covers_62 : decode cX2_covers 62 = .ok (.iload_n 1, 1) := by decide +kernel
theorem dX2_covers_63 : decode cX2_covers 63 = .ok (.iload_n 2, 1) := by decide +kernel
theorem dX2_covers_64 : decode cX2_covers 64 = .ok (.iload_n 3, 1) := by decide +kernel
theorem dX2_covers_65 : decode cX2_covers 65 = .ok (.isub, 1) := by decide +kernel
theorem dX2_covers_66 : decode cX2_covers 66 = .ok (.iastore, 1) := by decide +kernel
theorem dX2_covers_67 : decode cX2_covers 67 = .ok (.aload_n 0, 1) := by decide +kernel
theorem dX2_covers_68 : decode cX2_covers 68 = .ok (.getfield 43, 3) := by decide +kernel
theorem dX2_covers_71 : decode cX2_covers 71 = .ok (.iload_n 1, 1) := by decide +kernel
theorem dX2_covers_72 : decode cX2_covers 72 = .ok (.iload_n 3, 1) := by decide +kernel
theorem dX2_covers_73 : decode cX2_covers 73 = .ok (.iastore, 1) := by decide +kernel
theorem dX2_covers_74 : decode cX2_covers 74 = .ok (.aload_n 0, 1) := by decide +kernel
theorem dX2_covers_75 : decode cX2_covers 75 = .ok (.getfield 49, 3) := by decide +kernel
theorem dX2_covers_78 : decode cX2_covers 78 = .ok (.iload_n 1, 1) := by decide +kernel
theorem dX2_covers_79 : decode cX2_covers 79 = .ok (.iload_n 3, 1) := by decide +kernel
theorem dX2_covers_80 : decode cX2_covers 80 = .ok (.iastore, 1) := by decide +kernel
theorem dX2_covers_81 : decode cX2_covers 81 = .ok (.aload_n 0, 1) := by decide +kernel
theorem dX2_covers_82 : decode cX2_covers 82 = .ok (.getfield 61, 3) := by decide +kernel
theorem dX2_covers_85 : decode cX2_covers 85 = .ok (.iload_n 1, 1) := by decide +kernel
theorem dX2_covers_86 : decode cX2_covers 86 = .ok (.aload_n 0, 1) := by decide +kernel
theorem dX2_covers_87 : decode cX2_covers 87 = .ok (.getfield 36, 3) := by decide +kernel
theorem dX2_covers_90 : decode cX2_covers 90 = .ok (.iload_n 1, 1) := by decide +kernel
theorem dX2_covers_91 : decode cX2_covers 91 = .ok (.iaload, 1) := by decide +kernel
theorem dX2_covers_92 : decode cX2_covers 92 = .ok (.i2l, 1) := by decide +kernel
theorem dX2_covers_93 : decode cX2_covers 93 = .ok (.aload_n 0, 1) := by decide +kernel
theorem dX2_covers_94 : decode cX2_covers 94 = .ok (.getfield 26, 3) := by decide +kernel
theorem dX2_covers_97 : decode cX2_covers 97 = .ok (.iload_n 1, 1) := by decide +kernel
theorem dX2_covers_98 : decode cX2_covers 98 = .ok (.iaload, 1) := by decide +kernel
theorem dX2_covers_99 : decode cX2_covers 99 = .ok (.i2l, 1) := by decide +kernel
theorem dX2_covers_100 : decode cX2_covers 100 = .ok (.lmul, 1) := by decide +kernel
theorem dX2_covers_101 : decode cX2_covers 101 = .ok (.iload_n 3, 1) := by decide +kernel
theorem dX2_covers_102 : decode cX2_covers 102 = .ok (.i2l, 1) := by decide +kernel
theorem dX2_covers_103 : decode cX2_covers 103 = .ok (.aload_n 0, 1) := by decide +kernel
theorem dX2_covers_104 : decode cX2_covers 104 = .ok (.iload_n 1, 1) := by decide +kernel
theorem dX2_covers_105 : decode cX2_covers 105 = .ok (.invokevirtual 76, 3) := by decide +kernel
theorem dX2_covers_108 : decode cX2_covers 108 = .ok (.i2l, 1) := by decide +kernel
theorem dX2_covers_109 : decode cX2_covers 109 = .ok (.lmul, 1) := by decide +kernel
theorem dX2_covers_110 : decode cX2_covers 110 = .ok (.ladd, 1) := by decide +kernel
theorem dX2_covers_111 : decode cX2_covers 111 = .ok (.lastore, 1) := by decide +kernel
theorem dX2_covers_112 : decode cX2_covers 112 = .ok (.return_, 1) := by decide +kernel
set_option maxRecDepth 20000 in
theorem ggX2_makesUp_X2_shortfallPrice : GoodIn wsX2_makesUp wsX2_shortfallPrice := goodIn_r _ [13, 2, 14, 15, 16, 17, 18, 19, 20, 21, 22, 23, 24, 25, 26, 27, 28, 29, 30, 31, 32, 33, 34] (by decide +kernel) (by decide +kernel)
set_option maxRecDepth 20000 in
theorem gX2_makesUp_X2_shortfallPrice : GoodIn wsX2_makesUp (wsV RX2 76 RX2 yX2_shortfallPrice wsX2_shortfallPrice) := goodIn_app (goodIn_of _ (by decide +kernel)) ggX2_makesUp_X2_shortfallPrice
theorem dX2_makesUp_0 : decode cX2_makesUp 0 = .ok (.iload_n 2, 1) := by decide +kernel
theorem dX2_makesUp_1 : decode cX2_makesUp 1 = .ok (.istore_n 3, 1) := by decide +kernel
theorem dX2_makesUp_2 : decode cX2_makesUp 2 = .ok (.lconst 0, 1) := by decide +kernel
theorem dX2_makesUp_3 : decode cX2_makesUp 3 = .ok (.lstore 4, 2) := by decide +kernel
theorem dX2_makesUp_5 : decode cX2_makesUp 5 = .ok (.iconst 0, 1) := by decide +kernel
theorem dX2_makesUp_6 : decode cX2_makesUp 6 = .ok (.istore 6, 2) := by decide +kernel
theorem dX2_makesUp_8 : decode cX2_makesUp 8 = .ok (.iload 6, 2) := by decide +kernel
theorem dX2_makesUp_10 : decode cX2_makesUp 10 = .ok (.iload_n 1, 1) := by decide +kernel
theorem dX2_makesUp_11 : decode cX2_makesUp 11 = .ok (.if_icmp .ge 86, 3) := by decide +kernel
theorem dX2_makesUp_14 : decode cX2_makesUp 14 = .ok (.aload_n 0, 1) := by decide +kernel
theorem dX2_makesUp_15 : decode cX2_makesUp 15 = .ok (.getfield 49, 3) := by decide +kernel
theorem dX2_makesUp_18 : decode cX2_makesUp 18 = .ok (.iload 6, 2) := by decide +kernel
theorem dX2_makesUp_20 : decode cX2_makesUp 20 = .ok (.iaload, 1) := by decide +kernel
theorem dX2_makesUp_21 : decode cX2_makesUp 21 = .ok (.iload_n 3, 1) := by decide +kernel
theorem dX2_makesUp_22 : decode cX2_makesUp 22 = .ok (.if_icmp .ge 13, 3) := by decide +kernel
theorem dX2_makesUp_25 : decode cX2_makesUp 25 = .ok (.aload_n 0, 1) := by decide +kernel
theorem dX2_makesUp_26 : decode cX2_makesUp 26 = .ok (.getfield 49, 3) := by decide +kernel
theorem dX2_makesUp_29 : decode cX2_makesUp 29 = .ok (.iload 6, 2) := by decide +kernel
theorem dX2_makesUp_31 : decode cX2_makesUp 31 = .ok (.iaload, 1) := by decide +kernel
theorem dX2_makesUp_32 : decode cX2_makesUp 32 = .ok (.goto 4, 3) := by decide +kernel
theorem dX2_makesUp_35 : decode cX2_makesUp 35 = .ok (.iload_n 3, 1) := by decide +kernel
theorem dX2_makesUp_36 : decode cX2_makesUp 36 = .ok (.istore 7, 2) := by decide +kernel
theorem dX2_makesUp_38 : decode cX2_makesUp 38 = .ok (.aload_n 0, 1) := by decide +kernel
theorem dX2_makesUp_39 : decode cX2_makesUp 39 = .ok (.getfield 26, 3) := by decide +kernel
theorem dX2_makesUp_42 : decode cX2_makesUp 42 = .ok (.iload_n 1, 1) := by decide +kernel
theorem dX2_makesUp_43 : decode cX2_makesUp 43 = .ok (.iaload, 1) := by decide +kernel
theorem dX2_makesUp_44 : decode cX2_makesUp 44 = .ok (.aload_n 0, 1) := by decide +kernel
theorem dX2_makesUp_45 : decode cX2_makesUp 45 = .ok (.iload 6, 2) := by decide +kernel
theorem dX2_makesUp_47 : decode cX2_makesUp 47 = .ok (.invokevirtual 76, 3) := by decide +kernel
theorem dX2_makesUp_50 : decode cX2_makesUp 50 = .ok (.isub, 1) := by decide +kernel
theorem dX2_makesUp_51 : decode cX2_makesUp 51 = .ok (.istore 8, 2) := by decide +kernel
theorem dX2_makesUp_53 : decode cX2_makesUp 53 = .ok (.aload_n 0, 1) := by decide +kernel
theorem dX2_makesUp_54 : decode cX2_makesUp 54 = .ok (.getfield 49, 3) := by decide +kernel
theorem dX2_makesUp_57 : decode cX2_makesUp 57 = .ok (.iload 6, 2) := by decide +kernel
theorem dX2_makesUp_59 : decode cX2_makesUp 59 = .ok (.dup2, 1) := by decide +kernel
theorem dX2_makesUp_60 : decode cX2_makesUp 60 = .ok (.iaload, 1) := by decide +kernel
theorem dX2_makesUp_61 : decode cX2_makesUp 61 = .ok (.iload 7, 2) := by decide +kernel
theorem dX2_makesUp_63 : decode cX2_makesUp 63 = .ok (.isub, 1) := by decide +kernel
theorem dX2_makesUp_64 : decode cX2_makesUp 64 = .ok (.iastore, 1) := by decide +kernel
theorem dX2_makesUp_65 : decode cX2_makesUp 65 = .ok (.iload_n 3, 1) := by decide +kernel
theorem dX2_makesUp_66 : decode cX2_makesUp 66 = .ok (.iload 7, 2) := by decide +kernel
theorem dX2_makesUp_68 : decode cX2_makesUp 68 = .ok (.isub, 1) := by decide +kernel
theorem dX2_makesUp_69 : decode cX2_makesUp 69 = .ok (.istore_n 3, 1) := by decide +kernel
theorem dX2_makesUp_70 : decode cX2_makesUp 70 = .ok (.lload 4, 2) := by decide +kernel
theorem dX2_makesUp_72 : decode cX2_makesUp 72 = .ok (.iload 8, 2) := by decide +kernel
theorem dX2_makesUp_74 : decode cX2_makesUp 74 = .ok (.ifCond .le 13, 3) := by decide +kernel
theorem dX2_makesUp_77 : decode cX2_makesUp 77 = .ok (.iload 7, 2) := by decide +kernel
theorem dX2_makesUp_79 : decode cX2_makesUp 79 = .ok (.i2l, 1) := by decide +kernel
theorem dX2_makesUp_80 : decode cX2_makesUp 80 = .ok (.iload 8, 2) := by decide +kernel
theorem dX2_makesUp_82 : decode cX2_makesUp 82 = .ok (.i2l, 1) := by decide +kernel
theorem dX2_makesUp_83 : decode cX2_makesUp 83 = .ok (.lmul, 1) := by decide +kernel
theorem dX2_makesUp_84 : decode cX2_makesUp 84 = .ok (.goto 4, 3) := by decide +kernel
theorem dX2_makesUp_87 : decode cX2_makesUp 87 = .ok (.lconst 0, 1) := by decide +kernel
theorem dX2_makesUp_88 : decode cX2_makesUp 88 = .ok (.ladd, 1) := by decide +kernel
theorem dX2_makesUp_89 : decode cX2_makesUp 89 = .ok (.lstore 4, 2) := by decide +kernel
theorem dX2_makesUp_91 : decode cX2_makesUp 91 = .ok (.iinc 6 1, 3) := by decide +kernel
theorem dX2_makesUp_94 : decode cX2_makesUp 94 = .ok (.goto (-86), 3) := by decide +kernel
theorem dX2_makesUp_97 : decode cX2_makesUp 97 = .ok (.aload_n 0, 1) := by decide +kernel
theorem dX2_makesUp_98 : decode cX2_makesUp 98 = .ok (.getfield 55, 3) := by decide +kernel
theorem dX2_makesUp_101 : decode cX2_makesUp 101 = .ok (.iload_n 1, 1) := by decide +kernel
theorem dX2_makesUp_102 : decode cX2_makesUp 102 = .ok (.iload_n 2, 1) := by decide +kernel
theorem dX2_makesUp_103 : decode cX2_makesUp 103 = .ok (.iload_n 3, 1) := by decide +kernel
theorem dX2_makesUp_104 : decode cX2_makesUp 104 = .ok (.isub, 1) := by decide +kernel
theorem dX2_makesUp_105 : decode cX2_makesUp 105 = .ok (.iastore, 1) := by decide +kernel
theorem dX2_makesUp_106 : decode cX2_makesUp 106 = .ok (.aload_n 0, 1) := by decide +kernel
theorem dX2_makesUp_107 : decode cX2_makesUp 107 = .ok (.getfield 36, 3) := by decide +kernel
theorem dX2_makesUp_110 : decode cX2_makesUp 110 = .ok (.iload_n 1, 1) := by decide +kernel
theorem dX2_makesUp_111 : decode cX2_makesUp 111 = .ok (.iaload, 1) := by decide +kernel
theorem dX2_makesUp_112 : decode cX2_makesUp 112 = .ok (.aload_n 0, 1) := by decide +kernel
theorem dX2_makesUp_113 : decode cX2_makesUp 113 = .ok (.getfield 55, 3) := by decide +kernel
theorem dX2_makesUp_116 : decode cX2_makesUp 116 = .ok (.iload_n 1, 1) := by decide +kernel
theorem dX2_makesUp_117 : decode cX2_makesUp 117 = .ok (.iaload, 1) := by decide +kernel
theorem dX2_makesUp_118 : decode cX2_makesUp 118 = .ok (.isub, 1) := by decide +kernel
theorem dX2_makesUp_119 : decode cX2_makesUp 119 = .ok (.istore 6, 2) := by decide +kernel
theorem dX2_makesUp_121 : decode cX2_makesUp 121 = .ok (.aload_n 0, 1) := by decide +kernel
theorem dX2_makesUp_122 : decode cX2_makesUp 122 = .ok (.getfield 46, 3) := by decide +kernel
theorem dX2_makesUp_125 : decode cX2_makesUp 125 = .ok (.iload_n 1, 1) := by decide +kernel
theorem dX2_makesUp_126 : decode cX2_makesUp 126 = .ok (.iload 6, 2) := by decide +kernel
theorem dX2_makesUp_128 : decode cX2_makesUp 128 = .ok (.aload_n 0, 1) := by decide +kernel
theorem dX2_makesUp_129 : decode cX2_makesUp 129 = .ok (.getfield 8, 3) := by decide +kernel
theorem dX2_makesUp_132 : decode cX2_makesUp 132 = .ok (.if_icmp .le 13, 3) := by decide +kernel
theorem dX2_makesUp_135 : decode cX2_makesUp 135 = .ok (.iload 6, 2) := by decide +kernel
theorem dX2_makesUp_137 : decode cX2_makesUp 137 = .ok (.aload_n 0, 1) := by decide +kernel
theorem dX2_makesUp_138 : decode cX2_makesUp 138 = .ok (.getfield 8, 3) := by decide +kernel
theorem dX2_makesUp_141 : decode cX2_makesUp 141 = .ok (.isub, 1) := by decide +kernel
theorem dX2_makesUp_142 : decode cX2_makesUp 142 = .ok (.goto 4, 3) := by decide +kernel
theorem dX2_makesUp_145 : decode cX2_makesUp 145 = .ok (.iconst 0, 1) := by decide +kernel
theorem dX2_makesUp_146 : decode cX2_makesUp 146 = .ok (.iastore, 1) := by decide +kernel
theorem dX2_makesUp_147 : decode cX2_makesUp 147 = .ok (.aload_n 0, 1) := by decide +kernel
theorem dX2_makesUp_148 : decode cX2_makesUp 148 = .ok (.getfield 52, 3) := by decide +kernel
theorem dX2_makesUp_151 : decode cX2_makesUp 151 = .ok (.iload_n 1, 1) := by decide +kernel
theorem dX2_makesUp_152 : decode cX2_makesUp 152 = .ok (.aload_n 0, 1) := by decide +kernel
theorem dX2_makesUp_153 : decode cX2_makesUp 153 = .ok (.getfield 46, 3) := by decide +kernel
theorem dX2_makesUp_156 : decode cX2_makesUp 156 = .ok (.iload_n 1, 1) := by decide +kernel
theorem dX2_makesUp_157 : decode cX2_makesUp 157 = .ok (.iaload, 1) := by decide +kernel
theorem dX2_makesUp_158 : decode cX2_makesUp 158 = .ok (.iastore, 1) := by decide +kernel
theorem dX2_makesUp_159 : decode cX2_makesUp 159 = .ok (.aload_n 0, 1) := by decide +kernel
theorem dX2_makesUp_160 : decode cX2_makesUp 160 = .ok (.getfield 61, 3) := by decide +kernel
theorem dX2_makesUp_163 : decode cX2_makesUp 163 = .ok (.iload_n 1, 1) := by decide +kernel
theorem dX2_makesUp_164 : decode cX2_makesUp 164 = .ok (.iload 6, 2) := by decide +kernel
theorem dX2_makesUp_166 : decode cX2_makesUp 166 = .ok (.i2l, 1) := by decide +kernel
theorem dX2_makesUp_167 : decode cX2_makesUp 167 = .ok (.aload_n 0, 1) := by decide +kernel
theorem dX2_makesUp_168 : decode cX2_makesUp 168 = .ok (.getfield 26, 3) := by decide +kernel
theorem dX2_makesUp_171 : decode cX2_makesUp 171 = .ok (.iload_n 1, 1) := by decide +kernel
theorem dX2_makesUp_172 : decode cX2_makesUp 172 = .ok (.iaload, 1) := by decide +kernel
theorem dX2_makesUp_173 : decode cX2_makesUp 173 = .ok (.i2l, 1) := by decide +kernel
theorem dX2_makesUp_174 : decode cX2_makesUp 174 = .ok (.lmul, 1) := by decide +kernel
theorem dX2_makesUp_175 : decode cX2_makesUp 175 = .ok (.lload 4, 2) := by decide +kernel
theorem dX2_makesUp_177 : decode cX2_makesUp 177 = .ok (.ladd, 1) := by decide +kernel
theorem dX2_makesUp_178 : decode cX2_makesUp 178 = .ok (.lastore, 1) := by decide +kernel
theorem dX2_makesUp_179 : decode cX2_makesUp 179 = .ok (.return_, 1) := by decide +kernel
set_option maxRecDepth 20000 in
theorem ggX2_goesThrough_X2_lapses : GoodIn wsX2_goesThrough wsX2_lapses := goodIn_r _ [14, 15, 1, 5, 16, 6, 40, 41, 42, 43, 44, 45, 46, 47, 48, 49, 50, 51, 52, 53, 54, 55, 56, 57, 58, 59] (by decide +kernel) (by decide +kernel)
set_option maxRecDepth 20000 in
theorem gX2_goesThrough_X2_lapses : GoodIn wsX2_goesThrough (wsV RX2 83 RX2 yX2_lapses wsX2_lapses) := goodIn_app (goodIn_of _ (by decide +kernel)) ggX2_goesThrough_X2_lapses
set_option maxRecDepth 20000 in
theorem ggX2_goesThrough_X2_leastOf : GoodIn wsX2_goesThrough wsX2_leastOf := goodIn_r _ [20, 21, 22, 23, 24, 40, 41, 42, 43, 44, 45, 46, 47, 48, 49, 50, 51, 52, 53, 54, 55, 56, 57, 58, 59] (by decide +kernel) (by decide +kernel)
set_option maxRecDepth 20000 in
theorem gX2_goesThrough_X2_leastOf : GoodIn wsX2_goesThrough (wsV RX2 87 RX2 yX2_leastOf wsX2_leastOf) := goodIn_app (goodIn_of _ (by decide +kernel)) ggX2_goesThrough_X2_leastOf
set_option maxRecDepth 20000 in
theorem ggX2_goesThrough_X2_covers : GoodIn wsX2_goesThrough wsX2_covers := goodIn_r _ [28, 6, 8, 3, 5, 29, 9, 30, 31, 32, 33, 13, 34, 35, 40, 41, 42, 43, 44, 45, 46, 47, 48, 49, 50, 51, 52, 53, 54, 55, 56, 57, 58, 59] (by decide +kernel) (by decide +kernel)
set_option maxRecDepth 20000 in
theorem gX2_goesThrough_X2_covers : GoodIn wsX2_goesThrough (wsV RX2 90 RX2 yX2_covers wsX2_covers) := goodIn_app (goodIn_of _ (by decide +kernel)) ggX2_goesThrough_X2_covers
set_option maxRecDepth 20000 in
theorem ggX2_goesThrough_X2_makesUp : GoodIn wsX2_goesThrough wsX2_makesUp := goodIn_r _ [39, 5, 30, 7, 9, 4, 21, 6, 29, 31, 32, 33, 13, 34, 35, 40, 41, 42, 43, 44, 45, 46, 47, 48, 49, 50, 51, 52, 53, 54, 55, 56, 57, 58, 59] (by decide +kernel) (by decide +kernel)
set_option maxRecDepth 20000 in
theorem gX2_goesThrough_X2_makesUp : GoodIn wsX2_goesThrough (wsV RX2 94 RX2 yX2_makesUp wsX2_makesUp) := goodIn_app (goodIn_of _ (by decide +kernel)) ggX2_goesThrough_X2_makesUp
theorem dX2_goesThrough_0 : decode cX2_goesThrough 0 = .ok (.aload_n 0, 1) := by decide +kernel
theorem dX2_goesThrough_1 : decode cX2_goesThrough 1 = .ok (.iconst 0, 1) := by decide +kernel
theorem dX2_goesThrough_2 : decode cX2_goesThrough 2 = .ok (.putfield 73, 3) := by decide +kernel
theorem dX2_goesThrough_5 : decode cX2_goesThrough 5 = .ok (.iconst 0, 1) := by decide +kernel
theorem dX2_goesThrough_6 : decode cX2_goesThrough 6 = .ok (.istore_n 1, 1) := by decide +kernel
theorem dX2_goesThrough_7 : decode cX2_goesThrough 7 = .ok (.iload_n 1, 1) := by decide +kernel
theorem dX2_goesThrough_8 : decode cX2_goesThrough 8 = .ok (.aload_n 0, 1) := by decide +kernel
theorem dX2_goesThrough_9 : decode cX2_goesThrough 9 = .ok (.getfield 80, 3) := by decide +kernel
theorem dX2_goesThrough_12 : decode cX2_goesThrough 12 = .ok (.if_icmp .ge 101, 3) := by decide +kernel
theorem dX2_goesThrough_15 : decode cX2_goesThrough 15 = .ok (.aload_n 0, 1) := by decide +kernel
theorem dX2_goesThrough_16 : decode cX2_goesThrough 16 = .ok (.getfield 43, 3) := by decide +kernel
theorem dX2_goesThrough_19 : decode cX2_goesThrough 19 = .ok (.iload_n 1, 1) := by decide +kernel
theorem dX2_goesThrough_20 : decode cX2_goesThrough 20 = .ok (.iconst 0, 1) := by decide +kernel
theorem dX2_goesThrough_21 : decode cX2_goesThrough 21 = .ok (.iastore, 1) := by decide +kernel
theorem dX2_goesThrough_22 : decode cX2_goesThrough 22 = .ok (.aload_n 0, 1) := by decide +kernel
theorem dX2_goesThrough_23 : decode cX2_goesThrough 23 = .ok (.getfield 46, 3) := by decide +kernel
theorem dX2_goesThrough_26 : decode cX2_goesThrough 26 = .ok (.iload_n 1, 1) := by decide +kernel
theorem dX2_goesThrough_27 : decode cX2_goesThrough 27 = .ok (.iconst 0, 1) := by decide +kernel
theorem dX2_goesThrough_28 : decode cX2_goesThrough 28 = .ok (.iastore, 1) := by decide +kernel
theorem dX2_goesThrough_29 : decode cX2_goesThrough 29 = .ok (.aload_n 0, 1) := by decide +kernel
theorem dX2_goesThrough_30 : decode cX2_goesThrough 30 = .ok (.getfield 49, 3) := by decide +kernel
theorem dX2_goesThrough_33 : decode cX2_goesThrough 33 = .ok (.iload_n 1, 1) := by decide +kernel
theorem dX2_goesThrough_34 : decode cX2_goesThrough 34 = .ok (.iconst 0, 1) := by decide +kernel
theorem dX2_goesThrough_35 : decode cX2_goesThrough 35 = .ok (.iastore, 1) := by decide +kernel
theorem dX2_goesThrough_36 : decode cX2_goesThrough 36 = .ok (.aload_n 0, 1) := by decide +kernel
theorem dX2_goesThrough_37 : decode cX2_goesThrough 37 = .ok (.getfield 52, 3) := by decide +kernel
theorem dX2_goesThrough_40 : decode cX2_goesThrough 40 = .ok (.iload_n 1, 1) := by decide +kernel
theorem dX2_goesThrough_41 : decode cX2_goesThrough 41 = .ok (.iconst 0, 1) := by decide +kernel
theorem dX2_goesThrough_42 : decode cX2_goesThrough 42 = .ok (.iastore, 1) := by decide +kernel
theorem dX2_goesThrough_43 : decode cX2_goesThrough 43 = .ok (.aload_n 0, 1) := by decide +kernel
theorem dX2_goesThrough_44 : decode cX2_goesThrough 44 = .ok (.getfield 55, 3) := by decide +kernel
theorem dX2_goesThrough_47 : decode cX2_goesThrough 47 = .ok (.iload_n 1, 1) := by decide +kernel
theorem dX2_goesThrough_48 : decode cX2_goesThrough 48 = .ok (.iconst 0, 1) := by decide +kernel
theorem dX2_goesThrough_49 : decode cX2_goesThrough 49 = .ok (.iastore, 1) := by decide +kernel
theorem dX2_goesThrough_50 : decode cX2_goesThrough 50 = .ok (.aload_n 0, 1) := by decide +kernel
theorem dX2_goesThrough_51 : decode cX2_goesThrough 51 = .ok (.getfield 58, 3) := by decide +kernel
theorem dX2_goesThrough_54 : decode cX2_goesThrough 54 = .ok (.iload_n 1, 1) := by decide +kernel
theorem dX2_goesThrough_55 : decode cX2_goesThrough 55 = .ok (.iconst 0, 1) := by decide +kernel
theorem dX2_goesThrough_56 : decode cX2_goesThrough 56 = .ok (.iastore, 1) := by decide +kernel
theorem dX2_goesThrough_57 : decode cX2_goesThrough 57 = .ok (.aload_n 0, 1) := by decide +kernel
theorem dX2_goesThrough_58 : decode cX2_goesThrough 58 = .ok (.iload_n 1, 1) := by decide +kernel
theorem dX2_goesThrough_59 : decode cX2_goesThrough 59 = .ok (.invokevirtual 83, 3) := by decide +kernel
theorem dX2_goesThrough_62 : decode cX2_goesThrough 62 = .ok (.aload_n 0, 1) := by decide +kernel
theorem dX2_goesThrough_63 : decode cX2_goesThrough 63 = .ok (.iload_n 1, 1) := by decide +kernel
theorem dX2_goesThrough_64 : decode cX2_goesThrough 64 = .ok (.invokevirtual 87, 3) := by decide +kernel
theorem dX2_goesThrough_67 : decode cX2_goesThrough 67 = .ok (.istore_n 2, 1) := by decide +kernel
theorem dX2_goesThrough_68 : decode cX2_goesThrough 68 = .ok (.aload_n 0, 1) := by decide +kernel
theorem dX2_goesThrough_69 : decode cX2_goesThrough 69 = .ok (.getfield 36, 3) := by decide +kernel
theorem dX2_goesThrough_72 : decode cX2_goesThrough 72 = .ok (.iload_n 1, 1) := by decide +kernel
theorem dX2_goesThrough_73 : decode cX2_goesThrough 73 = .ok (.iaload, 1) := by decide +kernel
theorem dX2_goesThrough_74 : decode cX2_goesThrough 74 = .ok (.iload_n 2, 1) := by decide +kernel
theorem dX2_goesThrough_75 : decode cX2_goesThrough 75 = .ok (.if_icmp .ge 19, 3) := by decide +kernel
theorem dX2_goesThrough_78 : decode cX2_goesThrough 78 = .ok (.aload_n 0, 1) := by decide +kernel
theorem dX2_goesThrough_79 : decode cX2_goesThrough 79 = .ok (.iload_n 1, 1) := by decide +kernel
theorem dX2_goesThrough_80 : decode cX2_goesThrough 80 = .ok (.iload_n 2, 1) := by decide +kernel
theorem dX2_goesThrough_81 : decode cX2_goesThrough 81 = .ok (.aload_n 0, 1) := by decide +kernel
theorem dX2_goesThrough_82 : decode cX2_goesThrough 82 = .ok (.getfield 36, 3) := by decide +kernel
end
section
theorem dX2_goesThrough_85 : decode cX2_goesThrough 85 = .ok (.iload_n 1, 1) := by decide +kernel
theorem dX2_goesThrough_86 : decode cX2_goesThrough 86 = .ok (.iaload, 1) := by decide +kernel
theorem dX2_goesThrough_87 : decode cX2_goesThrough 87 = .ok (.isub, 1) := by decide +kernel
theorem dX2_goesThrough_88 : decode cX2_goesThrough 88 = .ok (.invokevirtual 90, 3) := by decide +kernel
theorem dX2_goesThrough_91 : decode cX2_goesThrough 91 = .ok (.goto 16, 3) := by decide +kernel
theorem dX2_goesThrough_94 : decode cX2_goesThrough 94 = .ok (.aload_n 0, 1) := by decide +kernel
theorem dX2_goesThrough_95 : decode cX2_goesThrough 95 = .ok (.iload_n 1, 1) := by decide +kernel
theorem dX2_goesThrough_96 : decode cX2_goesThrough 96 = .ok (.aload_n 0, 1) := by decide +kernel
theorem dX2_goesThrough_97 : decode cX2_goesThrough 97 = .ok (.getfield 36, 3) := by decide +kernel
theorem dX2_goesThrough_100 : decode cX2_goesThrough 100 = .ok (.iload_n 1, 1) := by decide +kernel
theorem dX2_goesThrough_101 : decode cX2_goesThrough 101 = .ok (.iaload, 1) := by decide +kernel
theorem dX2_goesThrough_102 : decode cX2_goesThrough 102 = .ok (.iload_n 2, 1) := by decide +kernel
theorem dX2_goesThrough_103 : decode cX2_goesThrough 103 = .ok (.isub, 1) := by decide +kernel
theorem dX2_goesThrough_104 : decode cX2_goesThrough 104 = .ok (.invokevirtual 94, 3) := by decide +kernel
theorem dX2_goesThrough_107 : decode cX2_goesThrough 107 = .ok (.iinc 1 1, 3) := by decide +kernel
theorem dX2_goesThrough_110 : decode cX2_goesThrough 110 = .ok (.goto (-103), 3) := by decide +kernel
theorem dX2_goesThrough_113 : decode cX2_goesThrough 113 = .ok (.return_, 1) := by decide +kernel
set_option maxRecDepth 20000 in
theorem ggX2_openNow_X2_goesThrough : GoodIn wsX2_openNow wsX2_goesThrough := goodIn_r _ [8, 9, 1, 10, 11, 12, 13, 14, 15, 16, 17, 18, 19, 7, 20, 21, 22, 23, 24, 25, 26, 27, 28, 29, 30, 31, 32, 33, 34, 2, 35, 36, 37, 38, 39, 40, 41, 42, 43, 44, 45, 46, 47, 48, 49, 50, 51, 52, 53, 54, 55, 56, 57, 58, 59, 60, 61, 62, 63, 64] (by decide +kernel) (by decide +kernel)
set_option maxRecDepth 20000 in
theorem gX2_openNow_X2_goesThrough : GoodIn wsX2_openNow (wsV RX2 97 RX2 yX2_goesThrough wsX2_goesThrough) := goodIn_app (goodIn_of _ (by decide +kernel)) ggX2_openNow_X2_goesThrough
theorem dX2_openNow_0 : decode cX2_openNow 0 = .ok (.aload_n 0, 1) := by decide +kernel
theorem dX2_openNow_1 : decode cX2_openNow 1 = .ok (.invokevirtual 97, 3) := by decide +kernel
theorem dX2_openNow_4 : decode cX2_openNow 4 = .ok (.lconst 0, 1) := by decide +kernel
theorem dX2_openNow_5 : decode cX2_openNow 5 = .ok (.lstore_n 1, 1) := by decide +kernel
theorem dX2_openNow_6 : decode cX2_openNow 6 = .ok (.iconst 0, 1) := by decide +kernel
theorem dX2_openNow_7 : decode cX2_openNow 7 = .ok (.istore_n 3, 1) := by decide +kernel
theorem dX2_openNow_8 : decode cX2_openNow 8 = .ok (.iload_n 3, 1) := by decide +kernel
theorem dX2_openNow_9 : decode cX2_openNow 9 = .ok (.aload_n 0, 1) := by decide +kernel
theorem dX2_openNow_10 : decode cX2_openNow 10 = .ok (.getfield 80, 3) := by decide +kernel
theorem dX2_openNow_13 : decode cX2_openNow 13 = .ok (.if_icmp .ge 25, 3) := by decide +kernel
theorem dX2_openNow_16 : decode cX2_openNow 16 = .ok (.lload_n 1, 1) := by decide +kernel
theorem dX2_openNow_17 : decode cX2_openNow 17 = .ok (.aload_n 0, 1) := by decide +kernel
theorem dX2_openNow_18 : decode cX2_openNow 18 = .ok (.getfield 61, 3) := by decide +kernel
theorem dX2_openNow_21 : decode cX2_openNow 21 = .ok (.iload_n 3, 1) := by decide +kernel
theorem dX2_openNow_22 : decode cX2_openNow 22 = .ok (.laload, 1) := by decide +kernel
theorem dX2_openNow_23 : decode cX2_openNow 23 = .ok (.aload_n 0, 1) := by decide +kernel
theorem dX2_openNow_24 : decode cX2_openNow 24 = .ok (.getfield 39, 3) := by decide +kernel
theorem dX2_openNow_27 : decode cX2_openNow 27 = .ok (.iload_n 3, 1) := by decide +kernel
theorem dX2_openNow_28 : decode cX2_openNow 28 = .ok (.laload, 1) := by decide +kernel
theorem dX2_openNow_29 : decode cX2_openNow 29 = .ok (.lsub, 1) := by decide +kernel
theorem dX2_openNow_30 : decode cX2_openNow 30 = .ok (.ladd, 1) := by decide +kernel
theorem dX2_openNow_31 : decode cX2_openNow 31 = .ok (.lstore_n 1, 1) := by decide +kernel
theorem dX2_openNow_32 : decode cX2_openNow 32 = .ok (.iinc 3 1, 3) := by decide +kernel
theorem dX2_openNow_35 : decode cX2_openNow 35 = .ok (.goto (-27), 3) := by decide +kernel
theorem dX2_openNow_38 : decode cX2_openNow 38 = .ok (.lload_n 1, 1) := by decide +kernel
theorem dX2_openNow_39 : decode cX2_openNow 39 = .ok (.lreturn, 1) := by decide +kernel
set_option maxRecDepth 20000 in
theorem ggX2_set_X2_isIn : GoodIn wsX2_set wsX2_isIn := goodIn_r _ [12] (by decide +kernel) (by decide +kernel)
set_option maxRecDepth 20000 in
theorem gX2_set_X2_isIn : GoodIn wsX2_set (va_wsS RX2 67 yX2_isIn wsX2_isIn) := goodIn_app (goodIn_of _ (by decide +kernel)) ggX2_set_X2_isIn
set_option maxRecDepth 20000 in
theorem ggX2_set_X2_holds : GoodIn wsX2_set wsX2_holds := goodIn_r _ [16, 17, 18, 19, 20, 21, 22, 23, 24, 25, 26, 27, 28, 29, 30, 31, 32, 33, 34, 35, 36, 37] (by decide +kernel) (by decide +kernel)
set_option maxRecDepth 20000 in
theorem gX2_set_X2_holds : GoodIn wsX2_set (wsV RX2 101 RX2 yX2_holds wsX2_holds) := goodIn_app (goodIn_of _ (by decide +kernel)) ggX2_set_X2_holds
theorem dX2_set_0 : decode cX2_set 0 = .ok (.iload_n 1, 1) := by decide +kernel
theorem dX2_set_1 : decode cX2_set 1 = .ok (.iconst 1, 1) := by decide +kernel
theorem dX2_set_2 : decode cX2_set 2 = .ok (.ldc 100, 2) := by decide +kernel
theorem dX2_set_4 : decode cX2_set 4 = .ok (.invokestatic 67, 3) := by decide +kernel
theorem dX2_set_7 : decode cX2_set 7 = .ok (.ifCond .eq 47, 3) := by decide +kernel
theorem dX2_set_10 : decode cX2_set 10 = .ok (.iload_n 2, 1) := by decide +kernel
theorem dX2_set_11 : decode cX2_set 11 = .ok (.iconst 0, 1) := by decide +kernel
theorem dX2_set_12 : decode cX2_set 12 = .ok (.bipush 100, 2) := by decide +kernel
theorem dX2_set_14 : decode cX2_set 14 = .ok (.invokestatic 67, 3) := by decide +kernel
theorem dX2_set_17 : decode cX2_set 17 = .ok (.ifCond .eq 37, 3) := by decide +kernel
theorem dX2_set_20 : decode cX2_set 20 = .ok (.iload_n 3, 1) := by decide +kernel
theorem dX2_set_21 : decode cX2_set 21 = .ok (.iconst 0, 1) := by decide +kernel
theorem dX2_set_22 : decode cX2_set 22 = .ok (.bipush 100, 2) := by decide +kernel
theorem dX2_set_24 : decode cX2_set 24 = .ok (.invokestatic 67, 3) := by decide +kernel
theorem dX2_set_27 : decode cX2_set 27 = .ok (.ifCond .eq 27, 3) := by decide +kernel
theorem dX2_set_30 : decode cX2_set 30 = .ok (.iload 4, 2) := by decide +kernel
theorem dX2_set_32 : decode cX2_set 32 = .ok (.iconst 1, 1) := by decide +kernel
theorem dX2_set_33 : decode cX2_set 33 = .ok (.iconst 5, 1) := by decide +kernel
theorem dX2_set_34 : decode cX2_set 34 = .ok (.invokestatic 67, 3) := by decide +kernel
theorem dX2_set_37 : decode cX2_set 37 = .ok (.ifCond .eq 17, 3) := by decide +kernel
theorem dX2_set_40 : decode cX2_set 40 = .ok (.iload 5, 2) := by decide +kernel
theorem dX2_set_42 : decode cX2_set 42 = .ok (.iconst 1, 1) := by decide +kernel
theorem dX2_set_43 : decode cX2_set 43 = .ok (.iconst 5, 1) := by decide +kernel
theorem dX2_set_44 : decode cX2_set 44 = .ok (.invokestatic 67, 3) := by decide +kernel
theorem dX2_set_47 : decode cX2_set 47 = .ok (.ifCond .eq 7, 3) := by decide +kernel
theorem dX2_set_50 : decode cX2_set 50 = .ok (.iconst 1, 1) := by decide +kernel
theorem dX2_set_51 : decode cX2_set 51 = .ok (.goto 4, 3) := by decide +kernel
theorem dX2_set_54 : decode cX2_set 54 = .ok (.iconst 0, 1) := by decide +kernel
theorem dX2_set_55 : decode cX2_set 55 = .ok (.istore 6, 2) := by decide +kernel
theorem dX2_set_57 : decode cX2_set 57 = .ok (.aload_n 0, 1) := by decide +kernel
theorem dX2_set_58 : decode cX2_set 58 = .ok (.iload 6, 2) := by decide +kernel
theorem dX2_set_60 : decode cX2_set 60 = .ok (.ifCond .ne 7, 3) := by decide +kernel
theorem dX2_set_63 : decode cX2_set 63 = .ok (.iconst 1, 1) := by decide +kernel
theorem dX2_set_64 : decode cX2_set 64 = .ok (.goto 24, 3) := by decide +kernel
theorem dX2_set_67 : decode cX2_set 67 = .ok (.aload_n 0, 1) := by decide +kernel
theorem dX2_set_68 : decode cX2_set 68 = .ok (.getfield 80, 3) := by decide +kernel
theorem dX2_set_71 : decode cX2_set 71 = .ok (.ifCond .gt 12, 3) := by decide +kernel
theorem dX2_set_74 : decode cX2_set 74 = .ok (.aload_n 0, 1) := by decide +kernel
theorem dX2_set_75 : decode cX2_set 75 = .ok (.getfield 36, 3) := by decide +kernel
theorem dX2_set_78 : decode cX2_set 78 = .ok (.iconst 0, 1) := by decide +kernel
theorem dX2_set_79 : decode cX2_set 79 = .ok (.iaload, 1) := by decide +kernel
theorem dX2_set_80 : decode cX2_set 80 = .ok (.ifCond .le 7, 3) := by decide +kernel
theorem dX2_set_83 : decode cX2_set 83 = .ok (.iconst 2, 1) := by decide +kernel
theorem dX2_set_84 : decode cX2_set 84 = .ok (.goto 4, 3) := by decide +kernel
theorem dX2_set_87 : decode cX2_set 87 = .ok (.iconst 0, 1) := by decide +kernel
theorem dX2_set_88 : decode cX2_set 88 = .ok (.invokevirtual 101, 3) := by decide +kernel
theorem dX2_set_91 : decode cX2_set 91 = .ok (.ifCond .eq 30, 3) := by decide +kernel
theorem dX2_set_94 : decode cX2_set 94 = .ok (.aload_n 0, 1) := by decide +kernel
theorem dX2_set_95 : decode cX2_set 95 = .ok (.iload_n 1, 1) := by decide +kernel
theorem dX2_set_96 : decode cX2_set 96 = .ok (.putfield 8, 3) := by decide +kernel
theorem dX2_set_99 : decode cX2_set 99 = .ok (.aload_n 0, 1) := by decide +kernel
theorem dX2_set_100 : decode cX2_set 100 = .ok (.iload_n 2, 1) := by decide +kernel
theorem dX2_set_101 : decode cX2_set 101 = .ok (.putfield 14, 3) := by decide +kernel
theorem dX2_set_104 : decode cX2_set 104 = .ok (.aload_n 0, 1) := by decide +kernel
theorem dX2_set_105 : decode cX2_set 105 = .ok (.iload_n 3, 1) := by decide +kernel
theorem dX2_set_106 : decode cX2_set 106 = .ok (.putfield 17, 3) := by decide +kernel
theorem dX2_set_109 : decode cX2_set 109 = .ok (.aload_n 0, 1) := by decide +kernel
theorem dX2_set_110 : decode cX2_set 110 = .ok (.iload 4, 2) := by decide +kernel
theorem dX2_set_112 : decode cX2_set 112 = .ok (.putfield 20, 3) := by decide +kernel
theorem dX2_set_115 : decode cX2_set 115 = .ok (.aload_n 0, 1) := by decide +kernel
theorem dX2_set_116 : decode cX2_set 116 = .ok (.iload 5, 2) := by decide +kernel
theorem dX2_set_118 : decode cX2_set 118 = .ok (.putfield 23, 3) := by decide +kernel
theorem dX2_set_121 : decode cX2_set 121 = .ok (.return_, 1) := by decide +kernel
set_option maxRecDepth 20000 in
theorem ggX2_review_X2_isYear : GoodIn wsX2_review wsX2_isYear := goodIn_r _ [5, 6, 7, 4, 8] (by decide +kernel) (by decide +kernel)
set_option maxRecDepth 20000 in
theorem gX2_review_X2_isYear : GoodIn wsX2_review (va_wsS RX2 105 yX2_isYear wsX2_isYear) := goodIn_app (goodIn_of _ (by decide +kernel)) ggX2_review_X2_isYear
set_option maxRecDepth 20000 in
theorem ggX2_review_X2_isIn : GoodIn wsX2_review wsX2_isIn := goodIn_r _ [8] (by decide +kernel) (by decide +kernel)
set_option maxRecDepth 20000 in
theorem gX2_review_X2_isIn : GoodIn wsX2_review (va_wsS RX2 67 yX2_isIn wsX2_isIn) := goodIn_app (goodIn_of _ (by decide +kernel)) ggX2_review_X2_isIn
set_option maxRecDepth 20000 in
theorem ggX2_review_X2_holds : GoodIn wsX2_review wsX2_holds := goodIn_r _ [12, 13, 14, 15, 16, 17, 18, 19, 20, 21, 22, 23, 24, 25, 26, 27, 28, 29, 30, 31, 32, 33] (by decide +kernel) (by decide +kernel)
set_option maxRecDepth 20000 in
theorem gX2_review_X2_holds : GoodIn wsX2_review (wsV RX2 101 RX2 yX2_holds wsX2_holds) := goodIn_app (goodIn_of _ (by decide +kernel)) ggX2_review_X2_holds
theorem dX2_review_0 : decode cX2_review 0 = .ok (.aload_n 0, 1) := by decide +kernel
theorem dX2_review_1 : decode cX2_review 1 = .ok (.iload_n 1, 1) := by decide +kernel
theorem dX2_review_2 : decode cX2_review 2 = .ok (.invokestatic 105, 3) := by decide +kernel
theorem dX2_review_5 : decode cX2_review 5 = .ok (.ifCond .eq 18, 3) := by decide +kernel
theorem dX2_review_8 : decode cX2_review 8 = .ok (.iload_n 2, 1) := by decide +kernel
theorem dX2_review_9 : decode cX2_review 9 = .ok (.iconst 1, 1) := by decide +kernel
theorem dX2_review_10 : decode cX2_review 10 = .ok (.sipush 1000, 3) := by decide +kernel
theorem dX2_review_13 : decode cX2_review 13 = .ok (.invokestatic 67, 3) := by decide +kernel
theorem dX2_review_16 : decode cX2_review 16 = .ok (.ifCond .eq 7, 3) := by decide +kernel
theorem dX2_review_19 : decode cX2_review 19 = .ok (.iconst 0, 1) := by decide +kernel
theorem dX2_review_20 : decode cX2_review 20 = .ok (.goto 4, 3) := by decide +kernel
theorem dX2_review_23 : decode cX2_review 23 = .ok (.iconst 1, 1) := by decide +kernel
theorem dX2_review_24 : decode cX2_review 24 = .ok (.invokevirtual 101, 3) := by decide +kernel
theorem dX2_review_27 : decode cX2_review 27 = .ok (.ifCond .ne 5, 3) := by decide +kernel
theorem dX2_review_30 : decode cX2_review 30 = .ok (.iconst 0, 1) := by decide +kernel
theorem dX2_review_31 : decode cX2_review 31 = .ok (.ireturn, 1) := by decide +kernel
theorem dX2_review_32 : decode cX2_review 32 = .ok (.aload_n 0, 1) := by decide +kernel
theorem dX2_review_33 : decode cX2_review 33 = .ok (.getfield 26, 3) := by decide +kernel
theorem dX2_review_36 : decode cX2_review 36 = .ok (.iload_n 1, 1) := by decide +kernel
theorem dX2_review_37 : decode cX2_review 37 = .ok (.iaload, 1) := by decide +kernel
theorem dX2_review_38 : decode cX2_review 38 = .ok (.istore_n 3, 1) := by decide +kernel
theorem dX2_review_39 : decode cX2_review 39 = .ok (.iload_n 1, 1) := by decide +kernel
theorem dX2_review_40 : decode cX2_review 40 = .ok (.istore 4, 2) := by decide +kernel
theorem dX2_review_42 : decode cX2_review 42 = .ok (.iload 4, 2) := by decide +kernel
theorem dX2_review_44 : decode cX2_review 44 = .ok (.bipush 20, 2) := by decide +kernel
theorem dX2_review_46 : decode cX2_review 46 = .ok (.if_icmp .ge 17, 3) := by decide +kernel
theorem dX2_review_49 : decode cX2_review 49 = .ok (.aload_n 0, 1) := by decide +kernel
theorem dX2_review_50 : decode cX2_review 50 = .ok (.getfield 26, 3) := by decide +kernel
theorem dX2_review_53 : decode cX2_review 53 = .ok (.iload 4, 2) := by decide +kernel
theorem dX2_review_55 : decode cX2_review 55 = .ok (.iload_n 2, 1) := by decide +kernel
theorem dX2_review_56 : decode cX2_review 56 = .ok (.iastore, 1) := by decide +kernel
theorem dX2_review_57 : decode cX2_review 57 = .ok (.iinc 4 1, 3) := by decide +kernel
theorem dX2_review_60 : decode cX2_review 60 = .ok (.goto (-18), 3) := by decide +kernel
theorem dX2_review_63 : decode cX2_review 63 = .ok (.iload_n 3, 1) := by decide +kernel
theorem dX2_review_64 : decode cX2_review 64 = .ok (.ireturn, 1) := by decide +kernel
set_option maxRecDepth 20000 in
theorem ggX2_excuse_X2_isYear : GoodIn wsX2_excuse wsX2_isYear := goodIn_r _ [5, 6, 7, 4, 8] (by decide +kernel) (by decide +kernel)
set_option maxRecDepth 20000 in
theorem gX2_excuse_X2_isYear : GoodIn wsX2_excuse (va_wsS RX2 105 yX2_isYear wsX2_isYear) := goodIn_app (goodIn_of _ (by decide +kernel)) ggX2_excuse_X2_isYear
set_option maxRecDepth 20000 in
theorem ggX2_excuse_X2_isIn : GoodIn wsX2_excuse wsX2_isIn := goodIn_r _ [8] (by decide +kernel) (by decide +kernel)
set_option maxRecDepth 20000 in
theorem gX2_excuse_X2_isIn : GoodIn wsX2_excuse (va_wsS RX2 67 yX2_isIn wsX2_isIn) := goodIn_app (goodIn_of _ (by decide +kernel)) ggX2_excuse_X2_isIn
set_option maxRecDepth 20000 in
theorem ggX2_excuse_X2_holds : GoodIn wsX2_excuse wsX2_holds := goodIn_r _ [12, 13, 14, 15, 16, 17, 18, 19, 20, 21, 22, 23, 24, 25, 26, 27, 28, 29, 30, 31, 32, 33] (by decide +kernel) (by decide +kernel)
set_option maxRecDepth 20000 in
theorem gX2_excuse_X2_holds : GoodIn wsX2_excuse (wsV RX2 101 RX2 yX2_holds wsX2_holds) := goodIn_app (goodIn_of _ (by decide +kernel)) ggX2_excuse_X2_holds
theorem dX2_excuse_0 : decode cX2_excuse 0 = .ok (.aload_n 0, 1) := by decide +kernel
theorem dX2_excuse_1 : decode cX2_excuse 1 = .ok (.iload_n 1, 1) := by decide +kernel
theorem dX2_excuse_2 : decode cX2_excuse 2 = .ok (.invokestatic 105, 3) := by decide +kernel
theorem dX2_excuse_5 : decode cX2_excuse 5 = .ok (.ifCond .eq 18, 3) := by decide +kernel
theorem dX2_excuse_8 : decode cX2_excuse 8 = .ok (.iload_n 2, 1) := by decide +kernel
theorem dX2_excuse_9 : decode cX2_excuse 9 = .ok (.iconst 0, 1) := by decide +kernel
theorem dX2_excuse_10 : decode cX2_excuse 10 = .ok (.sipush 360, 3) := by decide +kernel
theorem dX2_excuse_13 : decode cX2_excuse 13 = .ok (.invokestatic 67, 3) := by decide +kernel
theorem dX2_excuse_16 : decode cX2_excuse 16 = .ok (.ifCond .eq 7, 3) := by decide +kernel
theorem dX2_excuse_19 : decode cX2_excuse 19 = .ok (.iconst 0, 1) := by decide +kernel
theorem dX2_excuse_20 : decode cX2_excuse 20 = .ok (.goto 4, 3) := by decide +kernel
theorem dX2_excuse_23 : decode cX2_excuse 23 = .ok (.iconst 1, 1) := by decide +kernel
theorem dX2_excuse_24 : decode cX2_excuse 24 = .ok (.invokevirtual 101, 3) := by decide +kernel
theorem dX2_excuse_27 : decode cX2_excuse 27 = .ok (.ifCond .ne 5, 3) := by decide +kernel
theorem dX2_excuse_30 : decode cX2_excuse 30 = .ok (.iconst 0, 1) := by decide +kernel
theorem dX2_excuse_31 : decode cX2_excuse 31 = .ok (.ireturn, 1) := by decide +kernel
theorem dX2_excuse_32 : decode cX2_excuse 32 = .ok (.aload_n 0, 1) := by decide +kernel
theorem dX2_excuse_33 : decode cX2_excuse 33 = .ok (.getfield 30, 3) := by decide +kernel
theorem dX2_excuse_36 : decode cX2_excuse 36 = .ok (.iload_n 1, 1) := by decide +kernel
theorem dX2_excuse_37 : decode cX2_excuse 37 = .ok (.iaload, 1) := by decide +kernel
theorem dX2_excuse_38 : decode cX2_excuse 38 = .ok (.istore_n 3, 1) := by decide +kernel
theorem dX2_excuse_39 : decode cX2_excuse 39 = .ok (.aload_n 0, 1) := by decide +kernel
theorem dX2_excuse_40 : decode cX2_excuse 40 = .ok (.getfield 30, 3) := by decide +kernel
theorem dX2_excuse_43 : decode cX2_excuse 43 = .ok (.iload_n 1, 1) := by decide +kernel
theorem dX2_excuse_44 : decode cX2_excuse 44 = .ok (.iload_n 2, 1) := by decide +kernel
theorem dX2_excuse_45 : decode cX2_excuse 45 = .ok (.iastore, 1) := by decide +kernel
theorem dX2_excuse_46 : decode cX2_excuse 46 = .ok (.iload_n 3, 1) := by decide +kernel
theorem dX2_excuse_47 : decode cX2_excuse 47 = .ok (.ireturn, 1) := by decide +kernel
theorem dX2_isRange_0 : decode cX2_isRange 0 = .ok (.iload_n 0, 1) := by decide +kernel
theorem dX2_isRange_1 : decode cX2_isRange 1 = .ok (.ifCond .lt 19, 3) := by decide +kernel
theorem dX2_isRange_4 : decode cX2_isRange 4 = .ok (.iload_n 1, 1) := by decide +kernel
theorem dX2_isRange_5 : decode cX2_isRange 5 = .ok (.iload_n 0, 1) := by decide +kernel
theorem dX2_isRange_6 : decode cX2_isRange 6 = .ok (.if_icmp .lt 14, 3) := by decide +kernel
theorem dX2_isRange_9 : decode cX2_isRange 9 = .ok (.iload_n 1, 1) := by decide +kernel
theorem dX2_isRange_10 : decode cX2_isRange 10 = .ok (.sipush 360, 3) := by decide +kernel
theorem dX2_isRange_13 : decode cX2_isRange 13 = .ok (.if_icmp .ge 7, 3) := by decide +kernel
theorem dX2_isRange_16 : decode cX2_isRange 16 = .ok (.iconst 1, 1) := by decide +kernel
theorem dX2_isRange_17 : decode cX2_isRange 17 = .ok (.goto 4, 3) := by decide +kernel
theorem dX2_isRange_20 : decode cX2_isRange 20 = .ok (.iconst 0, 1) := by decide +kernel
theorem dX2_isRange_21 : decode cX2_isRange 21 = .ok (.ireturn, 1) := by decide +kernel
theorem dX2_isTooMuch_0 : decode cX2_isTooMuch 0 = .ok (.iconst 0, 1) := by decide +kernel
theorem dX2_isTooMuch_1 : decode cX2_isTooMuch 1 = .ok (.istore 4, 2) := by decide +kernel
theorem dX2_isTooMuch_3 : decode cX2_isTooMuch 3 = .ok (.iload_n 1, 1) := by decide +kernel
theorem dX2_isTooMuch_4 : decode cX2_isTooMuch 4 = .ok (.istore 5, 2) := by decide +kernel
theorem dX2_isTooMuch_6 : decode cX2_isTooMuch 6 = .ok (.iload 5, 2) := by decide +kernel
theorem dX2_isTooMuch_8 : decode cX2_isTooMuch 8 = .ok (.iload_n 2, 1) := by decide +kernel
theorem dX2_isTooMuch_9 : decode cX2_isTooMuch 9 = .ok (.if_icmp .gt 36, 3) := by decide +kernel
theorem dX2_isTooMuch_12 : decode cX2_isTooMuch 12 = .ok (.iload 4, 2) := by decide +kernel
theorem dX2_isTooMuch_14 : decode cX2_isTooMuch 14 = .ok (.ifCond .ne 18, 3) := by decide +kernel
theorem dX2_isTooMuch_17 : decode cX2_isTooMuch 17 = .ok (.aload_n 0, 1) := by decide +kernel
theorem dX2_isTooMuch_18 : decode cX2_isTooMuch 18 = .ok (.getfield 33, 3) := by decide +kernel
theorem dX2_isTooMuch_21 : decode cX2_isTooMuch 21 = .ok (.iload 5, 2) := by decide +kernel
theorem dX2_isTooMuch_23 : decode cX2_isTooMuch 23 = .ok (.iaload, 1) := by decide +kernel
theorem dX2_isTooMuch_24 : decode cX2_isTooMuch 24 = .ok (.iload_n 3, 1) := by decide +kernel
theorem dX2_isTooMuch_25 : decode cX2_isTooMuch 25 = .ok (.iadd, 1) := by decide +kernel
theorem dX2_isTooMuch_26 : decode cX2_isTooMuch 26 = .ok (.sipush 500, 3) := by decide +kernel
theorem dX2_isTooMuch_29 : decode cX2_isTooMuch 29 = .ok (.if_icmp .le 7, 3) := by decide +kernel
theorem dX2_isTooMuch_32 : decode cX2_isTooMuch 32 = .ok (.iconst 1, 1) := by decide +kernel
theorem dX2_isTooMuch_33 : decode cX2_isTooMuch 33 = .ok (.goto 4, 3) := by decide +kernel
theorem dX2_isTooMuch_36 : decode cX2_isTooMuch 36 = .ok (.iconst 0, 1) := by decide +kernel
theorem dX2_isTooMuch_37 : decode cX2_isTooMuch 37 = .ok (.istore 4, 2) := by decide +kernel
theorem dX2_isTooMuch_39 : decode cX2_isTooMuch 39 = .ok (.iinc 5 1, 3) := by decide +kernel
theorem dX2_isTooMuch_42 : decode cX2_isTooMuch 42 = .ok (.goto (-36), 3) := by decide +kernel
theorem dX2_isTooMuch_45 : decode cX2_isTooMuch 45 = .ok (.iload 4, 2) := by decide +kernel
theorem dX2_isTooMuch_47 : decode cX2_isTooMuch 47 = .ok (.ireturn, 1) := by decide +kernel
set_option maxRecDepth 20000 in
theorem ggX2_canTake_X2_isRange : GoodIn wsX2_canTake wsX2_isRange := goodIn_r _ [5] (by decide +kernel) (by decide +kernel)
set_option maxRecDepth 20000 in
theorem gX2_canTake_X2_isRange : GoodIn wsX2_canTake (va_wsS RX2 108 yX2_isRange wsX2_isRange) := goodIn_app (goodIn_of _ (by decide +kernel)) ggX2_canTake_X2_isRange
set_option maxRecDepth 20000 in
theorem ggX2_canTake_X2_isIn : GoodIn wsX2_canTake wsX2_isIn := goodIn_r _ [8] (by decide +kernel) (by decide +kernel)
set_option maxRecDepth 20000 in
theorem gX2_canTake_X2_isIn : GoodIn wsX2_canTake (va_wsS RX2 67 yX2_isIn wsX2_isIn) := goodIn_app (goodIn_of _ (by decide +kernel)) ggX2_canTake_X2_isIn
set_option maxRecDepth 20000 in
theorem ggX2_canTake_X2_isTooMuch : GoodIn wsX2_canTake wsX2_isTooMuch := goodIn_r _ [12, 13, 19, 20, 21, 22, 23, 24, 25, 26, 27, 28, 29, 30, 31, 32, 33, 34, 35, 36, 37, 38] (by decide +kernel) (by decide +kernel)
set_option maxRecDepth 20000 in
theorem gX2_canTake_X2_isTooMuch : GoodIn wsX2_canTake (wsV RX2 112 RX2 yX2_isTooMuch wsX2_isTooMuch) := goodIn_app (goodIn_of _ (by decide +kernel)) ggX2_canTake_X2_isTooMuch
set_option maxRecDepth 20000 in
theorem ggX2_canTake_X2_holds : GoodIn wsX2_canTake wsX2_holds := goodIn_r _ [17, 18, 19, 20, 21, 22, 23, 24, 25, 26, 27, 28, 29, 30, 31, 32, 33, 34, 35, 36, 37, 38] (by decide +kernel) (by decide +kernel)
set_option maxRecDepth 20000 in
theorem gX2_canTake_X2_holds : GoodIn wsX2_canTake (wsV RX2 101 RX2 yX2_holds wsX2_holds) := goodIn_app (goodIn_of _ (by decide +kernel)) ggX2_canTake_X2_holds
theorem dX2_canTake_0 : decode cX2_canTake 0 = .ok (.iload_n 1, 1) := by decide +kernel
theorem dX2_canTake_1 : decode cX2_canTake 1 = .ok (.iload_n 2, 1) := by decide +kernel
theorem dX2_canTake_2 : decode cX2_canTake 2 = .ok (.invokestatic 108, 3) := by decide +kernel
theorem dX2_canTake_5 : decode cX2_canTake 5 = .ok (.ifCond .eq 18, 3) := by decide +kernel
theorem dX2_canTake_8 : decode cX2_canTake 8 = .ok (.iload_n 3, 1) := by decide +kernel
theorem dX2_canTake_9 : decode cX2_canTake 9 = .ok (.iconst 1, 1) := by decide +kernel
theorem dX2_canTake_10 : decode cX2_canTake 10 = .ok (.sipush 500, 3) := by decide +kernel
theorem dX2_canTake_13 : decode cX2_canTake 13 = .ok (.invokestatic 67, 3) := by decide +kernel
theorem dX2_canTake_16 : decode cX2_canTake 16 = .ok (.ifCond .eq 7, 3) := by decide +kernel
theorem dX2_canTake_19 : decode cX2_canTake 19 = .ok (.iconst 1, 1) := by decide +kernel
theorem dX2_canTake_20 : decode cX2_canTake 20 = .ok (.goto 4, 3) := by decide +kernel
theorem dX2_canTake_23 : decode cX2_canTake 23 = .ok (.iconst 0, 1) := by decide +kernel
theorem dX2_canTake_24 : decode cX2_canTake 24 = .ok (.istore 4, 2) := by decide +kernel
theorem dX2_canTake_26 : decode cX2_canTake 26 = .ok (.aload_n 0, 1) := by decide +kernel
theorem dX2_canTake_27 : decode cX2_canTake 27 = .ok (.iload 4, 2) := by decide +kernel
theorem dX2_canTake_29 : decode cX2_canTake 29 = .ok (.ifCond .ne 7, 3) := by decide +kernel
theorem dX2_canTake_32 : decode cX2_canTake 32 = .ok (.iconst 1, 1) := by decide +kernel
theorem dX2_canTake_33 : decode cX2_canTake 33 = .ok (.goto 27, 3) := by decide +kernel
theorem dX2_canTake_36 : decode cX2_canTake 36 = .ok (.aload_n 0, 1) := by decide +kernel
theorem dX2_canTake_37 : decode cX2_canTake 37 = .ok (.getfield 80, 3) := by decide +kernel
theorem dX2_canTake_40 : decode cX2_canTake 40 = .ok (.bipush 20, 2) := by decide +kernel
theorem dX2_canTake_42 : decode cX2_canTake 42 = .ok (.if_icmp .eq 13, 3) := by decide +kernel
theorem dX2_canTake_45 : decode cX2_canTake 45 = .ok (.aload_n 0, 1) := by decide +kernel
theorem dX2_canTake_46 : decode cX2_canTake 46 = .ok (.iload_n 1, 1) := by decide +kernel
theorem dX2_canTake_47 : decode cX2_canTake 47 = .ok (.iload_n 2, 1) := by decide +kernel
theorem dX2_canTake_48 : decode cX2_canTake 48 = .ok (.iload_n 3, 1) := by decide +kernel
theorem dX2_canTake_49 : decode cX2_canTake 49 = .ok (.invokevirtual 112, 3) := by decide +kernel
theorem dX2_canTake_52 : decode cX2_canTake 52 = .ok (.ifCond .eq 7, 3) := by decide +kernel
theorem dX2_canTake_55 : decode cX2_canTake 55 = .ok (.iconst 2, 1) := by decide +kernel
theorem dX2_canTake_56 : decode cX2_canTake 56 = .ok (.goto 4, 3) := by decide +kernel
theorem dX2_canTake_59 : decode cX2_canTake 59 = .ok (.iconst 0, 1) := by decide +kernel
theorem dX2_canTake_60 : decode cX2_canTake 60 = .ok (.invokevirtual 101, 3) := by decide +kernel
theorem dX2_canTake_63 : decode cX2_canTake 63 = .ok (.ireturn, 1) := by decide +kernel
theorem dX2_takes_0 : decode cX2_takes 0 = .ok (.iload_n 1, 1) := by decide +kernel
theorem dX2_takes_1 : decode cX2_takes 1 = .ok (.istore 4, 2) := by decide +kernel
theorem dX2_takes_3 : decode cX2_takes 3 = .ok (.iload 4, 2) := by decide +kernel
theorem dX2_takes_5 : decode cX2_takes 5 = .ok (.iload_n 2, 1) := by decide +kernel
theorem dX2_takes_6 : decode cX2_takes 6 = .ok (.if_icmp .gt 33, 3) := by decide +kernel
theorem dX2_takes_9 : decode cX2_takes 9 = .ok (.aload_n 0, 1) := by decide +kernel
theorem dX2_takes_10 : decode cX2_takes 10 = .ok (.getfield 33, 3) := by decide +kernel
theorem dX2_takes_13 : decode cX2_takes 13 = .ok (.iload 4, 2) := by decide +kernel
theorem dX2_takes_15 : decode cX2_takes 15 = .ok (.dup2, 1) := by decide +kernel
theorem dX2_takes_16 : decode cX2_takes 16 = .ok (.iaload, 1) := by decide +kernel
theorem dX2_takes_17 : decode cX2_takes 17 = .ok (.iload_n 3, 1) := by decide +kernel
theorem dX2_takes_18 : decode cX2_takes 18 = .ok (.iadd, 1) := by decide +kernel
theorem dX2_takes_19 : decode cX2_takes 19 = .ok (.iastore, 1) := by decide +kernel
theorem dX2_takes_20 : decode cX2_takes 20 = .ok (.aload_n 0, 1) := by decide +kernel
theorem dX2_takes_21 : decode cX2_takes 21 = .ok (.getfield 36, 3) := by decide +kernel
theorem dX2_takes_24 : decode cX2_takes 24 = .ok (.aload_n 0, 1) := by decide +kernel
theorem dX2_takes_25 : decode cX2_takes 25 = .ok (.getfield 80, 3) := by decide +kernel
theorem dX2_takes_28 : decode cX2_takes 28 = .ok (.dup2, 1) := by decide +kernel
theorem dX2_takes_29 : decode cX2_takes 29 = .ok (.iaload, 1) := by decide +kernel
theorem dX2_takes_30 : decode cX2_takes 30 = .ok (.iload_n 3, 1) := by decide +kernel
theorem dX2_takes_31 : decode cX2_takes 31 = .ok (.iadd, 1) := by decide +kernel
theorem dX2_takes_32 : decode cX2_takes 32 = .ok (.iastore, 1) := by decide +kernel
theorem dX2_takes_33 : decode cX2_takes 33 = .ok (.iinc 4 1, 3) := by decide +kernel
theorem dX2_takes_36 : decode cX2_takes 36 = .ok (.goto (-33), 3) := by decide +kernel
theorem dX2_takes_39 : decode cX2_takes 39 = .ok (.return_, 1) := by decide +kernel
set_option maxRecDepth 20000 in
theorem ggX2_take_X2_canTake : GoodIn wsX2_take wsX2_canTake := goodIn_r _ [6, 7, 8, 9, 5, 10, 11, 12, 13, 14, 15, 16, 17, 1, 18, 19, 20, 21, 22, 28, 29, 30, 31, 32, 33, 34, 35, 36, 37, 38, 39, 40, 41, 42, 43, 44, 45, 46, 47] (by decide +kernel) (by decide +kernel)
set_option maxRecDepth 20000 in
theorem gX2_take_X2_canTake : GoodIn wsX2_take (wsV RX2 115 RX2 yX2_canTake wsX2_canTake) := goodIn_app (goodIn_of _ (by decide +kernel)) ggX2_take_X2_canTake
set_option maxRecDepth 20000 in
theorem ggX2_take_X2_takes : GoodIn wsX2_take wsX2_takes := goodIn_r _ [26, 1, 27, 7, 28, 29, 30, 31, 32, 33, 34, 35, 36, 37, 38, 39, 40, 41, 42, 43, 44, 45, 46, 47] (by decide +kernel) (by decide +kernel)
set_option maxRecDepth 20000 in
theorem gX2_take_X2_takes : GoodIn wsX2_take (wsV RX2 118 RX2 yX2_takes wsX2_takes) := goodIn_app (goodIn_of _ (by decide +kernel)) ggX2_take_X2_takes
theorem dX2_take_0 : decode cX2_take 0 = .ok (.aload_n 0, 1) := by decide +kernel
theorem dX2_take_1 : decode cX2_take 1 = .ok (.iload_n 1, 1) := by decide +kernel
theorem dX2_take_2 : decode cX2_take 2 = .ok (.iload_n 1, 1) := by decide +kernel
theorem dX2_take_3 : decode cX2_take 3 = .ok (.iload_n 2, 1) := by decide +kernel
theorem dX2_take_4 : decode cX2_take 4 = .ok (.invokevirtual 115, 3) := by decide +kernel
theorem dX2_take_7 : decode cX2_take 7 = .ok (.ifCond .ne 5, 3) := by decide +kernel
theorem dX2_take_10 : decode cX2_take 10 = .ok (.iconst 0, 1) := by decide +kernel
theorem dX2_take_11 : decode cX2_take 11 = .ok (.ireturn, 1) := by decide +kernel
theorem dX2_take_12 : decode cX2_take 12 = .ok (.aload_n 0, 1) := by decide +kernel
theorem dX2_take_13 : decode cX2_take 13 = .ok (.iload_n 1, 1) := by decide +kernel
theorem dX2_take_14 : decode cX2_take 14 = .ok (.iload_n 1, 1) := by decide +kernel
theorem dX2_take_15 : decode cX2_take 15 = .ok (.iload_n 2, 1) := by decide +kernel
theorem dX2_take_16 : decode cX2_take 16 = .ok (.invokevirtual 118, 3) := by decide +kernel
theorem dX2_take_19 : decode cX2_take 19 = .ok (.aload_n 0, 1) := by decide +kernel
theorem dX2_take_20 : decode cX2_take 20 = .ok (.getfield 33, 3) := by decide +kernel
theorem dX2_take_23 : decode cX2_take 23 = .ok (.iload_n 1, 1) := by decide +kernel
theorem dX2_take_24 : decode cX2_take 24 = .ok (.iaload, 1) := by decide +kernel
theorem dX2_take_25 : decode cX2_take 25 = .ok (.ireturn, 1) := by decide +kernel
set_option maxRecDepth 20000 in
theorem ggX2_takeDaily_X2_canTake : GoodIn wsX2_takeDaily wsX2_canTake := goodIn_r _ [7, 2, 8, 9, 6, 10, 11, 12, 13, 14, 15, 16, 17, 18, 19, 20, 21, 22, 23, 28, 29, 30, 31, 32, 33, 34, 35, 36, 37, 38, 39, 40, 41, 42, 43, 44, 45, 46, 47] (by decide +kernel) (by decide +kernel)
set_option maxRecDepth 20000 in
theorem gX2_takeDaily_X2_canTake : GoodIn wsX2_takeDaily (wsV RX2 115 RX2 yX2_canTake wsX2_canTake) := goodIn_app (goodIn_of _ (by decide +kernel)) ggX2_takeDaily_X2_canTake
set_option maxRecDepth 20000 in
theorem ggX2_takeDaily_X2_takes : GoodIn wsX2_takeDaily wsX2_takes := goodIn_r _ [27, 18, 1, 2, 28, 29, 30, 31, 32, 33, 34, 35, 36, 37, 38, 39, 40, 41, 42, 43, 44, 45, 46, 47] (by decide +kernel) (by decide +kernel)
set_option maxRecDepth 20000 in
theorem gX2_takeDaily_X2_takes : GoodIn wsX2_takeDaily (wsV RX2 118 RX2 yX2_takes wsX2_takes) := goodIn_app (goodIn_of _ (by decide +kernel)) ggX2_takeDaily_X2_takes
theorem dX2_takeDaily_0 : decode cX2_takeDaily 0 = .ok (.aload_n 0, 1) := by decide +kernel
theorem dX2_takeDaily_1 : decode cX2_takeDaily 1 = .ok (.iload_n 1, 1) := by decide +kernel
theorem dX2_takeDaily_2 : decode cX2_takeDaily 2 = .ok (.iload_n 2, 1) := by decide +kernel
theorem dX2_takeDaily_3 : decode cX2_takeDaily 3 = .ok (.iload_n 3, 1) := by decide +kernel
theorem dX2_takeDaily_4 : decode cX2_takeDaily 4 = .ok (.invokevirtual 115, 3) := by decide +kernel
theorem dX2_takeDaily_7 : decode cX2_takeDaily 7 = .ok (.ifCond .ne 5, 3) := by decide +kernel
theorem dX2_takeDaily_10 : decode cX2_takeDaily 10 = .ok (.iconst 0, 1) := by decide +kernel
theorem dX2_takeDaily_11 : decode cX2_takeDaily 11 = .ok (.ireturn, 1) := by decide +kernel
theorem dX2_takeDaily_12 : decode cX2_takeDaily 12 = .ok (.aload_n 0, 1) := by decide +kernel
theorem dX2_takeDaily_13 : decode cX2_takeDaily 13 = .ok (.iload_n 1, 1) := by decide +kernel
theorem dX2_takeDaily_14 : decode cX2_takeDaily 14 = .ok (.iload_n 2, 1) := by decide +kernel
theorem dX2_takeDaily_15 : decode cX2_takeDaily 15 = .ok (.iload_n 3, 1) := by decide +kernel
theorem dX2_takeDaily_16 : decode cX2_takeDaily 16 = .ok (.invokevirtual 118, 3) := by decide +kernel
theorem dX2_takeDaily_19 : decode cX2_takeDaily 19 = .ok (.aload_n 0, 1) := by decide +kernel
theorem dX2_takeDaily_20 : decode cX2_takeDaily 20 = .ok (.getfield 36, 3) := by decide +kernel
theorem dX2_takeDaily_23 : decode cX2_takeDaily 23 = .ok (.aload_n 0, 1) := by decide +kernel
theorem dX2_takeDaily_24 : decode cX2_takeDaily 24 = .ok (.getfield 80, 3) := by decide +kernel
theorem dX2_takeDaily_27 : decode cX2_takeDaily 27 = .ok (.iaload, 1) := by decide +kernel
theorem dX2_takeDaily_28 : decode cX2_takeDaily 28 = .ok (.ireturn, 1) := by decide +kernel
set_option maxRecDepth 20000 in
theorem ggX2_close_X2_holds : GoodIn wsX2_close wsX2_holds := goodIn_r _ [8, 9, 55, 56, 57, 58, 59, 60, 61, 62, 63, 64, 65, 66, 67, 68, 69, 70, 71, 72, 73, 74] (by decide +kernel) (by decide +kernel)
set_option maxRecDepth 20000 in
theorem gX2_close_X2_holds : GoodIn wsX2_close (wsV RX2 101 RX2 yX2_holds wsX2_holds) := goodIn_app (goodIn_of _ (by decide +kernel)) ggX2_close_X2_holds
set_option maxRecDepth 20000 in
theorem ggX2_close_X2_openNow : GoodIn wsX2_close wsX2_openNow := goodIn_r _ [13, 1, 14, 2, 15, 16, 17, 7, 18, 19, 20, 21, 22, 23, 24, 25, 26, 27, 28, 29, 30, 31, 32, 33, 34, 35, 36, 37, 38, 39, 40, 41, 42, 43, 44, 45, 46, 47, 48, 49, 50, 51, 52, 53, 54, 55, 56, 57, 58, 59, 60, 61, 62, 63, 64, 65, 66, 67, 68, 69, 70, 71, 72, 73, 74] (by decide +kernel) (by decide +kernel)
set_option maxRecDepth 20000 in
theorem gX2_close_X2_openNow : GoodIn wsX2_close (wsV RX2 122 RX2 yX2_openNow wsX2_openNow) := goodIn_app (goodIn_of _ (by decide +kernel)) ggX2_close_X2_openNow
theorem dX2_close_0 : decode cX2_close 0 = .ok (.aload_n 0, 1) := by decide +kernel
theorem dX2_close_1 : decode cX2_close 1 = .ok (.aload_n 0, 1) := by decide +kernel
theorem dX2_close_2 : decode cX2_close 2 = .ok (.getfield 80, 3) := by decide +kernel
theorem dX2_close_5 : decode cX2_close 5 = .ok (.bipush 20, 2) := by decide +kernel
theorem dX2_close_7 : decode cX2_close 7 = .ok (.if_icmp .ne 7, 3) := by decide +kernel
theorem dX2_close_10 : decode cX2_close 10 = .ok (.iconst 1, 1) := by decide +kernel
theorem dX2_close_11 : decode cX2_close 11 = .ok (.goto 4, 3) := by decide +kernel
theorem dX2_close_14 : decode cX2_close 14 = .ok (.iconst 0, 1) := by decide +kernel
theorem dX2_close_15 : decode cX2_close 15 = .ok (.invokevirtual 101, 3) := by decide +kernel
theorem dX2_close_18 : decode cX2_close 18 = .ok (.ifCond .ne 5, 3) := by decide +kernel
theorem dX2_close_21 : decode cX2_close 21 = .ok (.lconst 0, 1) := by decide +kernel
theorem dX2_close_22 : decode cX2_close 22 = .ok (.lreturn, 1) := by decide +kernel
theorem dX2_close_23 : decode cX2_close 23 = .ok (.aload_n 0, 1) := by decide +kernel
theorem dX2_close_24 : decode cX2_close 24 = .ok (.getfield 39, 3) := by decide +kernel
theorem dX2_close_27 : decode cX2_close 27 = .ok (.aload_n 0, 1) := by decide +kernel
theorem dX2_close_28 : decode cX2_close 28 = .ok (.getfield 80, 3) := by decide +kernel
theorem dX2_close_31 : decode cX2_close 31 = .ok (.lconst 0, 1) := by decide +kernel
theorem dX2_close_32 : decode cX2_close 32 = .ok (.lastore, 1) := by decide +kernel
theorem dX2_close_33 : decode cX2_close 33 = .ok (.aload_n 0, 1) := by decide +kernel
theorem dX2_close_34 : decode cX2_close 34 = .ok (.dup, 1) := by decide +kernel
theorem dX2_close_35 : decode cX2_close 35 = .ok (.getfield 80, 3) := by decide +kernel
theorem dX2_close_38 : decode cX2_close 38 = .ok (.iconst 1, 1) := by decide +kernel
theorem dX2_close_39 : decode cX2_close 39 = .ok (.iadd, 1) := by decide +kernel
theorem dX2_close_40 : decode cX2_close 40 = .ok (.putfield 80, 3) := by decide +kernel
theorem dX2_close_43 : decode cX2_close 43 = .ok (.aload_n 0, 1) := by decide +kernel
theorem dX2_close_44 : decode cX2_close 44 = .ok (.getfield 39, 3) := by decide +kernel
theorem dX2_close_47 : decode cX2_close 47 = .ok (.aload_n 0, 1) := by decide +kernel
theorem dX2_close_48 : decode cX2_close 48 = .ok (.getfield 80, 3) := by decide +kernel
theorem dX2_close_51 : decode cX2_close 51 = .ok (.iconst 1, 1) := by decide +kernel
theorem dX2_close_52 : decode cX2_close 52 = .ok (.isub, 1) := by decide +kernel
theorem dX2_close_53 : decode cX2_close 53 = .ok (.aload_n 0, 1) := by decide +kernel
theorem dX2_close_54 : decode cX2_close 54 = .ok (.invokevirtual 122, 3) := by decide +kernel
theorem dX2_close_57 : decode cX2_close 57 = .ok (.lastore, 1) := by decide +kernel
theorem dX2_close_58 : decode cX2_close 58 = .ok (.iconst 0, 1) := by decide +kernel
theorem dX2_close_59 : decode cX2_close 59 = .ok (.istore_n 1, 1) := by decide +kernel
theorem dX2_close_60 : decode cX2_close 60 = .ok (.iload_n 1, 1) := by decide +kernel
theorem dX2_close_61 : decode cX2_close 61 = .ok (.sipush 360, 3) := by decide +kernel
theorem dX2_close_64 : decode cX2_close 64 = .ok (.if_icmp .ge 16, 3) := by decide +kernel
theorem dX2_close_67 : decode cX2_close 67 = .ok (.aload_n 0, 1) := by decide +kernel
theorem dX2_close_68 : decode cX2_close 68 = .ok (.getfield 33, 3) := by decide +kernel
theorem dX2_close_71 : decode cX2_close 71 = .ok (.iload_n 1, 1) := by decide +kernel
theorem dX2_close_72 : decode cX2_close 72 = .ok (.iconst 0, 1) := by decide +kernel
theorem dX2_close_73 : decode cX2_close 73 = .ok (.iastore, 1) := by decide +kernel
theorem dX2_close_74 : decode cX2_close 74 = .ok (.iinc 1 1, 3) := by decide +kernel
theorem dX2_close_77 : decode cX2_close 77 = .ok (.goto (-17), 3) := by decide +kernel
theorem dX2_close_80 : decode cX2_close 80 = .ok (.aload_n 0, 1) := by decide +kernel
theorem dX2_close_81 : decode cX2_close 81 = .ok (.getfield 39, 3) := by decide +kernel
theorem dX2_close_84 : decode cX2_close 84 = .ok (.aload_n 0, 1) := by decide +kernel
theorem dX2_close_85 : decode cX2_close 85 = .ok (.getfield 80, 3) := by decide +kernel
theorem dX2_close_88 : decode cX2_close 88 = .ok (.iconst 1, 1) := by decide +kernel
theorem dX2_close_89 : decode cX2_close 89 = .ok (.isub, 1) := by decide +kernel
theorem dX2_close_90 : decode cX2_close 90 = .ok (.laload, 1) := by decide +kernel
theorem dX2_close_91 : decode cX2_close 91 = .ok (.lreturn, 1) := by decide +kernel
theorem dX2_closed_0 : decode cX2_closed 0 = .ok (.aload_n 0, 1) := by decide +kernel
theorem dX2_closed_1 : decode cX2_closed 1 = .ok (.iconst 0, 1) := by decide +kernel
theorem dX2_closed_2 : decode cX2_closed 2 = .ok (.putfield 64, 3) := by decide +kernel
theorem dX2_closed_5 : decode cX2_closed 5 = .ok (.aload_n 0, 1) := by decide +kernel
theorem dX2_closed_6 : decode cX2_closed 6 = .ok (.getfield 80, 3) := by decide +kernel
theorem dX2_closed_9 : decode cX2_closed 9 = .ok (.ireturn, 1) := by decide +kernel
set_option maxRecDepth 20000 in
theorem ggX2_taken_X2_isYear : GoodIn wsX2_taken wsX2_isYear := goodIn_r _ [5, 6, 7, 4, 8] (by decide +kernel) (by decide +kernel)
set_option maxRecDepth 20000 in
theorem gX2_taken_X2_isYear : GoodIn wsX2_taken (va_wsS RX2 105 yX2_isYear wsX2_isYear) := goodIn_app (goodIn_of _ (by decide +kernel)) ggX2_taken_X2_isYear
set_option maxRecDepth 20000 in
theorem ggX2_taken_X2_holds : GoodIn wsX2_taken wsX2_holds := goodIn_r _ [12, 13, 14, 15, 16, 17, 18, 19, 20, 21, 22, 23, 24, 25, 26, 27, 28, 29, 30, 31, 32, 33] (by decide +kernel) (by decide +kernel)
set_option maxRecDepth 20000 in
theorem gX2_taken_X2_holds : GoodIn wsX2_taken (wsV RX2 101 RX2 yX2_holds wsX2_holds) := goodIn_app (goodIn_of _ (by decide +kernel)) ggX2_taken_X2_holds
theorem dX2_taken_0 : decode cX2_taken 0 = .ok (.aload_n 0, 1) := by decide +kernel
theorem dX2_taken_1 : decode cX2_taken 1 = .ok (.iload_n 1, 1) := by decide +kernel
theorem dX2_taken_2 : decode cX2_taken 2 = .ok (.invokestatic 105, 3) := by decide +kernel
theorem dX2_taken_5 : decode cX2_taken 5 = .ok (.ifCond .eq 7, 3) := by decide +kernel
theorem dX2_taken_8 : decode cX2_taken 8 = .ok (.iconst 0, 1) := by decide +kernel
theorem dX2_taken_9 : decode cX2_taken 9 = .ok (.goto 4, 3) := by decide +kernel
theorem dX2_taken_12 : decode cX2_taken 12 = .ok (.iconst 1, 1) := by decide +kernel
theorem dX2_taken_13 : decode cX2_taken 13 = .ok (.invokevirtual 101, 3) := by decide +kernel
theorem dX2_taken_16 : decode cX2_taken 16 = .ok (.ifCond .eq 12, 3) := by decide +kernel
theorem dX2_taken_19 : decode cX2_taken 19 = .ok (.aload_n 0, 1) := by decide +kernel
theorem dX2_taken_20 : decode cX2_taken 20 = .ok (.getfield 36, 3) := by decide +kernel
theorem dX2_taken_23 : decode cX2_taken 23 = .ok (.iload_n 1, 1) := by decide +kernel
theorem dX2_taken_24 : decode cX2_taken 24 = .ok (.iaload, 1) := by decide +kernel
theorem dX2_taken_25 : decode cX2_taken 25 = .ok (.goto 4, 3) := by decide +kernel
theorem dX2_taken_28 : decode cX2_taken 28 = .ok (.iconst 0, 1) := by decide +kernel
theorem dX2_taken_29 : decode cX2_taken 29 = .ok (.ireturn, 1) := by decide +kernel
set_option maxRecDepth 20000 in
theorem ggX2_takenFrom_X2_isRange : GoodIn wsX2_takenFrom wsX2_isRange := goodIn_r _ [5] (by decide +kernel) (by decide +kernel)
set_option maxRecDepth 20000 in
theorem gX2_takenFrom_X2_isRange : GoodIn wsX2_takenFrom (va_wsS RX2 108 yX2_isRange wsX2_isRange) := goodIn_app (goodIn_of _ (by decide +kernel)) ggX2_takenFrom_X2_isRange
set_option maxRecDepth 20000 in
theorem ggX2_takenFrom_X2_holds : GoodIn wsX2_takenFrom wsX2_holds := goodIn_r _ [9, 10, 11, 12, 13, 14, 15, 16, 17, 18, 19, 20, 21, 22, 23, 24, 25, 26, 27, 28, 29, 30] (by decide +kernel) (by decide +kernel)
set_option maxRecDepth 20000 in
theorem gX2_takenFrom_X2_holds : GoodIn wsX2_takenFrom (wsV RX2 101 RX2 yX2_holds wsX2_holds) := goodIn_app (goodIn_of _ (by decide +kernel)) ggX2_takenFrom_X2_holds
theorem dX2_takenFrom_0 : decode cX2_takenFrom 0 = .ok (.aload_n 0, 1) := by decide +kernel
theorem dX2_takenFrom_1 : decode cX2_takenFrom 1 = .ok (.iload_n 1, 1) := by decide +kernel
theorem dX2_takenFrom_2 : decode cX2_takenFrom 2 = .ok (.iload_n 2, 1) := by decide +kernel
theorem dX2_takenFrom_3 : decode cX2_takenFrom 3 = .ok (.invokestatic 108, 3) := by decide +kernel
theorem dX2_takenFrom_6 : decode cX2_takenFrom 6 = .ok (.ifCond .eq 7, 3) := by decide +kernel
theorem dX2_takenFrom_9 : decode cX2_takenFrom 9 = .ok (.iconst 0, 1) := by decide +kernel
theorem dX2_takenFrom_10 : decode cX2_takenFrom 10 = .ok (.goto 4, 3) := by decide +kernel
theorem dX2_takenFrom_13 : decode cX2_takenFrom 13 = .ok (.iconst 1, 1) := by decide +kernel
theorem dX2_takenFrom_14 : decode cX2_takenFrom 14 = .ok (.invokevirtual 101, 3) := by decide +kernel
theorem dX2_takenFrom_17 : decode cX2_takenFrom 17 = .ok (.ifCond .ne 5, 3) := by decide +kernel
theorem dX2_takenFrom_20 : decode cX2_takenFrom 20 = .ok (.iconst 0, 1) := by decide +kernel
theorem dX2_takenFrom_21 : decode cX2_takenFrom 21 = .ok (.ireturn, 1) := by decide +kernel
theorem dX2_takenFrom_22 : decode cX2_takenFrom 22 = .ok (.iconst 0, 1) := by decide +kernel
theorem dX2_takenFrom_23 : decode cX2_takenFrom 23 = .ok (.istore_n 3, 1) := by decide +kernel
theorem dX2_takenFrom_24 : decode cX2_takenFrom 24 = .ok (.iload_n 1, 1) := by decide +kernel
theorem dX2_takenFrom_25 : decode cX2_takenFrom 25 = .ok (.istore 4, 2) := by decide +kernel
theorem dX2_takenFrom_27 : decode cX2_takenFrom 27 = .ok (.iload 4, 2) := by decide +kernel
theorem dX2_takenFrom_29 : decode cX2_takenFrom 29 = .ok (.iload_n 2, 1) := by decide +kernel
theorem dX2_takenFrom_30 : decode cX2_takenFrom 30 = .ok (.if_icmp .gt 19, 3) := by decide +kernel
theorem dX2_takenFrom_33 : decode cX2_takenFrom 33 = .ok (.iload_n 3, 1) := by decide +kernel
theorem dX2_takenFrom_34 : decode cX2_takenFrom 34 = .ok (.aload_n 0, 1) := by decide +kernel
theorem dX2_takenFrom_35 : decode cX2_takenFrom 35 = .ok (.getfield 33, 3) := by decide +kernel
theorem dX2_takenFrom_38 : decode cX2_takenFrom 38 = .ok (.iload 4, 2) := by decide +kernel
theorem dX2_takenFrom_40 : decode cX2_takenFrom 40 = .ok (.iaload, 1) := by decide +kernel
theorem dX2_takenFrom_41 : decode cX2_takenFrom 41 = .ok (.iadd, 1) := by decide +kernel
theorem dX2_takenFrom_42 : decode cX2_takenFrom 42 = .ok (.istore_n 3, 1) := by decide +kernel
theorem dX2_takenFrom_43 : decode cX2_takenFrom 43 = .ok (.iinc 4 1, 3) := by decide +kernel
theorem dX2_takenFrom_46 : decode cX2_takenFrom 46 = .ok (.goto (-19), 3) := by decide +kernel
theorem dX2_takenFrom_49 : decode cX2_takenFrom 49 = .ok (.iload_n 3, 1) := by decide +kernel
theorem dX2_takenFrom_50 : decode cX2_takenFrom 50 = .ok (.ireturn, 1) := by decide +kernel
set_option maxRecDepth 20000 in
theorem ggX2_price_X2_isYear : GoodIn wsX2_price wsX2_isYear := goodIn_r _ [5, 6, 7, 4, 8] (by decide +kernel) (by decide +kernel)
set_option maxRecDepth 20000 in
theorem gX2_price_X2_isYear : GoodIn wsX2_price (va_wsS RX2 105 yX2_isYear wsX2_isYear) := goodIn_app (goodIn_of _ (by decide +kernel)) ggX2_price_X2_isYear
set_option maxRecDepth 20000 in
theorem ggX2_price_X2_holds : GoodIn wsX2_price wsX2_holds := goodIn_r _ [12, 13, 14, 15, 16, 17, 18, 19, 20, 21, 22, 23, 24, 25, 26, 27, 28, 29, 30, 31, 32, 33] (by decide +kernel) (by decide +kernel)
set_option maxRecDepth 20000 in
theorem gX2_price_X2_holds : GoodIn wsX2_price (wsV RX2 101 RX2 yX2_holds wsX2_holds) := goodIn_app (goodIn_of _ (by decide +kernel)) ggX2_price_X2_holds
theorem dX2_price_0 : decode cX2_price 0 = .ok (.aload_n 0, 1) := by decide +kernel
theorem dX2_price_1 : decode cX2_price 1 = .ok (.iload_n 1, 1) := by decide +kernel
theorem dX2_price_2 : decode cX2_price 2 = .ok (.invokestatic 105, 3) := by decide +kernel
theorem dX2_price_5 : decode cX2_price 5 = .ok (.ifCond .eq 7, 3) := by decide +kernel
theorem dX2_price_8 : decode cX2_price 8 = .ok (.iconst 0, 1) := by decide +kernel
theorem dX2_price_9 : decode cX2_price 9 = .ok (.goto 4, 3) := by decide +kernel
theorem dX2_price_12 : decode cX2_price 12 = .ok (.iconst 1, 1) := by decide +kernel
theorem dX2_price_13 : decode cX2_price 13 = .ok (.invokevirtual 101, 3) := by decide +kernel
theorem dX2_price_16 : decode cX2_price 16 = .ok (.ifCond .eq 12, 3) := by decide +kernel
theorem dX2_price_19 : decode cX2_price 19 = .ok (.aload_n 0, 1) := by decide +kernel
theorem dX2_price_20 : decode cX2_price 20 = .ok (.getfield 26, 3) := by decide +kernel
theorem dX2_price_23 : decode cX2_price 23 = .ok (.iload_n 1, 1) := by decide +kernel
theorem dX2_price_24 : decode cX2_price 24 = .ok (.iaload, 1) := by decide +kernel
theorem dX2_price_25 : decode cX2_price 25 = .ok (.goto 4, 3) := by decide +kernel
theorem dX2_price_28 : decode cX2_price 28 = .ok (.iconst 0, 1) := by decide +kernel
theorem dX2_price_29 : decode cX2_price 29 = .ok (.ireturn, 1) := by decide +kernel
set_option maxRecDepth 20000 in
theorem ggX2_least_X2_isYear : GoodIn wsX2_least wsX2_isYear := goodIn_r _ [4, 5, 6, 3, 7] (by decide +kernel) (by decide +kernel)
set_option maxRecDepth 20000 in
theorem gX2_least_X2_isYear : GoodIn wsX2_least (va_wsS RX2 105 yX2_isYear wsX2_isYear) := goodIn_app (goodIn_of _ (by decide +kernel)) ggX2_least_X2_isYear
set_option maxRecDepth 20000 in
theorem ggX2_least_X2_holds : GoodIn wsX2_least wsX2_holds := goodIn_r _ [11, 12, 21, 22, 23, 24, 25, 26, 27, 28, 29, 30, 31, 32, 33, 34, 35, 36, 37, 38, 39, 40] (by decide +kernel) (by decide +kernel)
set_option maxRecDepth 20000 in
theorem gX2_least_X2_holds : GoodIn wsX2_least (wsV RX2 101 RX2 yX2_holds wsX2_holds) := goodIn_app (goodIn_of _ (by decide +kernel)) ggX2_least_X2_holds
set_option maxRecDepth 20000 in
theorem ggX2_least_X2_leastOf : GoodIn wsX2_least wsX2_leastOf := goodIn_r _ [16, 17, 18, 19, 20, 21, 22, 23, 24, 25, 26, 27, 28, 29, 30, 31, 32, 33, 34, 35, 36, 37, 38, 39, 40] (by decide +kernel) (by decide +kernel)
set_option maxRecDepth 20000 in
theorem gX2_least_X2_leastOf : GoodIn wsX2_least (wsV RX2 87 RX2 yX2_leastOf wsX2_leastOf) := goodIn_app (goodIn_of _ (by decide +kernel)) ggX2_least_X2_leastOf
theorem dX2_least_0 : decode cX2_least 0 = .ok (.aload_n 0, 1) := by decide +kernel
theorem dX2_least_1 : decode cX2_least 1 = .ok (.iload_n 1, 1) := by decide +kernel
theorem dX2_least_2 : decode cX2_least 2 = .ok (.invokestatic 105, 3) := by decide +kernel
theorem dX2_least_5 : decode cX2_least 5 = .ok (.ifCond .eq 7, 3) := by decide +kernel
theorem dX2_least_8 : decode cX2_least 8 = .ok (.iconst 0, 1) := by decide +kernel
theorem dX2_least_9 : decode cX2_least 9 = .ok (.goto 4, 3) := by decide +kernel
theorem dX2_least_12 : decode cX2_least 12 = .ok (.iconst 1, 1) := by decide +kernel
theorem dX2_least_13 : decode cX2_least 13 = .ok (.invokevirtual 101, 3) := by decide +kernel
theorem dX2_least_16 : decode cX2_least 16 = .ok (.ifCond .eq 11, 3) := by decide +kernel
theorem dX2_least_19 : decode cX2_least 19 = .ok (.aload_n 0, 1) := by decide +kernel
theorem dX2_least_20 : decode cX2_least 20 = .ok (.iload_n 1, 1) := by decide +kernel
theorem dX2_least_21 : decode cX2_least 21 = .ok (.invokevirtual 87, 3) := by decide +kernel
theorem dX2_least_24 : decode cX2_least 24 = .ok (.goto 4, 3) := by decide +kernel
theorem dX2_least_27 : decode cX2_least 27 = .ok (.iconst 0, 1) := by decide +kernel
theorem dX2_least_28 : decode cX2_least 28 = .ok (.ireturn, 1) := by decide +kernel
set_option maxRecDepth 20000 in
theorem ggX2_isClosed_X2_isYear : GoodIn wsX2_isClosed wsX2_isYear := goodIn_r _ [5, 6, 7, 4, 8] (by decide +kernel) (by decide +kernel)
set_option maxRecDepth 20000 in
theorem gX2_isClosed_X2_isYear : GoodIn wsX2_isClosed (va_wsS RX2 105 yX2_isYear wsX2_isYear) := goodIn_app (goodIn_of _ (by decide +kernel)) ggX2_isClosed_X2_isYear
set_option maxRecDepth 20000 in
theorem ggX2_isClosed_X2_holds : GoodIn wsX2_isClosed wsX2_holds := goodIn_r _ [12, 13, 55, 56, 57, 58, 59, 60, 61, 62, 63, 64, 65, 66, 67, 68, 69, 70, 71, 72, 73, 74] (by decide +kernel) (by decide +kernel)
set_option maxRecDepth 20000 in
theorem gX2_isClosed_X2_holds : GoodIn wsX2_isClosed (wsV RX2 101 RX2 yX2_holds wsX2_holds) := goodIn_app (goodIn_of _ (by decide +kernel)) ggX2_isClosed_X2_holds
set_option maxRecDepth 20000 in
theorem ggX2_isClosed_X2_goesThrough : GoodIn wsX2_isClosed wsX2_goesThrough := goodIn_r _ [17, 18, 1, 19, 20, 21, 22, 23, 24, 25, 26, 27, 28, 4, 29, 30, 31, 32, 33, 34, 35, 36, 37, 38, 39, 40, 41, 42, 43, 44, 45, 46, 47, 48, 49, 50, 51, 52, 53, 54, 55, 56, 57, 58, 59, 60, 61, 62, 63, 64, 65, 66, 67, 68, 69, 70, 71, 72, 73, 74] (by decide +kernel) (by decide +kernel)
set_option maxRecDepth 20000 in
theorem gX2_isClosed_X2_goesThrough : GoodIn wsX2_isClosed (wsV RX2 97 RX2 yX2_goesThrough wsX2_goesThrough) := goodIn_app (goodIn_of _ (by decide +kernel)) ggX2_isClosed_X2_goesThrough
theorem dX2_isClosed_0 : decode cX2_isClosed 0 = .ok (.aload_n 0, 1) := by decide +kernel
theorem dX2_isClosed_1 : decode cX2_isClosed 1 = .ok (.iload_n 1, 1) := by decide +kernel
theorem dX2_isClosed_2 : decode cX2_isClosed 2 = .ok (.invokestatic 105, 3) := by decide +kernel
theorem dX2_isClosed_5 : decode cX2_isClosed 5 = .ok (.ifCond .ne 7, 3) := by decide +kernel
theorem dX2_isClosed_8 : decode cX2_isClosed 8 = .ok (.iconst 1, 1) := by decide +kernel
theorem dX2_isClosed_9 : decode cX2_isClosed 9 = .ok (.goto 16, 3) := by decide +kernel
theorem dX2_isClosed_12 : decode cX2_isClosed 12 = .ok (.iload_n 1, 1) := by decide +kernel
theorem dX2_isClosed_13 : decode cX2_isClosed 13 = .ok (.aload_n 0, 1) := by decide +kernel
theorem dX2_isClosed_14 : decode cX2_isClosed 14 = .ok (.getfield 80, 3) := by decide +kernel
theorem dX2_isClosed_17 : decode cX2_isClosed 17 = .ok (.if_icmp .ge 7, 3) := by decide +kernel
theorem dX2_isClosed_20 : decode cX2_isClosed 20 = .ok (.iconst 0, 1) := by decide +kernel
theorem dX2_isClosed_21 : decode cX2_isClosed 21 = .ok (.goto 4, 3) := by decide +kernel
theorem dX2_isClosed_24 : decode cX2_isClosed 24 = .ok (.iconst 2, 1) := by decide +kernel
theorem dX2_isClosed_25 : decode cX2_isClosed 25 = .ok (.invokevirtual 101, 3) := by decide +kernel
theorem dX2_isClosed_28 : decode cX2_isClosed 28 = .ok (.ifCond .ne 5, 3) := by decide +kernel
theorem dX2_isClosed_31 : decode cX2_isClosed 31 = .ok (.iconst 0, 1) := by decide +kernel
theorem dX2_isClosed_32 : decode cX2_isClosed 32 = .ok (.ireturn, 1) := by decide +kernel
theorem dX2_isClosed_33 : decode cX2_isClosed 33 = .ok (.aload_n 0, 1) := by decide +kernel
theorem dX2_isClosed_34 : decode cX2_isClosed 34 = .ok (.invokevirtual 97, 3) := by decide +kernel
theorem dX2_isClosed_37 : decode cX2_isClosed 37 = .ok (.iconst 1, 1) := by decide +kernel
theorem dX2_isClosed_38 : decode cX2_isClosed 38 = .ok (.ireturn, 1) := by decide +kernel
set_option maxRecDepth 20000 in
theorem ggX2_shortfall_X2_isClosed : GoodIn wsX2_shortfall wsX2_isClosed := goodIn_r _ [6, 7, 8, 9, 5, 10, 11, 12, 13, 14, 15, 16, 17, 18, 19, 20, 21, 22, 23, 1, 24, 25, 26, 27, 28, 29, 30, 31, 32, 33, 34, 35, 36, 37, 38, 39, 40, 41, 42, 43, 44, 45, 46, 47, 48, 49, 50, 51, 52, 53, 54, 55, 56, 57, 58, 59, 60, 61, 62, 63, 64, 65, 66, 67, 68, 69, 70, 71, 72, 73, 74, 75, 76, 77, 78] (by decide +kernel) (by decide +kernel)
set_option maxRecDepth 20000 in
theorem gX2_shortfall_X2_isClosed : GoodIn wsX2_shortfall (wsV RX2 126 RX2 yX2_isClosed wsX2_isClosed) := goodIn_app (goodIn_of _ (by decide +kernel)) ggX2_shortfall_X2_isClosed
theorem dX2_shortfall_0 : decode cX2_shortfall 0 = .ok (.aload_n 0, 1) := by decide +kernel
theorem dX2_shortfall_1 : decode cX2_shortfall 1 = .ok (.iload_n 1, 1) := by decide +kernel
theorem dX2_shortfall_2 : decode cX2_shortfall 2 = .ok (.invokevirtual 126, 3) := by decide +kernel
theorem dX2_shortfall_5 : decode cX2_shortfall 5 = .ok (.ifCond .eq 12, 3) := by decide +kernel
theorem dX2_shortfall_8 : decode cX2_shortfall 8 = .ok (.aload_n 0, 1) := by decide +kernel
theorem dX2_shortfall_9 : decode cX2_shortfall 9 = .ok (.getfield 43, 3) := by decide +kernel
theorem dX2_shortfall_12 : decode cX2_shortfall 12 = .ok (.iload_n 1, 1) := by decide +kernel
theorem dX2_shortfall_13 : decode cX2_shortfall 13 = .ok (.iaload, 1) := by decide +kernel
theorem dX2_shortfall_14 : decode cX2_shortfall 14 = .ok (.goto 4, 3) := by decide +kernel
theorem dX2_shortfall_17 : decode cX2_shortfall 17 = .ok (.iconst 0, 1) := by decide +kernel
theorem dX2_shortfall_18 : decode cX2_shortfall 18 = .ok (.ireturn, 1) := by decide +kernel
set_option maxRecDepth 20000 in
theorem ggX2_madeUp_X2_isClosed : GoodIn wsX2_madeUp wsX2_isClosed := goodIn_r _ [6, 7, 8, 9, 5, 10, 11, 12, 13, 14, 15, 16, 17, 18, 19, 20, 21, 22, 23, 24, 25, 26, 27, 1, 28, 29, 30, 31, 32, 33, 34, 35, 36, 37, 38, 39, 40, 41, 42, 43, 44, 45, 46, 47, 48, 49, 50, 51, 52, 53, 54, 55, 56, 57, 58, 59, 60, 61, 62, 63, 64, 65, 66, 67, 68, 69, 70, 71, 72, 73, 74, 75, 76, 77, 78] (by decide +kernel) (by decide +kernel)
set_option maxRecDepth 20000 in
theorem gX2_madeUp_X2_isClosed : GoodIn wsX2_madeUp (wsV RX2 126 RX2 yX2_isClosed wsX2_isClosed) := goodIn_app (goodIn_of _ (by decide +kernel)) ggX2_madeUp_X2_isClosed
theorem dX2_madeUp_0 : decode cX2_madeUp 0 = .ok (.aload_n 0, 1) := by decide +kernel
theorem dX2_madeUp_1 : decode cX2_madeUp 1 = .ok (.iload_n 1, 1) := by decide +kernel
theorem dX2_madeUp_2 : decode cX2_madeUp 2 = .ok (.invokevirtual 126, 3) := by decide +kernel
theorem dX2_madeUp_5 : decode cX2_madeUp 5 = .ok (.ifCond .eq 12, 3) := by decide +kernel
theorem dX2_madeUp_8 : decode cX2_madeUp 8 = .ok (.aload_n 0, 1) := by decide +kernel
theorem dX2_madeUp_9 : decode cX2_madeUp 9 = .ok (.getfield 55, 3) := by decide +kernel
theorem dX2_madeUp_12 : decode cX2_madeUp 12 = .ok (.iload_n 1, 1) := by decide +kernel
theorem dX2_madeUp_13 : decode cX2_madeUp 13 = .ok (.iaload, 1) := by decide +kernel
theorem dX2_madeUp_14 : decode cX2_madeUp 14 = .ok (.goto 4, 3) := by decide +kernel
theorem dX2_madeUp_17 : decode cX2_madeUp 17 = .ok (.iconst 0, 1) := by decide +kernel
theorem dX2_madeUp_18 : decode cX2_madeUp 18 = .ok (.ireturn, 1) := by decide +kernel
set_option maxRecDepth 20000 in
theorem ggX2_covered_X2_isClosed : GoodIn wsX2_covered wsX2_isClosed := goodIn_r _ [6, 7, 8, 9, 5, 10, 11, 12, 13, 14, 15, 16, 17, 18, 19, 20, 21, 22, 23, 24, 25, 26, 27, 28, 1, 29, 30, 31, 32, 33, 34, 35, 36, 37, 38, 39, 40, 41, 42, 43, 44, 45, 46, 47, 48, 49, 50, 51, 52, 53, 54, 55, 56, 57, 58, 59, 60, 61, 62, 63, 64, 65, 66, 67, 68, 69, 70, 71, 72, 73, 74, 75, 76, 77, 78] (by decide +kernel) (by decide +kernel)
set_option maxRecDepth 20000 in
theorem gX2_covered_X2_isClosed : GoodIn wsX2_covered (wsV RX2 126 RX2 yX2_isClosed wsX2_isClosed) := goodIn_app (goodIn_of _ (by decide +kernel)) ggX2_covered_X2_isClosed
theorem dX2_covered_0 : decode cX2_covered 0 = .ok (.aload_n 0, 1) := by decide +kernel
theorem dX2_covered_1 : decode cX2_covered 1 = .ok (.iload_n 1, 1) := by decide +kernel
theorem dX2_covered_2 : decode cX2_covered 2 = .ok (.invokevirtual 126, 3) := by decide +kernel
theorem dX2_covered_5 : decode cX2_covered 5 = .ok (.ifCond .eq 12, 3) := by decide +kernel
theorem dX2_covered_8 : decode cX2_covered 8 = .ok (.aload_n 0, 1) := by decide +kernel
theorem dX2_covered_9 : decode cX2_covered 9 = .ok (.getfield 58, 3) := by decide +kernel
theorem dX2_covered_12 : decode cX2_covered 12 = .ok (.iload_n 1, 1) := by decide +kernel
theorem dX2_covered_13 : decode cX2_covered 13 = .ok (.iaload, 1) := by decide +kernel
theorem dX2_covered_14 : decode cX2_covered 14 = .ok (.goto 4, 3) := by decide +kernel
theorem dX2_covered_17 : decode cX2_covered 17 = .ok (.iconst 0, 1) := by decide +kernel
theorem dX2_covered_18 : decode cX2_covered 18 = .ok (.ireturn, 1) := by decide +kernel
set_option maxRecDepth 20000 in
theorem ggX2_surplus_X2_isClosed : GoodIn wsX2_surplus wsX2_isClosed := goodIn_r _ [6, 7, 8, 9, 5, 10, 11, 12, 13, 14, 15, 16, 17, 18, 19, 20, 21, 22, 23, 24, 1, 25, 26, 27, 28, 29, 30, 31, 32, 33, 34, 35, 36, 37, 38, 39, 40, 41, 42, 43, 44, 45, 46, 47, 48, 49, 50, 51, 52, 53, 54, 55, 56, 57, 58, 59, 60, 61, 62, 63, 64, 65, 66, 67, 68, 69, 70, 71, 72, 73, 74, 75, 76, 77, 78] (by decide +kernel) (by decide +kernel)
set_option maxRecDepth 20000 in
theorem gX2_surplus_X2_isClosed : GoodIn wsX2_surplus (wsV RX2 126 RX2 yX2_isClosed wsX2_isClosed) := goodIn_app (goodIn_of _ (by decide +kernel)) ggX2_surplus_X2_isClosed
theorem dX2_surplus_0 : decode cX2_surplus 0 = .ok (.aload_n 0, 1) := by decide +kernel
theorem dX2_surplus_1 : decode cX2_surplus 1 = .ok (.iload_n 1, 1) := by decide +kernel
theorem dX2_surplus_2 : decode cX2_surplus 2 = .ok (.invokevirtual 126, 3) := by decide +kernel
theorem dX2_surplus_5 : decode cX2_surplus 5 = .ok (.ifCond .eq 12, 3) := by decide +kernel
theorem dX2_surplus_8 : decode cX2_surplus 8 = .ok (.aload_n 0, 1) := by decide +kernel
theorem dX2_surplus_9 : decode cX2_surplus 9 = .ok (.getfield 46, 3) := by decide +kernel
theorem dX2_surplus_12 : decode cX2_surplus 12 = .ok (.iload_n 1, 1) := by decide +kernel
theorem dX2_surplus_13 : decode cX2_surplus 13 = .ok (.iaload, 1) := by decide +kernel
theorem dX2_surplus_14 : decode cX2_surplus 14 = .ok (.goto 4, 3) := by decide +kernel
theorem dX2_surplus_17 : decode cX2_surplus 17 = .ok (.iconst 0, 1) := by decide +kernel
theorem dX2_surplus_18 : decode cX2_surplus 18 = .ok (.ireturn, 1) := by decide +kernel
set_option maxRecDepth 20000 in
theorem ggX2_due_X2_isClosed : GoodIn wsX2_due wsX2_isClosed := goodIn_r _ [6, 7, 8, 9, 5, 10, 11, 12, 13, 14, 15, 16, 17, 18, 19, 20, 21, 22, 23, 24, 25, 26, 27, 28, 29, 30, 31, 32, 33, 34, 35, 36, 37, 38, 39, 40, 41, 42, 43, 44, 45, 46, 47, 48, 1, 49, 50, 51, 52, 53, 54, 55, 56, 57, 58, 59, 60, 61, 62, 63, 64, 65, 66, 67, 68, 69, 70, 71, 72, 73, 74, 75, 76, 77, 78] (by decide +kernel) (by decide +kernel)
set_option maxRecDepth 20000 in
theorem gX2_due_X2_isClosed : GoodIn wsX2_due (wsV RX2 126 RX2 yX2_isClosed wsX2_isClosed) := goodIn_app (goodIn_of _ (by decide +kernel)) ggX2_due_X2_isClosed
theorem dX2_due_0 : decode cX2_due 0 = .ok (.aload_n 0, 1) := by decide +kernel
theorem dX2_due_1 : decode cX2_due 1 = .ok (.iload_n 1, 1) := by decide +kernel
theorem dX2_due_2 : decode cX2_due 2 = .ok (.invokevirtual 126, 3) := by decide +kernel
theorem dX2_due_5 : decode cX2_due 5 = .ok (.ifCond .eq 12, 3) := by decide +kernel
theorem dX2_due_8 : decode cX2_due 8 = .ok (.aload_n 0, 1) := by decide +kernel
theorem dX2_due_9 : decode cX2_due 9 = .ok (.getfield 61, 3) := by decide +kernel
theorem dX2_due_12 : decode cX2_due 12 = .ok (.iload_n 1, 1) := by decide +kernel
theorem dX2_due_13 : decode cX2_due 13 = .ok (.laload, 1) := by decide +kernel
theorem dX2_due_14 : decode cX2_due 14 = .ok (.goto 4, 3) := by decide +kernel
theorem dX2_due_17 : decode cX2_due 17 = .ok (.lconst 0, 1) := by decide +kernel
theorem dX2_due_18 : decode cX2_due 18 = .ok (.lreturn, 1) := by decide +kernel
set_option maxRecDepth 20000 in
theorem ggX2_bill_X2_isClosed : GoodIn wsX2_bill wsX2_isClosed := goodIn_r _ [6, 7, 8, 9, 5, 10, 11, 12, 13, 14, 15, 16, 17, 18, 19, 20, 21, 22, 23, 24, 25, 26, 27, 28, 29, 30, 31, 32, 33, 34, 35, 36, 37, 38, 39, 40, 41, 42, 43, 44, 45, 46, 47, 48, 49, 50, 51, 52, 53, 54, 55, 56, 57, 58, 59, 60, 61, 62, 63, 64, 65, 66, 67, 68, 69, 70, 71, 72, 73, 74, 75, 76, 77, 78, 79] (by decide +kernel) (by decide +kernel)
set_option maxRecDepth 20000 in
theorem gX2_bill_X2_isClosed : GoodIn wsX2_bill (wsV RX2 126 RX2 yX2_isClosed wsX2_isClosed) := goodIn_app (goodIn_of _ (by decide +kernel)) ggX2_bill_X2_isClosed
theorem dX2_bill_0 : decode cX2_bill 0 = .ok (.aload_n 0, 1) := by decide +kernel
theorem dX2_bill_1 : decode cX2_bill 1 = .ok (.iload_n 1, 1) := by decide +kernel
theorem dX2_bill_2 : decode cX2_bill 2 = .ok (.invokevirtual 126, 3) := by decide +kernel
theorem dX2_bill_5 : decode cX2_bill 5 = .ok (.ifCond .eq 12, 3) := by decide +kernel
theorem dX2_bill_8 : decode cX2_bill 8 = .ok (.aload_n 0, 1) := by decide +kernel
theorem dX2_bill_9 : decode cX2_bill 9 = .ok (.getfield 39, 3) := by decide +kernel
theorem dX2_bill_12 : decode cX2_bill 12 = .ok (.iload_n 1, 1) := by decide +kernel
theorem dX2_bill_13 : decode cX2_bill 13 = .ok (.laload, 1) := by decide +kernel
theorem dX2_bill_14 : decode cX2_bill 14 = .ok (.goto 4, 3) := by decide +kernel
theorem dX2_bill_17 : decode cX2_bill 17 = .ok (.lconst 0, 1) := by decide +kernel
theorem dX2_bill_18 : decode cX2_bill 18 = .ok (.lreturn, 1) := by decide +kernel
set_option maxRecDepth 20000 in
theorem ggX2_makeUpLeft_X2_isClosed : GoodIn wsX2_makeUpLeft wsX2_isClosed := goodIn_r _ [6, 7, 8, 9, 5, 10, 11, 12, 13, 14, 15, 16, 17, 18, 19, 20, 21, 22, 23, 24, 25, 1, 26, 27, 28, 29, 30, 31, 32, 33, 34, 35, 36, 37, 38, 39, 40, 41, 42, 43, 44, 45, 46, 47, 48, 49, 50, 51, 52, 53, 54, 55, 56, 57, 58, 59, 60, 61, 62, 63, 64, 65, 66, 67, 68, 69, 70, 71, 72, 73, 74, 75, 76, 77, 78] (by decide +kernel) (by decide +kernel)
set_option maxRecDepth 20000 in
theorem gX2_makeUpLeft_X2_isClosed : GoodIn wsX2_makeUpLeft (wsV RX2 126 RX2 yX2_isClosed wsX2_isClosed) := goodIn_app (goodIn_of _ (by decide +kernel)) ggX2_makeUpLeft_X2_isClosed
theorem dX2_makeUpLeft_0 : decode cX2_makeUpLeft 0 = .ok (.aload_n 0, 1) := by decide +kernel
theorem dX2_makeUpLeft_1 : decode cX2_makeUpLeft 1 = .ok (.iload_n 1, 1) := by decide +kernel
theorem dX2_makeUpLeft_2 : decode cX2_makeUpLeft 2 = .ok (.invokevirtual 126, 3) := by decide +kernel
theorem dX2_makeUpLeft_5 : decode cX2_makeUpLeft 5 = .ok (.ifCond .eq 12, 3) := by decide +kernel
theorem dX2_makeUpLeft_8 : decode cX2_makeUpLeft 8 = .ok (.aload_n 0, 1) := by decide +kernel
theorem dX2_makeUpLeft_9 : decode cX2_makeUpLeft 9 = .ok (.getfield 49, 3) := by decide +kernel
theorem dX2_makeUpLeft_12 : decode cX2_makeUpLeft 12 = .ok (.iload_n 1, 1) := by decide +kernel
theorem dX2_makeUpLeft_13 : decode cX2_makeUpLeft 13 = .ok (.iaload, 1) := by decide +kernel
theorem dX2_makeUpLeft_14 : decode cX2_makeUpLeft 14 = .ok (.goto 4, 3) := by decide +kernel
theorem dX2_makeUpLeft_17 : decode cX2_makeUpLeft 17 = .ok (.iconst 0, 1) := by decide +kernel
theorem dX2_makeUpLeft_18 : decode cX2_makeUpLeft 18 = .ok (.ireturn, 1) := by decide +kernel
set_option maxRecDepth 20000 in
theorem ggX2_surplusLeft_X2_isClosed : GoodIn wsX2_surplusLeft wsX2_isClosed := goodIn_r _ [6, 7, 8, 9, 5, 10, 11, 12, 13, 14, 15, 16, 17, 18, 19, 20, 21, 22, 23, 24, 25, 26, 1, 27, 28, 29, 30, 31, 32, 33, 34, 35, 36, 37, 38, 39, 40, 41, 42, 43, 44, 45, 46, 47, 48, 49, 50, 51, 52, 53, 54, 55, 56, 57, 58, 59, 60, 61, 62, 63, 64, 65, 66, 67, 68, 69, 70, 71, 72, 73, 74, 75, 76, 77, 78] (by decide +kernel) (by decide +kernel)
set_option maxRecDepth 20000 in
theorem gX2_surplusLeft_X2_isClosed : GoodIn wsX2_surplusLeft (wsV RX2 126 RX2 yX2_isClosed wsX2_isClosed) := goodIn_app (goodIn_of _ (by decide +kernel)) ggX2_surplusLeft_X2_isClosed
theorem dX2_surplusLeft_0 : decode cX2_surplusLeft 0 = .ok (.aload_n 0, 1) := by decide +kernel
theorem dX2_surplusLeft_1 : decode cX2_surplusLeft 1 = .ok (.iload_n 1, 1) := by decide +kernel
theorem dX2_surplusLeft_2 : decode cX2_surplusLeft 2 = .ok (.invokevirtual 126, 3) := by decide +kernel
theorem dX2_surplusLeft_5 : decode cX2_surplusLeft 5 = .ok (.ifCond .eq 12, 3) := by decide +kernel
theorem dX2_surplusLeft_8 : decode cX2_surplusLeft 8 = .ok (.aload_n 0, 1) := by decide +kernel
theorem dX2_surplusLeft_9 : decode cX2_surplusLeft 9 = .ok (.getfield 52, 3) := by decide +kernel
theorem dX2_surplusLeft_12 : decode cX2_surplusLeft 12 = .ok (.iload_n 1, 1) := by decide +kernel
theorem dX2_surplusLeft_13 : decode cX2_surplusLeft 13 = .ok (.iaload, 1) := by decide +kernel
theorem dX2_surplusLeft_14 : decode cX2_surplusLeft 14 = .ok (.goto 4, 3) := by decide +kernel
theorem dX2_surplusLeft_17 : decode cX2_surplusLeft 17 = .ok (.iconst 0, 1) := by decide +kernel
theorem dX2_surplusLeft_18 : decode cX2_surplusLeft 18 = .ok (.ireturn, 1) := by decide +kernel
set_option maxRecDepth 20000 in
theorem ggX2_lapsed_X2_goesThrough : GoodIn wsX2_lapsed wsX2_goesThrough := goodIn_r _ [7, 2, 8, 9, 10, 11, 12, 13, 14, 15, 16, 17, 18, 6, 19, 20, 21, 22, 23, 24, 25, 26, 27, 28, 29, 30, 31, 32, 33, 34, 35, 36, 37, 38, 39, 40, 41, 42, 43, 44, 45, 46, 47, 48, 49, 50, 51, 52, 53, 54, 55, 56, 57, 58, 59, 60, 61, 62, 63, 64] (by decide +kernel) (by decide +kernel)
set_option maxRecDepth 20000 in
theorem gX2_lapsed_X2_goesThrough : GoodIn wsX2_lapsed (wsV RX2 97 RX2 yX2_goesThrough wsX2_goesThrough) := goodIn_app (goodIn_of _ (by decide +kernel)) ggX2_lapsed_X2_goesThrough
theorem dX2_lapsed_0 : decode cX2_lapsed 0 = .ok (.aload_n 0, 1) := by decide +kernel
theorem dX2_lapsed_1 : decode cX2_lapsed 1 = .ok (.iconst 0, 1) := by decide +kernel
theorem dX2_lapsed_2 : decode cX2_lapsed 2 = .ok (.putfield 64, 3) := by decide +kernel
theorem dX2_lapsed_5 : decode cX2_lapsed 5 = .ok (.aload_n 0, 1) := by decide +kernel
theorem dX2_lapsed_6 : decode cX2_lapsed 6 = .ok (.invokevirtual 97, 3) := by decide +kernel
theorem dX2_lapsed_9 : decode cX2_lapsed 9 = .ok (.aload_n 0, 1) := by decide +kernel
theorem dX2_lapsed_10 : decode cX2_lapsed 10 = .ok (.getfield 73, 3) := by decide +kernel
theorem dX2_lapsed_13 : decode cX2_lapsed 13 = .ok (.ireturn, 1) := by decide +kernel
set_option maxRecDepth 20000 in
theorem ggX2_open_X2_openNow : GoodIn wsX2_open wsX2_openNow := goodIn_r _ [6, 7, 8, 9, 10, 11, 12, 5, 13, 14, 15, 16, 17, 18, 19, 20, 21, 22, 23, 24, 25, 26, 27, 28, 29, 30, 31, 32, 33, 34, 35, 36, 37, 38, 39, 40, 41, 42, 43, 44, 45, 46, 47, 48, 49, 50, 51, 52, 53, 54, 55, 56, 57, 58, 59, 60, 61, 62, 63, 64, 65, 66, 67, 68, 69] (by decide +kernel) (by decide +kernel)
set_option maxRecDepth 20000 in
theorem gX2_open_X2_openNow : GoodIn wsX2_open (wsV RX2 122 RX2 yX2_openNow wsX2_openNow) := goodIn_app (goodIn_of _ (by decide +kernel)) ggX2_open_X2_openNow
theorem dX2_open_0 : decode cX2_open 0 = .ok (.aload_n 0, 1) := by decide +kernel
theorem dX2_open_1 : decode cX2_open 1 = .ok (.iconst 0, 1) := by decide +kernel
theorem dX2_open_2 : decode cX2_open 2 = .ok (.putfield 64, 3) := by decide +kernel
theorem dX2_open_5 : decode cX2_open 5 = .ok (.aload_n 0, 1) := by decide +kernel
theorem dX2_open_6 : decode cX2_open 6 = .ok (.invokevirtual 122, 3) := by decide +kernel
theorem dX2_open_9 : decode cX2_open 9 = .ok (.lreturn, 1) := by decide +kernel
theorem dJ9_max_7cf53_0 : decode cJ9_max_7cf53 0 = .ok (.iload_n 0, 1) := by decide +kernel
theorem dJ9_max_7cf53_1 : decode cJ9_max_7cf53 1 = .ok (.iload_n 1, 1) := by decide +kernel
theorem dJ9_max_7cf53_2 : decode cJ9_max_7cf53 2 = .ok (.if_icmp .lt 7, 3) := by decide +kernel
theorem dJ9_max_7cf53_5 : decode cJ9_max_7cf53 5 = .ok (.iload_n 0, 1) := by decide +kernel
theorem dJ9_max_7cf53_6 : decode cJ9_max_7cf53 6 = .ok (.goto 4, 3) := by decide +kernel
theorem dJ9_max_7cf53_9 : decode cJ9_max_7cf53 9 = .ok (.iload_n 1, 1) := by decide +kernel
theorem dJ9_max_7cf53_10 : decode cJ9_max_7cf53 10 = .ok (.ireturn, 1) := by decide +kernel
theorem dJ9_min_7cf53_0 : decode cJ9_min_7cf53 0 = .ok (.iload_n 0, 1) := by decide +kernel
theorem dJ9_min_7cf53_1 : decode cJ9_min_7cf53 1 = .ok (.iload_n 1, 1) := by decide +kernel
theorem dJ9_min_7cf53_2 : decode cJ9_min_7cf53 2 = .ok (.if_icmp .gt 7, 3) := by decide +kernel
theorem dJ9_min_7cf53_5 : decode cJ9_min_7cf53 5 = .ok (.iload_n 0, 1) := by decide +kernel
theorem dJ9_min_7cf53_6 : decode cJ9_min_7cf53 6 = .ok (.goto 4, 3) := by decide +kernel
theorem dJ9_min_7cf53_9 : decode cJ9_min_7cf53 9 = .ok (.iload_n 1, 1) := by decide +kernel
theorem dJ9_min_7cf53_10 : decode cJ9_min_7cf53 10 = .ok (.ireturn, 1) := by decide +kernel
theorem dJ7_fill_53178_0 : decode cJ7_fill_53178 0 = .ok (.iconst 0, 1) := by decide +kernel
theorem dJ7_fill_53178_1 : decode cJ7_fill_53178 1 = .ok (.istore_n 2, 1) := by decide +kernel
theorem dJ7_fill_53178_2 : decode cJ7_fill_53178 2 = .ok (.aload_n 0, 1) := by decide +kernel
theorem dJ7_fill_53178_3 : decode cJ7_fill_53178 3 = .ok (.arraylength, 1) := by decide +kernel
theorem dJ7_fill_53178_4 : decode cJ7_fill_53178 4 = .ok (.istore_n 3, 1) := by decide +kernel
theorem dJ7_fill_53178_5 : decode cJ7_fill_53178 5 = .ok (.iload_n 2, 1) := by decide +kernel
theorem dJ7_fill_53178_6 : decode cJ7_fill_53178 6 = .ok (.iload_n 3, 1) := by decide +kernel
theorem dJ7_fill_53178_7 : decode cJ7_fill_53178 7 = .ok (.if_icmp .ge 13, 3) := by decide +kernel
theorem dJ7_fill_53178_10 : decode cJ7_fill_53178 10 = .ok (.aload_n 0, 1) := by decide +kernel
theorem dJ7_fill_53178_11 : decode cJ7_fill_53178 11 = .ok (.iload_n 2, 1) := by decide +kernel
theorem dJ7_fill_53178_12 : decode cJ7_fill_53178 12 = .ok (.iload_n 1, 1) := by decide +kernel
theorem dJ7_fill_53178_13 : decode cJ7_fill_53178 13 = .ok (.iastore, 1) := by decide +kernel
theorem dJ7_fill_53178_14 : decode cJ7_fill_53178 14 = .ok (.iinc 2 1, 3) := by decide +kernel
theorem dJ7_fill_53178_17 : decode cJ7_fill_53178 17 = .ok (.goto (-12), 3) := by decide +kernel
theorem dJ7_fill_53178_20 : decode cJ7_fill_53178 20 = .ok (.return_, 1) := by decide +kernel
set_option maxRecDepth 20000 in
theorem ggL_set_X1_set : GoodIn wsL_set wsX1_set := goodIn_ca (goodIn_ca (goodIn_r _ [7, 8, 9, 10, 11, 12, 13, 14, 15, 6, 16, 17, 18, 19, 20, 21, 22, 23, 24, 25, 26, 27, 28, 29, 30, 31, 32, 33, 34, 35, 36, 37, 38, 39, 40, 41, 42, 43, 44, 45, 46, 47, 48, 49, 50, 51, 52] (by decide +kernel) (by decide +kernel)) (goodIn_sub (fun _ h => List.mem_cons_of_mem _ (List.mem_append_left _ (List.mem_append_right _ h))) (by decide +kernel))) (goodIn_sub (fun _ h => List.mem_cons_of_mem _ (List.mem_append_right _ h)) (by decide +kernel))
set_option maxRecDepth 20000 in
theorem gL_set_X1_set : GoodIn wsL_set (wsV RL 7 RX1 yX1_set wsX1_set) := goodIn_app (goodIn_of _ (by decide +kernel)) ggL_set_X1_set
theorem dL_set_0 : decode cL_set 0 = .ok (.aload_n 0, 1) := by decide +kernel
theorem dL_set_1 : decode cL_set 1 = .ok (.iload_n 1, 1) := by decide +kernel
theorem dL_set_2 : decode cL_set 2 = .ok (.iload_n 2, 1) := by decide +kernel
theorem dL_set_3 : decode cL_set 3 = .ok (.iload_n 3, 1) := by decide +kernel
theorem dL_set_4 : decode cL_set 4 = .ok (.iload 4, 2) := by decide +kernel
theorem dL_set_6 : decode cL_set 6 = .ok (.iload 5, 2) := by decide +kernel
theorem dL_set_8 : decode cL_set 8 = .ok (.invokevirtual 7, 3) := by decide +kernel
theorem dL_set_11 : decode cL_set 11 = .ok (.goto 11, 3) := by decide +kernel
theorem dL_set_14 : decode cL_set 14 = .ok (.astore 6, 2) := by decide +kernel
theorem dL_set_16 : decode cL_set 16 = .ok (.iconst 1, 1) := by decide +kernel
theorem dL_set_17 : decode cL_set 17 = .ok (.ireturn, 1) := by decide +kernel
theorem dL_set_18 : decode cL_set 18 = .ok (.astore 6, 2) := by decide +kernel
theorem dL_set_20 : decode cL_set 20 = .ok (.iconst 2, 1) := by decide +kernel
theorem dL_set_21 : decode cL_set 21 = .ok (.ireturn, 1) := by decide +kernel
theorem dL_set_22 : decode cL_set 22 = .ok (.iconst 0, 1) := by decide +kernel
theorem dL_set_23 : decode cL_set 23 = .ok (.ireturn, 1) := by decide +kernel
set_option maxRecDepth 20000 in
theorem ggL_review_X1_review : GoodIn wsL_review wsX1_review := goodIn_ca (goodIn_r _ [6, 7, 8, 9, 5, 10, 11, 12, 13, 14, 15, 16, 17, 18, 19, 20, 21, 22, 23, 24, 25, 26, 27, 28, 29, 30, 31, 32, 33, 34, 35, 36, 37, 38, 39, 40, 41, 42, 43, 44, 45, 46, 47, 48, 49, 50, 51, 52, 53, 54, 55, 56, 57, 58, 59, 60, 61, 62, 63, 64, 65, 66, 67, 68, 69, 70, 71, 72, 73, 74, 75, 76, 77, 78, 79, 80, 81, 82, 83, 84, 85, 86, 87, 88, 89, 90, 91, 92, 93, 94, 95, 96, 97, 98, 99, 100, 101, 102, 103, 104] (by decide +kernel) (by decide +kernel)) (goodIn_sub (fun _ h => List.mem_cons_of_mem _ (List.mem_append_right _ h)) (by decide +kernel))
set_option maxRecDepth 20000 in
theorem gL_review_X1_review : GoodIn wsL_review (wsV RL 17 RX1 yX1_review wsX1_review) := goodIn_app (goodIn_of _ (by decide +kernel)) ggL_review_X1_review
theorem dL_review_0 : decode cL_review 0 = .ok (.aload_n 3, 1) := by decide +kernel
theorem dL_review_1 : decode cL_review 1 = .ok (.iconst 0, 1) := by decide +kernel
theorem dL_review_2 : decode cL_review 2 = .ok (.aload_n 0, 1) := by decide +kernel
theorem dL_review_3 : decode cL_review 3 = .ok (.iload_n 1, 1) := by decide +kernel
theorem dL_review_4 : decode cL_review 4 = .ok (.iload_n 2, 1) := by decide +kernel
theorem dL_review_5 : decode cL_review 5 = .ok (.invokevirtual 17, 3) := by decide +kernel
theorem dL_review_8 : decode cL_review 8 = .ok (.i2l, 1) := by decide +kernel
theorem dL_review_9 : decode cL_review 9 = .ok (.lastore, 1) := by decide +kernel
theorem dL_review_10 : decode cL_review 10 = .ok (.goto 7, 3) := by decide +kernel
end
section
theorem dL_review_13 : decode cL_review 13 = .ok (.astore 4, 2) := by decide +kernel
theorem dL_review_15 : decode cL_review 15 = .ok (.iconst 1, 1) := by decide +kernel
theorem dL_review_16 : decode cL_review 16 = .ok (.ireturn, 1) := by decide +kernel
theorem dL_review_17 : decode cL_review 17 = .ok (.iconst 0, 1) := by decide +kernel
theorem dL_review_18 : decode cL_review 18 = .ok (.ireturn, 1) := by decide +kernel
set_option maxRecDepth 20000 in
theorem ggL_excuse_X1_excuse : GoodIn wsL_excuse wsX1_excuse := goodIn_ca (goodIn_r _ [6, 7, 8, 9, 5, 10, 11, 12, 13, 14, 15, 16, 17, 18, 19, 20, 21, 22, 23, 24, 25, 26, 27, 28, 29, 30, 31, 32, 33, 34, 35, 36, 37, 38, 39, 40, 41, 42, 43, 44, 45, 46, 47, 48, 49, 50, 51, 52, 53, 54, 55, 56, 57, 58, 59, 60, 61, 62, 63, 64, 65, 66, 67, 68, 69, 70, 71, 72, 73, 74, 75, 76, 77, 78, 79, 80, 81, 82, 83, 84, 85, 86, 87, 88, 89, 90, 91, 92, 93, 94, 95, 96, 97, 98, 99, 100, 101, 102, 103, 104] (by decide +kernel) (by decide +kernel)) (goodIn_sub (fun _ h => List.mem_cons_of_mem _ (List.mem_append_right _ h)) (by decide +kernel))
set_option maxRecDepth 20000 in
theorem gL_excuse_X1_excuse : GoodIn wsL_excuse (wsV RL 21 RX1 yX1_excuse wsX1_excuse) := goodIn_app (goodIn_of _ (by decide +kernel)) ggL_excuse_X1_excuse
theorem dL_excuse_0 : decode cL_excuse 0 = .ok (.aload_n 3, 1) := by decide +kernel
theorem dL_excuse_1 : decode cL_excuse 1 = .ok (.iconst 0, 1) := by decide +kernel
theorem dL_excuse_2 : decode cL_excuse 2 = .ok (.aload_n 0, 1) := by decide +kernel
theorem dL_excuse_3 : decode cL_excuse 3 = .ok (.iload_n 1, 1) := by decide +kernel
theorem dL_excuse_4 : decode cL_excuse 4 = .ok (.iload_n 2, 1) := by decide +kernel
theorem dL_excuse_5 : decode cL_excuse 5 = .ok (.invokevirtual 21, 3) := by decide +kernel
theorem dL_excuse_8 : decode cL_excuse 8 = .ok (.i2l, 1) := by decide +kernel
theorem dL_excuse_9 : decode cL_excuse 9 = .ok (.lastore, 1) := by decide +kernel
theorem dL_excuse_10 : decode cL_excuse 10 = .ok (.goto 7, 3) := by decide +kernel
theorem dL_excuse_13 : decode cL_excuse 13 = .ok (.astore 4, 2) := by decide +kernel
theorem dL_excuse_15 : decode cL_excuse 15 = .ok (.iconst 1, 1) := by decide +kernel
theorem dL_excuse_16 : decode cL_excuse 16 = .ok (.ireturn, 1) := by decide +kernel
theorem dL_excuse_17 : decode cL_excuse 17 = .ok (.iconst 0, 1) := by decide +kernel
theorem dL_excuse_18 : decode cL_excuse 18 = .ok (.ireturn, 1) := by decide +kernel
set_option maxRecDepth 20000 in
theorem ggL_take_X1_take : GoodIn wsL_take wsX1_take := goodIn_ca (goodIn_ca (goodIn_r _ [7, 8, 9, 10, 6, 11, 12, 13, 14, 15, 16, 17, 18, 19, 20, 21, 22, 23, 24, 25, 26, 27, 28, 29, 30, 31, 32, 33, 34, 35, 36, 37, 38, 39, 40, 41, 42, 43, 44, 45, 46, 47, 48, 49] (by decide +kernel) (by decide +kernel)) (goodIn_sub (fun _ h => List.mem_cons_of_mem _ (List.mem_append_left _ (List.mem_append_right _ h))) (by decide +kernel))) (goodIn_sub (fun _ h => List.mem_cons_of_mem _ (List.mem_append_right _ h)) (by decide +kernel))
set_option maxRecDepth 20000 in
theorem gL_take_X1_take : GoodIn wsL_take (wsV RL 24 RX1 yX1_take wsX1_take) := goodIn_app (goodIn_of _ (by decide +kernel)) ggL_take_X1_take
theorem dL_take_0 : decode cL_take 0 = .ok (.aload_n 3, 1) := by decide +kernel
theorem dL_take_1 : decode cL_take 1 = .ok (.iconst 0, 1) := by decide +kernel
theorem dL_take_2 : decode cL_take 2 = .ok (.aload_n 0, 1) := by decide +kernel
theorem dL_take_3 : decode cL_take 3 = .ok (.iload_n 1, 1) := by decide +kernel
theorem dL_take_4 : decode cL_take 4 = .ok (.iload_n 2, 1) := by decide +kernel
theorem dL_take_5 : decode cL_take 5 = .ok (.invokevirtual 24, 3) := by decide +kernel
theorem dL_take_8 : decode cL_take 8 = .ok (.i2l, 1) := by decide +kernel
theorem dL_take_9 : decode cL_take 9 = .ok (.lastore, 1) := by decide +kernel
theorem dL_take_10 : decode cL_take 10 = .ok (.goto 11, 3) := by decide +kernel
theorem dL_take_13 : decode cL_take 13 = .ok (.astore 4, 2) := by decide +kernel
theorem dL_take_15 : decode cL_take 15 = .ok (.iconst 1, 1) := by decide +kernel
theorem dL_take_16 : decode cL_take 16 = .ok (.ireturn, 1) := by decide +kernel
theorem dL_take_17 : decode cL_take 17 = .ok (.astore 4, 2) := by decide +kernel
theorem dL_take_19 : decode cL_take 19 = .ok (.iconst 2, 1) := by decide +kernel
theorem dL_take_20 : decode cL_take 20 = .ok (.ireturn, 1) := by decide +kernel
theorem dL_take_21 : decode cL_take 21 = .ok (.iconst 0, 1) := by decide +kernel
theorem dL_take_22 : decode cL_take 22 = .ok (.ireturn, 1) := by decide +kernel
set_option maxRecDepth 20000 in
theorem ggL_takeDaily_X1_takeDaily : GoodIn wsL_takeDaily wsX1_takeDaily := goodIn_ca (goodIn_ca (goodIn_r _ [7, 8, 9, 10, 11, 6, 12, 13, 14, 15, 16, 17, 18, 19, 20, 21, 22, 23, 24, 25, 26, 27, 28, 29, 30, 31, 32, 33, 34, 35, 36, 37, 38, 39, 40, 41, 42, 43, 44, 45, 46, 47, 48, 49, 50, 51, 52] (by decide +kernel) (by decide +kernel)) (goodIn_sub (fun _ h => List.mem_cons_of_mem _ (List.mem_append_left _ (List.mem_append_right _ h))) (by decide +kernel))) (goodIn_sub (fun _ h => List.mem_cons_of_mem _ (List.mem_append_right _ h)) (by decide +kernel))
set_option maxRecDepth 20000 in
theorem gL_takeDaily_X1_takeDaily : GoodIn wsL_takeDaily (wsV RL 27 RX1 yX1_takeDaily wsX1_takeDaily) := goodIn_app (goodIn_of _ (by decide +kernel)) ggL_takeDaily_X1_takeDaily
theorem dL_takeDaily_0 : decode cL_takeDaily 0 = .ok (.aload 4, 2) := by decide +kernel
theorem dL_takeDaily_2 : decode cL_takeDaily 2 = .ok (.iconst 0, 1) := by decide +kernel
theorem dL_takeDaily_3 : decode cL_takeDaily 3 = .ok (.aload_n 0, 1) := by decide +kernel
theorem dL_takeDaily_4 : decode cL_takeDaily 4 = .ok (.iload_n 1, 1) := by decide +kernel
theorem dL_takeDaily_5 : decode cL_takeDaily 5 = .ok (.iload_n 2, 1) := by decide +kernel
theorem dL_takeDaily_6 : decode cL_takeDaily 6 = .ok (.iload_n 3, 1) := by decide +kernel
theorem dL_takeDaily_7 : decode cL_takeDaily 7 = .ok (.invokevirtual 27, 3) := by decide +kernel
theorem dL_takeDaily_10 : decode cL_takeDaily 10 = .ok (.i2l, 1) := by decide +kernel
theorem dL_takeDaily_11 : decode cL_takeDaily 11 = .ok (.lastore, 1) := by decide +kernel
theorem dL_takeDaily_12 : decode cL_takeDaily 12 = .ok (.goto 11, 3) := by decide +kernel
theorem dL_takeDaily_15 : decode cL_takeDaily 15 = .ok (.astore 5, 2) := by decide +kernel
theorem dL_takeDaily_17 : decode cL_takeDaily 17 = .ok (.iconst 1, 1) := by decide +kernel
theorem dL_takeDaily_18 : decode cL_takeDaily 18 = .ok (.ireturn, 1) := by decide +kernel
theorem dL_takeDaily_19 : decode cL_takeDaily 19 = .ok (.astore 5, 2) := by decide +kernel
theorem dL_takeDaily_21 : decode cL_takeDaily 21 = .ok (.iconst 2, 1) := by decide +kernel
theorem dL_takeDaily_22 : decode cL_takeDaily 22 = .ok (.ireturn, 1) := by decide +kernel
theorem dL_takeDaily_23 : decode cL_takeDaily 23 = .ok (.iconst 0, 1) := by decide +kernel
theorem dL_takeDaily_24 : decode cL_takeDaily 24 = .ok (.ireturn, 1) := by decide +kernel
set_option maxRecDepth 20000 in
theorem ggL_close_X1_close : GoodIn wsL_close wsX1_close := goodIn_ca (goodIn_r _ [6, 7, 8, 9, 10, 11, 12, 13, 5, 14, 15, 16, 17, 18, 19, 20, 21, 22, 23, 24, 25, 26, 27, 28, 29, 30, 31, 32, 33, 34, 35, 36, 37, 38, 39, 40, 41, 42, 43, 44, 45, 46, 47, 48, 49, 50, 51, 52, 53, 54, 55, 56, 57, 58, 59, 60, 61, 62, 63, 64, 65, 66, 67, 68, 69, 70, 71, 72, 73, 74, 75, 76, 77, 78, 79, 80, 81, 82, 83, 84, 85, 86, 87, 88, 89, 90, 91, 92, 93, 94, 95, 96, 97, 98, 99, 100, 101, 102, 103, 104, 105, 106, 107, 108, 109, 110] (by decide +kernel) (by decide +kernel)) (goodIn_sub (fun _ h => List.mem_cons_of_mem _ (List.mem_append_right _ h)) (by decide +kernel))
set_option maxRecDepth 20000 in
theorem gL_close_X1_close : GoodIn wsL_close (wsV RL 31 RX1 yX1_close wsX1_close) := goodIn_app (goodIn_of _ (by decide +kernel)) ggL_close_X1_close
theorem dL_close_0 : decode cL_close 0 = .ok (.aload_n 1, 1) := by decide +kernel
theorem dL_close_1 : decode cL_close 1 = .ok (.iconst 0, 1) := by decide +kernel
theorem dL_close_2 : decode cL_close 2 = .ok (.aload_n 0, 1) := by decide +kernel
theorem dL_close_3 : decode cL_close 3 = .ok (.invokevirtual 31, 3) := by decide +kernel
theorem dL_close_6 : decode cL_close 6 = .ok (.lastore, 1) := by decide +kernel
theorem dL_close_7 : decode cL_close 7 = .ok (.goto 6, 3) := by decide +kernel
theorem dL_close_10 : decode cL_close 10 = .ok (.astore_n 2, 1) := by decide +kernel
theorem dL_close_11 : decode cL_close 11 = .ok (.iconst 1, 1) := by decide +kernel
theorem dL_close_12 : decode cL_close 12 = .ok (.ireturn, 1) := by decide +kernel
theorem dL_close_13 : decode cL_close 13 = .ok (.iconst 0, 1) := by decide +kernel
theorem dL_close_14 : decode cL_close 14 = .ok (.ireturn, 1) := by decide +kernel
set_option maxRecDepth 20000 in
theorem ggL_taken_X1_taken : GoodIn wsL_taken wsX1_taken := goodIn_ca (goodIn_r _ [6, 7, 8, 9, 5, 10, 11, 12, 13, 14, 15, 16, 17, 18, 19, 20, 21, 22, 23, 24, 25, 26, 27, 28, 29, 30, 31, 32] (by decide +kernel) (by decide +kernel)) (goodIn_sub (fun _ h => List.mem_cons_of_mem _ (List.mem_append_right _ h)) (by decide +kernel))
set_option maxRecDepth 20000 in
theorem gL_taken_X1_taken : GoodIn wsL_taken (wsV RL 35 RX1 yX1_taken wsX1_taken) := goodIn_app (goodIn_of _ (by decide +kernel)) ggL_taken_X1_taken
theorem dL_taken_0 : decode cL_taken 0 = .ok (.aload_n 2, 1) := by decide +kernel
theorem dL_taken_1 : decode cL_taken 1 = .ok (.iconst 0, 1) := by decide +kernel
theorem dL_taken_2 : decode cL_taken 2 = .ok (.aload_n 0, 1) := by decide +kernel
theorem dL_taken_3 : decode cL_taken 3 = .ok (.iload_n 1, 1) := by decide +kernel
theorem dL_taken_4 : decode cL_taken 4 = .ok (.invokevirtual 35, 3) := by decide +kernel
theorem dL_taken_7 : decode cL_taken 7 = .ok (.i2l, 1) := by decide +kernel
theorem dL_taken_8 : decode cL_taken 8 = .ok (.lastore, 1) := by decide +kernel
theorem dL_taken_9 : decode cL_taken 9 = .ok (.goto 6, 3) := by decide +kernel
theorem dL_taken_12 : decode cL_taken 12 = .ok (.astore_n 3, 1) := by decide +kernel
theorem dL_taken_13 : decode cL_taken 13 = .ok (.iconst 1, 1) := by decide +kernel
theorem dL_taken_14 : decode cL_taken 14 = .ok (.ireturn, 1) := by decide +kernel
theorem dL_taken_15 : decode cL_taken 15 = .ok (.iconst 0, 1) := by decide +kernel
theorem dL_taken_16 : decode cL_taken 16 = .ok (.ireturn, 1) := by decide +kernel
set_option maxRecDepth 20000 in
theorem ggL_takenFrom_X1_takenFrom : GoodIn wsL_takenFrom wsX1_takenFrom := goodIn_ca (goodIn_r _ [6, 7, 8, 9, 5, 10, 11, 12, 13, 14, 15, 16, 17, 18, 19, 20, 21, 22, 23, 24, 25, 26, 27, 28, 29, 30, 31, 32, 33, 34, 35] (by decide +kernel) (by decide +kernel)) (goodIn_sub (fun _ h => List.mem_cons_of_mem _ (List.mem_append_right _ h)) (by decide +kernel))
set_option maxRecDepth 20000 in
theorem gL_takenFrom_X1_takenFrom : GoodIn wsL_takenFrom (wsV RL 39 RX1 yX1_takenFrom wsX1_takenFrom) := goodIn_app (goodIn_of _ (by decide +kernel)) ggL_takenFrom_X1_takenFrom
theorem dL_takenFrom_0 : decode cL_takenFrom 0 = .ok (.aload_n 3, 1) := by decide +kernel
theorem dL_takenFrom_1 : decode cL_takenFrom 1 = .ok (.iconst 0, 1) := by decide +kernel
theorem dL_takenFrom_2 : decode cL_takenFrom 2 = .ok (.aload_n 0, 1) := by decide +kernel
theorem dL_takenFrom_3 : decode cL_takenFrom 3 = .ok (.iload_n 1, 1) := by decide +kernel
theorem dL_takenFrom_4 : decode cL_takenFrom 4 = .ok (.iload_n 2, 1) := by decide +kernel
theorem dL_takenFrom_5 : decode cL_takenFrom 5 = .ok (.invokevirtual 39, 3) := by decide +kernel
theorem dL_takenFrom_8 : decode cL_takenFrom 8 = .ok (.i2l, 1) := by decide +kernel
theorem dL_takenFrom_9 : decode cL_takenFrom 9 = .ok (.lastore, 1) := by decide +kernel
theorem dL_takenFrom_10 : decode cL_takenFrom 10 = .ok (.goto 7, 3) := by decide +kernel
theorem dL_takenFrom_13 : decode cL_takenFrom 13 = .ok (.astore 4, 2) := by decide +kernel
theorem dL_takenFrom_15 : decode cL_takenFrom 15 = .ok (.iconst 1, 1) := by decide +kernel
theorem dL_takenFrom_16 : decode cL_takenFrom 16 = .ok (.ireturn, 1) := by decide +kernel
theorem dL_takenFrom_17 : decode cL_takenFrom 17 = .ok (.iconst 0, 1) := by decide +kernel
theorem dL_takenFrom_18 : decode cL_takenFrom 18 = .ok (.ireturn, 1) := by decide +kernel
set_option maxRecDepth 20000 in
theorem ggL_price_X1_price : GoodIn wsL_price wsX1_price := goodIn_ca (goodIn_r _ [6, 7, 8, 9, 5, 10, 11, 12, 13, 14, 15, 16, 17, 18, 19, 20, 21, 22, 23, 24, 25, 26, 27, 28, 29, 30, 31, 32] (by decide +kernel) (by decide +kernel)) (goodIn_sub (fun _ h => List.mem_cons_of_mem _ (List.mem_append_right _ h)) (by decide +kernel))
set_option maxRecDepth 20000 in
theorem gL_price_X1_price : GoodIn wsL_price (wsV RL 42 RX1 yX1_price wsX1_price) := goodIn_app (goodIn_of _ (by decide +kernel)) ggL_price_X1_price
theorem dL_price_0 : decode cL_price 0 = .ok (.aload_n 2, 1) := by decide +kernel
theorem dL_price_1 : decode cL_price 1 = .ok (.iconst 0, 1) := by decide +kernel
theorem dL_price_2 : decode cL_price 2 = .ok (.aload_n 0, 1) := by decide +kernel
theorem dL_price_3 : decode cL_price 3 = .ok (.iload_n 1, 1) := by decide +kernel
theorem dL_price_4 : decode cL_price 4 = .ok (.invokevirtual 42, 3) := by decide +kernel
theorem dL_price_7 : decode cL_price 7 = .ok (.i2l, 1) := by decide +kernel
theorem dL_price_8 : decode cL_price 8 = .ok (.lastore, 1) := by decide +kernel
theorem dL_price_9 : decode cL_price 9 = .ok (.goto 6, 3) := by decide +kernel
theorem dL_price_12 : decode cL_price 12 = .ok (.astore_n 3, 1) := by decide +kernel
theorem dL_price_13 : decode cL_price 13 = .ok (.iconst 1, 1) := by decide +kernel
theorem dL_price_14 : decode cL_price 14 = .ok (.ireturn, 1) := by decide +kernel
theorem dL_price_15 : decode cL_price 15 = .ok (.iconst 0, 1) := by decide +kernel
theorem dL_price_16 : decode cL_price 16 = .ok (.ireturn, 1) := by decide +kernel
set_option maxRecDepth 20000 in
theorem ggL_least_X1_least : GoodIn wsL_least wsX1_least := goodIn_ca (goodIn_r _ [6, 7, 8, 5, 9, 10, 11, 12, 13, 14, 15, 16, 17, 18, 19, 20, 21, 22, 23, 24, 25, 26, 27, 28, 29, 30, 31, 32, 33, 34, 35, 36, 37, 38, 39] (by decide +kernel) (by decide +kernel)) (goodIn_sub (fun _ h => List.mem_cons_of_mem _ (List.mem_append_right _ h)) (by decide +kernel))
set_option maxRecDepth 20000 in
theorem gL_least_X1_least : GoodIn wsL_least (wsV RL 45 RX1 yX1_least wsX1_least) := goodIn_app (goodIn_of _ (by decide +kernel)) ggL_least_X1_least
theorem dL_least_0 : decode cL_least 0 = .ok (.aload_n 2, 1) := by decide +kernel
theorem dL_least_1 : decode cL_least 1 = .ok (.iconst 0, 1) := by decide +kernel
theorem dL_least_2 : decode cL_least 2 = .ok (.aload_n 0, 1) := by decide +kernel
theorem dL_least_3 : decode cL_least 3 = .ok (.iload_n 1, 1) := by decide +kernel
theorem dL_least_4 : decode cL_least 4 = .ok (.invokevirtual 45, 3) := by decide +kernel
theorem dL_least_7 : decode cL_least 7 = .ok (.i2l, 1) := by decide +kernel
theorem dL_least_8 : decode cL_least 8 = .ok (.lastore, 1) := by decide +kernel
theorem dL_least_9 : decode cL_least 9 = .ok (.goto 6, 3) := by decide +kernel
theorem dL_least_12 : decode cL_least 12 = .ok (.astore_n 3, 1) := by decide +kernel
theorem dL_least_13 : decode cL_least 13 = .ok (.iconst 1, 1) := by decide +kernel
theorem dL_least_14 : decode cL_least 14 = .ok (.ireturn, 1) := by decide +kernel
theorem dL_least_15 : decode cL_least 15 = .ok (.iconst 0, 1) := by decide +kernel
theorem dL_least_16 : decode cL_least 16 = .ok (.ireturn, 1) := by decide +kernel
set_option maxRecDepth 20000 in
theorem ggL_shortfall_X1_shortfall : GoodIn wsL_shortfall wsX1_shortfall := goodIn_ca (goodIn_ca (goodIn_r _ [7, 8, 9, 10, 11, 6, 12, 13, 14, 15, 16, 17, 18, 19, 20, 21, 22, 23, 24, 25, 26, 27, 28, 29, 30, 31, 32, 33, 34, 35, 36, 37, 38, 39, 40] (by decide +kernel) (by decide +kernel)) (goodIn_sub (fun _ h => List.mem_cons_of_mem _ (List.mem_append_left _ (List.mem_append_right _ h))) (by decide +kernel))) (goodIn_sub (fun _ h => List.mem_cons_of_mem _ (List.mem_append_right _ h)) (by decide +kernel))
set_option maxRecDepth 20000 in
theorem gL_shortfall_X1_shortfall : GoodIn wsL_shortfall (wsV RL 48 RX1 yX1_shortfall wsX1_shortfall) := goodIn_app (goodIn_of _ (by decide +kernel)) ggL_shortfall_X1_shortfall
theorem dL_shortfall_0 : decode cL_shortfall 0 = .ok (.aload_n 2, 1) := by decide +kernel
theorem dL_shortfall_1 : decode cL_shortfall 1 = .ok (.iconst 0, 1) := by decide +kernel
theorem dL_shortfall_2 : decode cL_shortfall 2 = .ok (.aload_n 0, 1) := by decide +kernel
theorem dL_shortfall_3 : decode cL_shortfall 3 = .ok (.iload_n 1, 1) := by decide +kernel
theorem dL_shortfall_4 : decode cL_shortfall 4 = .ok (.invokevirtual 48, 3) := by decide +kernel
theorem dL_shortfall_7 : decode cL_shortfall 7 = .ok (.i2l, 1) := by decide +kernel
theorem dL_shortfall_8 : decode cL_shortfall 8 = .ok (.lastore, 1) := by decide +kernel
theorem dL_shortfall_9 : decode cL_shortfall 9 = .ok (.goto 9, 3) := by decide +kernel
theorem dL_shortfall_12 : decode cL_shortfall 12 = .ok (.astore_n 3, 1) := by decide +kernel
theorem dL_shortfall_13 : decode cL_shortfall 13 = .ok (.iconst 1, 1) := by decide +kernel
theorem dL_shortfall_14 : decode cL_shortfall 14 = .ok (.ireturn, 1) := by decide +kernel
theorem dL_shortfall_15 : decode cL_shortfall 15 = .ok (.astore_n 3, 1) := by decide +kernel
theorem dL_shortfall_16 : decode cL_shortfall 16 = .ok (.iconst 2, 1) := by decide +kernel
theorem dL_shortfall_17 : decode cL_shortfall 17 = .ok (.ireturn, 1) := by decide +kernel
theorem dL_shortfall_18 : decode cL_shortfall 18 = .ok (.iconst 0, 1) := by decide +kernel
theorem dL_shortfall_19 : decode cL_shortfall 19 = .ok (.ireturn, 1) := by decide +kernel
set_option maxRecDepth 20000 in
theorem ggL_madeUp_X1_madeUp : GoodIn wsL_madeUp wsX1_madeUp := goodIn_ca (goodIn_ca (goodIn_r _ [7, 8, 9, 10, 11, 6, 12, 13, 14, 15, 16, 17, 18, 19, 20, 21, 22, 23, 24, 25, 26, 27, 28, 29, 30, 31, 32, 33, 34, 35, 36, 37, 38, 39, 40] (by decide +kernel) (by decide +kernel)) (goodIn_sub (fun _ h => List.mem_cons_of_mem _ (List.mem_append_left _ (List.mem_append_right _ h))) (by decide +kernel))) (goodIn_sub (fun _ h => List.mem_cons_of_mem _ (List.mem_append_right _ h)) (by decide +kernel))
set_option maxRecDepth 20000 in
theorem gL_madeUp_X1_madeUp : GoodIn wsL_madeUp (wsV RL 51 RX1 yX1_madeUp wsX1_madeUp) := goodIn_app (goodIn_of _ (by decide +kernel)) ggL_madeUp_X1_madeUp
theorem dL_madeUp_0 : decode cL_madeUp 0 = .ok (.aload_n 2, 1) := by decide +kernel
theorem dL_madeUp_1 : decode cL_madeUp 1 = .ok (.iconst 0, 1) := by decide +kernel
theorem dL_madeUp_2 : decode cL_madeUp 2 = .ok (.aload_n 0, 1) := by decide +kernel
theorem dL_madeUp_3 : decode cL_madeUp 3 = .ok (.iload_n 1, 1) := by decide +kernel
theorem dL_madeUp_4 : decode cL_madeUp 4 = .ok (.invokevirtual 51, 3) := by decide +kernel
theorem dL_madeUp_7 : decode cL_madeUp 7 = .ok (.i2l, 1) := by decide +kernel
theorem dL_madeUp_8 : decode cL_madeUp 8 = .ok (.lastore, 1) := by decide +kernel
theorem dL_madeUp_9 : decode cL_madeUp 9 = .ok (.goto 9, 3) := by decide +kernel
theorem dL_madeUp_12 : decode cL_madeUp 12 = .ok (.astore_n 3, 1) := by decide +kernel
theorem dL_madeUp_13 : decode cL_madeUp 13 = .ok (.iconst 1, 1) := by decide +kernel
theorem dL_madeUp_14 : decode cL_madeUp 14 = .ok (.ireturn, 1) := by decide +kernel
theorem dL_madeUp_15 : decode cL_madeUp 15 = .ok (.astore_n 3, 1) := by decide +kernel
theorem dL_madeUp_16 : decode cL_madeUp 16 = .ok (.iconst 2, 1) := by decide +kernel
theorem dL_madeUp_17 : decode cL_madeUp 17 = .ok (.ireturn, 1) := by decide +kernel
theorem dL_madeUp_18 : decode cL_madeUp 18 = .ok (.iconst 0, 1) := by decide +kernel
theorem dL_madeUp_19 : decode cL_madeUp 19 = .ok (.ireturn, 1) := by decide +kernel
set_option maxRecDepth 20000 in
theorem ggL_covered_X1_covered : GoodIn wsL_covered wsX1_covered := goodIn_ca (goodIn_ca (goodIn_r _ [7, 8, 9, 10, 11, 6, 12, 13, 14, 15, 16, 17, 18, 19, 20, 21, 22, 23, 24, 25, 26, 27, 28, 29, 30, 31, 32, 33, 34, 35, 36, 37, 38, 39, 40] (by decide +kernel) (by decide +kernel)) (goodIn_sub (fun _ h => List.mem_cons_of_mem _ (List.mem_append_left _ (List.mem_append_right _ h))) (by decide +kernel))) (goodIn_sub (fun _ h => List.mem_cons_of_mem _ (List.mem_append_right _ h)) (by decide +kernel))
set_option maxRecDepth 20000 in
theorem gL_covered_X1_covered : GoodIn wsL_covered (wsV RL 54 RX1 yX1_covered wsX1_covered) := goodIn_app (goodIn_of _ (by decide +kernel)) ggL_covered_X1_covered
theorem dL_covered_0 : decode cL_covered 0 = .ok (.aload_n 2, 1) := by decide +kernel
theorem dL_covered_1 : decode cL_covered 1 = .ok (.iconst 0, 1) := by decide +kernel
theorem dL_covered_2 : decode cL_covered 2 = .ok (.aload_n 0, 1) := by decide +kernel
theorem dL_covered_3 : decode cL_covered 3 = .ok (.iload_n 1, 1) := by decide +kernel
theorem dL_covered_4 : decode cL_covered 4 = .ok (.invokevirtual 54, 3) := by decide +kernel
theorem dL_covered_7 : decode cL_covered 7 = .ok (.i2l, 1) := by decide +kernel
theorem dL_covered_8 : decode cL_covered 8 = .ok (.lastore, 1) := by decide +kernel
theorem dL_covered_9 : decode cL_covered 9 = .ok (.goto 9, 3) := by decide +kernel
theorem dL_covered_12 : decode cL_covered 12 = .ok (.astore_n 3, 1) := by decide +kernel
theorem dL_covered_13 : decode cL_covered 13 = .ok (.iconst 1, 1) := by decide +kernel
theorem dL_covered_14 : decode cL_covered 14 = .ok (.ireturn, 1) := by decide +kernel
theorem dL_covered_15 : decode cL_covered 15 = .ok (.astore_n 3, 1) := by decide +kernel
theorem dL_covered_16 : decode cL_covered 16 = .ok (.iconst 2, 1) := by decide +kernel
theorem dL_covered_17 : decode cL_covered 17 = .ok (.ireturn, 1) := by decide +kernel
theorem dL_covered_18 : decode cL_covered 18 = .ok (.iconst 0, 1) := by decide +kernel
theorem dL_covered_19 : decode cL_covered 19 = .ok (.ireturn, 1) := by decide +kernel
set_option maxRecDepth 20000 in
theorem ggL_surplus_X1_surplus : GoodIn wsL_surplus wsX1_surplus := goodIn_ca (goodIn_ca (goodIn_r _ [7, 8, 9, 10, 11, 6, 12, 13, 14, 15, 16, 17, 18, 19, 20, 21, 22, 23, 24, 25, 26, 27, 28, 29, 30, 31, 32, 33, 34, 35, 36, 37, 38, 39, 40] (by decide +kernel) (by decide +kernel)) (goodIn_sub (fun _ h => List.mem_cons_of_mem _ (List.mem_append_left _ (List.mem_append_right _ h))) (by decide +kernel))) (goodIn_sub (fun _ h => List.mem_cons_of_mem _ (List.mem_append_right _ h)) (by decide +kernel))
set_option maxRecDepth 20000 in
theorem gL_surplus_X1_surplus : GoodIn wsL_surplus (wsV RL 57 RX1 yX1_surplus wsX1_surplus) := goodIn_app (goodIn_of _ (by decide +kernel)) ggL_surplus_X1_surplus
theorem dL_surplus_0 : decode cL_surplus 0 = .ok (.aload_n 2, 1) := by decide +kernel
theorem dL_surplus_1 : decode cL_surplus 1 = .ok (.iconst 0, 1) := by decide +kernel
theorem dL_surplus_2 : decode cL_surplus 2 = .ok (.aload_n 0, 1) := by decide +kernel
theorem dL_surplus_3 : decode cL_surplus 3 = .ok (.iload_n 1, 1) := by decide +kernel
theorem dL_surplus_4 : decode cL_surplus 4 = .ok (.invokevirtual 57, 3) := by decide +kernel
theorem dL_surplus_7 : decode cL_surplus 7 = .ok (.i2l, 1) := by decide +kernel
theorem dL_surplus_8 : decode cL_surplus 8 = .ok (.lastore, 1) := by decide +kernel
theorem dL_surplus_9 : decode cL_surplus 9 = .ok (.goto 9, 3) := by decide +kernel
theorem dL_surplus_12 : decode cL_surplus 12 = .ok (.astore_n 3, 1) := by decide +kernel
theorem dL_surplus_13 : decode cL_surplus 13 = .ok (.iconst 1, 1) := by decide +kernel
theorem dL_surplus_14 : decode cL_surplus 14 = .ok (.ireturn, 1) := by decide +kernel
theorem dL_surplus_15 : decode cL_surplus 15 = .ok (.astore_n 3, 1) := by decide +kernel
theorem dL_surplus_16 : decode cL_surplus 16 = .ok (.iconst 2, 1) := by decide +kernel
theorem dL_surplus_17 : decode cL_surplus 17 = .ok (.ireturn, 1) := by decide +kernel
theorem dL_surplus_18 : decode cL_surplus 18 = .ok (.iconst 0, 1) := by decide +kernel
theorem dL_surplus_19 : decode cL_surplus 19 = .ok (.ireturn, 1) := by decide +kernel
set_option maxRecDepth 20000 in
theorem ggL_due_X1_due : GoodIn wsL_due wsX1_due := goodIn_ca (goodIn_ca (goodIn_r _ [7, 8, 9, 10, 11, 6, 12, 13, 14, 15, 16, 17, 18, 19, 20, 21, 22, 23, 24, 25, 26, 27, 28, 29, 30, 31, 32, 33, 34, 35, 36, 37, 38, 39, 40] (by decide +kernel) (by decide +kernel)) (goodIn_sub (fun _ h => List.mem_cons_of_mem _ (List.mem_append_left _ (List.mem_append_right _ h))) (by decide +kernel))) (goodIn_sub (fun _ h => List.mem_cons_of_mem _ (List.mem_append_right _ h)) (by decide +kernel))
set_option maxRecDepth 20000 in
theorem gL_due_X1_due : GoodIn wsL_due (wsV RL 60 RX1 yX1_due wsX1_due) := goodIn_app (goodIn_of _ (by decide +kernel)) ggL_due_X1_due
theorem dL_due_0 : decode cL_due 0 = .ok (.aload_n 2, 1) := by decide +kernel
theorem dL_due_1 : decode cL_due 1 = .ok (.iconst 0, 1) := by decide +kernel
theorem dL_due_2 : decode cL_due 2 = .ok (.aload_n 0, 1) := by decide +kernel
theorem dL_due_3 : decode cL_due 3 = .ok (.iload_n 1, 1) := by decide +kernel
theorem dL_due_4 : decode cL_due 4 = .ok (.invokevirtual 60, 3) := by decide +kernel
theorem dL_due_7 : decode cL_due 7 = .ok (.lastore, 1) := by decide +kernel
theorem dL_due_8 : decode cL_due 8 = .ok (.goto 9, 3) := by decide +kernel
theorem dL_due_11 : decode cL_due 11 = .ok (.astore_n 3, 1) := by decide +kernel
theorem dL_due_12 : decode cL_due 12 = .ok (.iconst 1, 1) := by decide +kernel
theorem dL_due_13 : decode cL_due 13 = .ok (.ireturn, 1) := by decide +kernel
theorem dL_due_14 : decode cL_due 14 = .ok (.astore_n 3, 1) := by decide +kernel
theorem dL_due_15 : decode cL_due 15 = .ok (.iconst 2, 1) := by decide +kernel
theorem dL_due_16 : decode cL_due 16 = .ok (.ireturn, 1) := by decide +kernel
theorem dL_due_17 : decode cL_due 17 = .ok (.iconst 0, 1) := by decide +kernel
theorem dL_due_18 : decode cL_due 18 = .ok (.ireturn, 1) := by decide +kernel
set_option maxRecDepth 20000 in
theorem ggL_bill_X1_bill : GoodIn wsL_bill wsX1_bill := goodIn_ca (goodIn_ca (goodIn_r _ [7, 8, 9, 10, 11, 6, 12, 13, 14, 15, 16, 17, 18, 19, 20, 21, 22, 23, 24, 25, 26, 27, 28, 29, 30, 31, 32, 33, 34, 35, 36, 37, 38, 39, 40] (by decide +kernel) (by decide +kernel)) (goodIn_sub (fun _ h => List.mem_cons_of_mem _ (List.mem_append_left _ (List.mem_append_right _ h))) (by decide +kernel))) (goodIn_sub (fun _ h => List.mem_cons_of_mem _ (List.mem_append_right _ h)) (by decide +kernel))
set_option maxRecDepth 20000 in
theorem gL_bill_X1_bill : GoodIn wsL_bill (wsV RL 64 RX1 yX1_bill wsX1_bill) := goodIn_app (goodIn_of _ (by decide +kernel)) ggL_bill_X1_bill
theorem dL_bill_0 : decode cL_bill 0 = .ok (.aload_n 2, 1) := by decide +kernel
theorem dL_bill_1 : decode cL_bill 1 = .ok (.iconst 0, 1) := by decide +kernel
theorem dL_bill_2 : decode cL_bill 2 = .ok (.aload_n 0, 1) := by decide +kernel
theorem dL_bill_3 : decode cL_bill 3 = .ok (.iload_n 1, 1) := by decide +kernel
theorem dL_bill_4 : decode cL_bill 4 = .ok (.invokevirtual 64, 3) := by decide +kernel
theorem dL_bill_7 : decode cL_bill 7 = .ok (.lastore, 1) := by decide +kernel
theorem dL_bill_8 : decode cL_bill 8 = .ok (.goto 9, 3) := by decide +kernel
theorem dL_bill_11 : decode cL_bill 11 = .ok (.astore_n 3, 1) := by decide +kernel
theorem dL_bill_12 : decode cL_bill 12 = .ok (.iconst 1, 1) := by decide +kernel
theorem dL_bill_13 : decode cL_bill 13 = .ok (.ireturn, 1) := by decide +kernel
theorem dL_bill_14 : decode cL_bill 14 = .ok (.astore_n 3, 1) := by decide +kernel
theorem dL_bill_15 : decode cL_bill 15 = .ok (.iconst 2, 1) := by decide +kernel
theorem dL_bill_16 : decode cL_bill 16 = .ok (.ireturn, 1) := by decide +kernel
theorem dL_bill_17 : decode cL_bill 17 = .ok (.iconst 0, 1) := by decide +kernel
theorem dL_bill_18 : decode cL_bill 18 = .ok (.ireturn, 1) := by decide +kernel
set_option maxRecDepth 20000 in
theorem ggL_makeUpLeft_X1_makeUpLeft : GoodIn wsL_makeUpLeft wsX1_makeUpLeft := goodIn_ca (goodIn_ca (goodIn_r _ [7, 8, 9, 10, 11, 6, 12, 13, 14, 15, 16, 17, 18, 19, 20, 21, 22, 23, 24, 25, 26, 27, 28, 29, 30, 31, 32, 33, 34, 35, 36, 37, 38, 39, 40, 41, 42, 43, 44, 45, 46, 47, 48, 49] (by decide +kernel) (by decide +kernel)) (goodIn_sub (fun _ h => List.mem_cons_of_mem _ (List.mem_append_left _ (List.mem_append_right _ h))) (by decide +kernel))) (goodIn_sub (fun _ h => List.mem_cons_of_mem _ (List.mem_append_right _ h)) (by decide +kernel))
set_option maxRecDepth 20000 in
theorem gL_makeUpLeft_X1_makeUpLeft : GoodIn wsL_makeUpLeft (wsV RL 67 RX1 yX1_makeUpLeft wsX1_makeUpLeft) := goodIn_app (goodIn_of _ (by decide +kernel)) ggL_makeUpLeft_X1_makeUpLeft
theorem dL_makeUpLeft_0 : decode cL_makeUpLeft 0 = .ok (.aload_n 2, 1) := by decide +kernel
theorem dL_makeUpLeft_1 : decode cL_makeUpLeft 1 = .ok (.iconst 0, 1) := by decide +kernel
theorem dL_makeUpLeft_2 : decode cL_makeUpLeft 2 = .ok (.aload_n 0, 1) := by decide +kernel
theorem dL_makeUpLeft_3 : decode cL_makeUpLeft 3 = .ok (.iload_n 1, 1) := by decide +kernel
theorem dL_makeUpLeft_4 : decode cL_makeUpLeft 4 = .ok (.invokevirtual 67, 3) := by decide +kernel
theorem dL_makeUpLeft_7 : decode cL_makeUpLeft 7 = .ok (.i2l, 1) := by decide +kernel
theorem dL_makeUpLeft_8 : decode cL_makeUpLeft 8 = .ok (.lastore, 1) := by decide +kernel
theorem dL_makeUpLeft_9 : decode cL_makeUpLeft 9 = .ok (.goto 9, 3) := by decide +kernel
theorem dL_makeUpLeft_12 : decode cL_makeUpLeft 12 = .ok (.astore_n 3, 1) := by decide +kernel
theorem dL_makeUpLeft_13 : decode cL_makeUpLeft 13 = .ok (.iconst 1, 1) := by decide +kernel
theorem dL_makeUpLeft_14 : decode cL_makeUpLeft 14 = .ok (.ireturn, 1) := by decide +kernel
theorem dL_makeUpLeft_15 : decode cL_makeUpLeft 15 = .ok (.astore_n 3, 1) := by decide +kernel
theorem dL_makeUpLeft_16 : decode cL_makeUpLeft 16 = .ok (.iconst 2, 1) := by decide +kernel
theorem dL_makeUpLeft_17 : decode cL_makeUpLeft 17 = .ok (.ireturn, 1) := by decide +kernel
theorem dL_makeUpLeft_18 : decode cL_makeUpLeft 18 = .ok (.iconst 0, 1) := by decide +kernel
theorem dL_makeUpLeft_19 : decode cL_makeUpLeft 19 = .ok (.ireturn, 1) := by decide +kernel
set_option maxRecDepth 20000 in
theorem ggL_surplusLeft_X1_surplusLeft : GoodIn wsL_surplusLeft wsX1_surplusLeft := goodIn_ca (goodIn_ca (goodIn_r _ [7, 8, 9, 10, 11, 6, 12, 13, 14, 15, 16, 17, 18, 19, 20, 21, 22, 23, 24, 25, 26, 27, 28, 29, 30, 31, 32, 33, 34, 35, 36, 37, 38, 39, 40, 41, 42, 43, 44, 45, 46, 47, 48, 49] (by decide +kernel) (by decide +kernel)) (goodIn_sub (fun _ h => List.mem_cons_of_mem _ (List.mem_append_left _ (List.mem_append_right _ h))) (by decide +kernel))) (goodIn_sub (fun _ h => List.mem_cons_of_mem _ (List.mem_append_right _ h)) (by decide +kernel))
set_option maxRecDepth 20000 in
theorem gL_surplusLeft_X1_surplusLeft : GoodIn wsL_surplusLeft (wsV RL 70 RX1 yX1_surplusLeft wsX1_surplusLeft) := goodIn_app (goodIn_of _ (by decide +kernel)) ggL_surplusLeft_X1_surplusLeft
theorem dL_surplusLeft_0 : decode cL_surplusLeft 0 = .ok (.aload_n 2, 1) := by decide +kernel
theorem dL_surplusLeft_1 : decode cL_surplusLeft 1 = .ok (.iconst 0, 1) := by decide +kernel
theorem dL_surplusLeft_2 : decode cL_surplusLeft 2 = .ok (.aload_n 0, 1) := by decide +kernel
theorem dL_surplusLeft_3 : decode cL_surplusLeft 3 = .ok (.iload_n 1, 1) := by decide +kernel
theorem dL_surplusLeft_4 : decode cL_surplusLeft 4 = .ok (.invokevirtual 70, 3) := by decide +kernel
theorem dL_surplusLeft_7 : decode cL_surplusLeft 7 = .ok (.i2l, 1) := by decide +kernel
theorem dL_surplusLeft_8 : decode cL_surplusLeft 8 = .ok (.lastore, 1) := by decide +kernel
theorem dL_surplusLeft_9 : decode cL_surplusLeft 9 = .ok (.goto 9, 3) := by decide +kernel
theorem dL_surplusLeft_12 : decode cL_surplusLeft 12 = .ok (.astore_n 3, 1) := by decide +kernel
theorem dL_surplusLeft_13 : decode cL_surplusLeft 13 = .ok (.iconst 1, 1) := by decide +kernel
theorem dL_surplusLeft_14 : decode cL_surplusLeft 14 = .ok (.ireturn, 1) := by decide +kernel
theorem dL_surplusLeft_15 : decode cL_surplusLeft 15 = .ok (.astore_n 3, 1) := by decide +kernel
theorem dL_surplusLeft_16 : decode cL_surplusLeft 16 = .ok (.iconst 2, 1) := by decide +kernel
theorem dL_surplusLeft_17 : decode cL_surplusLeft 17 = .ok (.ireturn, 1) := by decide +kernel
theorem dL_surplusLeft_18 : decode cL_surplusLeft 18 = .ok (.iconst 0, 1) := by decide +kernel
theorem dL_surplusLeft_19 : decode cL_surplusLeft 19 = .ok (.ireturn, 1) := by decide +kernel
set_option maxRecDepth 20000 in
theorem ggL_law_X1_init : GoodIn wsL_law wsX1_init := goodIn_r _ [9, 10, 11, 12, 13, 14, 15, 16, 17, 18, 19, 20, 21, 22, 23, 24, 25, 26, 27, 28, 29, 30, 6, 31, 32, 33, 34, 35, 36, 37, 38, 39, 40, 41, 42, 461, 462, 463, 464, 465, 466, 467, 468, 469, 470, 471, 472, 473, 474, 475, 476, 477, 498, 499, 500] (by decide +kernel) (by decide +kernel)
set_option maxRecDepth 20000 in
theorem gL_law_X1_init : GoodIn wsL_law (wsX1_init) := ggL_law_X1_init
set_option maxRecDepth 20000 in
theorem ggL_law_X2_init : GoodIn wsL_law wsX2_init := goodIn_r _ [45, 46, 11, 12, 47, 48, 49, 50, 51, 52, 17, 53, 54, 55, 56, 6, 57, 58, 59, 60, 61, 62, 63, 64, 478, 479, 480, 481, 482, 483, 484, 485, 486, 487, 488, 489, 490, 491, 492, 493, 494, 495, 496, 497] (by decide +kernel) (by decide +kernel)
set_option maxRecDepth 20000 in
theorem gL_law_X2_init : GoodIn wsL_law (wsX2_init) := ggL_law_X2_init
set_option maxRecDepth 20000 in
theorem ggL_law_L_set : GoodIn wsL_law wsL_set := goodIn_ca (goodIn_ca (goodIn_r _ [68, 69, 70, 71, 72, 73, 2, 74, 75, 14, 15, 16, 25, 26, 76, 77, 78, 79, 80, 81, 82, 83, 84, 85, 86, 87, 21, 88, 89, 90, 24, 91, 42, 461, 462, 463, 464, 465, 466, 467, 468, 469, 470, 471, 472, 473, 474, 475, 476, 477, 498, 499, 500] (by decide +kernel) (by decide +kernel)) (goodIn_sub (fun _ h => List.mem_append_left _ (List.mem_append_right _ h)) (by decide +kernel))) (goodIn_sub (fun _ h => List.mem_append_right _ h) (by decide +kernel))
set_option maxRecDepth 20000 in
theorem gL_law_L_set : GoodIn wsL_law (va_wsS RL 77 yL_set wsL_set) := goodIn_app (goodIn_of _ (by decide +kernel)) ggL_law_L_set
set_option maxRecDepth 20000 in
theorem ggL_law_X2_set : GoodIn wsL_law wsX2_set := goodIn_r _ [95, 96, 97, 56, 48, 49, 50, 51, 52, 98, 99, 5, 100, 101, 102, 103, 104, 105, 478, 479, 480, 481, 482, 483, 484, 485, 486, 487, 488, 489, 490, 491, 492, 493, 494, 495, 496, 497] (by decide +kernel) (by decide +kernel)
set_option maxRecDepth 20000 in
theorem gL_law_X2_set : GoodIn wsL_law (wsV RL 82 RX2 yX2_set wsX2_set) := goodIn_app (goodIn_of _ (by decide +kernel)) ggL_law_X2_set
set_option maxRecDepth 20000 in
theorem ggL_law_X2_thrown : GoodIn wsL_law wsX2_thrown := goodIn_r _ [109, 105, 478, 479, 480, 481, 482, 483, 484, 485, 486, 487, 488, 489, 490, 491, 492, 493, 494, 495, 496, 497] (by decide +kernel) (by decide +kernel)
set_option maxRecDepth 20000 in
theorem gL_law_X2_thrown : GoodIn wsL_law (wsV RL 83 RX2 yX2_thrown wsX2_thrown) := goodIn_app (goodIn_of _ (by decide +kernel)) ggL_law_X2_thrown
set_option maxRecDepth 20000 in
theorem ggL_law_L_review : GoodIn wsL_law wsL_review := goodIn_ca (goodIn_r _ [112, 69, 113, 114, 115, 2, 116, 18, 117, 118, 119, 76, 77, 78, 79, 80, 120, 121, 122, 123, 25, 26, 87, 21, 124, 125, 126, 24, 127, 41, 128, 129, 34, 35, 36, 130, 131, 132, 133, 42, 134, 135, 136, 137, 14, 15, 19, 138, 139, 140, 141, 142, 29, 27, 28, 30, 31, 143, 144, 145, 146, 147, 148, 149, 150, 151, 152, 153, 154, 155, 156, 157, 158, 159, 160, 161, 162, 16, 163, 164, 165, 166, 167, 168, 169, 461, 462, 463, 464, 465, 466, 467, 468, 469, 470, 471, 472, 473, 474, 475, 476, 477, 498, 499, 500] (by decide +kernel) (by decide +kernel)) (goodIn_sub (fun _ h => List.mem_append_left _ (List.mem_append_right _ h)) (by decide +kernel))
set_option maxRecDepth 20000 in
theorem gL_law_L_review : GoodIn wsL_law (va_wsS RL 87 yL_review wsL_review) := goodIn_app (goodIn_of _ (by decide +kernel)) ggL_law_L_review
set_option maxRecDepth 20000 in
theorem ggL_law_X2_review : GoodIn wsL_law wsX2_review := goodIn_r _ [173, 53, 174, 175, 5, 176, 98, 99, 100, 101, 102, 103, 104, 105, 478, 479, 480, 481, 482, 483, 484, 485, 486, 487, 488, 489, 490, 491, 492, 493, 494, 495, 496, 497] (by decide +kernel) (by decide +kernel)
set_option maxRecDepth 20000 in
theorem gL_law_X2_review : GoodIn wsL_law (wsV RL 90 RX2 yX2_review wsX2_review) := goodIn_app (goodIn_of _ (by decide +kernel)) ggL_law_X2_review
set_option maxRecDepth 20000 in
theorem ggL_law_L_excuse : GoodIn wsL_law wsL_excuse := goodIn_ca (goodIn_r _ [179, 69, 180, 181, 182, 2, 183, 19, 117, 118, 119, 76, 77, 78, 79, 80, 120, 121, 122, 123, 25, 26, 87, 21, 124, 125, 126, 24, 127, 41, 128, 129, 34, 35, 36, 130, 131, 132, 133, 42, 134, 135, 136, 137, 14, 15, 138, 139, 140, 141, 142, 29, 27, 28, 30, 31, 18, 143, 144, 145, 146, 147, 148, 149, 150, 151, 152, 153, 154, 155, 156, 157, 158, 159, 160, 161, 162, 16, 163, 164, 165, 166, 167, 168, 169, 461, 462, 463, 464, 465, 466, 467, 468, 469, 470, 471, 472, 473, 474, 475, 476, 477, 498, 499, 500] (by decide +kernel) (by decide +kernel)) (goodIn_sub (fun _ h => List.mem_append_left _ (List.mem_append_right _ h)) (by decide +kernel))
set_option maxRecDepth 20000 in
theorem gL_law_L_excuse : GoodIn wsL_law (va_wsS RL 91 yL_excuse wsL_excuse) := goodIn_app (goodIn_of _ (by decide +kernel)) ggL_law_L_excuse
set_option maxRecDepth 20000 in
theorem ggL_law_X2_excuse : GoodIn wsL_law wsX2_excuse := goodIn_r _ [187, 54, 174, 175, 5, 176, 98, 99, 100, 101, 102, 103, 104, 105, 478, 479, 480, 481, 482, 483, 484, 485, 486, 487, 488, 489, 490, 491, 492, 493, 494, 495, 496, 497] (by decide +kernel) (by decide +kernel)
set_option maxRecDepth 20000 in
theorem gL_law_X2_excuse : GoodIn wsL_law (wsV RL 93 RX2 yX2_excuse wsX2_excuse) := goodIn_app (goodIn_of _ (by decide +kernel)) ggL_law_X2_excuse
set_option maxRecDepth 20000 in
theorem ggL_law_L_take : GoodIn wsL_law wsL_take := goodIn_ca (goodIn_ca (goodIn_r _ [190, 69, 70, 191, 192, 193, 2, 194, 20, 195, 196, 197, 76, 77, 78, 79, 80, 198, 199, 200, 201, 85, 86, 87, 202, 203, 204, 205, 206, 207, 208, 209, 21, 461, 462, 463, 464, 465, 466, 467, 468, 469, 470, 471, 472, 473, 474, 475, 476, 477] (by decide +kernel) (by decide +kernel)) (goodIn_sub (fun _ h => List.mem_append_left _ (List.mem_append_right _ h)) (by decide +kernel))) (goodIn_sub (fun _ h => List.mem_append_right _ h) (by decide +kernel))
set_option maxRecDepth 20000 in
theorem gL_law_L_take : GoodIn wsL_law (va_wsS RL 94 yL_take wsL_take) := goodIn_app (goodIn_of _ (by decide +kernel)) ggL_law_L_take
set_option maxRecDepth 20000 in
theorem ggL_law_X2_take : GoodIn wsL_law wsX2_take := goodIn_r _ [213, 55, 214, 215, 216, 5, 217, 97, 218, 219, 220, 98, 99, 100, 221, 222, 223, 224, 101, 102, 103, 104, 105, 225, 226, 227, 228, 56, 478, 479, 480, 481, 482, 483, 484, 485, 486, 487, 488, 489, 490, 491, 492, 493, 494, 495, 496, 497] (by decide +kernel) (by decide +kernel)
set_option maxRecDepth 20000 in
theorem gL_law_X2_take : GoodIn wsL_law (wsV RL 96 RX2 yX2_take wsX2_take) := goodIn_app (goodIn_of _ (by decide +kernel)) ggL_law_X2_take
set_option maxRecDepth 20000 in
theorem ggL_law_L_takeDaily : GoodIn wsL_law wsL_takeDaily := goodIn_ca (goodIn_ca (goodIn_r _ [231, 69, 70, 232, 233, 234, 2, 235, 21, 87, 236, 237, 238, 195, 196, 197, 76, 77, 78, 79, 80, 198, 199, 200, 201, 85, 86, 202, 203, 204, 205, 20, 206, 207, 208, 209, 461, 462, 463, 464, 465, 466, 467, 468, 469, 470, 471, 472, 473, 474, 475, 476, 477] (by decide +kernel) (by decide +kernel)) (goodIn_sub (fun _ h => List.mem_append_left _ (List.mem_append_right _ h)) (by decide +kernel))) (goodIn_sub (fun _ h => List.mem_append_right _ h) (by decide +kernel))
set_option maxRecDepth 20000 in
theorem gL_law_L_takeDaily : GoodIn wsL_law (va_wsS RL 97 yL_takeDaily wsL_takeDaily) := goodIn_app (goodIn_of _ (by decide +kernel)) ggL_law_L_takeDaily
set_option maxRecDepth 20000 in
theorem ggL_law_X2_takeDaily : GoodIn wsL_law wsX2_takeDaily := goodIn_r _ [242, 56, 97, 214, 215, 216, 5, 217, 218, 219, 220, 98, 99, 100, 221, 222, 223, 224, 55, 101, 102, 103, 104, 105, 225, 226, 227, 228, 478, 479, 480, 481, 482, 483, 484, 485, 486, 487, 488, 489, 490, 491, 492, 493, 494, 495, 496, 497] (by decide +kernel) (by decide +kernel)
set_option maxRecDepth 20000 in
theorem gL_law_X2_takeDaily : GoodIn wsL_law (wsV RL 100 RX2 yX2_takeDaily wsX2_takeDaily) := goodIn_app (goodIn_of _ (by decide +kernel)) ggL_law_X2_takeDaily
set_option maxRecDepth 20000 in
theorem ggL_law_L_close : GoodIn wsL_law wsL_close := goodIn_ca (goodIn_r _ [245, 70, 246, 247, 248, 2, 249, 87, 20, 250, 32, 198, 199, 200, 201, 85, 86, 33, 34, 35, 36, 120, 121, 122, 123, 25, 26, 21, 124, 125, 126, 24, 127, 41, 128, 129, 130, 131, 132, 133, 42, 134, 135, 136, 137, 14, 15, 19, 138, 139, 140, 141, 142, 29, 27, 28, 30, 31, 18, 143, 144, 145, 146, 147, 148, 149, 150, 151, 152, 153, 154, 155, 156, 157, 158, 159, 160, 161, 162, 16, 163, 164, 165, 166, 167, 168, 169, 251, 252, 253, 254, 461, 462, 463, 464, 465, 466, 467, 468, 469, 470, 471, 472, 473, 474, 475, 476, 477, 498, 499, 500] (by decide +kernel) (by decide +kernel)) (goodIn_sub (fun _ h => List.mem_append_right _ h) (by decide +kernel))
set_option maxRecDepth 20000 in
theorem gL_law_L_close : GoodIn wsL_law (va_wsS RL 101 yL_close wsL_close) := goodIn_app (goodIn_of _ (by decide +kernel)) ggL_law_L_close
set_option maxRecDepth 20000 in
theorem ggL_law_X2_close : GoodIn wsL_law wsX2_close := goodIn_r _ [258, 97, 57, 55, 101, 102, 103, 5, 104, 105, 259, 260, 261, 262, 64, 263, 264, 265, 266, 267, 58, 59, 60, 61, 62, 63, 56, 268, 269, 270, 271, 51, 52, 272, 273, 274, 275, 48, 49, 54, 276, 277, 278, 279, 280, 53, 281, 282, 283, 284, 50, 285, 286, 287, 288, 478, 479, 480, 481, 482, 483, 484, 485, 486, 487, 488, 489, 490, 491, 492, 493, 494, 495, 496, 497] (by decide +kernel) (by decide +kernel)
set_option maxRecDepth 20000 in
theorem gL_law_X2_close : GoodIn wsL_law (wsV RL 104 RX2 yX2_close wsX2_close) := goodIn_app (goodIn_of _ (by decide +kernel)) ggL_law_X2_close
set_option maxRecDepth 20000 in
theorem ggL_law_X1_closed : GoodIn wsL_law wsX1_closed := goodIn_r _ [292, 87, 461, 462, 463, 464, 465, 466, 467, 468, 469, 470, 471, 472, 473, 474, 475, 476, 477] (by decide +kernel) (by decide +kernel)
set_option maxRecDepth 20000 in
theorem gL_law_X1_closed : GoodIn wsL_law (wsV RL 105 RX1 yX1_closed wsX1_closed) := goodIn_app (goodIn_of _ (by decide +kernel)) ggL_law_X1_closed
set_option maxRecDepth 20000 in
theorem ggL_law_X2_closed : GoodIn wsL_law wsX2_closed := goodIn_r _ [296, 105, 97, 478, 479, 480, 481, 482, 483, 484, 485, 486, 487, 488, 489, 490, 491, 492, 493, 494, 495, 496, 497] (by decide +kernel) (by decide +kernel)
set_option maxRecDepth 20000 in
theorem gL_law_X2_closed : GoodIn wsL_law (wsV RL 108 RX2 yX2_closed wsX2_closed) := goodIn_app (goodIn_of _ (by decide +kernel)) ggL_law_X2_closed
set_option maxRecDepth 20000 in
theorem ggL_law_L_taken : GoodIn wsL_law wsL_taken := goodIn_ca (goodIn_r _ [299, 69, 300, 301, 302, 2, 303, 21, 117, 118, 119, 76, 77, 78, 79, 80, 461, 462, 463, 464, 465, 466, 467, 468, 469, 470, 471, 472, 473, 474, 475, 476, 477] (by decide +kernel) (by decide +kernel)) (goodIn_sub (fun _ h => List.mem_append_left _ (List.mem_append_right _ h)) (by decide +kernel))
set_option maxRecDepth 20000 in
theorem gL_law_L_taken : GoodIn wsL_law (va_wsS RL 109 yL_taken wsL_taken) := goodIn_app (goodIn_of _ (by decide +kernel)) ggL_law_L_taken
set_option maxRecDepth 20000 in
theorem ggL_law_X2_taken : GoodIn wsL_law wsX2_taken := goodIn_r _ [307, 56, 174, 175, 5, 176, 98, 99, 100, 101, 102, 103, 104, 105, 478, 479, 480, 481, 482, 483, 484, 485, 486, 487, 488, 489, 490, 491, 492, 493, 494, 495, 496, 497] (by decide +kernel) (by decide +kernel)
set_option maxRecDepth 20000 in
theorem gL_law_X2_taken : GoodIn wsL_law (wsV RL 112 RX2 yX2_taken wsX2_taken) := goodIn_app (goodIn_of _ (by decide +kernel)) ggL_law_X2_taken
set_option maxRecDepth 20000 in
theorem ggL_law_L_takenFrom : GoodIn wsL_law wsL_takenFrom := goodIn_ca (goodIn_r _ [310, 69, 311, 312, 313, 2, 314, 20, 236, 237, 238, 195, 196, 197, 76, 77, 78, 79, 80, 461, 462, 463, 464, 465, 466, 467, 468, 469, 470, 471, 472, 473, 474, 475, 476, 477] (by decide +kernel) (by decide +kernel)) (goodIn_sub (fun _ h => List.mem_append_left _ (List.mem_append_right _ h)) (by decide +kernel))
set_option maxRecDepth 20000 in
theorem gL_law_L_takenFrom : GoodIn wsL_law (va_wsS RL 113 yL_takenFrom wsL_takenFrom) := goodIn_app (goodIn_of _ (by decide +kernel)) ggL_law_L_takenFrom
set_option maxRecDepth 20000 in
theorem ggL_law_X2_takenFrom : GoodIn wsL_law wsX2_takenFrom := goodIn_r _ [318, 55, 218, 219, 5, 220, 101, 102, 103, 104, 105, 478, 479, 480, 481, 482, 483, 484, 485, 486, 487, 488, 489, 490, 491, 492, 493, 494, 495, 496, 497] (by decide +kernel) (by decide +kernel)
set_option maxRecDepth 20000 in
theorem gL_law_X2_takenFrom : GoodIn wsL_law (wsV RL 115 RX2 yX2_takenFrom wsX2_takenFrom) := goodIn_app (goodIn_of _ (by decide +kernel)) ggL_law_X2_takenFrom
set_option maxRecDepth 20000 in
theorem ggL_law_L_price : GoodIn wsL_law wsL_price := goodIn_ca (goodIn_r _ [321, 69, 322, 323, 324, 2, 325, 18, 117, 118, 119, 76, 77, 78, 79, 80, 461, 462, 463, 464, 465, 466, 467, 468, 469, 470, 471, 472, 473, 474, 475, 476, 477] (by decide +kernel) (by decide +kernel)) (goodIn_sub (fun _ h => List.mem_append_left _ (List.mem_append_right _ h)) (by decide +kernel))
set_option maxRecDepth 20000 in
theorem gL_law_L_price : GoodIn wsL_law (va_wsS RL 116 yL_price wsL_price) := goodIn_app (goodIn_of _ (by decide +kernel)) ggL_law_L_price
set_option maxRecDepth 20000 in
theorem ggL_law_X2_price : GoodIn wsL_law wsX2_price := goodIn_r _ [329, 53, 174, 175, 5, 176, 98, 99, 100, 101, 102, 103, 104, 105, 478, 479, 480, 481, 482, 483, 484, 485, 486, 487, 488, 489, 490, 491, 492, 493, 494, 495, 496, 497] (by decide +kernel) (by decide +kernel)
set_option maxRecDepth 20000 in
theorem gL_law_X2_price : GoodIn wsL_law (wsV RL 118 RX2 yX2_price wsX2_price) := goodIn_app (goodIn_of _ (by decide +kernel)) ggL_law_X2_price
set_option maxRecDepth 20000 in
theorem ggL_law_L_least : GoodIn wsL_law wsL_least := goodIn_ca (goodIn_r _ [332, 69, 333, 334, 335, 2, 336, 117, 118, 119, 76, 77, 78, 79, 80, 134, 135, 136, 137, 14, 15, 19, 138, 461, 462, 463, 464, 465, 466, 467, 468, 469, 470, 471, 472, 473, 474, 475, 476, 477] (by decide +kernel) (by decide +kernel)) (goodIn_sub (fun _ h => List.mem_append_left _ (List.mem_append_right _ h)) (by decide +kernel))
set_option maxRecDepth 20000 in
theorem gL_law_L_least : GoodIn wsL_law (va_wsS RL 119 yL_least wsL_least) := goodIn_app (goodIn_of _ (by decide +kernel)) ggL_law_L_least
set_option maxRecDepth 20000 in
theorem ggL_law_X2_least : GoodIn wsL_law wsX2_least := goodIn_r _ [340, 174, 175, 5, 176, 98, 99, 100, 101, 102, 103, 104, 105, 272, 273, 274, 275, 48, 49, 54, 276, 478, 479, 480, 481, 482, 483, 484, 485, 486, 487, 488, 489, 490, 491, 492, 493, 494, 495, 496, 497] (by decide +kernel) (by decide +kernel)
set_option maxRecDepth 20000 in
theorem gL_law_X2_least : GoodIn wsL_law (wsV RL 121 RX2 yX2_least wsX2_least) := goodIn_app (goodIn_of _ (by decide +kernel)) ggL_law_X2_least
set_option maxRecDepth 20000 in
theorem ggL_law_L_shortfall : GoodIn wsL_law wsL_shortfall := goodIn_ca (goodIn_ca (goodIn_r _ [343, 69, 70, 344, 345, 346, 2, 347, 27, 348, 349, 350, 351, 85, 86, 87, 117, 118, 119, 76, 77, 78, 79, 80, 461, 462, 463, 464, 465, 466, 467, 468, 469, 470, 471, 472, 473, 474, 475, 476, 477] (by decide +kernel) (by decide +kernel)) (goodIn_sub (fun _ h => List.mem_append_right _ h) (by decide +kernel))) (goodIn_sub (fun _ h => List.mem_append_left _ (List.mem_append_right _ h)) (by decide +kernel))
set_option maxRecDepth 20000 in
theorem gL_law_L_shortfall : GoodIn wsL_law (va_wsS RL 122 yL_shortfall wsL_shortfall) := goodIn_app (goodIn_of _ (by decide +kernel)) ggL_law_L_shortfall
set_option maxRecDepth 20000 in
theorem ggL_law_X2_shortfall : GoodIn wsL_law wsX2_shortfall := goodIn_r _ [355, 58, 356, 357, 358, 5, 359, 97, 174, 175, 176, 98, 99, 100, 101, 102, 103, 104, 105, 263, 264, 265, 266, 267, 59, 60, 61, 62, 63, 56, 268, 269, 270, 271, 51, 52, 272, 273, 274, 275, 48, 49, 54, 276, 277, 278, 279, 280, 64, 53, 281, 282, 283, 284, 50, 285, 286, 287, 288, 478, 479, 480, 481, 482, 483, 484, 485, 486, 487, 488, 489, 490, 491, 492, 493, 494, 495, 496, 497] (by decide +kernel) (by decide +kernel)
set_option maxRecDepth 20000 in
theorem gL_law_X2_shortfall : GoodIn wsL_law (wsV RL 124 RX2 yX2_shortfall wsX2_shortfall) := goodIn_app (goodIn_of _ (by decide +kernel)) ggL_law_X2_shortfall
set_option maxRecDepth 20000 in
theorem ggL_law_L_madeUp : GoodIn wsL_law wsL_madeUp := goodIn_ca (goodIn_ca (goodIn_r _ [362, 69, 70, 363, 364, 365, 2, 366, 28, 348, 349, 350, 351, 85, 86, 87, 117, 118, 119, 76, 77, 78, 79, 80, 461, 462, 463, 464, 465, 466, 467, 468, 469, 470, 471, 472, 473, 474, 475, 476, 477] (by decide +kernel) (by decide +kernel)) (goodIn_sub (fun _ h => List.mem_append_right _ h) (by decide +kernel))) (goodIn_sub (fun _ h => List.mem_append_left _ (List.mem_append_right _ h)) (by decide +kernel))
set_option maxRecDepth 20000 in
theorem gL_law_L_madeUp : GoodIn wsL_law (va_wsS RL 125 yL_madeUp wsL_madeUp) := goodIn_app (goodIn_of _ (by decide +kernel)) ggL_law_L_madeUp
set_option maxRecDepth 20000 in
theorem ggL_law_X2_madeUp : GoodIn wsL_law wsX2_madeUp := goodIn_r _ [370, 62, 356, 357, 358, 5, 359, 97, 174, 175, 176, 98, 99, 100, 101, 102, 103, 104, 105, 263, 264, 265, 266, 267, 58, 59, 60, 61, 63, 56, 268, 269, 270, 271, 51, 52, 272, 273, 274, 275, 48, 49, 54, 276, 277, 278, 279, 280, 64, 53, 281, 282, 283, 284, 50, 285, 286, 287, 288, 478, 479, 480, 481, 482, 483, 484, 485, 486, 487, 488, 489, 490, 491, 492, 493, 494, 495, 496, 497] (by decide +kernel) (by decide +kernel)
set_option maxRecDepth 20000 in
theorem gL_law_X2_madeUp : GoodIn wsL_law (wsV RL 127 RX2 yX2_madeUp wsX2_madeUp) := goodIn_app (goodIn_of _ (by decide +kernel)) ggL_law_X2_madeUp
set_option maxRecDepth 20000 in
theorem ggL_law_L_covered : GoodIn wsL_law wsL_covered := goodIn_ca (goodIn_ca (goodIn_r _ [373, 69, 70, 374, 375, 376, 2, 377, 29, 348, 349, 350, 351, 85, 86, 87, 117, 118, 119, 76, 77, 78, 79, 80, 461, 462, 463, 464, 465, 466, 467, 468, 469, 470, 471, 472, 473, 474, 475, 476, 477] (by decide +kernel) (by decide +kernel)) (goodIn_sub (fun _ h => List.mem_append_right _ h) (by decide +kernel))) (goodIn_sub (fun _ h => List.mem_append_left _ (List.mem_append_right _ h)) (by decide +kernel))
set_option maxRecDepth 20000 in
theorem gL_law_L_covered : GoodIn wsL_law (va_wsS RL 128 yL_covered wsL_covered) := goodIn_app (goodIn_of _ (by decide +kernel)) ggL_law_L_covered
set_option maxRecDepth 20000 in
theorem ggL_law_X2_covered : GoodIn wsL_law wsX2_covered := goodIn_r _ [381, 63, 356, 357, 358, 5, 359, 97, 174, 175, 176, 98, 99, 100, 101, 102, 103, 104, 105, 263, 264, 265, 266, 267, 58, 59, 60, 61, 62, 56, 268, 269, 270, 271, 51, 52, 272, 273, 274, 275, 48, 49, 54, 276, 277, 278, 279, 280, 64, 53, 281, 282, 283, 284, 50, 285, 286, 287, 288, 478, 479, 480, 481, 482, 483, 484, 485, 486, 487, 488, 489, 490, 491, 492, 493, 494, 495, 496, 497] (by decide +kernel) (by decide +kernel)
set_option maxRecDepth 20000 in
theorem gL_law_X2_covered : GoodIn wsL_law (wsV RL 130 RX2 yX2_covered wsX2_covered) := goodIn_app (goodIn_of _ (by decide +kernel)) ggL_law_X2_covered
set_option maxRecDepth 20000 in
theorem ggL_law_L_surplus : GoodIn wsL_law wsL_surplus := goodIn_ca (goodIn_ca (goodIn_r _ [384, 69, 70, 385, 386, 387, 2, 388, 30, 348, 349, 350, 351, 85, 86, 87, 117, 118, 119, 76, 77, 78, 79, 80, 461, 462, 463, 464, 465, 466, 467, 468, 469, 470, 471, 472, 473, 474, 475, 476, 477] (by decide +kernel) (by decide +kernel)) (goodIn_sub (fun _ h => List.mem_append_right _ h) (by decide +kernel))) (goodIn_sub (fun _ h => List.mem_append_left _ (List.mem_append_right _ h)) (by decide +kernel))
set_option maxRecDepth 20000 in
theorem gL_law_L_surplus : GoodIn wsL_law (va_wsS RL 131 yL_surplus wsL_surplus) := goodIn_app (goodIn_of _ (by decide +kernel)) ggL_law_L_surplus
set_option maxRecDepth 20000 in
theorem ggL_law_X2_surplus : GoodIn wsL_law wsX2_surplus := goodIn_r _ [392, 59, 356, 357, 358, 5, 359, 97, 174, 175, 176, 98, 99, 100, 101, 102, 103, 104, 105, 263, 264, 265, 266, 267, 58, 60, 61, 62, 63, 56, 268, 269, 270, 271, 51, 52, 272, 273, 274, 275, 48, 49, 54, 276, 277, 278, 279, 280, 64, 53, 281, 282, 283, 284, 50, 285, 286, 287, 288, 478, 479, 480, 481, 482, 483, 484, 485, 486, 487, 488, 489, 490, 491, 492, 493, 494, 495, 496, 497] (by decide +kernel) (by decide +kernel)
set_option maxRecDepth 20000 in
theorem gL_law_X2_surplus : GoodIn wsL_law (wsV RL 133 RX2 yX2_surplus wsX2_surplus) := goodIn_app (goodIn_of _ (by decide +kernel)) ggL_law_X2_surplus
set_option maxRecDepth 20000 in
theorem ggL_law_L_due : GoodIn wsL_law wsL_due := goodIn_ca (goodIn_ca (goodIn_r _ [395, 69, 70, 396, 397, 398, 2, 399, 31, 348, 349, 350, 351, 85, 86, 87, 117, 118, 119, 76, 77, 78, 79, 80, 461, 462, 463, 464, 465, 466, 467, 468, 469, 470, 471, 472, 473, 474, 475, 476, 477] (by decide +kernel) (by decide +kernel)) (goodIn_sub (fun _ h => List.mem_append_right _ h) (by decide +kernel))) (goodIn_sub (fun _ h => List.mem_append_left _ (List.mem_append_right _ h)) (by decide +kernel))
set_option maxRecDepth 20000 in
theorem gL_law_L_due : GoodIn wsL_law (va_wsS RL 134 yL_due wsL_due) := goodIn_app (goodIn_of _ (by decide +kernel)) ggL_law_L_due
set_option maxRecDepth 20000 in
theorem ggL_law_X2_due : GoodIn wsL_law wsX2_due := goodIn_r _ [403, 64, 356, 357, 358, 5, 359, 97, 174, 175, 176, 98, 99, 100, 101, 102, 103, 104, 105, 263, 264, 265, 266, 267, 58, 59, 60, 61, 62, 63, 56, 268, 269, 270, 271, 51, 52, 272, 273, 274, 275, 48, 49, 54, 276, 277, 278, 279, 280, 53, 281, 282, 283, 284, 50, 285, 286, 287, 288, 478, 479, 480, 481, 482, 483, 484, 485, 486, 487, 488, 489, 490, 491, 492, 493, 494, 495, 496, 497] (by decide +kernel) (by decide +kernel)
set_option maxRecDepth 20000 in
theorem gL_law_X2_due : GoodIn wsL_law (wsV RL 136 RX2 yX2_due wsX2_due) := goodIn_app (goodIn_of _ (by decide +kernel)) ggL_law_X2_due
set_option maxRecDepth 20000 in
theorem ggL_law_L_bill : GoodIn wsL_law wsL_bill := goodIn_ca (goodIn_ca (goodIn_r _ [406, 69, 70, 407, 408, 409, 2, 410, 32, 348, 349, 350, 351, 85, 86, 87, 117, 118, 119, 76, 77, 78, 79, 80, 461, 462, 463, 464, 465, 466, 467, 468, 469, 470, 471, 472, 473, 474, 475, 476, 477] (by decide +kernel) (by decide +kernel)) (goodIn_sub (fun _ h => List.mem_append_right _ h) (by decide +kernel))) (goodIn_sub (fun _ h => List.mem_append_left _ (List.mem_append_right _ h)) (by decide +kernel))
set_option maxRecDepth 20000 in
theorem gL_law_L_bill : GoodIn wsL_law (va_wsS RL 137 yL_bill wsL_bill) := goodIn_app (goodIn_of _ (by decide +kernel)) ggL_law_L_bill
set_option maxRecDepth 20000 in
theorem ggL_law_X2_bill : GoodIn wsL_law wsX2_bill := goodIn_r _ [414, 57, 356, 357, 358, 5, 359, 97, 174, 175, 176, 98, 99, 100, 101, 102, 103, 104, 105, 263, 264, 265, 266, 267, 58, 59, 60, 61, 62, 63, 56, 268, 269, 270, 271, 51, 52, 272, 273, 274, 275, 48, 49, 54, 276, 277, 278, 279, 280, 64, 53, 281, 282, 283, 284, 50, 285, 286, 287, 288, 478, 479, 480, 481, 482, 483, 484, 485, 486, 487, 488, 489, 490, 491, 492, 493, 494, 495, 496, 497] (by decide +kernel) (by decide +kernel)
set_option maxRecDepth 20000 in
theorem gL_law_X2_bill : GoodIn wsL_law (wsV RL 139 RX2 yX2_bill wsX2_bill) := goodIn_app (goodIn_of _ (by decide +kernel)) ggL_law_X2_bill
set_option maxRecDepth 20000 in
theorem ggL_law_L_makeUpLeft : GoodIn wsL_law wsL_makeUpLeft := goodIn_ca (goodIn_ca (goodIn_r _ [417, 69, 70, 418, 419, 420, 2, 421, 25, 348, 349, 350, 351, 85, 86, 87, 117, 118, 119, 76, 77, 78, 79, 80, 422, 423, 424, 24, 425, 41, 461, 462, 463, 464, 465, 466, 467, 468, 469, 470, 471, 472, 473, 474, 475, 476, 477, 498, 499, 500] (by decide +kernel) (by decide +kernel)) (goodIn_sub (fun _ h => List.mem_append_right _ h) (by decide +kernel))) (goodIn_sub (fun _ h => List.mem_append_left _ (List.mem_append_right _ h)) (by decide +kernel))
set_option maxRecDepth 20000 in
theorem gL_law_L_makeUpLeft : GoodIn wsL_law (va_wsS RL 140 yL_makeUpLeft wsL_makeUpLeft) := goodIn_app (goodIn_of _ (by decide +kernel)) ggL_law_L_makeUpLeft
set_option maxRecDepth 20000 in
theorem ggL_law_X2_makeUpLeft : GoodIn wsL_law wsX2_makeUpLeft := goodIn_r _ [429, 60, 356, 357, 358, 5, 359, 97, 174, 175, 176, 98, 99, 100, 101, 102, 103, 104, 105, 263, 264, 265, 266, 267, 58, 59, 61, 62, 63, 56, 268, 269, 270, 271, 51, 52, 272, 273, 274, 275, 48, 49, 54, 276, 277, 278, 279, 280, 64, 53, 281, 282, 283, 284, 50, 285, 286, 287, 288, 478, 479, 480, 481, 482, 483, 484, 485, 486, 487, 488, 489, 490, 491, 492, 493, 494, 495, 496, 497] (by decide +kernel) (by decide +kernel)
set_option maxRecDepth 20000 in
theorem gL_law_X2_makeUpLeft : GoodIn wsL_law (wsV RL 142 RX2 yX2_makeUpLeft wsX2_makeUpLeft) := goodIn_app (goodIn_of _ (by decide +kernel)) ggL_law_X2_makeUpLeft
set_option maxRecDepth 20000 in
theorem ggL_law_L_surplusLeft : GoodIn wsL_law wsL_surplusLeft := goodIn_ca (goodIn_ca (goodIn_r _ [432, 69, 70, 433, 434, 435, 2, 436, 26, 348, 349, 350, 351, 85, 86, 87, 117, 118, 119, 76, 77, 78, 79, 80, 422, 423, 424, 24, 425, 41, 461, 462, 463, 464, 465, 466, 467, 468, 469, 470, 471, 472, 473, 474, 475, 476, 477, 498, 499, 500] (by decide +kernel) (by decide +kernel)) (goodIn_sub (fun _ h => List.mem_append_right _ h) (by decide +kernel))) (goodIn_sub (fun _ h => List.mem_append_left _ (List.mem_append_right _ h)) (by decide +kernel))
set_option maxRecDepth 20000 in
theorem gL_law_L_surplusLeft : GoodIn wsL_law (va_wsS RL 143 yL_surplusLeft wsL_surplusLeft) := goodIn_app (goodIn_of _ (by decide +kernel)) ggL_law_L_surplusLeft
set_option maxRecDepth 20000 in
theorem ggL_law_X2_surplusLeft : GoodIn wsL_law wsX2_surplusLeft := goodIn_r _ [440, 61, 356, 357, 358, 5, 359, 97, 174, 175, 176, 98, 99, 100, 101, 102, 103, 104, 105, 263, 264, 265, 266, 267, 58, 59, 60, 62, 63, 56, 268, 269, 270, 271, 51, 52, 272, 273, 274, 275, 48, 49, 54, 276, 277, 278, 279, 280, 64, 53, 281, 282, 283, 284, 50, 285, 286, 287, 288, 478, 479, 480, 481, 482, 483, 484, 485, 486, 487, 488, 489, 490, 491, 492, 493, 494, 495, 496, 497] (by decide +kernel) (by decide +kernel)
set_option maxRecDepth 20000 in
theorem gL_law_X2_surplusLeft : GoodIn wsL_law (wsV RL 145 RX2 yX2_surplusLeft wsX2_surplusLeft) := goodIn_app (goodIn_of _ (by decide +kernel)) ggL_law_X2_surplusLeft
set_option maxRecDepth 20000 in
theorem ggL_law_X1_lapsed : GoodIn wsL_law wsX1_lapsed := goodIn_r _ [444, 25, 445, 446, 447, 24, 448, 128, 461, 462, 463, 464, 465, 466, 467, 468, 469, 470, 471, 472, 473, 474, 475, 476, 477, 498, 499, 500] (by decide +kernel) (by decide +kernel)
set_option maxRecDepth 20000 in
theorem gL_law_X1_lapsed : GoodIn wsL_law (wsV RL 146 RX1 yX1_lapsed wsX1_lapsed) := goodIn_app (goodIn_of _ (by decide +kernel)) ggL_law_X1_lapsed
set_option maxRecDepth 20000 in
theorem ggL_law_X2_lapsed : GoodIn wsL_law wsX2_lapsed := goodIn_r _ [452, 105, 267, 263, 264, 265, 5, 266, 97, 58, 59, 60, 61, 62, 63, 56, 268, 269, 270, 271, 51, 52, 272, 273, 274, 275, 48, 49, 54, 276, 277, 278, 279, 280, 64, 53, 281, 282, 283, 284, 50, 285, 286, 287, 288, 478, 479, 480, 481, 482, 483, 484, 485, 486, 487, 488, 489, 490, 491, 492, 493, 494, 495, 496, 497] (by decide +kernel) (by decide +kernel)
set_option maxRecDepth 20000 in
theorem gL_law_X2_lapsed : GoodIn wsL_law (wsV RL 149 RX2 yX2_lapsed wsX2_lapsed) := goodIn_app (goodIn_of _ (by decide +kernel)) ggL_law_X2_lapsed
set_option maxRecDepth 20000 in
theorem ggL_law_X1_open : GoodIn wsL_law wsX1_open := goodIn_r _ [456, 250, 251, 252, 253, 2, 254, 87, 31, 461, 462, 463, 464, 465, 466, 467, 468, 469, 470, 471, 472, 473, 474, 475, 476, 477] (by decide +kernel) (by decide +kernel)
set_option maxRecDepth 20000 in
theorem gL_law_X1_open : GoodIn wsL_law (wsV RL 150 RX1 yX1_open wsX1_open) := goodIn_app (goodIn_of _ (by decide +kernel)) ggL_law_X1_open
set_option maxRecDepth 20000 in
theorem ggL_law_X2_open : GoodIn wsL_law wsX2_open := goodIn_r _ [460, 105, 259, 260, 261, 5, 262, 97, 64, 57, 263, 264, 265, 266, 267, 58, 59, 60, 61, 62, 63, 56, 268, 269, 270, 271, 51, 52, 272, 273, 274, 275, 48, 49, 54, 276, 277, 278, 279, 280, 53, 281, 282, 283, 284, 50, 285, 286, 287, 288, 478, 479, 480, 481, 482, 483, 484, 485, 486, 487, 488, 489, 490, 491, 492, 493, 494, 495, 496, 497] (by decide +kernel) (by decide +kernel)
set_option maxRecDepth 20000 in
theorem gL_law_X2_open : GoodIn wsL_law (wsV RL 153 RX2 yX2_open wsX2_open) := goodIn_app (goodIn_of _ (by decide +kernel)) ggL_law_X2_open
theorem dL_law_0 : decode cL_law 0 = .ok (.new 8, 3) := by decide +kernel
theorem dL_law_3 : decode cL_law 3 = .ok (.dup, 1) := by decide +kernel
theorem dL_law_4 : decode cL_law 4 = .ok (.invokespecial 73, 3) := by decide +kernel
theorem dL_law_7 : decode cL_law 7 = .ok (.astore_n 1, 1) := by decide +kernel
theorem dL_law_8 : decode cL_law 8 = .ok (.new 74, 3) := by decide +kernel
theorem dL_law_11 : decode cL_law 11 = .ok (.dup, 1) := by decide +kernel
theorem dL_law_12 : decode cL_law 12 = .ok (.invokespecial 76, 3) := by decide +kernel
theorem dL_law_15 : decode cL_law 15 = .ok (.astore_n 2, 1) := by decide +kernel
theorem dL_law_16 : decode cL_law 16 = .ok (.iconst 1, 1) := by decide +kernel
theorem dL_law_17 : decode cL_law 17 = .ok (.newarray .long, 2) := by decide +kernel
theorem dL_law_19 : decode cL_law 19 = .ok (.astore_n 3, 1) := by decide +kernel
theorem dL_law_20 : decode cL_law 20 = .ok (.iconst 0, 1) := by decide +kernel
theorem dL_law_21 : decode cL_law 21 = .ok (.istore 4, 2) := by decide +kernel
theorem dL_law_23 : decode cL_law 23 = .ok (.iload 4, 2) := by decide +kernel
theorem dL_law_25 : decode cL_law 25 = .ok (.aload_n 0, 1) := by decide +kernel
theorem dL_law_26 : decode cL_law 26 = .ok (.arraylength, 1) := by decide +kernel
theorem dL_law_27 : decode cL_law 27 = .ok (.bipush 6, 2) := by decide +kernel
theorem dL_law_29 : decode cL_law 29 = .ok (.isub, 1) := by decide +kernel
theorem dL_law_30 : decode cL_law 30 = .ok (.if_icmp .gt 1249, 3) := by decide +kernel
theorem dL_law_33 : decode cL_law 33 = .ok (.aload_n 0, 1) := by decide +kernel
theorem dL_law_34 : decode cL_law 34 = .ok (.iload 4, 2) := by decide +kernel
theorem dL_law_36 : decode cL_law 36 = .ok (.iaload, 1) := by decide +kernel
theorem dL_law_37 : decode cL_law 37 = .ok (.bipush 31, 2) := by decide +kernel
theorem dL_law_39 : decode cL_law 39 = .ok (.iand, 1) := by decide +kernel
theorem dL_law_40 : decode cL_law 40 = .ok (.tableswitch 1233 0 20 #[100, 184, 252, 320, 388, 468, 511, 524, 580, 648, 704, 760, 816, 872, 928, 984, 1039, 1094, 1150, 1206, 1219], 100) := by decide +kernel
theorem dL_law_140 : decode cL_law 140 = .ok (.aload_n 1, 1) := by decide +kernel
theorem dL_law_141 : decode cL_law 141 = .ok (.aload_n 0, 1) := by decide +kernel
theorem dL_law_142 : decode cL_law 142 = .ok (.iload 4, 2) := by decide +kernel
theorem dL_law_144 : decode cL_law 144 = .ok (.iconst 1, 1) := by decide +kernel
theorem dL_law_145 : decode cL_law 145 = .ok (.iadd, 1) := by decide +kernel
theorem dL_law_146 : decode cL_law 146 = .ok (.iaload, 1) := by decide +kernel
theorem dL_law_147 : decode cL_law 147 = .ok (.aload_n 0, 1) := by decide +kernel
theorem dL_law_148 : decode cL_law 148 = .ok (.iload 4, 2) := by decide +kernel
theorem dL_law_150 : decode cL_law 150 = .ok (.iconst 2, 1) := by decide +kernel
theorem dL_law_151 : decode cL_law 151 = .ok (.iadd, 1) := by decide +kernel
theorem dL_law_152 : decode cL_law 152 = .ok (.iaload, 1) := by decide +kernel
theorem dL_law_153 : decode cL_law 153 = .ok (.aload_n 0, 1) := by decide +kernel
theorem dL_law_154 : decode cL_law 154 = .ok (.iload 4, 2) := by decide +kernel
theorem dL_law_156 : decode cL_law 156 = .ok (.iconst 3, 1) := by decide +kernel
theorem dL_law_157 : decode cL_law 157 = .ok (.iadd, 1) := by decide +kernel
theorem dL_law_158 : decode cL_law 158 = .ok (.iaload, 1) := by decide +kernel
theorem dL_law_159 : decode cL_law 159 = .ok (.aload_n 0, 1) := by decide +kernel
theorem dL_law_160 : decode cL_law 160 = .ok (.iload 4, 2) := by decide +kernel
theorem dL_law_162 : decode cL_law 162 = .ok (.iconst 4, 1) := by decide +kernel
theorem dL_law_163 : decode cL_law 163 = .ok (.iadd, 1) := by decide +kernel
theorem dL_law_164 : decode cL_law 164 = .ok (.iaload, 1) := by decide +kernel
theorem dL_law_165 : decode cL_law 165 = .ok (.aload_n 0, 1) := by decide +kernel
theorem dL_law_166 : decode cL_law 166 = .ok (.iload 4, 2) := by decide +kernel
theorem dL_law_168 : decode cL_law 168 = .ok (.iconst 5, 1) := by decide +kernel
theorem dL_law_169 : decode cL_law 169 = .ok (.iadd, 1) := by decide +kernel
theorem dL_law_170 : decode cL_law 170 = .ok (.iaload, 1) := by decide +kernel
theorem dL_law_171 : decode cL_law 171 = .ok (.invokestatic 77, 3) := by decide +kernel
theorem dL_law_174 : decode cL_law 174 = .ok (.istore 5, 2) := by decide +kernel
theorem dL_law_176 : decode cL_law 176 = .ok (.aload_n 2, 1) := by decide +kernel
theorem dL_law_177 : decode cL_law 177 = .ok (.aload_n 0, 1) := by decide +kernel
theorem dL_law_178 : decode cL_law 178 = .ok (.iload 4, 2) := by decide +kernel
theorem dL_law_180 : decode cL_law 180 = .ok (.iconst 1, 1) := by decide +kernel
theorem dL_law_181 : decode cL_law 181 = .ok (.iadd, 1) := by decide +kernel
theorem dL_law_182 : decode cL_law 182 = .ok (.iaload, 1) := by decide +kernel
theorem dL_law_183 : decode cL_law 183 = .ok (.aload_n 0, 1) := by decide +kernel
theorem dL_law_184 : decode cL_law 184 = .ok (.iload 4, 2) := by decide +kernel
theorem dL_law_186 : decode cL_law 186 = .ok (.iconst 2, 1) := by decide +kernel
theorem dL_law_187 : decode cL_law 187 = .ok (.iadd, 1) := by decide +kernel
theorem dL_law_188 : decode cL_law 188 = .ok (.iaload, 1) := by decide +kernel
theorem dL_law_189 : decode cL_law 189 = .ok (.aload_n 0, 1) := by decide +kernel
theorem dL_law_190 : decode cL_law 190 = .ok (.iload 4, 2) := by decide +kernel
theorem dL_law_192 : decode cL_law 192 = .ok (.iconst 3, 1) := by decide +kernel
theorem dL_law_193 : decode cL_law 193 = .ok (.iadd, 1) := by decide +kernel
theorem dL_law_194 : decode cL_law 194 = .ok (.iaload, 1) := by decide +kernel
theorem dL_law_195 : decode cL_law 195 = .ok (.aload_n 0, 1) := by decide +kernel
theorem dL_law_196 : decode cL_law 196 = .ok (.iload 4, 2) := by decide +kernel
theorem dL_law_198 : decode cL_law 198 = .ok (.iconst 4, 1) := by decide +kernel
theorem dL_law_199 : decode cL_law 199 = .ok (.iadd, 1) := by decide +kernel
theorem dL_law_200 : decode cL_law 200 = .ok (.iaload, 1) := by decide +kernel
theorem dL_law_201 : decode cL_law 201 = .ok (.aload_n 0, 1) := by decide +kernel
theorem dL_law_202 : decode cL_law 202 = .ok (.iload 4, 2) := by decide +kernel
theorem dL_law_204 : decode cL_law 204 = .ok (.iconst 5, 1) := by decide +kernel
theorem dL_law_205 : decode cL_law 205 = .ok (.iadd, 1) := by decide +kernel
theorem dL_law_206 : decode cL_law 206 = .ok (.iaload, 1) := by decide +kernel
theorem dL_law_207 : decode cL_law 207 = .ok (.invokevirtual 82, 3) := by decide +kernel
theorem dL_law_210 : decode cL_law 210 = .ok (.aload_n 2, 1) := by decide +kernel
theorem dL_law_211 : decode cL_law 211 = .ok (.invokevirtual 83, 3) := by decide +kernel
theorem dL_law_214 : decode cL_law 214 = .ok (.iload 5, 2) := by decide +kernel
theorem dL_law_216 : decode cL_law 216 = .ok (.if_icmp .eq 5, 3) := by decide +kernel
theorem dL_law_219 : decode cL_law 219 = .ok (.iconst 0, 1) := by decide +kernel
theorem dL_law_220 : decode cL_law 220 = .ok (.ireturn, 1) := by decide +kernel
theorem dL_law_221 : decode cL_law 221 = .ok (.goto 1052, 3) := by decide +kernel
theorem dL_law_224 : decode cL_law 224 = .ok (.aload_n 1, 1) := by decide +kernel
theorem dL_law_225 : decode cL_law 225 = .ok (.aload_n 0, 1) := by decide +kernel
theorem dL_law_226 : decode cL_law 226 = .ok (.iload 4, 2) := by decide +kernel
theorem dL_law_228 : decode cL_law 228 = .ok (.iconst 1, 1) := by decide +kernel
theorem dL_law_229 : decode cL_law 229 = .ok (.iadd, 1) := by decide +kernel
theorem dL_law_230 : decode cL_law 230 = .ok (.iaload, 1) := by decide +kernel
theorem dL_law_231 : decode cL_law 231 = .ok (.aload_n 0, 1) := by decide +kernel
theorem dL_law_232 : decode cL_law 232 = .ok (.iload 4, 2) := by decide +kernel
theorem dL_law_234 : decode cL_law 234 = .ok (.iconst 2, 1) := by decide +kernel
theorem dL_law_235 : decode cL_law 235 = .ok (.iadd, 1) := by decide +kernel
theorem dL_law_236 : decode cL_law 236 = .ok (.iaload, 1) := by decide +kernel
theorem dL_law_237 : decode cL_law 237 = .ok (.aload_n 3, 1) := by decide +kernel
theorem dL_law_238 : decode cL_law 238 = .ok (.invokestatic 87, 3) := by decide +kernel
theorem dL_law_241 : decode cL_law 241 = .ok (.istore 5, 2) := by decide +kernel
theorem dL_law_243 : decode cL_law 243 = .ok (.aload_n 2, 1) := by decide +kernel
theorem dL_law_244 : decode cL_law 244 = .ok (.aload_n 0, 1) := by decide +kernel
theorem dL_law_245 : decode cL_law 245 = .ok (.iload 4, 2) := by decide +kernel
theorem dL_law_247 : decode cL_law 247 = .ok (.iconst 1, 1) := by decide +kernel
theorem dL_law_248 : decode cL_law 248 = .ok (.iadd, 1) := by decide +kernel
theorem dL_law_249 : decode cL_law 249 = .ok (.iaload, 1) := by decide +kernel
theorem dL_law_250 : decode cL_law 250 = .ok (.aload_n 0, 1) := by decide +kernel
theorem dL_law_251 : decode cL_law 251 = .ok (.iload 4, 2) := by decide +kernel
theorem dL_law_253 : decode cL_law 253 = .ok (.iconst 2, 1) := by decide +kernel
theorem dL_law_254 : decode cL_law 254 = .ok (.iadd, 1) := by decide +kernel
theorem dL_law_255 : decode cL_law 255 = .ok (.iaload, 1) := by decide +kernel
theorem dL_law_256 : decode cL_law 256 = .ok (.invokevirtual 90, 3) := by decide +kernel
theorem dL_law_259 : decode cL_law 259 = .ok (.istore 6, 2) := by decide +kernel
theorem dL_law_261 : decode cL_law 261 = .ok (.aload_n 2, 1) := by decide +kernel
theorem dL_law_262 : decode cL_law 262 = .ok (.invokevirtual 83, 3) := by decide +kernel
theorem dL_law_265 : decode cL_law 265 = .ok (.iload 5, 2) := by decide +kernel
theorem dL_law_267 : decode cL_law 267 = .ok (.if_icmp .eq 5, 3) := by decide +kernel
theorem dL_law_270 : decode cL_law 270 = .ok (.iconst 0, 1) := by decide +kernel
theorem dL_law_271 : decode cL_law 271 = .ok (.ireturn, 1) := by decide +kernel
theorem dL_law_272 : decode cL_law 272 = .ok (.iload 5, 2) := by decide +kernel
theorem dL_law_274 : decode cL_law 274 = .ok (.ifCond .ne 15, 3) := by decide +kernel
theorem dL_law_277 : decode cL_law 277 = .ok (.aload_n 3, 1) := by decide +kernel
theorem dL_law_278 : decode cL_law 278 = .ok (.iconst 0, 1) := by decide +kernel
theorem dL_law_279 : decode cL_law 279 = .ok (.laload, 1) := by decide +kernel
theorem dL_law_280 : decode cL_law 280 = .ok (.iload 6, 2) := by decide +kernel
theorem dL_law_282 : decode cL_law 282 = .ok (.i2l, 1) := by decide +kernel
theorem dL_law_283 : decode cL_law 283 = .ok (.lcmp, 1) := by decide +kernel
theorem dL_law_284 : decode cL_law 284 = .ok (.ifCond .eq 5, 3) := by decide +kernel
theorem dL_law_287 : decode cL_law 287 = .ok (.iconst 0, 1) := by decide +kernel
theorem dL_law_288 : decode cL_law 288 = .ok (.ireturn, 1) := by decide +kernel
theorem dL_law_289 : decode cL_law 289 = .ok (.goto 984, 3) := by decide +kernel
theorem dL_law_292 : decode cL_law 292 = .ok (.aload_n 1, 1) := by decide +kernel
theorem dL_law_293 : decode cL_law 293 = .ok (.aload_n 0, 1) := by decide +kernel
theorem dL_law_294 : decode cL_law 294 = .ok (.iload 4, 2) := by decide +kernel
theorem dL_law_296 : decode cL_law 296 = .ok (.iconst 1, 1) := by decide +kernel
theorem dL_law_297 : decode cL_law 297 = .ok (.iadd, 1) := by decide +kernel
theorem dL_law_298 : decode cL_law 298 = .ok (.iaload, 1) := by decide +kernel
theorem dL_law_299 : decode cL_law 299 = .ok (.aload_n 0, 1) := by decide +kernel
theorem dL_law_300 : decode cL_law 300 = .ok (.iload 4, 2) := by decide +kernel
theorem dL_law_302 : decode cL_law 302 = .ok (.iconst 2, 1) := by decide +kernel
theorem dL_law_303 : decode cL_law 303 = .ok (.iadd, 1) := by decide +kernel
theorem dL_law_304 : decode cL_law 304 = .ok (.iaload, 1) := by decide +kernel
theorem dL_law_305 : decode cL_law 305 = .ok (.aload_n 3, 1) := by decide +kernel
theorem dL_law_306 : decode cL_law 306 = .ok (.invokestatic 91, 3) := by decide +kernel
theorem dL_law_309 : decode cL_law 309 = .ok (.istore 5, 2) := by decide +kernel
theorem dL_law_311 : decode cL_law 311 = .ok (.aload_n 2, 1) := by decide +kernel
theorem dL_law_312 : decode cL_law 312 = .ok (.aload_n 0, 1) := by decide +kernel
theorem dL_law_313 : decode cL_law 313 = .ok (.iload 4, 2) := by decide +kernel
theorem dL_law_315 : decode cL_law 315 = .ok (.iconst 1, 1) := by decide +kernel
theorem dL_law_316 : decode cL_law 316 = .ok (.iadd, 1) := by decide +kernel
theorem dL_law_317 : decode cL_law 317 = .ok (.iaload, 1) := by decide +kernel
theorem dL_law_318 : decode cL_law 318 = .ok (.aload_n 0, 1) := by decide +kernel
theorem dL_law_319 : decode cL_law 319 = .ok (.iload 4, 2) := by decide +kernel
theorem dL_law_321 : decode cL_law 321 = .ok (.iconst 2, 1) := by decide +kernel
theorem dL_law_322 : decode cL_law 322 = .ok (.iadd, 1) := by decide +kernel
theorem dL_law_323 : decode cL_law 323 = .ok (.iaload, 1) := by decide +kernel
theorem dL_law_324 : decode cL_law 324 = .ok (.invokevirtual 93, 3) := by decide +kernel
theorem dL_law_327 : decode cL_law 327 = .ok (.istore 6, 2) := by decide +kernel
theorem dL_law_329 : decode cL_law 329 = .ok (.aload_n 2, 1) := by decide +kernel
theorem dL_law_330 : decode cL_law 330 = .ok (.invokevirtual 83, 3) := by decide +kernel
theorem dL_law_333 : decode cL_law 333 = .ok (.iload 5, 2) := by decide +kernel
theorem dL_law_335 : decode cL_law 335 = .ok (.if_icmp .eq 5, 3) := by decide +kernel
theorem dL_law_338 : decode cL_law 338 = .ok (.iconst 0, 1) := by decide +kernel
theorem dL_law_339 : decode cL_law 339 = .ok (.ireturn, 1) := by decide +kernel
theorem dL_law_340 : decode cL_law 340 = .ok (.iload 5, 2) := by decide +kernel
theorem dL_law_342 : decode cL_law 342 = .ok (.ifCond .ne 15, 3) := by decide +kernel
theorem dL_law_345 : decode cL_law 345 = .ok (.aload_n 3, 1) := by decide +kernel
theorem dL_law_346 : decode cL_law 346 = .ok (.iconst 0, 1) := by decide +kernel
theorem dL_law_347 : decode cL_law 347 = .ok (.laload, 1) := by decide +kernel
theorem dL_law_348 : decode cL_law 348 = .ok (.iload 6, 2) := by decide +kernel
theorem dL_law_350 : decode cL_law 350 = .ok (.i2l, 1) := by decide +kernel
theorem dL_law_351 : decode cL_law 351 = .ok (.lcmp, 1) := by decide +kernel
theorem dL_law_352 : decode cL_law 352 = .ok (.ifCond .eq 5, 3) := by decide +kernel
theorem dL_law_355 : decode cL_law 355 = .ok (.iconst 0, 1) := by decide +kernel
theorem dL_law_356 : decode cL_law 356 = .ok (.ireturn, 1) := by decide +kernel
theorem dL_law_357 : decode cL_law 357 = .ok (.goto 916, 3) := by decide +kernel
theorem dL_law_360 : decode cL_law 360 = .ok (.aload_n 1, 1) := by decide +kernel
theorem dL_law_361 : decode cL_law 361 = .ok (.aload_n 0, 1) := by decide +kernel
theorem dL_law_362 : decode cL_law 362 = .ok (.iload 4, 2) := by decide +kernel
theorem dL_law_364 : decode cL_law 364 = .ok (.iconst 1, 1) := by decide +kernel
theorem dL_law_365 : decode cL_law 365 = .ok (.iadd, 1) := by decide +kernel
theorem dL_law_366 : decode cL_law 366 = .ok (.iaload, 1) := by decide +kernel
theorem dL_law_367 : decode cL_law 367 = .ok (.aload_n 0, 1) := by decide +kernel
theorem dL_law_368 : decode cL_law 368 = .ok (.iload 4, 2) := by decide +kernel
theorem dL_law_370 : decode cL_law 370 = .ok (.iconst 2, 1) := by decide +kernel
theorem dL_law_371 : decode cL_law 371 = .ok (.iadd, 1) := by decide +kernel
theorem dL_law_372 : decode cL_law 372 = .ok (.iaload, 1) := by decide +kernel
theorem dL_law_373 : decode cL_law 373 = .ok (.aload_n 3, 1) := by decide +kernel
theorem dL_law_374 : decode cL_law 374 = .ok (.invokestatic 94, 3) := by decide +kernel
theorem dL_law_377 : decode cL_law 377 = .ok (.istore 5, 2) := by decide +kernel
theorem dL_law_379 : decode cL_law 379 = .ok (.aload_n 2, 1) := by decide +kernel
theorem dL_law_380 : decode cL_law 380 = .ok (.aload_n 0, 1) := by decide +kernel
theorem dL_law_381 : decode cL_law 381 = .ok (.iload 4, 2) := by decide +kernel
theorem dL_law_383 : decode cL_law 383 = .ok (.iconst 1, 1) := by decide +kernel
theorem dL_law_384 : decode cL_law 384 = .ok (.iadd, 1) := by decide +kernel
theorem dL_law_385 : decode cL_law 385 = .ok (.iaload, 1) := by decide +kernel
theorem dL_law_386 : decode cL_law 386 = .ok (.aload_n 0, 1) := by decide +kernel
theorem dL_law_387 : decode cL_law 387 = .ok (.iload 4, 2) := by decide +kernel
theorem dL_law_389 : decode cL_law 389 = .ok (.iconst 2, 1) := by decide +kernel
theorem dL_law_390 : decode cL_law 390 = .ok (.iadd, 1) := by decide +kernel
theorem dL_law_391 : decode cL_law 391 = .ok (.iaload, 1) := by decide +kernel
theorem dL_law_392 : decode cL_law 392 = .ok (.invokevirtual 96, 3) := by decide +kernel
theorem dL_law_395 : decode cL_law 395 = .ok (.istore 6, 2) := by decide +kernel
theorem dL_law_397 : decode cL_law 397 = .ok (.aload_n 2, 1) := by decide +kernel
theorem dL_law_398 : decode cL_law 398 = .ok (.invokevirtual 83, 3) := by decide +kernel
theorem dL_law_401 : decode cL_law 401 = .ok (.iload 5, 2) := by decide +kernel
theorem dL_law_403 : decode cL_law 403 = .ok (.if_icmp .eq 5, 3) := by decide +kernel
theorem dL_law_406 : decode cL_law 406 = .ok (.iconst 0, 1) := by decide +kernel
theorem dL_law_407 : decode cL_law 407 = .ok (.ireturn, 1) := by decide +kernel
theorem dL_law_408 : decode cL_law 408 = .ok (.iload 5, 2) := by decide +kernel
theorem dL_law_410 : decode cL_law 410 = .ok (.ifCond .ne 15, 3) := by decide +kernel
theorem dL_law_413 : decode cL_law 413 = .ok (.aload_n 3, 1) := by decide +kernel
theorem dL_law_414 : decode cL_law 414 = .ok (.iconst 0, 1) := by decide +kernel
theorem dL_law_415 : decode cL_law 415 = .ok (.laload, 1) := by decide +kernel
theorem dL_law_416 : decode cL_law 416 = .ok (.iload 6, 2) := by decide +kernel
theorem dL_law_418 : decode cL_law 418 = .ok (.i2l, 1) := by decide +kernel
theorem dL_law_419 : decode cL_law 419 = .ok (.lcmp, 1) := by decide +kernel
theorem dL_law_420 : decode cL_law 420 = .ok (.ifCond .eq 5, 3) := by decide +kernel
theorem dL_law_423 : decode cL_law 423 = .ok (.iconst 0, 1) := by decide +kernel
theorem dL_law_424 : decode cL_law 424 = .ok (.ireturn, 1) := by decide +kernel
theorem dL_law_425 : decode cL_law 425 = .ok (.goto 848, 3) := by decide +kernel
theorem dL_law_428 : decode cL_law 428 = .ok (.aload_n 1, 1) := by decide +kernel
theorem dL_law_429 : decode cL_law 429 = .ok (.aload_n 0, 1) := by decide +kernel
theorem dL_law_430 : decode cL_law 430 = .ok (.iload 4, 2) := by decide +kernel
theorem dL_law_432 : decode cL_law 432 = .ok (.iconst 1, 1) := by decide +kernel
theorem dL_law_433 : decode cL_law 433 = .ok (.iadd, 1) := by decide +kernel
theorem dL_law_434 : decode cL_law 434 = .ok (.iaload, 1) := by decide +kernel
theorem dL_law_435 : decode cL_law 435 = .ok (.aload_n 0, 1) := by decide +kernel
theorem dL_law_436 : decode cL_law 436 = .ok (.iload 4, 2) := by decide +kernel
theorem dL_law_438 : decode cL_law 438 = .ok (.iconst 2, 1) := by decide +kernel
theorem dL_law_439 : decode cL_law 439 = .ok (.iadd, 1) := by decide +kernel
theorem dL_law_440 : decode cL_law 440 = .ok (.iaload, 1) := by decide +kernel
theorem dL_law_441 : decode cL_law 441 = .ok (.aload_n 0, 1) := by decide +kernel
theorem dL_law_442 : decode cL_law 442 = .ok (.iload 4, 2) := by decide +kernel
theorem dL_law_444 : decode cL_law 444 = .ok (.iconst 3, 1) := by decide +kernel
theorem dL_law_445 : decode cL_law 445 = .ok (.iadd, 1) := by decide +kernel
theorem dL_law_446 : decode cL_law 446 = .ok (.iaload, 1) := by decide +kernel
theorem dL_law_447 : decode cL_law 447 = .ok (.aload_n 3, 1) := by decide +kernel
theorem dL_law_448 : decode cL_law 448 = .ok (.invokestatic 97, 3) := by decide +kernel
theorem dL_law_451 : decode cL_law 451 = .ok (.istore 5, 2) := by decide +kernel
theorem dL_law_453 : decode cL_law 453 = .ok (.aload_n 2, 1) := by decide +kernel
theorem dL_law_454 : decode cL_law 454 = .ok (.aload_n 0, 1) := by decide +kernel
theorem dL_law_455 : decode cL_law 455 = .ok (.iload 4, 2) := by decide +kernel
theorem dL_law_457 : decode cL_law 457 = .ok (.iconst 1, 1) := by decide +kernel
theorem dL_law_458 : decode cL_law 458 = .ok (.iadd, 1) := by decide +kernel
theorem dL_law_459 : decode cL_law 459 = .ok (.iaload, 1) := by decide +kernel
theorem dL_law_460 : decode cL_law 460 = .ok (.aload_n 0, 1) := by decide +kernel
theorem dL_law_461 : decode cL_law 461 = .ok (.iload 4, 2) := by decide +kernel
theorem dL_law_463 : decode cL_law 463 = .ok (.iconst 2, 1) := by decide +kernel
theorem dL_law_464 : decode cL_law 464 = .ok (.iadd, 1) := by decide +kernel
theorem dL_law_465 : decode cL_law 465 = .ok (.iaload, 1) := by decide +kernel
theorem dL_law_466 : decode cL_law 466 = .ok (.aload_n 0, 1) := by decide +kernel
theorem dL_law_467 : decode cL_law 467 = .ok (.iload 4, 2) := by decide +kernel
theorem dL_law_469 : decode cL_law 469 = .ok (.iconst 3, 1) := by decide +kernel
theorem dL_law_470 : decode cL_law 470 = .ok (.iadd, 1) := by decide +kernel
theorem dL_law_471 : decode cL_law 471 = .ok (.iaload, 1) := by decide +kernel
theorem dL_law_472 : decode cL_law 472 = .ok (.invokevirtual 100, 3) := by decide +kernel
theorem dL_law_475 : decode cL_law 475 = .ok (.istore 6, 2) := by decide +kernel
theorem dL_law_477 : decode cL_law 477 = .ok (.aload_n 2, 1) := by decide +kernel
theorem dL_law_478 : decode cL_law 478 = .ok (.invokevirtual 83, 3) := by decide +kernel
theorem dL_law_481 : decode cL_law 481 = .ok (.iload 5, 2) := by decide +kernel
theorem dL_law_483 : decode cL_law 483 = .ok (.if_icmp .eq 5, 3) := by decide +kernel
theorem dL_law_486 : decode cL_law 486 = .ok (.iconst 0, 1) := by decide +kernel
theorem dL_law_487 : decode cL_law 487 = .ok (.ireturn, 1) := by decide +kernel
theorem dL_law_488 : decode cL_law 488 = .ok (.iload 5, 2) := by decide +kernel
theorem dL_law_490 : decode cL_law 490 = .ok (.ifCond .ne 15, 3) := by decide +kernel
theorem dL_law_493 : decode cL_law 493 = .ok (.aload_n 3, 1) := by decide +kernel
theorem dL_law_494 : decode cL_law 494 = .ok (.iconst 0, 1) := by decide +kernel
theorem dL_law_495 : decode cL_law 495 = .ok (.laload, 1) := by decide +kernel
theorem dL_law_496 : decode cL_law 496 = .ok (.iload 6, 2) := by decide +kernel
theorem dL_law_498 : decode cL_law 498 = .ok (.i2l, 1) := by decide +kernel
theorem dL_law_499 : decode cL_law 499 = .ok (.lcmp, 1) := by decide +kernel
theorem dL_law_500 : decode cL_law 500 = .ok (.ifCond .eq 5, 3) := by decide +kernel
theorem dL_law_503 : decode cL_law 503 = .ok (.iconst 0, 1) := by decide +kernel
theorem dL_law_504 : decode cL_law 504 = .ok (.ireturn, 1) := by decide +kernel
theorem dL_law_505 : decode cL_law 505 = .ok (.goto 768, 3) := by decide +kernel
theorem dL_law_508 : decode cL_law 508 = .ok (.aload_n 1, 1) := by decide +kernel
theorem dL_law_509 : decode cL_law 509 = .ok (.aload_n 3, 1) := by decide +kernel
theorem dL_law_510 : decode cL_law 510 = .ok (.invokestatic 101, 3) := by decide +kernel
theorem dL_law_513 : decode cL_law 513 = .ok (.istore 5, 2) := by decide +kernel
theorem dL_law_515 : decode cL_law 515 = .ok (.aload_n 2, 1) := by decide +kernel
theorem dL_law_516 : decode cL_law 516 = .ok (.invokevirtual 104, 3) := by decide +kernel
theorem dL_law_519 : decode cL_law 519 = .ok (.lstore 6, 2) := by decide +kernel
theorem dL_law_521 : decode cL_law 521 = .ok (.aload_n 2, 1) := by decide +kernel
theorem dL_law_522 : decode cL_law 522 = .ok (.invokevirtual 83, 3) := by decide +kernel
theorem dL_law_525 : decode cL_law 525 = .ok (.iload 5, 2) := by decide +kernel
theorem dL_law_527 : decode cL_law 527 = .ok (.if_icmp .eq 5, 3) := by decide +kernel
theorem dL_law_530 : decode cL_law 530 = .ok (.iconst 0, 1) := by decide +kernel
theorem dL_law_531 : decode cL_law 531 = .ok (.ireturn, 1) := by decide +kernel
theorem dL_law_532 : decode cL_law 532 = .ok (.iload 5, 2) := by decide +kernel
theorem dL_law_534 : decode cL_law 534 = .ok (.ifCond .ne 14, 3) := by decide +kernel
theorem dL_law_537 : decode cL_law 537 = .ok (.aload_n 3, 1) := by decide +kernel
theorem dL_law_538 : decode cL_law 538 = .ok (.iconst 0, 1) := by decide +kernel
theorem dL_law_539 : decode cL_law 539 = .ok (.laload, 1) := by decide +kernel
theorem dL_law_540 : decode cL_law 540 = .ok (.lload 6, 2) := by decide +kernel
theorem dL_law_542 : decode cL_law 542 = .ok (.lcmp, 1) := by decide +kernel
theorem dL_law_543 : decode cL_law 543 = .ok (.ifCond .eq 5, 3) := by decide +kernel
theorem dL_law_546 : decode cL_law 546 = .ok (.iconst 0, 1) := by decide +kernel
theorem dL_law_547 : decode cL_law 547 = .ok (.ireturn, 1) := by decide +kernel
theorem dL_law_548 : decode cL_law 548 = .ok (.goto 725, 3) := by decide +kernel
theorem dL_law_551 : decode cL_law 551 = .ok (.aload_n 1, 1) := by decide +kernel
theorem dL_law_552 : decode cL_law 552 = .ok (.invokevirtual 105, 3) := by decide +kernel
theorem dL_law_555 : decode cL_law 555 = .ok (.aload_n 2, 1) := by decide +kernel
theorem dL_law_556 : decode cL_law 556 = .ok (.invokevirtual 108, 3) := by decide +kernel
theorem dL_law_559 : decode cL_law 559 = .ok (.if_icmp .eq 714, 3) := by decide +kernel
theorem dL_law_562 : decode cL_law 562 = .ok (.iconst 0, 1) := by decide +kernel
theorem dL_law_563 : decode cL_law 563 = .ok (.ireturn, 1) := by decide +kernel
theorem dL_law_564 : decode cL_law 564 = .ok (.aload_n 1, 1) := by decide +kernel
theorem dL_law_565 : decode cL_law 565 = .ok (.aload_n 0, 1) := by decide +kernel
theorem dL_law_566 : decode cL_law 566 = .ok (.iload 4, 2) := by decide +kernel
theorem dL_law_568 : decode cL_law 568 = .ok (.iconst 1, 1) := by decide +kernel
theorem dL_law_569 : decode cL_law 569 = .ok (.iadd, 1) := by decide +kernel
theorem dL_law_570 : decode cL_law 570 = .ok (.iaload, 1) := by decide +kernel
theorem dL_law_571 : decode cL_law 571 = .ok (.aload_n 3, 1) := by decide +kernel
theorem dL_law_572 : decode cL_law 572 = .ok (.invokestatic 109, 3) := by decide +kernel
theorem dL_law_575 : decode cL_law 575 = .ok (.istore 5, 2) := by decide +kernel
theorem dL_law_577 : decode cL_law 577 = .ok (.aload_n 2, 1) := by decide +kernel
theorem dL_law_578 : decode cL_law 578 = .ok (.aload_n 0, 1) := by decide +kernel
theorem dL_law_579 : decode cL_law 579 = .ok (.iload 4, 2) := by decide +kernel
theorem dL_law_581 : decode cL_law 581 = .ok (.iconst 1, 1) := by decide +kernel
theorem dL_law_582 : decode cL_law 582 = .ok (.iadd, 1) := by decide +kernel
theorem dL_law_583 : decode cL_law 583 = .ok (.iaload, 1) := by decide +kernel
theorem dL_law_584 : decode cL_law 584 = .ok (.invokevirtual 112, 3) := by decide +kernel
theorem dL_law_587 : decode cL_law 587 = .ok (.istore 6, 2) := by decide +kernel
theorem dL_law_589 : decode cL_law 589 = .ok (.aload_n 2, 1) := by decide +kernel
theorem dL_law_590 : decode cL_law 590 = .ok (.invokevirtual 83, 3) := by decide +kernel
theorem dL_law_593 : decode cL_law 593 = .ok (.iload 5, 2) := by decide +kernel
theorem dL_law_595 : decode cL_law 595 = .ok (.if_icmp .eq 5, 3) := by decide +kernel
theorem dL_law_598 : decode cL_law 598 = .ok (.iconst 0, 1) := by decide +kernel
theorem dL_law_599 : decode cL_law 599 = .ok (.ireturn, 1) := by decide +kernel
theorem dL_law_600 : decode cL_law 600 = .ok (.iload 5, 2) := by decide +kernel
theorem dL_law_602 : decode cL_law 602 = .ok (.ifCond .ne 15, 3) := by decide +kernel
theorem dL_law_605 : decode cL_law 605 = .ok (.aload_n 3, 1) := by decide +kernel
end
section
theorem dL_law_606 : decode cL_law 606 = .ok (.iconst 0, 1) := by decide +kernel
theorem dL_law_607 : decode cL_law 607 = .ok (.laload, 1) := by decide +kernel
theorem dL_law_608 : decode cL_law 608 = .ok (.iload 6, 2) := by decide +kernel
theorem dL_law_610 : decode cL_law 610 = .ok (.i2l, 1) := by decide +kernel
theorem dL_law_611 : decode cL_law 611 = .ok (.lcmp, 1) := by decide +kernel
theorem dL_law_612 : decode cL_law 612 = .ok (.ifCond .eq 5, 3) := by decide +kernel
theorem dL_law_615 : decode cL_law 615 = .ok (.iconst 0, 1) := by decide +kernel
theorem dL_law_616 : decode cL_law 616 = .ok (.ireturn, 1) := by decide +kernel
theorem dL_law_617 : decode cL_law 617 = .ok (.goto 656, 3) := by decide +kernel
theorem dL_law_620 : decode cL_law 620 = .ok (.aload_n 1, 1) := by decide +kernel
theorem dL_law_621 : decode cL_law 621 = .ok (.aload_n 0, 1) := by decide +kernel
theorem dL_law_622 : decode cL_law 622 = .ok (.iload 4, 2) := by decide +kernel
theorem dL_law_624 : decode cL_law 624 = .ok (.iconst 1, 1) := by decide +kernel
theorem dL_law_625 : decode cL_law 625 = .ok (.iadd, 1) := by decide +kernel
theorem dL_law_626 : decode cL_law 626 = .ok (.iaload, 1) := by decide +kernel
theorem dL_law_627 : decode cL_law 627 = .ok (.aload_n 0, 1) := by decide +kernel
theorem dL_law_628 : decode cL_law 628 = .ok (.iload 4, 2) := by decide +kernel
theorem dL_law_630 : decode cL_law 630 = .ok (.iconst 2, 1) := by decide +kernel
theorem dL_law_631 : decode cL_law 631 = .ok (.iadd, 1) := by decide +kernel
theorem dL_law_632 : decode cL_law 632 = .ok (.iaload, 1) := by decide +kernel
theorem dL_law_633 : decode cL_law 633 = .ok (.aload_n 3, 1) := by decide +kernel
theorem dL_law_634 : decode cL_law 634 = .ok (.invokestatic 113, 3) := by decide +kernel
theorem dL_law_637 : decode cL_law 637 = .ok (.istore 5, 2) := by decide +kernel
theorem dL_law_639 : decode cL_law 639 = .ok (.aload_n 2, 1) := by decide +kernel
theorem dL_law_640 : decode cL_law 640 = .ok (.aload_n 0, 1) := by decide +kernel
theorem dL_law_641 : decode cL_law 641 = .ok (.iload 4, 2) := by decide +kernel
theorem dL_law_643 : decode cL_law 643 = .ok (.iconst 1, 1) := by decide +kernel
theorem dL_law_644 : decode cL_law 644 = .ok (.iadd, 1) := by decide +kernel
theorem dL_law_645 : decode cL_law 645 = .ok (.iaload, 1) := by decide +kernel
theorem dL_law_646 : decode cL_law 646 = .ok (.aload_n 0, 1) := by decide +kernel
theorem dL_law_647 : decode cL_law 647 = .ok (.iload 4, 2) := by decide +kernel
theorem dL_law_649 : decode cL_law 649 = .ok (.iconst 2, 1) := by decide +kernel
theorem dL_law_650 : decode cL_law 650 = .ok (.iadd, 1) := by decide +kernel
theorem dL_law_651 : decode cL_law 651 = .ok (.iaload, 1) := by decide +kernel
theorem dL_law_652 : decode cL_law 652 = .ok (.invokevirtual 115, 3) := by decide +kernel
theorem dL_law_655 : decode cL_law 655 = .ok (.istore 6, 2) := by decide +kernel
theorem dL_law_657 : decode cL_law 657 = .ok (.aload_n 2, 1) := by decide +kernel
theorem dL_law_658 : decode cL_law 658 = .ok (.invokevirtual 83, 3) := by decide +kernel
theorem dL_law_661 : decode cL_law 661 = .ok (.iload 5, 2) := by decide +kernel
theorem dL_law_663 : decode cL_law 663 = .ok (.if_icmp .eq 5, 3) := by decide +kernel
theorem dL_law_666 : decode cL_law 666 = .ok (.iconst 0, 1) := by decide +kernel
theorem dL_law_667 : decode cL_law 667 = .ok (.ireturn, 1) := by decide +kernel
theorem dL_law_668 : decode cL_law 668 = .ok (.iload 5, 2) := by decide +kernel
theorem dL_law_670 : decode cL_law 670 = .ok (.ifCond .ne 15, 3) := by decide +kernel
theorem dL_law_673 : decode cL_law 673 = .ok (.aload_n 3, 1) := by decide +kernel
theorem dL_law_674 : decode cL_law 674 = .ok (.iconst 0, 1) := by decide +kernel
theorem dL_law_675 : decode cL_law 675 = .ok (.laload, 1) := by decide +kernel
theorem dL_law_676 : decode cL_law 676 = .ok (.iload 6, 2) := by decide +kernel
theorem dL_law_678 : decode cL_law 678 = .ok (.i2l, 1) := by decide +kernel
theorem dL_law_679 : decode cL_law 679 = .ok (.lcmp, 1) := by decide +kernel
theorem dL_law_680 : decode cL_law 680 = .ok (.ifCond .eq 5, 3) := by decide +kernel
theorem dL_law_683 : decode cL_law 683 = .ok (.iconst 0, 1) := by decide +kernel
theorem dL_law_684 : decode cL_law 684 = .ok (.ireturn, 1) := by decide +kernel
theorem dL_law_685 : decode cL_law 685 = .ok (.goto 588, 3) := by decide +kernel
theorem dL_law_688 : decode cL_law 688 = .ok (.aload_n 1, 1) := by decide +kernel
theorem dL_law_689 : decode cL_law 689 = .ok (.aload_n 0, 1) := by decide +kernel
theorem dL_law_690 : decode cL_law 690 = .ok (.iload 4, 2) := by decide +kernel
theorem dL_law_692 : decode cL_law 692 = .ok (.iconst 1, 1) := by decide +kernel
theorem dL_law_693 : decode cL_law 693 = .ok (.iadd, 1) := by decide +kernel
theorem dL_law_694 : decode cL_law 694 = .ok (.iaload, 1) := by decide +kernel
theorem dL_law_695 : decode cL_law 695 = .ok (.aload_n 3, 1) := by decide +kernel
theorem dL_law_696 : decode cL_law 696 = .ok (.invokestatic 116, 3) := by decide +kernel
theorem dL_law_699 : decode cL_law 699 = .ok (.istore 5, 2) := by decide +kernel
theorem dL_law_701 : decode cL_law 701 = .ok (.aload_n 2, 1) := by decide +kernel
theorem dL_law_702 : decode cL_law 702 = .ok (.aload_n 0, 1) := by decide +kernel
theorem dL_law_703 : decode cL_law 703 = .ok (.iload 4, 2) := by decide +kernel
theorem dL_law_705 : decode cL_law 705 = .ok (.iconst 1, 1) := by decide +kernel
theorem dL_law_706 : decode cL_law 706 = .ok (.iadd, 1) := by decide +kernel
theorem dL_law_707 : decode cL_law 707 = .ok (.iaload, 1) := by decide +kernel
theorem dL_law_708 : decode cL_law 708 = .ok (.invokevirtual 118, 3) := by decide +kernel
theorem dL_law_711 : decode cL_law 711 = .ok (.istore 6, 2) := by decide +kernel
theorem dL_law_713 : decode cL_law 713 = .ok (.aload_n 2, 1) := by decide +kernel
theorem dL_law_714 : decode cL_law 714 = .ok (.invokevirtual 83, 3) := by decide +kernel
theorem dL_law_717 : decode cL_law 717 = .ok (.iload 5, 2) := by decide +kernel
theorem dL_law_719 : decode cL_law 719 = .ok (.if_icmp .eq 5, 3) := by decide +kernel
theorem dL_law_722 : decode cL_law 722 = .ok (.iconst 0, 1) := by decide +kernel
theorem dL_law_723 : decode cL_law 723 = .ok (.ireturn, 1) := by decide +kernel
theorem dL_law_724 : decode cL_law 724 = .ok (.iload 5, 2) := by decide +kernel
theorem dL_law_726 : decode cL_law 726 = .ok (.ifCond .ne 15, 3) := by decide +kernel
theorem dL_law_729 : decode cL_law 729 = .ok (.aload_n 3, 1) := by decide +kernel
theorem dL_law_730 : decode cL_law 730 = .ok (.iconst 0, 1) := by decide +kernel
theorem dL_law_731 : decode cL_law 731 = .ok (.laload, 1) := by decide +kernel
theorem dL_law_732 : decode cL_law 732 = .ok (.iload 6, 2) := by decide +kernel
theorem dL_law_734 : decode cL_law 734 = .ok (.i2l, 1) := by decide +kernel
theorem dL_law_735 : decode cL_law 735 = .ok (.lcmp, 1) := by decide +kernel
theorem dL_law_736 : decode cL_law 736 = .ok (.ifCond .eq 5, 3) := by decide +kernel
theorem dL_law_739 : decode cL_law 739 = .ok (.iconst 0, 1) := by decide +kernel
theorem dL_law_740 : decode cL_law 740 = .ok (.ireturn, 1) := by decide +kernel
theorem dL_law_741 : decode cL_law 741 = .ok (.goto 532, 3) := by decide +kernel
theorem dL_law_744 : decode cL_law 744 = .ok (.aload_n 1, 1) := by decide +kernel
theorem dL_law_745 : decode cL_law 745 = .ok (.aload_n 0, 1) := by decide +kernel
theorem dL_law_746 : decode cL_law 746 = .ok (.iload 4, 2) := by decide +kernel
theorem dL_law_748 : decode cL_law 748 = .ok (.iconst 1, 1) := by decide +kernel
theorem dL_law_749 : decode cL_law 749 = .ok (.iadd, 1) := by decide +kernel
theorem dL_law_750 : decode cL_law 750 = .ok (.iaload, 1) := by decide +kernel
theorem dL_law_751 : decode cL_law 751 = .ok (.aload_n 3, 1) := by decide +kernel
theorem dL_law_752 : decode cL_law 752 = .ok (.invokestatic 119, 3) := by decide +kernel
theorem dL_law_755 : decode cL_law 755 = .ok (.istore 5, 2) := by decide +kernel
theorem dL_law_757 : decode cL_law 757 = .ok (.aload_n 2, 1) := by decide +kernel
theorem dL_law_758 : decode cL_law 758 = .ok (.aload_n 0, 1) := by decide +kernel
theorem dL_law_759 : decode cL_law 759 = .ok (.iload 4, 2) := by decide +kernel
theorem dL_law_761 : decode cL_law 761 = .ok (.iconst 1, 1) := by decide +kernel
theorem dL_law_762 : decode cL_law 762 = .ok (.iadd, 1) := by decide +kernel
theorem dL_law_763 : decode cL_law 763 = .ok (.iaload, 1) := by decide +kernel
theorem dL_law_764 : decode cL_law 764 = .ok (.invokevirtual 121, 3) := by decide +kernel
theorem dL_law_767 : decode cL_law 767 = .ok (.istore 6, 2) := by decide +kernel
theorem dL_law_769 : decode cL_law 769 = .ok (.aload_n 2, 1) := by decide +kernel
theorem dL_law_770 : decode cL_law 770 = .ok (.invokevirtual 83, 3) := by decide +kernel
theorem dL_law_773 : decode cL_law 773 = .ok (.iload 5, 2) := by decide +kernel
theorem dL_law_775 : decode cL_law 775 = .ok (.if_icmp .eq 5, 3) := by decide +kernel
theorem dL_law_778 : decode cL_law 778 = .ok (.iconst 0, 1) := by decide +kernel
theorem dL_law_779 : decode cL_law 779 = .ok (.ireturn, 1) := by decide +kernel
theorem dL_law_780 : decode cL_law 780 = .ok (.iload 5, 2) := by decide +kernel
theorem dL_law_782 : decode cL_law 782 = .ok (.ifCond .ne 15, 3) := by decide +kernel
theorem dL_law_785 : decode cL_law 785 = .ok (.aload_n 3, 1) := by decide +kernel
theorem dL_law_786 : decode cL_law 786 = .ok (.iconst 0, 1) := by decide +kernel
theorem dL_law_787 : decode cL_law 787 = .ok (.laload, 1) := by decide +kernel
theorem dL_law_788 : decode cL_law 788 = .ok (.iload 6, 2) := by decide +kernel
theorem dL_law_790 : decode cL_law 790 = .ok (.i2l, 1) := by decide +kernel
theorem dL_law_791 : decode cL_law 791 = .ok (.lcmp, 1) := by decide +kernel
theorem dL_law_792 : decode cL_law 792 = .ok (.ifCond .eq 5, 3) := by decide +kernel
theorem dL_law_795 : decode cL_law 795 = .ok (.iconst 0, 1) := by decide +kernel
theorem dL_law_796 : decode cL_law 796 = .ok (.ireturn, 1) := by decide +kernel
theorem dL_law_797 : decode cL_law 797 = .ok (.goto 476, 3) := by decide +kernel
theorem dL_law_800 : decode cL_law 800 = .ok (.aload_n 1, 1) := by decide +kernel
theorem dL_law_801 : decode cL_law 801 = .ok (.aload_n 0, 1) := by decide +kernel
theorem dL_law_802 : decode cL_law 802 = .ok (.iload 4, 2) := by decide +kernel
theorem dL_law_804 : decode cL_law 804 = .ok (.iconst 1, 1) := by decide +kernel
theorem dL_law_805 : decode cL_law 805 = .ok (.iadd, 1) := by decide +kernel
theorem dL_law_806 : decode cL_law 806 = .ok (.iaload, 1) := by decide +kernel
theorem dL_law_807 : decode cL_law 807 = .ok (.aload_n 3, 1) := by decide +kernel
theorem dL_law_808 : decode cL_law 808 = .ok (.invokestatic 122, 3) := by decide +kernel
theorem dL_law_811 : decode cL_law 811 = .ok (.istore 5, 2) := by decide +kernel
theorem dL_law_813 : decode cL_law 813 = .ok (.aload_n 2, 1) := by decide +kernel
theorem dL_law_814 : decode cL_law 814 = .ok (.aload_n 0, 1) := by decide +kernel
theorem dL_law_815 : decode cL_law 815 = .ok (.iload 4, 2) := by decide +kernel
theorem dL_law_817 : decode cL_law 817 = .ok (.iconst 1, 1) := by decide +kernel
theorem dL_law_818 : decode cL_law 818 = .ok (.iadd, 1) := by decide +kernel
theorem dL_law_819 : decode cL_law 819 = .ok (.iaload, 1) := by decide +kernel
theorem dL_law_820 : decode cL_law 820 = .ok (.invokevirtual 124, 3) := by decide +kernel
theorem dL_law_823 : decode cL_law 823 = .ok (.istore 6, 2) := by decide +kernel
theorem dL_law_825 : decode cL_law 825 = .ok (.aload_n 2, 1) := by decide +kernel
theorem dL_law_826 : decode cL_law 826 = .ok (.invokevirtual 83, 3) := by decide +kernel
theorem dL_law_829 : decode cL_law 829 = .ok (.iload 5, 2) := by decide +kernel
theorem dL_law_831 : decode cL_law 831 = .ok (.if_icmp .eq 5, 3) := by decide +kernel
theorem dL_law_834 : decode cL_law 834 = .ok (.iconst 0, 1) := by decide +kernel
theorem dL_law_835 : decode cL_law 835 = .ok (.ireturn, 1) := by decide +kernel
theorem dL_law_836 : decode cL_law 836 = .ok (.iload 5, 2) := by decide +kernel
theorem dL_law_838 : decode cL_law 838 = .ok (.ifCond .ne 15, 3) := by decide +kernel
theorem dL_law_841 : decode cL_law 841 = .ok (.aload_n 3, 1) := by decide +kernel
theorem dL_law_842 : decode cL_law 842 = .ok (.iconst 0, 1) := by decide +kernel
theorem dL_law_843 : decode cL_law 843 = .ok (.laload, 1) := by decide +kernel
theorem dL_law_844 : decode cL_law 844 = .ok (.iload 6, 2) := by decide +kernel
theorem dL_law_846 : decode cL_law 846 = .ok (.i2l, 1) := by decide +kernel
theorem dL_law_847 : decode cL_law 847 = .ok (.lcmp, 1) := by decide +kernel
theorem dL_law_848 : decode cL_law 848 = .ok (.ifCond .eq 5, 3) := by decide +kernel
theorem dL_law_851 : decode cL_law 851 = .ok (.iconst 0, 1) := by decide +kernel
theorem dL_law_852 : decode cL_law 852 = .ok (.ireturn, 1) := by decide +kernel
theorem dL_law_853 : decode cL_law 853 = .ok (.goto 420, 3) := by decide +kernel
theorem dL_law_856 : decode cL_law 856 = .ok (.aload_n 1, 1) := by decide +kernel
theorem dL_law_857 : decode cL_law 857 = .ok (.aload_n 0, 1) := by decide +kernel
theorem dL_law_858 : decode cL_law 858 = .ok (.iload 4, 2) := by decide +kernel
theorem dL_law_860 : decode cL_law 860 = .ok (.iconst 1, 1) := by decide +kernel
theorem dL_law_861 : decode cL_law 861 = .ok (.iadd, 1) := by decide +kernel
theorem dL_law_862 : decode cL_law 862 = .ok (.iaload, 1) := by decide +kernel
theorem dL_law_863 : decode cL_law 863 = .ok (.aload_n 3, 1) := by decide +kernel
theorem dL_law_864 : decode cL_law 864 = .ok (.invokestatic 125, 3) := by decide +kernel
theorem dL_law_867 : decode cL_law 867 = .ok (.istore 5, 2) := by decide +kernel
theorem dL_law_869 : decode cL_law 869 = .ok (.aload_n 2, 1) := by decide +kernel
theorem dL_law_870 : decode cL_law 870 = .ok (.aload_n 0, 1) := by decide +kernel
theorem dL_law_871 : decode cL_law 871 = .ok (.iload 4, 2) := by decide +kernel
theorem dL_law_873 : decode cL_law 873 = .ok (.iconst 1, 1) := by decide +kernel
theorem dL_law_874 : decode cL_law 874 = .ok (.iadd, 1) := by decide +kernel
theorem dL_law_875 : decode cL_law 875 = .ok (.iaload, 1) := by decide +kernel
theorem dL_law_876 : decode cL_law 876 = .ok (.invokevirtual 127, 3) := by decide +kernel
theorem dL_law_879 : decode cL_law 879 = .ok (.istore 6, 2) := by decide +kernel
theorem dL_law_881 : decode cL_law 881 = .ok (.aload_n 2, 1) := by decide +kernel
theorem dL_law_882 : decode cL_law 882 = .ok (.invokevirtual 83, 3) := by decide +kernel
theorem dL_law_885 : decode cL_law 885 = .ok (.iload 5, 2) := by decide +kernel
theorem dL_law_887 : decode cL_law 887 = .ok (.if_icmp .eq 5, 3) := by decide +kernel
theorem dL_law_890 : decode cL_law 890 = .ok (.iconst 0, 1) := by decide +kernel
theorem dL_law_891 : decode cL_law 891 = .ok (.ireturn, 1) := by decide +kernel
theorem dL_law_892 : decode cL_law 892 = .ok (.iload 5, 2) := by decide +kernel
theorem dL_law_894 : decode cL_law 894 = .ok (.ifCond .ne 15, 3) := by decide +kernel
theorem dL_law_897 : decode cL_law 897 = .ok (.aload_n 3, 1) := by decide +kernel
theorem dL_law_898 : decode cL_law 898 = .ok (.iconst 0, 1) := by decide +kernel
theorem dL_law_899 : decode cL_law 899 = .ok (.laload, 1) := by decide +kernel
theorem dL_law_900 : decode cL_law 900 = .ok (.iload 6, 2) := by decide +kernel
theorem dL_law_902 : decode cL_law 902 = .ok (.i2l, 1) := by decide +kernel
theorem dL_law_903 : decode cL_law 903 = .ok (.lcmp, 1) := by decide +kernel
theorem dL_law_904 : decode cL_law 904 = .ok (.ifCond .eq 5, 3) := by decide +kernel
theorem dL_law_907 : decode cL_law 907 = .ok (.iconst 0, 1) := by decide +kernel
theorem dL_law_908 : decode cL_law 908 = .ok (.ireturn, 1) := by decide +kernel
theorem dL_law_909 : decode cL_law 909 = .ok (.goto 364, 3) := by decide +kernel
theorem dL_law_912 : decode cL_law 912 = .ok (.aload_n 1, 1) := by decide +kernel
theorem dL_law_913 : decode cL_law 913 = .ok (.aload_n 0, 1) := by decide +kernel
theorem dL_law_914 : decode cL_law 914 = .ok (.iload 4, 2) := by decide +kernel
theorem dL_law_916 : decode cL_law 916 = .ok (.iconst 1, 1) := by decide +kernel
theorem dL_law_917 : decode cL_law 917 = .ok (.iadd, 1) := by decide +kernel
theorem dL_law_918 : decode cL_law 918 = .ok (.iaload, 1) := by decide +kernel
theorem dL_law_919 : decode cL_law 919 = .ok (.aload_n 3, 1) := by decide +kernel
theorem dL_law_920 : decode cL_law 920 = .ok (.invokestatic 128, 3) := by decide +kernel
theorem dL_law_923 : decode cL_law 923 = .ok (.istore 5, 2) := by decide +kernel
theorem dL_law_925 : decode cL_law 925 = .ok (.aload_n 2, 1) := by decide +kernel
theorem dL_law_926 : decode cL_law 926 = .ok (.aload_n 0, 1) := by decide +kernel
theorem dL_law_927 : decode cL_law 927 = .ok (.iload 4, 2) := by decide +kernel
theorem dL_law_929 : decode cL_law 929 = .ok (.iconst 1, 1) := by decide +kernel
theorem dL_law_930 : decode cL_law 930 = .ok (.iadd, 1) := by decide +kernel
theorem dL_law_931 : decode cL_law 931 = .ok (.iaload, 1) := by decide +kernel
theorem dL_law_932 : decode cL_law 932 = .ok (.invokevirtual 130, 3) := by decide +kernel
theorem dL_law_935 : decode cL_law 935 = .ok (.istore 6, 2) := by decide +kernel
theorem dL_law_937 : decode cL_law 937 = .ok (.aload_n 2, 1) := by decide +kernel
theorem dL_law_938 : decode cL_law 938 = .ok (.invokevirtual 83, 3) := by decide +kernel
theorem dL_law_941 : decode cL_law 941 = .ok (.iload 5, 2) := by decide +kernel
theorem dL_law_943 : decode cL_law 943 = .ok (.if_icmp .eq 5, 3) := by decide +kernel
theorem dL_law_946 : decode cL_law 946 = .ok (.iconst 0, 1) := by decide +kernel
theorem dL_law_947 : decode cL_law 947 = .ok (.ireturn, 1) := by decide +kernel
theorem dL_law_948 : decode cL_law 948 = .ok (.iload 5, 2) := by decide +kernel
theorem dL_law_950 : decode cL_law 950 = .ok (.ifCond .ne 15, 3) := by decide +kernel
theorem dL_law_953 : decode cL_law 953 = .ok (.aload_n 3, 1) := by decide +kernel
theorem dL_law_954 : decode cL_law 954 = .ok (.iconst 0, 1) := by decide +kernel
theorem dL_law_955 : decode cL_law 955 = .ok (.laload, 1) := by decide +kernel
theorem dL_law_956 : decode cL_law 956 = .ok (.iload 6, 2) := by decide +kernel
theorem dL_law_958 : decode cL_law 958 = .ok (.i2l, 1) := by decide +kernel
theorem dL_law_959 : decode cL_law 959 = .ok (.lcmp, 1) := by decide +kernel
theorem dL_law_960 : decode cL_law 960 = .ok (.ifCond .eq 5, 3) := by decide +kernel
theorem dL_law_963 : decode cL_law 963 = .ok (.iconst 0, 1) := by decide +kernel
theorem dL_law_964 : decode cL_law 964 = .ok (.ireturn, 1) := by decide +kernel
theorem dL_law_965 : decode cL_law 965 = .ok (.goto 308, 3) := by decide +kernel
theorem dL_law_968 : decode cL_law 968 = .ok (.aload_n 1, 1) := by decide +kernel
theorem dL_law_969 : decode cL_law 969 = .ok (.aload_n 0, 1) := by decide +kernel
theorem dL_law_970 : decode cL_law 970 = .ok (.iload 4, 2) := by decide +kernel
theorem dL_law_972 : decode cL_law 972 = .ok (.iconst 1, 1) := by decide +kernel
theorem dL_law_973 : decode cL_law 973 = .ok (.iadd, 1) := by decide +kernel
theorem dL_law_974 : decode cL_law 974 = .ok (.iaload, 1) := by decide +kernel
theorem dL_law_975 : decode cL_law 975 = .ok (.aload_n 3, 1) := by decide +kernel
theorem dL_law_976 : decode cL_law 976 = .ok (.invokestatic 131, 3) := by decide +kernel
theorem dL_law_979 : decode cL_law 979 = .ok (.istore 5, 2) := by decide +kernel
theorem dL_law_981 : decode cL_law 981 = .ok (.aload_n 2, 1) := by decide +kernel
theorem dL_law_982 : decode cL_law 982 = .ok (.aload_n 0, 1) := by decide +kernel
theorem dL_law_983 : decode cL_law 983 = .ok (.iload 4, 2) := by decide +kernel
theorem dL_law_985 : decode cL_law 985 = .ok (.iconst 1, 1) := by decide +kernel
theorem dL_law_986 : decode cL_law 986 = .ok (.iadd, 1) := by decide +kernel
theorem dL_law_987 : decode cL_law 987 = .ok (.iaload, 1) := by decide +kernel
theorem dL_law_988 : decode cL_law 988 = .ok (.invokevirtual 133, 3) := by decide +kernel
theorem dL_law_991 : decode cL_law 991 = .ok (.istore 6, 2) := by decide +kernel
theorem dL_law_993 : decode cL_law 993 = .ok (.aload_n 2, 1) := by decide +kernel
theorem dL_law_994 : decode cL_law 994 = .ok (.invokevirtual 83, 3) := by decide +kernel
theorem dL_law_997 : decode cL_law 997 = .ok (.iload 5, 2) := by decide +kernel
theorem dL_law_999 : decode cL_law 999 = .ok (.if_icmp .eq 5, 3) := by decide +kernel
theorem dL_law_1002 : decode cL_law 1002 = .ok (.iconst 0, 1) := by decide +kernel
theorem dL_law_1003 : decode cL_law 1003 = .ok (.ireturn, 1) := by decide +kernel
theorem dL_law_1004 : decode cL_law 1004 = .ok (.iload 5, 2) := by decide +kernel
theorem dL_law_1006 : decode cL_law 1006 = .ok (.ifCond .ne 15, 3) := by decide +kernel
theorem dL_law_1009 : decode cL_law 1009 = .ok (.aload_n 3, 1) := by decide +kernel
theorem dL_law_1010 : decode cL_law 1010 = .ok (.iconst 0, 1) := by decide +kernel
theorem dL_law_1011 : decode cL_law 1011 = .ok (.laload, 1) := by decide +kernel
theorem dL_law_1012 : decode cL_law 1012 = .ok (.iload 6, 2) := by decide +kernel
theorem dL_law_1014 : decode cL_law 1014 = .ok (.i2l, 1) := by decide +kernel
theorem dL_law_1015 : decode cL_law 1015 = .ok (.lcmp, 1) := by decide +kernel
theorem dL_law_1016 : decode cL_law 1016 = .ok (.ifCond .eq 5, 3) := by decide +kernel
theorem dL_law_1019 : decode cL_law 1019 = .ok (.iconst 0, 1) := by decide +kernel
theorem dL_law_1020 : decode cL_law 1020 = .ok (.ireturn, 1) := by decide +kernel
theorem dL_law_1021 : decode cL_law 1021 = .ok (.goto 252, 3) := by decide +kernel
theorem dL_law_1024 : decode cL_law 1024 = .ok (.aload_n 1, 1) := by decide +kernel
theorem dL_law_1025 : decode cL_law 1025 = .ok (.aload_n 0, 1) := by decide +kernel
theorem dL_law_1026 : decode cL_law 1026 = .ok (.iload 4, 2) := by decide +kernel
theorem dL_law_1028 : decode cL_law 1028 = .ok (.iconst 1, 1) := by decide +kernel
theorem dL_law_1029 : decode cL_law 1029 = .ok (.iadd, 1) := by decide +kernel
theorem dL_law_1030 : decode cL_law 1030 = .ok (.iaload, 1) := by decide +kernel
theorem dL_law_1031 : decode cL_law 1031 = .ok (.aload_n 3, 1) := by decide +kernel
theorem dL_law_1032 : decode cL_law 1032 = .ok (.invokestatic 134, 3) := by decide +kernel
theorem dL_law_1035 : decode cL_law 1035 = .ok (.istore 5, 2) := by decide +kernel
theorem dL_law_1037 : decode cL_law 1037 = .ok (.aload_n 2, 1) := by decide +kernel
theorem dL_law_1038 : decode cL_law 1038 = .ok (.aload_n 0, 1) := by decide +kernel
theorem dL_law_1039 : decode cL_law 1039 = .ok (.iload 4, 2) := by decide +kernel
theorem dL_law_1041 : decode cL_law 1041 = .ok (.iconst 1, 1) := by decide +kernel
theorem dL_law_1042 : decode cL_law 1042 = .ok (.iadd, 1) := by decide +kernel
theorem dL_law_1043 : decode cL_law 1043 = .ok (.iaload, 1) := by decide +kernel
theorem dL_law_1044 : decode cL_law 1044 = .ok (.invokevirtual 136, 3) := by decide +kernel
theorem dL_law_1047 : decode cL_law 1047 = .ok (.lstore 6, 2) := by decide +kernel
theorem dL_law_1049 : decode cL_law 1049 = .ok (.aload_n 2, 1) := by decide +kernel
theorem dL_law_1050 : decode cL_law 1050 = .ok (.invokevirtual 83, 3) := by decide +kernel
theorem dL_law_1053 : decode cL_law 1053 = .ok (.iload 5, 2) := by decide +kernel
theorem dL_law_1055 : decode cL_law 1055 = .ok (.if_icmp .eq 5, 3) := by decide +kernel
theorem dL_law_1058 : decode cL_law 1058 = .ok (.iconst 0, 1) := by decide +kernel
theorem dL_law_1059 : decode cL_law 1059 = .ok (.ireturn, 1) := by decide +kernel
theorem dL_law_1060 : decode cL_law 1060 = .ok (.iload 5, 2) := by decide +kernel
theorem dL_law_1062 : decode cL_law 1062 = .ok (.ifCond .ne 14, 3) := by decide +kernel
theorem dL_law_1065 : decode cL_law 1065 = .ok (.aload_n 3, 1) := by decide +kernel
theorem dL_law_1066 : decode cL_law 1066 = .ok (.iconst 0, 1) := by decide +kernel
theorem dL_law_1067 : decode cL_law 1067 = .ok (.laload, 1) := by decide +kernel
theorem dL_law_1068 : decode cL_law 1068 = .ok (.lload 6, 2) := by decide +kernel
theorem dL_law_1070 : decode cL_law 1070 = .ok (.lcmp, 1) := by decide +kernel
theorem dL_law_1071 : decode cL_law 1071 = .ok (.ifCond .eq 5, 3) := by decide +kernel
theorem dL_law_1074 : decode cL_law 1074 = .ok (.iconst 0, 1) := by decide +kernel
theorem dL_law_1075 : decode cL_law 1075 = .ok (.ireturn, 1) := by decide +kernel
theorem dL_law_1076 : decode cL_law 1076 = .ok (.goto 197, 3) := by decide +kernel
theorem dL_law_1079 : decode cL_law 1079 = .ok (.aload_n 1, 1) := by decide +kernel
theorem dL_law_1080 : decode cL_law 1080 = .ok (.aload_n 0, 1) := by decide +kernel
theorem dL_law_1081 : decode cL_law 1081 = .ok (.iload 4, 2) := by decide +kernel
theorem dL_law_1083 : decode cL_law 1083 = .ok (.iconst 1, 1) := by decide +kernel
theorem dL_law_1084 : decode cL_law 1084 = .ok (.iadd, 1) := by decide +kernel
theorem dL_law_1085 : decode cL_law 1085 = .ok (.iaload, 1) := by decide +kernel
theorem dL_law_1086 : decode cL_law 1086 = .ok (.aload_n 3, 1) := by decide +kernel
theorem dL_law_1087 : decode cL_law 1087 = .ok (.invokestatic 137, 3) := by decide +kernel
theorem dL_law_1090 : decode cL_law 1090 = .ok (.istore 5, 2) := by decide +kernel
theorem dL_law_1092 : decode cL_law 1092 = .ok (.aload_n 2, 1) := by decide +kernel
theorem dL_law_1093 : decode cL_law 1093 = .ok (.aload_n 0, 1) := by decide +kernel
theorem dL_law_1094 : decode cL_law 1094 = .ok (.iload 4, 2) := by decide +kernel
theorem dL_law_1096 : decode cL_law 1096 = .ok (.iconst 1, 1) := by decide +kernel
theorem dL_law_1097 : decode cL_law 1097 = .ok (.iadd, 1) := by decide +kernel
theorem dL_law_1098 : decode cL_law 1098 = .ok (.iaload, 1) := by decide +kernel
theorem dL_law_1099 : decode cL_law 1099 = .ok (.invokevirtual 139, 3) := by decide +kernel
theorem dL_law_1102 : decode cL_law 1102 = .ok (.lstore 6, 2) := by decide +kernel
theorem dL_law_1104 : decode cL_law 1104 = .ok (.aload_n 2, 1) := by decide +kernel
theorem dL_law_1105 : decode cL_law 1105 = .ok (.invokevirtual 83, 3) := by decide +kernel
theorem dL_law_1108 : decode cL_law 1108 = .ok (.iload 5, 2) := by decide +kernel
theorem dL_law_1110 : decode cL_law 1110 = .ok (.if_icmp .eq 5, 3) := by decide +kernel
theorem dL_law_1113 : decode cL_law 1113 = .ok (.iconst 0, 1) := by decide +kernel
theorem dL_law_1114 : decode cL_law 1114 = .ok (.ireturn, 1) := by decide +kernel
theorem dL_law_1115 : decode cL_law 1115 = .ok (.iload 5, 2) := by decide +kernel
theorem dL_law_1117 : decode cL_law 1117 = .ok (.ifCond .ne 14, 3) := by decide +kernel
theorem dL_law_1120 : decode cL_law 1120 = .ok (.aload_n 3, 1) := by decide +kernel
theorem dL_law_1121 : decode cL_law 1121 = .ok (.iconst 0, 1) := by decide +kernel
theorem dL_law_1122 : decode cL_law 1122 = .ok (.laload, 1) := by decide +kernel
theorem dL_law_1123 : decode cL_law 1123 = .ok (.lload 6, 2) := by decide +kernel
theorem dL_law_1125 : decode cL_law 1125 = .ok (.lcmp, 1) := by decide +kernel
theorem dL_law_1126 : decode cL_law 1126 = .ok (.ifCond .eq 5, 3) := by decide +kernel
theorem dL_law_1129 : decode cL_law 1129 = .ok (.iconst 0, 1) := by decide +kernel
theorem dL_law_1130 : decode cL_law 1130 = .ok (.ireturn, 1) := by decide +kernel
theorem dL_law_1131 : decode cL_law 1131 = .ok (.goto 142, 3) := by decide +kernel
theorem dL_law_1134 : decode cL_law 1134 = .ok (.aload_n 1, 1) := by decide +kernel
theorem dL_law_1135 : decode cL_law 1135 = .ok (.aload_n 0, 1) := by decide +kernel
theorem dL_law_1136 : decode cL_law 1136 = .ok (.iload 4, 2) := by decide +kernel
theorem dL_law_1138 : decode cL_law 1138 = .ok (.iconst 1, 1) := by decide +kernel
theorem dL_law_1139 : decode cL_law 1139 = .ok (.iadd, 1) := by decide +kernel
theorem dL_law_1140 : decode cL_law 1140 = .ok (.iaload, 1) := by decide +kernel
theorem dL_law_1141 : decode cL_law 1141 = .ok (.aload_n 3, 1) := by decide +kernel
theorem dL_law_1142 : decode cL_law 1142 = .ok (.invokestatic 140, 3) := by decide +kernel
theorem dL_law_1145 : decode cL_law 1145 = .ok (.istore 5, 2) := by decide +kernel
theorem dL_law_1147 : decode cL_law 1147 = .ok (.aload_n 2, 1) := by decide +kernel
theorem dL_law_1148 : decode cL_law 1148 = .ok (.aload_n 0, 1) := by decide +kernel
theorem dL_law_1149 : decode cL_law 1149 = .ok (.iload 4, 2) := by decide +kernel
theorem dL_law_1151 : decode cL_law 1151 = .ok (.iconst 1, 1) := by decide +kernel
theorem dL_law_1152 : decode cL_law 1152 = .ok (.iadd, 1) := by decide +kernel
theorem dL_law_1153 : decode cL_law 1153 = .ok (.iaload, 1) := by decide +kernel
theorem dL_law_1154 : decode cL_law 1154 = .ok (.invokevirtual 142, 3) := by decide +kernel
theorem dL_law_1157 : decode cL_law 1157 = .ok (.istore 6, 2) := by decide +kernel
theorem dL_law_1159 : decode cL_law 1159 = .ok (.aload_n 2, 1) := by decide +kernel
theorem dL_law_1160 : decode cL_law 1160 = .ok (.invokevirtual 83, 3) := by decide +kernel
theorem dL_law_1163 : decode cL_law 1163 = .ok (.iload 5, 2) := by decide +kernel
theorem dL_law_1165 : decode cL_law 1165 = .ok (.if_icmp .eq 5, 3) := by decide +kernel
theorem dL_law_1168 : decode cL_law 1168 = .ok (.iconst 0, 1) := by decide +kernel
theorem dL_law_1169 : decode cL_law 1169 = .ok (.ireturn, 1) := by decide +kernel
theorem dL_law_1170 : decode cL_law 1170 = .ok (.iload 5, 2) := by decide +kernel
theorem dL_law_1172 : decode cL_law 1172 = .ok (.ifCond .ne 15, 3) := by decide +kernel
theorem dL_law_1175 : decode cL_law 1175 = .ok (.aload_n 3, 1) := by decide +kernel
theorem dL_law_1176 : decode cL_law 1176 = .ok (.iconst 0, 1) := by decide +kernel
theorem dL_law_1177 : decode cL_law 1177 = .ok (.laload, 1) := by decide +kernel
theorem dL_law_1178 : decode cL_law 1178 = .ok (.iload 6, 2) := by decide +kernel
theorem dL_law_1180 : decode cL_law 1180 = .ok (.i2l, 1) := by decide +kernel
theorem dL_law_1181 : decode cL_law 1181 = .ok (.lcmp, 1) := by decide +kernel
theorem dL_law_1182 : decode cL_law 1182 = .ok (.ifCond .eq 5, 3) := by decide +kernel
theorem dL_law_1185 : decode cL_law 1185 = .ok (.iconst 0, 1) := by decide +kernel
theorem dL_law_1186 : decode cL_law 1186 = .ok (.ireturn, 1) := by decide +kernel
theorem dL_law_1187 : decode cL_law 1187 = .ok (.goto 86, 3) := by decide +kernel
theorem dL_law_1190 : decode cL_law 1190 = .ok (.aload_n 1, 1) := by decide +kernel
theorem dL_law_1191 : decode cL_law 1191 = .ok (.aload_n 0, 1) := by decide +kernel
theorem dL_law_1192 : decode cL_law 1192 = .ok (.iload 4, 2) := by decide +kernel
theorem dL_law_1194 : decode cL_law 1194 = .ok (.iconst 1, 1) := by decide +kernel
theorem dL_law_1195 : decode cL_law 1195 = .ok (.iadd, 1) := by decide +kernel
theorem dL_law_1196 : decode cL_law 1196 = .ok (.iaload, 1) := by decide +kernel
theorem dL_law_1197 : decode cL_law 1197 = .ok (.aload_n 3, 1) := by decide +kernel
theorem dL_law_1198 : decode cL_law 1198 = .ok (.invokestatic 143, 3) := by decide +kernel
theorem dL_law_1201 : decode cL_law 1201 = .ok (.istore 5, 2) := by decide +kernel
theorem dL_law_1203 : decode cL_law 1203 = .ok (.aload_n 2, 1) := by decide +kernel
theorem dL_law_1204 : decode cL_law 1204 = .ok (.aload_n 0, 1) := by decide +kernel
theorem dL_law_1205 : decode cL_law 1205 = .ok (.iload 4, 2) := by decide +kernel
theorem dL_law_1207 : decode cL_law 1207 = .ok (.iconst 1, 1) := by decide +kernel
theorem dL_law_1208 : decode cL_law 1208 = .ok (.iadd, 1) := by decide +kernel
theorem dL_law_1209 : decode cL_law 1209 = .ok (.iaload, 1) := by decide +kernel
theorem dL_law_1210 : decode cL_law 1210 = .ok (.invokevirtual 145, 3) := by decide +kernel
theorem dL_law_1213 : decode cL_law 1213 = .ok (.istore 6, 2) := by decide +kernel
theorem dL_law_1215 : decode cL_law 1215 = .ok (.aload_n 2, 1) := by decide +kernel
theorem dL_law_1216 : decode cL_law 1216 = .ok (.invokevirtual 83, 3) := by decide +kernel
theorem dL_law_1219 : decode cL_law 1219 = .ok (.iload 5, 2) := by decide +kernel
theorem dL_law_1221 : decode cL_law 1221 = .ok (.if_icmp .eq 5, 3) := by decide +kernel
theorem dL_law_1224 : decode cL_law 1224 = .ok (.iconst 0, 1) := by decide +kernel
theorem dL_law_1225 : decode cL_law 1225 = .ok (.ireturn, 1) := by decide +kernel
theorem dL_law_1226 : decode cL_law 1226 = .ok (.iload 5, 2) := by decide +kernel
theorem dL_law_1228 : decode cL_law 1228 = .ok (.ifCond .ne 15, 3) := by decide +kernel
theorem dL_law_1231 : decode cL_law 1231 = .ok (.aload_n 3, 1) := by decide +kernel
theorem dL_law_1232 : decode cL_law 1232 = .ok (.iconst 0, 1) := by decide +kernel
theorem dL_law_1233 : decode cL_law 1233 = .ok (.laload, 1) := by decide +kernel
theorem dL_law_1234 : decode cL_law 1234 = .ok (.iload 6, 2) := by decide +kernel
theorem dL_law_1236 : decode cL_law 1236 = .ok (.i2l, 1) := by decide +kernel
theorem dL_law_1237 : decode cL_law 1237 = .ok (.lcmp, 1) := by decide +kernel
theorem dL_law_1238 : decode cL_law 1238 = .ok (.ifCond .eq 5, 3) := by decide +kernel
theorem dL_law_1241 : decode cL_law 1241 = .ok (.iconst 0, 1) := by decide +kernel
theorem dL_law_1242 : decode cL_law 1242 = .ok (.ireturn, 1) := by decide +kernel
theorem dL_law_1243 : decode cL_law 1243 = .ok (.goto 30, 3) := by decide +kernel
theorem dL_law_1246 : decode cL_law 1246 = .ok (.aload_n 1, 1) := by decide +kernel
theorem dL_law_1247 : decode cL_law 1247 = .ok (.invokevirtual 146, 3) := by decide +kernel
theorem dL_law_1250 : decode cL_law 1250 = .ok (.aload_n 2, 1) := by decide +kernel
theorem dL_law_1251 : decode cL_law 1251 = .ok (.invokevirtual 149, 3) := by decide +kernel
theorem dL_law_1254 : decode cL_law 1254 = .ok (.if_icmp .eq 19, 3) := by decide +kernel
theorem dL_law_1257 : decode cL_law 1257 = .ok (.iconst 0, 1) := by decide +kernel
theorem dL_law_1258 : decode cL_law 1258 = .ok (.ireturn, 1) := by decide +kernel
theorem dL_law_1259 : decode cL_law 1259 = .ok (.aload_n 1, 1) := by decide +kernel
theorem dL_law_1260 : decode cL_law 1260 = .ok (.invokevirtual 150, 3) := by decide +kernel
theorem dL_law_1263 : decode cL_law 1263 = .ok (.aload_n 2, 1) := by decide +kernel
theorem dL_law_1264 : decode cL_law 1264 = .ok (.invokevirtual 153, 3) := by decide +kernel
theorem dL_law_1267 : decode cL_law 1267 = .ok (.lcmp, 1) := by decide +kernel
theorem dL_law_1268 : decode cL_law 1268 = .ok (.ifCond .eq 5, 3) := by decide +kernel
theorem dL_law_1271 : decode cL_law 1271 = .ok (.iconst 0, 1) := by decide +kernel
theorem dL_law_1272 : decode cL_law 1272 = .ok (.ireturn, 1) := by decide +kernel
theorem dL_law_1273 : decode cL_law 1273 = .ok (.iinc 4 6, 3) := by decide +kernel
theorem dL_law_1276 : decode cL_law 1276 = .ok (.goto (-1253), 3) := by decide +kernel
theorem dL_law_1279 : decode cL_law 1279 = .ok (.iconst 1, 1) := by decide +kernel
theorem dL_law_1280 : decode cL_law 1280 = .ok (.ireturn, 1) := by decide +kernel
end
section
/-! my own short forms: heads, ends, calls -/
def IAE : String := "java/lang/IllegalArgumentException"
def ISE : String := "java/lang/IllegalStateException"
abbrev tz_str : List (Nat × String) := [(130, "an argument is out of range"), (137, "the year is not closed"), (140, "all years are closed"), (142, "something was taken, or a year is closed"), (144, "too much would be taken on a day")]
abbrev tz_dn : List MethodName := [Bundle.initS "java/lang/RuntimeException", Bundle.initS "java/lang/Exception", Bundle.initS Bundle.tN]
def tz_Z (A : Nat → Prop) (U : State) (H : Heap) : Prop :=
  vx_Zq Bundle.tN "UNASSIGNED_STACK" Bundle.steD A U H ∧ vx_Zq Bundle.tN "SUPPRESSED_SENTINEL" Bundle.listD A U H ∧ va_Nw (.castable IAE IAE) U ∧ va_Nw (.castable ISE ISE) U ∧ (∀ q ∈ tz_str, ∃ a, vk_R RX1 q.1 q.2 a U) ∧ ∀ x ∈ tz_dn, va_Nw (.declares x) U
theorem tz_Z.going {A B : Nat → Prop} {s U : State} {H : Heap} {locs : List Loc} (h : tz_Z A s s.heap) (hS : va_S A s.heap H locs) (hB : ∀ q, B q → A q) (hU : U.heap = H) (hW : s.WarmedH U.vm) : tz_Z B U U.heap := by
  obtain ⟨h1, h2, h3, h4, h5, h6⟩ := h
  have hk : ∀ a : Nat, a < s.heap.size → ¬ A a → U.heap[a]? = s.heap[a]? := fun a q r => by rw [hU]; exact hS.2.1 a q r
  exact ⟨(vx_Zq.moved hW.alike (h1.kept hk)).narrow hB, (vx_Zq.moved hW.alike (h2.kept hk)).narrow hB, va_Nw.warmC hW h3, va_Nw.warmC hW h4, fun q hq => by obtain ⟨a, ha⟩ := h5 q hq; exact ⟨a, vk_R.warm hW ha⟩, fun x hx => va_Nw.warmD hW (h6 x hx)⟩
theorem tz_Z.blind {A : Nat → Prop} {U : State} {g : JFrame} {mk : MethodId} {a : Array Value} (h : tz_Z A U U.heap) : tz_Z A (U.calling g mk a) (U.calling g mk a).heap := by
  obtain ⟨h1, h2, h3, h4, h5, h6⟩ := h
  exact ⟨vx_Zq.moved (u := U) (U := U.calling g mk a) (Vm.Alike.refl U.vm) h1, vx_Zq.moved (u := U) (U := U.calling g mk a) (Vm.Alike.refl U.vm) h2, va_Nw.same rfl (u := U) (U := U.calling g mk a) rfl h3, va_Nw.same rfl (u := U) (U := U.calling g mk a) rfl h4, fun q hq => by obtain ⟨x, hx⟩ := h5 q hq; exact ⟨x, vk_R.same (u := U) (U := U.calling g mk a) rfl hx⟩, fun x hx => va_Nw.same rfl (u := U) (U := U.calling g mk a) rfl (h6 x hx)⟩
/-- a method's start: its world w, the heap's size -/
def gPre (D : va_G) (tys : List (ClassId × FieldType)) (w : va_W) (sz : Nat) : State → Prop := fun U => U.heap.size = sz ∧ va_P D vwCl w U.heap ∧ va_K D vwCl tys U ∧ va_D (fun _ => True) w
def gPreT (D : va_G) (tys : List (ClassId × FieldType)) (w : va_W) (sz : Nat) : State → Prop := fun U => gPre D tys w sz U ∧ tz_Z (va_A w sz) U U.heap
/-- a method's end: out of the world w came w1 -/
def gPost (D : va_G) (tys : List (ClassId × FieldType)) (w w1 : va_W) (sz : Nat) : State → Prop := fun t => va_P D vwCl w1 t.heap ∧ va_K D vwCl tys t ∧ va_D (va_A w sz) w1
theorem gPre.blind {D : va_G} {tys : List (ClassId × FieldType)} {w : va_W} {sz : Nat} {av : List Value} : FrameBlind (va_Pc av (gPre D tys w sz)) := fun a U g mk q => by
  obtain ⟨q0, q1, qP, qK, qD⟩ := q
  exact ⟨q0, q1, qP, va_K.moved (u := U) (U := U.calling g mk a) (Vm.Alike.refl U.vm) qK, qD⟩
theorem gPreT.blind {D : va_G} {tys : List (ClassId × FieldType)} {w : va_W} {sz : Nat} {av : List Value} : FrameBlind (va_Pc av (gPreT D tys w sz)) := fun a U g mk q => by
  obtain ⟨q0, ⟨q1, qP, qK, qD⟩, qT⟩ := q
  exact ⟨q0, ⟨q1, qP, va_K.moved (u := U) (U := U.calling g mk a) (Vm.Alike.refl U.vm) qK, qD⟩, qT.blind⟩
abbrev gQv (ok : Prop) (D : va_G) (tys : List (ClassId × FieldType)) (w w1 : va_W) (sz : Nat) : Array Value → State → Outcome → State → Prop := va_Qv (fun _ : Unit => ok) (fun _ => gPost D tys w w1 sz) (va_A w sz)
abbrev gQi (v : Int32) (ok : Prop) (D : va_G) (tys : List (ClassId × FieldType)) (w w1 : va_W) (sz : Nat) : Array Value → State → Outcome → State → Prop := va_Qi (fun (r : Int32) (_ : Unit) => r = v ∧ ok) (fun _ => gPost D tys w w1 sz) (va_A w sz)
abbrev gQl (v : Int64) (ok : Prop) (D : va_G) (tys : List (ClassId × FieldType)) (w w1 : va_W) (sz : Nat) : Array Value → State → Outcome → State → Prop := va_Ql (fun (r : Int64) (_ : Unit) => r = v ∧ ok) (fun _ => gPost D tys w w1 sz) (va_A w sz)
abbrev gX (PX : String → Prop) (D : va_G) (tys : List (ClassId × FieldType)) (w : va_W) (sz : Nat) : String → State → State → Prop := vx_X (S := Unit) (fun _ => True) (fun E _ t => PX E ∧ gPost D tys w w sz t) (va_A w sz)
/-- contracts -/
abbrev gCv (l : Launch) (y : MethodName) (ws : List Cond) (rm : Room) (D : va_G) (tys : List (ClassId × FieldType)) (av : List Value) (w w1 : va_W) (ok : Prop) (mc ms sz : Nat) : Prop := Met l y ws rm (va_Pc av (gPre D tys w sz)) (gQv ok D tys w w1 sz) mc ms (va_A w sz)
abbrev gCi (l : Launch) (y : MethodName) (ws : List Cond) (rm : Room) (D : va_G) (tys : List (ClassId × FieldType)) (av : List Value) (w w1 : va_W) (v : Int32) (ok : Prop) (mc ms sz : Nat) : Prop := Met l y ws rm (va_Pc av (gPre D tys w sz)) (gQi v ok D tys w w1 sz) mc ms (va_A w sz)
abbrev gCl (l : Launch) (y : MethodName) (ws : List Cond) (rm : Room) (D : va_G) (tys : List (ClassId × FieldType)) (av : List Value) (w w1 : va_W) (v : Int64) (ok : Prop) (mc ms sz : Nat) : Prop := Met l y ws rm (va_Pc av (gPre D tys w sz)) (gQl v ok D tys w w1 sz) mc ms (va_A w sz)
abbrev gTv (l : Launch) (y : MethodName) (ws : List Cond) (rm : Room) (D : va_G) (tys : List (ClassId × FieldType)) (av : List Value) (w w1 : va_W) (ok : Prop) (PX : String → Prop) (mc ms sz : Nat) : Prop := vx_Met l y ws rm (va_Pc av (gPreT D tys w sz)) (gQv ok D tys w w1 sz) (gX PX D tys w sz) mc ms (va_A w sz)
abbrev gTi (l : Launch) (y : MethodName) (ws : List Cond) (rm : Room) (D : va_G) (tys : List (ClassId × FieldType)) (av : List Value) (w w1 : va_W) (v : Int32) (ok : Prop) (PX : String → Prop) (mc ms sz : Nat) : Prop := vx_Met l y ws rm (va_Pc av (gPreT D tys w sz)) (gQi v ok D tys w w1 sz) (gX PX D tys w sz) mc ms (va_A w sz)
abbrev gTl (l : Launch) (y : MethodName) (ws : List Cond) (rm : Room) (D : va_G) (tys : List (ClassId × FieldType)) (av : List Value) (w w1 : va_W) (v : Int64) (ok : Prop) (PX : String → Prop) (mc ms sz : Nat) : Prop := vx_Met l y ws rm (va_Pc av (gPreT D tys w sz)) (gQl v ok D tys w w1 sz) (gX PX D tys w sz) mc ms (va_A w sz)
/-- what a body owes at its end, said with A for the cells that it may change -/
def gEv (ok : Prop) (below : List Frame) (D : va_G) (tys : List (ClassId × FieldType)) (w1 : va_W) (A : Nat → Prop) (args : Array Value) (s : State) (mc ms : Nat) : State → Prop := MQ below (va_Qv (fun _ : Unit => ok) (fun _ t => va_P D vwCl w1 t.heap ∧ va_K D vwCl tys t ∧ va_D A w1) A) args s mc ms A
def gEi (v : Int32) (ok : Prop) (below : List Frame) (D : va_G) (tys : List (ClassId × FieldType)) (w1 : va_W) (A : Nat → Prop) (args : Array Value) (s : State) (mc ms : Nat) : State → Prop := MQ below (va_Qi (fun (r : Int32) (_ : Unit) => r = v ∧ ok) (fun _ t => va_P D vwCl w1 t.heap ∧ va_K D vwCl tys t ∧ va_D A w1) A) args s mc ms A
def gEl (v : Int64) (ok : Prop) (below : List Frame) (D : va_G) (tys : List (ClassId × FieldType)) (w1 : va_W) (A : Nat → Prop) (args : Array Value) (s : State) (mc ms : Nat) : State → Prop := MQ below (va_Ql (fun (r : Int64) (_ : Unit) => r = v ∧ ok) (fun _ t => va_P D vwCl w1 t.heap ∧ va_K D vwCl tys t ∧ va_D A w1) A) args s mc ms A
def gFX (PX : String → Prop) (D : va_G) (tys : List (ClassId × FieldType)) (w : va_W) (A : Nat → Prop) : String → State → State → Prop := vx_X (S := Unit) (fun _ => True) (fun E _ t => PX E ∧ va_P D vwCl w t.heap ∧ va_K D vwCl tys t ∧ va_D A w) A
def gFv (ok : Prop) (PX : String → Prop) (below : List Frame) (D : va_G) (tys : List (ClassId × FieldType)) (w w1 : va_W) (A : Nat → Prop) (args : Array Value) (s : State) (mc ms : Nat) : State → Prop := vx_MQ below (va_Qv (fun _ : Unit => ok) (fun _ t => va_P D vwCl w1 t.heap ∧ va_K D vwCl tys t ∧ va_D A w1) A) (gFX PX D tys w A) args s mc ms A
def gFi (v : Int32) (ok : Prop) (PX : String → Prop) (below : List Frame) (D : va_G) (tys : List (ClassId × FieldType)) (w w1 : va_W) (A : Nat → Prop) (args : Array Value) (s : State) (mc ms : Nat) : State → Prop := vx_MQ below (va_Qi (fun (r : Int32) (_ : Unit) => r = v ∧ ok) (fun _ t => va_P D vwCl w1 t.heap ∧ va_K D vwCl tys t ∧ va_D A w1) A) (gFX PX D tys w A) args s mc ms A
def gFl (v : Int64) (ok : Prop) (PX : String → Prop) (below : List Frame) (D : va_G) (tys : List (ClassId × FieldType)) (w w1 : va_W) (A : Nat → Prop) (args : Array Value) (s : State) (mc ms : Nat) : State → Prop := vx_MQ below (va_Ql (fun (r : Int64) (_ : Unit) => r = v ∧ ok) (fun _ t => va_P D vwCl w1 t.heap ∧ va_K D vwCl tys t ∧ va_D A w1) A) (gFX PX D tys w A) args s mc ms A
theorem gm_v {l : Launch} {y : MethodName} {ws ws' : List Cond} {rm : Room} {D : va_G} {tys : List (ClassId × FieldType)} {av : List Value} {w w1 : va_W} {ok : Prop} {mc ms sz : Nat} {cc : ByteArray} {maxL : Nat} (hy : plainName y.cls = true) (hw : ws = Cond.code y cc maxL none :: ws') (hlen : (lg_sl av).length ≤ maxL)
    (body : ∀ (p : Program) (e : Env) (s : State) (m : MethodId) (args : Array Value) (below : List Frame) (meth : Method) (c : Code) (A : Nat → Prop) (ls : Array Slot), p.tables.exec = Jvm.exec → c.code = cc → meth.sig.returnType = none → c.maxLocals = maxL → s.vm.findClass y.cls = some m.cls → (∀ q ∈ ws, q.before args s = true) → meth.locks = false → meth.name = y.name → (∀ q : Nat, s.heap.size ≤ q → A q) → va_K D vwCl tys s → va_P D vwCl w s.heap → va_D A w → lv_has ls maxL (lv_args 0 av) → W p l e rm s m args below meth c s.heap [] 0 0 (gEv ok below D tys w1 A args s mc ms) (F0 m 0 ls [])) : gCv l y ws rm D tys av w w1 ok mc ms sz := by
  refine Met.ofW (cc := cc) (maxL := maxL) (ret := none) hy hw ?_
  intro p e s m args below meth c s₁ B hml hv
  obtain ⟨rfl, hsz, hP, hK, hD0⟩ := hv
  subst hsz
  rw [lg_entry_eq]
  exact body p e s m _ below meth c _ _ B.exec B.bytes B.returns hml (findClass_of_methodNamed B.named) (atoms_spec (ws := ws) B.pre) B.notSynchronized (name_of_methodNamed B.named B.method).1 (fun q h => Or.inr h) hK hP hD0.self (lv_entry av hlen)
theorem gmx_v {l : Launch} {y : MethodName} {ws ws' : List Cond} {rm : Room} {D : va_G} {tys : List (ClassId × FieldType)} {av : List Value} {w w1 : va_W} {ok : Prop} {mc ms sz : Nat} {cc : ByteArray} {maxL : Nat} {PX : String → Prop} (hy : plainName y.cls = true) (hw : ws = Cond.code y cc maxL none :: ws') (hlen : (lg_sl av).length ≤ maxL)
    (body : ∀ (p : Program) (e : Env) (s : State) (m : MethodId) (args : Array Value) (below : List Frame) (meth : Method) (c : Code) (A : Nat → Prop) (ls : Array Slot), p.tables.exec = Jvm.exec → c.code = cc → meth.sig.returnType = none → c.maxLocals = maxL → s.vm.findClass y.cls = some m.cls → (∀ q ∈ ws, q.before args s = true) → meth.locks = false → meth.name = y.name → (∀ q : Nat, s.heap.size ≤ q → A q) → va_K D vwCl tys s → va_P D vwCl w s.heap → va_D A w → tz_Z A s s.heap → (∀ x ∈ c.exceptionTable.toList, False) → lv_has ls maxL (lv_args 0 av) → W p l e rm s m args below meth c s.heap [] 0 0 (gFv ok PX below D tys w w1 A args s mc ms) (F0 m 0 ls [])) : gTv l y ws rm D tys av w w1 ok PX mc ms sz := by
  refine vx_ofW (cc := cc) (maxL := maxL) (ret := none) hy hw ?_
  intro p e s m args below meth c s₁ B hml hnx hv
  obtain ⟨rfl, ⟨hsz, hP, hK, hD0⟩, hT⟩ := hv
  subst hsz
  rw [lg_entry_eq]
  exact body p e s m _ below meth c _ _ B.exec B.bytes B.returns hml (findClass_of_methodNamed B.named) (atoms_spec (ws := ws) B.pre) B.notSynchronized (name_of_methodNamed B.named B.method).1 (fun q h => Or.inr h) hK hP hD0.self hT hnx (lv_entry av hlen)
theorem gm_i {l : Launch} {y : MethodName} {ws ws' : List Cond} {rm : Room} {D : va_G} {tys : List (ClassId × FieldType)} {av : List Value} {w w1 : va_W} {ok : Prop} {mc ms sz : Nat} {cc : ByteArray} {maxL : Nat} {v : Int32} {ty : FieldType} (hy : plainName y.cls = true) (hw : ws = Cond.code y cc maxL (some ty) :: ws') (hlen : (lg_sl av).length ≤ maxL)
    (body : ∀ (p : Program) (e : Env) (s : State) (m : MethodId) (args : Array Value) (below : List Frame) (meth : Method) (c : Code) (A : Nat → Prop) (ls : Array Slot), p.tables.exec = Jvm.exec → c.code = cc → meth.sig.returnType = some ty → c.maxLocals = maxL → s.vm.findClass y.cls = some m.cls → (∀ q ∈ ws, q.before args s = true) → meth.locks = false → meth.name = y.name → (∀ q : Nat, s.heap.size ≤ q → A q) → va_K D vwCl tys s → va_P D vwCl w s.heap → va_D A w → lv_has ls maxL (lv_args 0 av) → W p l e rm s m args below meth c s.heap [] 0 0 (gEi v ok below D tys w1 A args s mc ms) (F0 m 0 ls [])) : gCi l y ws rm D tys av w w1 v ok mc ms sz := by
  refine Met.ofW (cc := cc) (maxL := maxL) (ret := (some ty)) hy hw ?_
  intro p e s m args below meth c s₁ B hml hv
  obtain ⟨rfl, hsz, hP, hK, hD0⟩ := hv
  subst hsz
  rw [lg_entry_eq]
  exact body p e s m _ below meth c _ _ B.exec B.bytes B.returns hml (findClass_of_methodNamed B.named) (atoms_spec (ws := ws) B.pre) B.notSynchronized (name_of_methodNamed B.named B.method).1 (fun q h => Or.inr h) hK hP hD0.self (lv_entry av hlen)
theorem gmx_i {l : Launch} {y : MethodName} {ws ws' : List Cond} {rm : Room} {D : va_G} {tys : List (ClassId × FieldType)} {av : List Value} {w w1 : va_W} {ok : Prop} {mc ms sz : Nat} {cc : ByteArray} {maxL : Nat} {v : Int32} {ty : FieldType} {PX : String → Prop} (hy : plainName y.cls = true) (hw : ws = Cond.code y cc maxL (some ty) :: ws') (hlen : (lg_sl av).length ≤ maxL)
    (body : ∀ (p : Program) (e : Env) (s : State) (m : MethodId) (args : Array Value) (below : List Frame) (meth : Method) (c : Code) (A : Nat → Prop) (ls : Array Slot), p.tables.exec = Jvm.exec → c.code = cc → meth.sig.returnType = some ty → c.maxLocals = maxL → s.vm.findClass y.cls = some m.cls → (∀ q ∈ ws, q.before args s = true) → meth.locks = false → meth.name = y.name → (∀ q : Nat, s.heap.size ≤ q → A q) → va_K D vwCl tys s → va_P D vwCl w s.heap → va_D A w → tz_Z A s s.heap → (∀ x ∈ c.exceptionTable.toList, False) → lv_has ls maxL (lv_args 0 av) → W p l e rm s m args below meth c s.heap [] 0 0 (gFi v ok PX below D tys w w1 A args s mc ms) (F0 m 0 ls [])) : gTi l y ws rm D tys av w w1 v ok PX mc ms sz := by
  refine vx_ofW (cc := cc) (maxL := maxL) (ret := (some ty)) hy hw ?_
  intro p e s m args below meth c s₁ B hml hnx hv
  obtain ⟨rfl, ⟨hsz, hP, hK, hD0⟩, hT⟩ := hv
  subst hsz
  rw [lg_entry_eq]
  exact body p e s m _ below meth c _ _ B.exec B.bytes B.returns hml (findClass_of_methodNamed B.named) (atoms_spec (ws := ws) B.pre) B.notSynchronized (name_of_methodNamed B.named B.method).1 (fun q h => Or.inr h) hK hP hD0.self hT hnx (lv_entry av hlen)
theorem gm_l {l : Launch} {y : MethodName} {ws ws' : List Cond} {rm : Room} {D : va_G} {tys : List (ClassId × FieldType)} {av : List Value} {w w1 : va_W} {ok : Prop} {mc ms sz : Nat} {cc : ByteArray} {maxL : Nat} {v : Int64} (hy : plainName y.cls = true) (hw : ws = Cond.code y cc maxL (some .long) :: ws') (hlen : (lg_sl av).length ≤ maxL)
    (body : ∀ (p : Program) (e : Env) (s : State) (m : MethodId) (args : Array Value) (below : List Frame) (meth : Method) (c : Code) (A : Nat → Prop) (ls : Array Slot), p.tables.exec = Jvm.exec → c.code = cc → meth.sig.returnType = some .long → c.maxLocals = maxL → s.vm.findClass y.cls = some m.cls → (∀ q ∈ ws, q.before args s = true) → meth.locks = false → meth.name = y.name → (∀ q : Nat, s.heap.size ≤ q → A q) → va_K D vwCl tys s → va_P D vwCl w s.heap → va_D A w → lv_has ls maxL (lv_args 0 av) → W p l e rm s m args below meth c s.heap [] 0 0 (gEl v ok below D tys w1 A args s mc ms) (F0 m 0 ls [])) : gCl l y ws rm D tys av w w1 v ok mc ms sz := by
  refine Met.ofW (cc := cc) (maxL := maxL) (ret := (some .long)) hy hw ?_
  intro p e s m args below meth c s₁ B hml hv
  obtain ⟨rfl, hsz, hP, hK, hD0⟩ := hv
  subst hsz
  rw [lg_entry_eq]
  exact body p e s m _ below meth c _ _ B.exec B.bytes B.returns hml (findClass_of_methodNamed B.named) (atoms_spec (ws := ws) B.pre) B.notSynchronized (name_of_methodNamed B.named B.method).1 (fun q h => Or.inr h) hK hP hD0.self (lv_entry av hlen)
theorem gmx_l {l : Launch} {y : MethodName} {ws ws' : List Cond} {rm : Room} {D : va_G} {tys : List (ClassId × FieldType)} {av : List Value} {w w1 : va_W} {ok : Prop} {mc ms sz : Nat} {cc : ByteArray} {maxL : Nat} {v : Int64} {PX : String → Prop} (hy : plainName y.cls = true) (hw : ws = Cond.code y cc maxL (some .long) :: ws') (hlen : (lg_sl av).length ≤ maxL)
    (body : ∀ (p : Program) (e : Env) (s : State) (m : MethodId) (args : Array Value) (below : List Frame) (meth : Method) (c : Code) (A : Nat → Prop) (ls : Array Slot), p.tables.exec = Jvm.exec → c.code = cc → meth.sig.returnType = some .long → c.maxLocals = maxL → s.vm.findClass y.cls = some m.cls → (∀ q ∈ ws, q.before args s = true) → meth.locks = false → meth.name = y.name → (∀ q : Nat, s.heap.size ≤ q → A q) → va_K D vwCl tys s → va_P D vwCl w s.heap → va_D A w → tz_Z A s s.heap → (∀ x ∈ c.exceptionTable.toList, False) → lv_has ls maxL (lv_args 0 av) → W p l e rm s m args below meth c s.heap [] 0 0 (gFl v ok PX below D tys w w1 A args s mc ms) (F0 m 0 ls [])) : gTl l y ws rm D tys av w w1 v ok PX mc ms sz := by
  refine vx_ofW (cc := cc) (maxL := maxL) (ret := (some .long)) hy hw ?_
  intro p e s m args below meth c s₁ B hml hnx hv
  obtain ⟨rfl, ⟨hsz, hP, hK, hD0⟩, hT⟩ := hv
  subst hsz
  rw [lg_entry_eq]
  exact body p e s m _ below meth c _ _ B.exec B.bytes B.returns hml (findClass_of_methodNamed B.named) (atoms_spec (ws := ws) B.pre) B.notSynchronized (name_of_methodNamed B.named B.method).1 (fun q h => Or.inr h) hK hP hD0.self hT hnx (lv_entry av hlen)
section GE
variable {p : Program} {l : Launch} {e : Env} {R : Room} {s : State} {m : MethodId} {args : Array Value} {below : List Frame} {meth : Method} {c : Code} {H : Heap} {locs : List Loc} {cells slots : Nat} {Q : State → Prop}
variable {D : va_G} {A : Nat → Prop} {tys : List (ClassId × FieldType)} {W0 W1 : va_W} {cc : ByteArray} {mc ms pc : Nat} {ls : Array Slot} {ok : Prop} {PX : String → Prop}
theorem ge_v (hx : p.tables.exec = Jvm.exec) (hb : c.code = cc) (hr : meth.sig.returnType = none) (hlocks : meth.locks = false) (hK : va_K D vwCl tys s) (hP : va_P D vwCl W1 H) (hD : va_D A W1) (hS : va_S A s.heap H locs) (hok : ok) (hc : cells ≤ mc) (hs : slots ≤ ms) (hdg : decode cc pc = .ok (.return_, 1)) : W p l e R s m args below meth c H locs cells slots (gEv ok below D tys W1 A args s mc ms) (F0 m pc ls []) :=
  W.widen hc hs (W.vret hx hb hr (fun t ht hW => ⟨⟨(), rfl, hok, by rw [ht]; exact hP, va_K.moved hW.alike hK, hD⟩, hS.F ht⟩) hS.2.2 hdg hlocks)
theorem gex_v (hx : p.tables.exec = Jvm.exec) (hb : c.code = cc) (hr : meth.sig.returnType = none) (hlocks : meth.locks = false) (hK : va_K D vwCl tys s) (hP : va_P D vwCl W1 H) (hD : va_D A W1) (hS : va_S A s.heap H locs) (hok : ok) (hc : cells ≤ mc) (hs : slots ≤ ms) (hdg : decode cc pc = .ok (.return_, 1)) : W p l e R s m args below meth c H locs cells slots (gFv ok PX below D tys W0 W1 A args s mc ms) (F0 m pc ls []) :=
  vx_ret (W.widen hc hs (W.vret hx hb hr (fun t ht hW => ⟨⟨(), rfl, hok, by rw [ht]; exact hP, va_K.moved hW.alike hK, hD⟩, hS.F ht⟩) hS.2.2 hdg hlocks))
theorem ge_i {v : Int32} {ty : FieldType} (hx : p.tables.exec = Jvm.exec) (hb : c.code = cc) (hr : meth.sig.returnType = some ty) (hlocks : meth.locks = false) (hn : narrow ty (.int v) = .int v) (hK : va_K D vwCl tys s) (hP : va_P D vwCl W1 H) (hD : va_D A W1) (hS : va_S A s.heap H locs) (hok : ok) (hc : cells ≤ mc) (hs : slots ≤ ms) (hdg : decode cc pc = .ok (.ireturn, 1)) : W p l e R s m args below meth c H locs cells slots (gEi v ok below D tys W1 A args s mc ms) (F0 m pc ls [.int v]) :=
  W.widen hc hs (W.zret hx hb hr hn (fun t ht hW => ⟨⟨v, (), rfl, ⟨rfl, hok⟩, by rw [ht]; exact hP, va_K.moved hW.alike hK, hD⟩, hS.F ht⟩) hS.2.2 hdg hlocks)
theorem gex_i {v : Int32} {ty : FieldType} (hx : p.tables.exec = Jvm.exec) (hb : c.code = cc) (hr : meth.sig.returnType = some ty) (hlocks : meth.locks = false) (hn : narrow ty (.int v) = .int v) (hK : va_K D vwCl tys s) (hP : va_P D vwCl W1 H) (hD : va_D A W1) (hS : va_S A s.heap H locs) (hok : ok) (hc : cells ≤ mc) (hs : slots ≤ ms) (hdg : decode cc pc = .ok (.ireturn, 1)) : W p l e R s m args below meth c H locs cells slots (gFi v ok PX below D tys W0 W1 A args s mc ms) (F0 m pc ls [.int v]) :=
  vx_ret (W.widen hc hs (W.zret hx hb hr hn (fun t ht hW => ⟨⟨v, (), rfl, ⟨rfl, hok⟩, by rw [ht]; exact hP, va_K.moved hW.alike hK, hD⟩, hS.F ht⟩) hS.2.2 hdg hlocks))
theorem ge_l {v : Int64} (hx : p.tables.exec = Jvm.exec) (hb : c.code = cc) (hr : meth.sig.returnType = some .long) (hlocks : meth.locks = false) (hK : va_K D vwCl tys s) (hP : va_P D vwCl W1 H) (hD : va_D A W1) (hS : va_S A s.heap H locs) (hok : ok) (hc : cells ≤ mc) (hs : slots ≤ ms) (hdg : decode cc pc = .ok (.lreturn, 1)) : W p l e R s m args below meth c H locs cells slots (gEl v ok below D tys W1 A args s mc ms) (F0 m pc ls [.long v]) :=
  W.widen hc hs (W.lret hx hb hr (fun t ht hW => ⟨⟨v, (), rfl, ⟨rfl, hok⟩, by rw [ht]; exact hP, va_K.moved hW.alike hK, hD⟩, hS.F ht⟩) hS.2.2 hdg hlocks)
theorem gex_l {v : Int64} (hx : p.tables.exec = Jvm.exec) (hb : c.code = cc) (hr : meth.sig.returnType = some .long) (hlocks : meth.locks = false) (hK : va_K D vwCl tys s) (hP : va_P D vwCl W1 H) (hD : va_D A W1) (hS : va_S A s.heap H locs) (hok : ok) (hc : cells ≤ mc) (hs : slots ≤ ms) (hdg : decode cc pc = .ok (.lreturn, 1)) : W p l e R s m args below meth c H locs cells slots (gFl v ok PX below D tys W0 W1 A args s mc ms) (F0 m pc ls [.long v]) :=
  vx_ret (W.widen hc hs (W.lret hx hb hr (fun t ht hW => ⟨⟨v, (), rfl, ⟨rfl, hok⟩, by rw [ht]; exact hP, va_K.moved hW.alike hK, hD⟩, hS.F ht⟩) hS.2.2 hdg hlocks))
/-- an exception on its way out of a method without a table -/
theorem gx_out {Qc : Array Value → State → Outcome → State → Prop} {rest : List Value} {E : String} {ce : Cell} {q : Addr} (hnx : ∀ x ∈ c.exceptionTable.toList, False) (hlocks : meth.locks = false) (hK : va_K D vwCl tys s) (hP : va_P D vwCl W0 H) (hD : va_D A W0) (hS : va_S A s.heap H locs) (hE : PX E) (hcell : H[q]? = some ce) (hv : ce.vm = .none) (hcl : s.vm.findClass E = some ce.cls) (hc : cells ≤ mc) (hs : slots ≤ ms) : vx_W p l e R s m args below meth c H locs cells slots (vx_MQ below Qc (gFX PX D tys W0 A) args s mc ms A) (F0 m pc ls rest) q :=
  vx_out (fun x hx => (hnx x hx).elim) hlocks hcell hv hcl (fun t ht hvm => ⟨(), trivial, ⟨hE, by rw [ht]; exact hP, va_K.moved hvm hK, hD⟩, hS.F ht⟩) hS.2.2 hc hs
/-- 'throw new cls(text)' in the class -/
theorem gx_thr {Qc : Array Value → State → Outcome → State → Prop} {rest : List Value} (hx : p.tables.exec = Jvm.exec) (hb : c.code = cc) (hl : l.stackTraces = false) {cls text : String} {ik is ic : Nat} (hown : s.vm.findClass RX1 = some m.cls) (hcls : Bundle.fit cls = true)
    (hk : (Cond.classLink RX1 ik cls).before args s = true) (hini : (Cond.initialized cls).before args s = true) (hstr : (is, text) ∈ tz_str) (hca : va_Nw (.castable cls cls) s)
    (hat : ∀ q ∈ (vx_atS RX1 ic cls ["java/lang/RuntimeException", "java/lang/Exception"]).filter goodWord, q.before args s = true)
    (hat2 : ∀ q ∈ (vx_atS RX1 ic cls ["java/lang/RuntimeException", "java/lang/Exception"]).filter (fun q => !goodWord q), q ∈ Cond.castable cls cls :: tz_dn.map Cond.declares)
    (hgood : ∀ q ∈ Cond.classLink RX1 ik cls :: Cond.initialized cls :: vx_atS RX1 ic cls ["java/lang/RuntimeException", "java/lang/Exception"], vx_ot q = true)
    (hT : tz_Z A s s.heap) (hK : va_K D vwCl tys s) (hP : va_P D vwCl W0 H) (hD : va_D A W0) (hS : va_S A s.heap H locs) (hsize : ls.size = c.maxLocals)
    (d0 : decode cc pc = .ok (.new ik, 3)) (d3 : decode cc (pc + 3) = .ok (.dup, 1)) (d4 : decode cc (pc + 4) = .ok (.ldc is, 2)) (d6 : decode cc (pc + 6) = .ok (.invokespecial ic, 3)) (d9 : decode cc (pc + 9) = .ok (.athrow, 1))
    (hnx : ∀ x ∈ c.exceptionTable.toList, False) (hRframes : 5 < R.frames) (hRlocals : (rest.map fun v => v.category).sum + 82 ≤ R.locals) (hRcells : cells + 1 ≤ R.cells) (hRslots : slots + 6 ≤ R.slots) (hlocks : meth.locks = false) (hE : PX cls) (hc : cells + 1 ≤ mc) (hs : slots + 6 ≤ ms) :
    W p l e R s m args below meth c H locs cells slots (vx_MQ below Qc (gFX PX D tys W0 A) args s mc ms A) (F0 m pc ls rest) := by
  obtain ⟨sa, hsa⟩ := hT.2.2.2.2.1 _ hstr
  refine vx_throwS (names := ["java/lang/RuntimeException", "java/lang/Exception"]) (A := A) hx hb hl hown hcls (by decide +kernel) hk hini hsa (vx_hat hat hat2 (fun q hq => by cases hq with | head => exact va_Nw.use rfl hca | tail _ h => obtain ⟨x, hx9, rfl⟩ := List.mem_map.mp h; exact va_Nw.use rfl (hT.2.2.2.2.2 x hx9))) hgood hT.1 hT.2.1 hS hsize d0 d3 d4 d6 d9 (fun x hx => (hnx x hx).elim) (by simpa using hRframes) (by simpa using hRlocals) hRcells hRslots hlocks ?_ hS.2.2 hc hs
  intro t hvm hz hk
  exact ⟨(), trivial, ⟨hE, hP.kept (fun k q hq => hk q.1 (hP k q hq).lt), va_K.moved hvm hK, hD⟩, Nat.le_trans hS.1 hz, fun q h1 h2 => (hk q (Nat.lt_of_lt_of_le h1 hS.1)).trans (hS.2.1 q h1 h2)⟩
theorem gc_fm {α : Type} {is : List Nat} {X : List α} {Y : List α} (h : is.map (fun i => X[i]?) = Y.map some) : is.filterMap (fun i => X[i]?) = Y := by
  have h1 : (is.map (fun i => X[i]?)).filterMap id = Y := by rw [h, List.filterMap_map]; simp
  rw [List.filterMap_map] at h1
  simpa using h1
theorem gc_join {Wd wc wr w1 W' : va_W} {H1 : Heap} {H0 : Heap} (hP : va_P D vwCl Wd H) (hD : va_D A Wd) (isC isR perm : List Nat) (hC : isC.map (fun i => Wd[i]?) = wc.map some) (hR : isR.map (fun i => Wd[i]?) = wr.map some) (hn : va_nd isR = true) (hdis : ∀ i ∈ isR, i ∉ isC) (hpm : perm.map (fun i => (wr ++ w1)[i]?) = W'.map some) (hpn : va_nd perm = true)
    (hk : ∀ q : Nat, q < H.size → ¬ va_A wc H.size q → H1[q]? = H[q]?) (hF : ∀ q, va_A wc H.size q → A q) (hP1 : va_P D vwCl w1 H1) (hD1 : va_D (va_A wc H.size) w1) : va_P D vwCl W' H1 ∧ va_D A W' := by
  obtain ⟨hPj, hDj⟩ := va_join hP hD isC isR hC hR hn hdis hk hF hP1 hD1
  exact ⟨hPj.sub perm (gc_fm hpm), hDj.sub perm hpn hpm⟩
theorem gc_S {Wd wc : va_W} {tc : List (ClassId × FieldType)} {av : List Value} (hK : va_K D vwCl tys s) (hP : va_P D vwCl Wd H) (hD : va_D A Wd) (ks : List Nat) (hk : ks.filterMap (fun i => tys[i]?) = tc) (isC : List Nat) (hC : isC.map (fun i => Wd[i]?) = wc.map some) (hnC : va_nd isC = true) : ∀ U : State, U.heap = H → s.WarmedH U.vm → gPre D tc wc H.size U := fun U hU hW =>
  ⟨by rw [hU], by rw [hU]; exact hP.sub isC (gc_fm hC), va_K.moved hW.alike (hK.sub ks hk), (hD.sub isC hnC hC).weaken (fun _ _ _ _ => trivial)⟩
theorem gc_recv {Wd wc : va_W} {tc : List (ClassId × FieldType)} {C : String} {b : Nat} (hK : va_K D vwCl tys s) (hP : va_P D vwCl Wd H) (isC : List Nat) (hC : isC.map (fun i => Wd[i]?) = wc.map some) (q0 ci : Nat) {r : vw_C} {fs : List Value} (hci : vwCl[ci]? = some r) (hq0 : wc[q0]? = some (b, .inr (ci, fs))) (hr : r.1 = C) : ∃ cellB : Cell, H[b]? = some cellB ∧ cellB.vm.isStatics = false ∧ s.vm.findClass C = some cellB.cls :=
  hr ▸ va_recv hK (hP.sub isC (gc_fm hC)) hci hq0
theorem gV_v {Wd wc wr w1 W' : va_W} {tc : List (ClassId × FieldType)} {H0 : Heap} {bytes : ByteArray} {nL maxL n index : Nat} {own C : String} {y : MethodName} {wsy Ts : List Cond} {rm : Room} {b : Addr} {As rest st0 : List Value} {mc ms : Nat} {ok : Prop} (S : CallFix p m c cc nL s args Ts own) (hM : gCv l y wsy rm D tc (.ref b :: As) wc w1 ok mc ms H.size) (cw : CallW R s args own C index y bytes maxL none wsy rm mc ms n) (hS : va_S A H0 H locs) (hA : ∀ q : Nat, H0.size ≤ q → A q) (hK : va_K D vwCl tys s) (hP : va_P D vwCl Wd H) (hD : va_D A Wd) (ks : List Nat) (hk : ks.filterMap (fun i => tys[i]?) = tc) (isC isR perm : List Nat) (hC : isC.map (fun i => Wd[i]?) = wc.map some) (hnC : va_nd isC = true) (hR : isR.map (fun i => Wd[i]?) = wr.map some) (hn : va_nd isR = true) (hdis : ∀ i ∈ isR, i ∉ isC) (hpm : perm.map (fun i => (wr ++ w1)[i]?) = W'.map some) (hpn : va_nd perm = true) (q0 ci : Nat) {r0 : vw_C} {fs : List Value} (hci : vwCl[ci]? = some r0) (hq0 : wc[q0]? = some (b, .inr (ci, fs))) (hr0 : r0.1 = C) 
    (hAs : As.length = n) (hsize : ls.size = nL) (hst : st0 = As.reverse ++ .ref b :: rest) (hW : (rest.map fun v => v.category).sum ≤ 8) (hdg : decode cc pc = .ok (.invokevirtual index, 3)) (hf : cells + mc ≤ R.cells ∧ slots + ms ≤ R.slots)
    (kk : ∀ (H : Heap) (locs : List Loc), ok → va_P D vwCl W' H → va_D A W' → va_S A H0 H locs → W p l e R s m args below meth c H locs (cells + mc) (slots + ms) Q (F0 m (pc + 3) ls (rest))) : W p l e R s m args below meth c H locs cells slots Q (F0 m pc ls st0) := by
  have hF := va_free (wc := wc) hD hS hA isC hC
  refine va_callv (va_runV S hM cw ⟨gPre.blind, gc_recv (tc := tc) hK hP isC hC q0 ci hci hq0 hr0, (fun U hU hW => ⟨rfl, gc_S (av := As) hK hP hD ks hk isC hC hnC U hU hW⟩)⟩ rfl hAs hsize hst (lv_room hW) hdg hf) hS (fun q _ h => hF q h) hF (fun u t H1 locs1 ht hvm hw hB hz1 hk1 hS1 => ?_)
  obtain ⟨hP1, hK1, hD1⟩ := hB
  rw [ht] at hP1
  obtain ⟨hPn, hDn⟩ := gc_join (H0 := H0) hP hD isC isR perm hC hR hn hdis hpm hpn hk1 hF hP1 hD1
  exact kk H1 locs1 hw hPn hDn hS1
theorem gxV_v {Wd wc wr w1 W' : va_W} {tc : List (ClassId × FieldType)} {bytes : ByteArray} {nL maxL n index : Nat} {own C : String} {y : MethodName} {wsy Ts : List Cond} {rm : Room} {b : Addr} {As rest st0 : List Value} {mc ms : Nat} {ok : Prop} {PC : String → Prop} (S : CallFix p m c cc nL s args Ts own) (hM : gTv l y wsy rm D tc (.ref b :: As) wc w1 ok PC mc ms H.size) (cw : CallW R s args own C index y bytes maxL none wsy rm mc ms n) (hT : tz_Z A s s.heap) (hS : va_S A s.heap H locs) (hA : ∀ q : Nat, s.heap.size ≤ q → A q) (hK : va_K D vwCl tys s) (hP : va_P D vwCl Wd H) (hD : va_D A Wd) (ks : List Nat) (hk : ks.filterMap (fun i => tys[i]?) = tc) (isC isR perm : List Nat) (hC : isC.map (fun i => Wd[i]?) = wc.map some) (hnC : va_nd isC = true) (hR : isR.map (fun i => Wd[i]?) = wr.map some) (hn : va_nd isR = true) (hdis : ∀ i ∈ isR, i ∉ isC) (hpm : perm.map (fun i => (wr ++ w1)[i]?) = W'.map some) (hpn : va_nd perm = true) (q0 ci : Nat) {r0 : vw_C} {fs : List Value} (hci : vwCl[ci]? = some r0) (hq0 : wc[q0]? = some (b, .inr (ci, fs))) (hr0 : r0.1 = C) 
    (hAs : As.length = n) (hsize : ls.size = nL) (hst : st0 = As.reverse ++ .ref b :: rest) (hW : (rest.map fun v => v.category).sum ≤ 8) (hdg : decode cc pc = .ok (.invokevirtual index, 3)) (hf : cells + mc ≤ R.cells ∧ slots + ms ≤ R.slots) {Qc : Array Value → State → Outcome → State → Prop} {MC MS : Nat} (hnx : ∀ x ∈ c.exceptionTable.toList, False) (hlocks : meth.locks = false) (hPX : ∀ E, PC E → PX E) (hMC : cells + mc ≤ MC) (hMS : slots + ms ≤ MS) (permX : List Nat) (hpx : permX.map (fun i => (wr ++ wc)[i]?) = Wd.map some) (hpxn : va_nd permX = true)
    (kk : ∀ (H : Heap) (locs : List Loc), ok → va_P D vwCl W' H → va_D A W' → va_S A s.heap H locs → W p l e R s m args below meth c H locs (cells + mc) (slots + ms) (vx_MQ below Qc (gFX PX D tys Wd A) args s MC MS A) (F0 m (pc + 3) ls (rest))) : W p l e R s m args below meth c H locs cells slots (vx_MQ below Qc (gFX PX D tys Wd A) args s MC MS A) (F0 m pc ls st0) := by
  have hF := va_free (wc := wc) hD hS hA isC hC
  refine vx_callv (vx_runV S hM cw ⟨gPreT.blind, gc_recv (tc := tc) hK hP isC hC q0 ci hci hq0 hr0, (fun U hU hW => ⟨rfl, gc_S (av := As) hK hP hD ks hk isC hC hnC U hU hW, hT.going hS hF hU hW⟩)⟩ rfl hAs hsize hst (lv_room hW) hdg hf) hS (fun q _ h => hF q h) hF (fun q _ h => hF q h) (fun E ce q9 u t H1 locs1 ht hvm _ hB hz1 hk1 hS1 hce hcv hcl => ?_) (fun u t H1 locs1 ht hvm hw hB hz1 hk1 hS1 => ?_)
  · obtain ⟨hE, hP1, hK1, hD1⟩ := hB
    rw [ht] at hP1
    obtain ⟨hPn, hDn⟩ := gc_join (H0 := s.heap) hP hD isC isR permX hC hR hn hdis hpx hpxn hk1 hF hP1 hD1
    exact vx_widen hMC hMS (gx_out hnx hlocks hK hPn hDn hS1 (hPX E hE) hce hcv hcl (Nat.le_refl _) (Nat.le_refl _))
  · obtain ⟨hP1, hK1, hD1⟩ := hB
    rw [ht] at hP1
    obtain ⟨hPn, hDn⟩ := gc_join (H0 := s.heap) hP hD isC isR perm hC hR hn hdis hpm hpn hk1 hF hP1 hD1
    exact kk H1 locs1 hw hPn hDn hS1
theorem ghV_v {Wd wc wr w1 W' : va_W} {tc : List (ClassId × FieldType)} {bytes : ByteArray} {nL maxL n index : Nat} {own C : String} {y : MethodName} {wsy Ts : List Cond} {rm : Room} {b : Addr} {As rest st0 : List Value} {mc ms : Nat} {ok : Prop} {PC : String → Prop} (S : CallFix p m c cc nL s args Ts own) (hM : gTv l y wsy rm D tc (.ref b :: As) wc w1 ok PC mc ms H.size) (cw : CallW R s args own C index y bytes maxL none wsy rm mc ms n) (hT : tz_Z A s s.heap) (hS : va_S A s.heap H locs) (hA : ∀ q : Nat, s.heap.size ≤ q → A q) (hK : va_K D vwCl tys s) (hP : va_P D vwCl Wd H) (hD : va_D A Wd) (ks : List Nat) (hk : ks.filterMap (fun i => tys[i]?) = tc) (isC isR perm : List Nat) (hC : isC.map (fun i => Wd[i]?) = wc.map some) (hnC : va_nd isC = true) (hR : isR.map (fun i => Wd[i]?) = wr.map some) (hn : va_nd isR = true) (hdis : ∀ i ∈ isR, i ∉ isC) (hpm : perm.map (fun i => (wr ++ w1)[i]?) = W'.map some) (hpn : va_nd perm = true) (q0 ci : Nat) {r0 : vw_C} {fs : List Value} (hci : vwCl[ci]? = some r0) (hq0 : wc[q0]? = some (b, .inr (ci, fs))) (hr0 : r0.1 = C) 
    (hAs : As.length = n) (hsize : ls.size = nL) (hst : st0 = As.reverse ++ .ref b :: rest) (hW : (rest.map fun v => v.category).sum ≤ 8) (hdg : decode cc pc = .ok (.invokevirtual index, 3)) (hf : cells + mc ≤ R.cells ∧ slots + ms ≤ R.slots) (permX : List Nat) (hpx : permX.map (fun i => (wr ++ wc)[i]?) = Wd.map some) (hpxn : va_nd permX = true) (kx : ∀ (E : String) (ce : Cell) (q : Addr) (H : Heap) (locs : List Loc), PC E → va_P D vwCl Wd H → va_D A Wd → va_S A s.heap H locs → H[q]? = some ce → ce.vm = .none → s.vm.findClass E = some ce.cls → vx_W p l e R s m args below meth c H locs (cells + mc) (slots + ms) Q (F0 m pc ls rest) q)
    (kk : ∀ (H : Heap) (locs : List Loc), ok → va_P D vwCl W' H → va_D A W' → va_S A s.heap H locs → W p l e R s m args below meth c H locs (cells + mc) (slots + ms) Q (F0 m (pc + 3) ls (rest))) : W p l e R s m args below meth c H locs cells slots Q (F0 m pc ls st0) := by
  have hF := va_free (wc := wc) hD hS hA isC hC
  refine vx_callv (vx_runV S hM cw ⟨gPreT.blind, gc_recv (tc := tc) hK hP isC hC q0 ci hci hq0 hr0, (fun U hU hW => ⟨rfl, gc_S (av := As) hK hP hD ks hk isC hC hnC U hU hW, hT.going hS hF hU hW⟩)⟩ rfl hAs hsize hst (lv_room hW) hdg hf) hS (fun q _ h => hF q h) hF (fun q _ h => hF q h) (fun E ce q9 u t H1 locs1 ht hvm _ hB hz1 hk1 hS1 hce hcv hcl => ?_) (fun u t H1 locs1 ht hvm hw hB hz1 hk1 hS1 => ?_)
  · obtain ⟨hE, hP1, hK1, hD1⟩ := hB
    rw [ht] at hP1
    obtain ⟨hPn, hDn⟩ := gc_join (H0 := s.heap) hP hD isC isR permX hC hR hn hdis hpx hpxn hk1 hF hP1 hD1
    exact kx E ce q9 H1 locs1 hE hPn hDn hS1 hce hcv hcl
  · obtain ⟨hP1, hK1, hD1⟩ := hB
    rw [ht] at hP1
    obtain ⟨hPn, hDn⟩ := gc_join (H0 := s.heap) hP hD isC isR perm hC hR hn hdis hpm hpn hk1 hF hP1 hD1
    exact kk H1 locs1 hw hPn hDn hS1
theorem gV_i {Wd wc wr w1 W' : va_W} {tc : List (ClassId × FieldType)} {H0 : Heap} {bytes : ByteArray} {nL maxL n index : Nat} {own C : String} {y : MethodName} {wsy Ts : List Cond} {rm : Room} {b : Addr} {As rest st0 : List Value} {mc ms : Nat} {ok : Prop} {v : Int32} {ret : Option FieldType} (S : CallFix p m c cc nL s args Ts own) (hM : gCi l y wsy rm D tc (.ref b :: As) wc w1 v ok mc ms H.size) (cw : CallW R s args own C index y bytes maxL ret wsy rm mc ms n) (hS : va_S A H0 H locs) (hA : ∀ q : Nat, H0.size ≤ q → A q) (hK : va_K D vwCl tys s) (hP : va_P D vwCl Wd H) (hD : va_D A Wd) (ks : List Nat) (hk : ks.filterMap (fun i => tys[i]?) = tc) (isC isR perm : List Nat) (hC : isC.map (fun i => Wd[i]?) = wc.map some) (hnC : va_nd isC = true) (hR : isR.map (fun i => Wd[i]?) = wr.map some) (hn : va_nd isR = true) (hdis : ∀ i ∈ isR, i ∉ isC) (hpm : perm.map (fun i => (wr ++ w1)[i]?) = W'.map some) (hpn : va_nd perm = true) (q0 ci : Nat) {r0 : vw_C} {fs : List Value} (hci : vwCl[ci]? = some r0) (hq0 : wc[q0]? = some (b, .inr (ci, fs))) (hr0 : r0.1 = C) 
    (hAs : As.length = n) (hsize : ls.size = nL) (hst : st0 = As.reverse ++ .ref b :: rest) (hW : (rest.map fun v => v.category).sum ≤ 8) (hdg : decode cc pc = .ok (.invokevirtual index, 3)) (hf : cells + mc ≤ R.cells ∧ slots + ms ≤ R.slots)
    (kk : ∀ (H : Heap) (locs : List Loc), ok → va_P D vwCl W' H → va_D A W' → va_S A H0 H locs → W p l e R s m args below meth c H locs (cells + mc) (slots + ms) Q (F0 m (pc + 3) ls (.int v :: rest))) : W p l e R s m args below meth c H locs cells slots Q (F0 m pc ls st0) := by
  have hF := va_free (wc := wc) hD hS hA isC hC
  refine va_calli (va_runV S hM cw ⟨gPre.blind, gc_recv (tc := tc) hK hP isC hC q0 ci hci hq0 hr0, (fun U hU hW => ⟨rfl, gc_S (av := As) hK hP hD ks hk isC hC hnC U hU hW⟩)⟩ rfl hAs hsize hst (lv_room hW) hdg hf) hS (fun q _ h => hF q h) hF (fun r u t H1 locs1 ht hvm hw hB hz1 hk1 hS1 => ?_)
  obtain ⟨hP1, hK1, hD1⟩ := hB
  rw [ht] at hP1
  obtain ⟨rfl, hw⟩ := hw
  obtain ⟨hPn, hDn⟩ := gc_join (H0 := H0) hP hD isC isR perm hC hR hn hdis hpm hpn hk1 hF hP1 hD1
  exact kk H1 locs1 hw hPn hDn hS1
theorem ghV_i {Wd wc wr w1 W' : va_W} {tc : List (ClassId × FieldType)} {bytes : ByteArray} {nL maxL n index : Nat} {own C : String} {y : MethodName} {wsy Ts : List Cond} {rm : Room} {b : Addr} {As rest st0 : List Value} {mc ms : Nat} {ok : Prop} {v : Int32} {ret : Option FieldType} {PC : String → Prop} (S : CallFix p m c cc nL s args Ts own) (hM : gTi l y wsy rm D tc (.ref b :: As) wc w1 v ok PC mc ms H.size) (cw : CallW R s args own C index y bytes maxL ret wsy rm mc ms n) (hT : tz_Z A s s.heap) (hS : va_S A s.heap H locs) (hA : ∀ q : Nat, s.heap.size ≤ q → A q) (hK : va_K D vwCl tys s) (hP : va_P D vwCl Wd H) (hD : va_D A Wd) (ks : List Nat) (hk : ks.filterMap (fun i => tys[i]?) = tc) (isC isR perm : List Nat) (hC : isC.map (fun i => Wd[i]?) = wc.map some) (hnC : va_nd isC = true) (hR : isR.map (fun i => Wd[i]?) = wr.map some) (hn : va_nd isR = true) (hdis : ∀ i ∈ isR, i ∉ isC) (hpm : perm.map (fun i => (wr ++ w1)[i]?) = W'.map some) (hpn : va_nd perm = true) (q0 ci : Nat) {r0 : vw_C} {fs : List Value} (hci : vwCl[ci]? = some r0) (hq0 : wc[q0]? = some (b, .inr (ci, fs))) (hr0 : r0.1 = C) 
    (hAs : As.length = n) (hsize : ls.size = nL) (hst : st0 = As.reverse ++ .ref b :: rest) (hW : (rest.map fun v => v.category).sum ≤ 8) (hdg : decode cc pc = .ok (.invokevirtual index, 3)) (hf : cells + mc ≤ R.cells ∧ slots + ms ≤ R.slots) (permX : List Nat) (hpx : permX.map (fun i => (wr ++ wc)[i]?) = Wd.map some) (hpxn : va_nd permX = true) (kx : ∀ (E : String) (ce : Cell) (q : Addr) (H : Heap) (locs : List Loc), PC E → va_P D vwCl Wd H → va_D A Wd → va_S A s.heap H locs → H[q]? = some ce → ce.vm = .none → s.vm.findClass E = some ce.cls → vx_W p l e R s m args below meth c H locs (cells + mc) (slots + ms) Q (F0 m pc ls rest) q)
    (kk : ∀ (H : Heap) (locs : List Loc), ok → va_P D vwCl W' H → va_D A W' → va_S A s.heap H locs → W p l e R s m args below meth c H locs (cells + mc) (slots + ms) Q (F0 m (pc + 3) ls (.int v :: rest))) : W p l e R s m args below meth c H locs cells slots Q (F0 m pc ls st0) := by
  have hF := va_free (wc := wc) hD hS hA isC hC
  refine vx_calli (vx_runV S hM cw ⟨gPreT.blind, gc_recv (tc := tc) hK hP isC hC q0 ci hci hq0 hr0, (fun U hU hW => ⟨rfl, gc_S (av := As) hK hP hD ks hk isC hC hnC U hU hW, hT.going hS hF hU hW⟩)⟩ rfl hAs hsize hst (lv_room hW) hdg hf) hS (fun q _ h => hF q h) hF (fun q _ h => hF q h) (fun E ce q9 u t H1 locs1 ht hvm _ hB hz1 hk1 hS1 hce hcv hcl => ?_) (fun r u t H1 locs1 ht hvm hw hB hz1 hk1 hS1 => ?_)
  · obtain ⟨hE, hP1, hK1, hD1⟩ := hB
    rw [ht] at hP1
    obtain ⟨hPn, hDn⟩ := gc_join (H0 := s.heap) hP hD isC isR permX hC hR hn hdis hpx hpxn hk1 hF hP1 hD1
    exact kx E ce q9 H1 locs1 hE hPn hDn hS1 hce hcv hcl
  · obtain ⟨hP1, hK1, hD1⟩ := hB
    rw [ht] at hP1
    obtain ⟨rfl, hw⟩ := hw
    obtain ⟨hPn, hDn⟩ := gc_join (H0 := s.heap) hP hD isC isR perm hC hR hn hdis hpm hpn hk1 hF hP1 hD1
    exact kk H1 locs1 hw hPn hDn hS1
theorem gV_l {Wd wc wr w1 W' : va_W} {tc : List (ClassId × FieldType)} {H0 : Heap} {bytes : ByteArray} {nL maxL n index : Nat} {own C : String} {y : MethodName} {wsy Ts : List Cond} {rm : Room} {b : Addr} {As rest st0 : List Value} {mc ms : Nat} {ok : Prop} {v : Int64} {ret : Option FieldType} (S : CallFix p m c cc nL s args Ts own) (hM : gCl l y wsy rm D tc (.ref b :: As) wc w1 v ok mc ms H.size) (cw : CallW R s args own C index y bytes maxL ret wsy rm mc ms n) (hS : va_S A H0 H locs) (hA : ∀ q : Nat, H0.size ≤ q → A q) (hK : va_K D vwCl tys s) (hP : va_P D vwCl Wd H) (hD : va_D A Wd) (ks : List Nat) (hk : ks.filterMap (fun i => tys[i]?) = tc) (isC isR perm : List Nat) (hC : isC.map (fun i => Wd[i]?) = wc.map some) (hnC : va_nd isC = true) (hR : isR.map (fun i => Wd[i]?) = wr.map some) (hn : va_nd isR = true) (hdis : ∀ i ∈ isR, i ∉ isC) (hpm : perm.map (fun i => (wr ++ w1)[i]?) = W'.map some) (hpn : va_nd perm = true) (q0 ci : Nat) {r0 : vw_C} {fs : List Value} (hci : vwCl[ci]? = some r0) (hq0 : wc[q0]? = some (b, .inr (ci, fs))) (hr0 : r0.1 = C) 
    (hAs : As.length = n) (hsize : ls.size = nL) (hst : st0 = As.reverse ++ .ref b :: rest) (hW : (rest.map fun v => v.category).sum ≤ 8) (hdg : decode cc pc = .ok (.invokevirtual index, 3)) (hf : cells + mc ≤ R.cells ∧ slots + ms ≤ R.slots)
    (kk : ∀ (H : Heap) (locs : List Loc), ok → va_P D vwCl W' H → va_D A W' → va_S A H0 H locs → W p l e R s m args below meth c H locs (cells + mc) (slots + ms) Q (F0 m (pc + 3) ls (.long v :: rest))) : W p l e R s m args below meth c H locs cells slots Q (F0 m pc ls st0) := by
  have hF := va_free (wc := wc) hD hS hA isC hC
  refine va_calll (va_runV S hM cw ⟨gPre.blind, gc_recv (tc := tc) hK hP isC hC q0 ci hci hq0 hr0, (fun U hU hW => ⟨rfl, gc_S (av := As) hK hP hD ks hk isC hC hnC U hU hW⟩)⟩ rfl hAs hsize hst (lv_room hW) hdg hf) hS (fun q _ h => hF q h) hF (fun r u t H1 locs1 ht hvm hw hB hz1 hk1 hS1 => ?_)
  obtain ⟨hP1, hK1, hD1⟩ := hB
  rw [ht] at hP1
  obtain ⟨rfl, hw⟩ := hw
  obtain ⟨hPn, hDn⟩ := gc_join (H0 := H0) hP hD isC isR perm hC hR hn hdis hpm hpn hk1 hF hP1 hD1
  exact kk H1 locs1 hw hPn hDn hS1
theorem ghV_l {Wd wc wr w1 W' : va_W} {tc : List (ClassId × FieldType)} {bytes : ByteArray} {nL maxL n index : Nat} {own C : String} {y : MethodName} {wsy Ts : List Cond} {rm : Room} {b : Addr} {As rest st0 : List Value} {mc ms : Nat} {ok : Prop} {v : Int64} {ret : Option FieldType} {PC : String → Prop} (S : CallFix p m c cc nL s args Ts own) (hM : gTl l y wsy rm D tc (.ref b :: As) wc w1 v ok PC mc ms H.size) (cw : CallW R s args own C index y bytes maxL ret wsy rm mc ms n) (hT : tz_Z A s s.heap) (hS : va_S A s.heap H locs) (hA : ∀ q : Nat, s.heap.size ≤ q → A q) (hK : va_K D vwCl tys s) (hP : va_P D vwCl Wd H) (hD : va_D A Wd) (ks : List Nat) (hk : ks.filterMap (fun i => tys[i]?) = tc) (isC isR perm : List Nat) (hC : isC.map (fun i => Wd[i]?) = wc.map some) (hnC : va_nd isC = true) (hR : isR.map (fun i => Wd[i]?) = wr.map some) (hn : va_nd isR = true) (hdis : ∀ i ∈ isR, i ∉ isC) (hpm : perm.map (fun i => (wr ++ w1)[i]?) = W'.map some) (hpn : va_nd perm = true) (q0 ci : Nat) {r0 : vw_C} {fs : List Value} (hci : vwCl[ci]? = some r0) (hq0 : wc[q0]? = some (b, .inr (ci, fs))) (hr0 : r0.1 = C) 
    (hAs : As.length = n) (hsize : ls.size = nL) (hst : st0 = As.reverse ++ .ref b :: rest) (hW : (rest.map fun v => v.category).sum ≤ 8) (hdg : decode cc pc = .ok (.invokevirtual index, 3)) (hf : cells + mc ≤ R.cells ∧ slots + ms ≤ R.slots) (permX : List Nat) (hpx : permX.map (fun i => (wr ++ wc)[i]?) = Wd.map some) (hpxn : va_nd permX = true) (kx : ∀ (E : String) (ce : Cell) (q : Addr) (H : Heap) (locs : List Loc), PC E → va_P D vwCl Wd H → va_D A Wd → va_S A s.heap H locs → H[q]? = some ce → ce.vm = .none → s.vm.findClass E = some ce.cls → vx_W p l e R s m args below meth c H locs (cells + mc) (slots + ms) Q (F0 m pc ls rest) q)
    (kk : ∀ (H : Heap) (locs : List Loc), ok → va_P D vwCl W' H → va_D A W' → va_S A s.heap H locs → W p l e R s m args below meth c H locs (cells + mc) (slots + ms) Q (F0 m (pc + 3) ls (.long v :: rest))) : W p l e R s m args below meth c H locs cells slots Q (F0 m pc ls st0) := by
  have hF := va_free (wc := wc) hD hS hA isC hC
  refine vx_calll (vx_runV S hM cw ⟨gPreT.blind, gc_recv (tc := tc) hK hP isC hC q0 ci hci hq0 hr0, (fun U hU hW => ⟨rfl, gc_S (av := As) hK hP hD ks hk isC hC hnC U hU hW, hT.going hS hF hU hW⟩)⟩ rfl hAs hsize hst (lv_room hW) hdg hf) hS (fun q _ h => hF q h) hF (fun q _ h => hF q h) (fun E ce q9 u t H1 locs1 ht hvm _ hB hz1 hk1 hS1 hce hcv hcl => ?_) (fun r u t H1 locs1 ht hvm hw hB hz1 hk1 hS1 => ?_)
  · obtain ⟨hE, hP1, hK1, hD1⟩ := hB
    rw [ht] at hP1
    obtain ⟨hPn, hDn⟩ := gc_join (H0 := s.heap) hP hD isC isR permX hC hR hn hdis hpx hpxn hk1 hF hP1 hD1
    exact kx E ce q9 H1 locs1 hE hPn hDn hS1 hce hcv hcl
  · obtain ⟨hP1, hK1, hD1⟩ := hB
    rw [ht] at hP1
    obtain ⟨rfl, hw⟩ := hw
    obtain ⟨hPn, hDn⟩ := gc_join (H0 := s.heap) hP hD isC isR perm hC hR hn hdis hpm hpn hk1 hF hP1 hD1
    exact kk H1 locs1 hw hPn hDn hS1
theorem gS_v {Wd wc wr w1 W' : va_W} {tc : List (ClassId × FieldType)} {H0 : Heap} {bytes : ByteArray} {nL maxL n index : Nat} {own : String} {y : MethodName} {wsy Ts : List Cond} {rm : Room} {As rest st0 : List Value} {mc ms : Nat} {ok : Prop} (S : CallFix p m c cc nL s args Ts own) (hM : gCv l y wsy rm D tc As wc w1 ok mc ms H.size) (cw : CallB R s args own index y bytes maxL none wsy rm mc ms n ∧ (Cond.static y).before args s = true) (hS : va_S A H0 H locs) (hA : ∀ q : Nat, H0.size ≤ q → A q) (hK : va_K D vwCl tys s) (hP : va_P D vwCl Wd H) (hD : va_D A Wd) (ks : List Nat) (hk : ks.filterMap (fun i => tys[i]?) = tc) (isC isR perm : List Nat) (hC : isC.map (fun i => Wd[i]?) = wc.map some) (hnC : va_nd isC = true) (hR : isR.map (fun i => Wd[i]?) = wr.map some) (hn : va_nd isR = true) (hdis : ∀ i ∈ isR, i ∉ isC) (hpm : perm.map (fun i => (wr ++ w1)[i]?) = W'.map some) (hpn : va_nd perm = true) 
    (hAs : As.length = n) (hsize : ls.size = nL) (hst : st0 = As.reverse ++ rest) (hW : (rest.map fun v => v.category).sum ≤ 8) (hdg : decode cc pc = .ok (.invokestatic index, 3)) (hf : cells + mc ≤ R.cells ∧ slots + ms ≤ R.slots)
    (kk : ∀ (H : Heap) (locs : List Loc), ok → va_P D vwCl W' H → va_D A W' → va_S A H0 H locs → W p l e R s m args below meth c H locs (cells + mc) (slots + ms) Q (F0 m (pc + 3) ls (rest))) : W p l e R s m args below meth c H locs cells slots Q (F0 m pc ls st0) := by
  have hF := va_free (wc := wc) hD hS hA isC hC
  refine va_callv (va_runS S hM cw ⟨gPre.blind, (fun U hU hW => ⟨rfl, gc_S (av := As) hK hP hD ks hk isC hC hnC U hU hW⟩)⟩ rfl hAs hsize hst (lv_room hW) hdg hf) hS (fun q _ h => hF q h) hF (fun u t H1 locs1 ht hvm hw hB hz1 hk1 hS1 => ?_)
  obtain ⟨hP1, hK1, hD1⟩ := hB
  rw [ht] at hP1
  obtain ⟨hPn, hDn⟩ := gc_join (H0 := H0) hP hD isC isR perm hC hR hn hdis hpm hpn hk1 hF hP1 hD1
  exact kk H1 locs1 hw hPn hDn hS1
theorem gxS_v {Wd wc wr w1 W' : va_W} {tc : List (ClassId × FieldType)} {bytes : ByteArray} {nL maxL n index : Nat} {own : String} {y : MethodName} {wsy Ts : List Cond} {rm : Room} {As rest st0 : List Value} {mc ms : Nat} {ok : Prop} {PC : String → Prop} (S : CallFix p m c cc nL s args Ts own) (hM : gTv l y wsy rm D tc As wc w1 ok PC mc ms H.size) (cw : CallB R s args own index y bytes maxL none wsy rm mc ms n ∧ (Cond.static y).before args s = true) (hT : tz_Z A s s.heap) (hS : va_S A s.heap H locs) (hA : ∀ q : Nat, s.heap.size ≤ q → A q) (hK : va_K D vwCl tys s) (hP : va_P D vwCl Wd H) (hD : va_D A Wd) (ks : List Nat) (hk : ks.filterMap (fun i => tys[i]?) = tc) (isC isR perm : List Nat) (hC : isC.map (fun i => Wd[i]?) = wc.map some) (hnC : va_nd isC = true) (hR : isR.map (fun i => Wd[i]?) = wr.map some) (hn : va_nd isR = true) (hdis : ∀ i ∈ isR, i ∉ isC) (hpm : perm.map (fun i => (wr ++ w1)[i]?) = W'.map some) (hpn : va_nd perm = true) 
    (hAs : As.length = n) (hsize : ls.size = nL) (hst : st0 = As.reverse ++ rest) (hW : (rest.map fun v => v.category).sum ≤ 8) (hdg : decode cc pc = .ok (.invokestatic index, 3)) (hf : cells + mc ≤ R.cells ∧ slots + ms ≤ R.slots) {Qc : Array Value → State → Outcome → State → Prop} {MC MS : Nat} (hnx : ∀ x ∈ c.exceptionTable.toList, False) (hlocks : meth.locks = false) (hPX : ∀ E, PC E → PX E) (hMC : cells + mc ≤ MC) (hMS : slots + ms ≤ MS) (permX : List Nat) (hpx : permX.map (fun i => (wr ++ wc)[i]?) = Wd.map some) (hpxn : va_nd permX = true)
    (kk : ∀ (H : Heap) (locs : List Loc), ok → va_P D vwCl W' H → va_D A W' → va_S A s.heap H locs → W p l e R s m args below meth c H locs (cells + mc) (slots + ms) (vx_MQ below Qc (gFX PX D tys Wd A) args s MC MS A) (F0 m (pc + 3) ls (rest))) : W p l e R s m args below meth c H locs cells slots (vx_MQ below Qc (gFX PX D tys Wd A) args s MC MS A) (F0 m pc ls st0) := by
  have hF := va_free (wc := wc) hD hS hA isC hC
  refine vx_callv (vx_runS S hM cw ⟨gPreT.blind, (fun U hU hW => ⟨rfl, gc_S (av := As) hK hP hD ks hk isC hC hnC U hU hW, hT.going hS hF hU hW⟩)⟩ rfl hAs hsize hst (lv_room hW) hdg hf) hS (fun q _ h => hF q h) hF (fun q _ h => hF q h) (fun E ce q9 u t H1 locs1 ht hvm _ hB hz1 hk1 hS1 hce hcv hcl => ?_) (fun u t H1 locs1 ht hvm hw hB hz1 hk1 hS1 => ?_)
  · obtain ⟨hE, hP1, hK1, hD1⟩ := hB
    rw [ht] at hP1
    obtain ⟨hPn, hDn⟩ := gc_join (H0 := s.heap) hP hD isC isR permX hC hR hn hdis hpx hpxn hk1 hF hP1 hD1
    exact vx_widen hMC hMS (gx_out hnx hlocks hK hPn hDn hS1 (hPX E hE) hce hcv hcl (Nat.le_refl _) (Nat.le_refl _))
  · obtain ⟨hP1, hK1, hD1⟩ := hB
    rw [ht] at hP1
    obtain ⟨hPn, hDn⟩ := gc_join (H0 := s.heap) hP hD isC isR perm hC hR hn hdis hpm hpn hk1 hF hP1 hD1
    exact kk H1 locs1 hw hPn hDn hS1
theorem gS_i {Wd wc wr w1 W' : va_W} {tc : List (ClassId × FieldType)} {H0 : Heap} {bytes : ByteArray} {nL maxL n index : Nat} {own : String} {y : MethodName} {wsy Ts : List Cond} {rm : Room} {As rest st0 : List Value} {mc ms : Nat} {ok : Prop} {v : Int32} {ret : Option FieldType} (S : CallFix p m c cc nL s args Ts own) (hM : gCi l y wsy rm D tc As wc w1 v ok mc ms H.size) (cw : CallB R s args own index y bytes maxL ret wsy rm mc ms n ∧ (Cond.static y).before args s = true) (hS : va_S A H0 H locs) (hA : ∀ q : Nat, H0.size ≤ q → A q) (hK : va_K D vwCl tys s) (hP : va_P D vwCl Wd H) (hD : va_D A Wd) (ks : List Nat) (hk : ks.filterMap (fun i => tys[i]?) = tc) (isC isR perm : List Nat) (hC : isC.map (fun i => Wd[i]?) = wc.map some) (hnC : va_nd isC = true) (hR : isR.map (fun i => Wd[i]?) = wr.map some) (hn : va_nd isR = true) (hdis : ∀ i ∈ isR, i ∉ isC) (hpm : perm.map (fun i => (wr ++ w1)[i]?) = W'.map some) (hpn : va_nd perm = true) 
    (hAs : As.length = n) (hsize : ls.size = nL) (hst : st0 = As.reverse ++ rest) (hW : (rest.map fun v => v.category).sum ≤ 8) (hdg : decode cc pc = .ok (.invokestatic index, 3)) (hf : cells + mc ≤ R.cells ∧ slots + ms ≤ R.slots)
    (kk : ∀ (H : Heap) (locs : List Loc), ok → va_P D vwCl W' H → va_D A W' → va_S A H0 H locs → W p l e R s m args below meth c H locs (cells + mc) (slots + ms) Q (F0 m (pc + 3) ls (.int v :: rest))) : W p l e R s m args below meth c H locs cells slots Q (F0 m pc ls st0) := by
  have hF := va_free (wc := wc) hD hS hA isC hC
  refine va_calli (va_runS S hM cw ⟨gPre.blind, (fun U hU hW => ⟨rfl, gc_S (av := As) hK hP hD ks hk isC hC hnC U hU hW⟩)⟩ rfl hAs hsize hst (lv_room hW) hdg hf) hS (fun q _ h => hF q h) hF (fun r u t H1 locs1 ht hvm hw hB hz1 hk1 hS1 => ?_)
  obtain ⟨hP1, hK1, hD1⟩ := hB
  rw [ht] at hP1
  obtain ⟨rfl, hw⟩ := hw
  obtain ⟨hPn, hDn⟩ := gc_join (H0 := H0) hP hD isC isR perm hC hR hn hdis hpm hpn hk1 hF hP1 hD1
  exact kk H1 locs1 hw hPn hDn hS1
theorem gS_l {Wd wc wr w1 W' : va_W} {tc : List (ClassId × FieldType)} {H0 : Heap} {bytes : ByteArray} {nL maxL n index : Nat} {own : String} {y : MethodName} {wsy Ts : List Cond} {rm : Room} {As rest st0 : List Value} {mc ms : Nat} {ok : Prop} {v : Int64} {ret : Option FieldType} (S : CallFix p m c cc nL s args Ts own) (hM : gCl l y wsy rm D tc As wc w1 v ok mc ms H.size) (cw : CallB R s args own index y bytes maxL ret wsy rm mc ms n ∧ (Cond.static y).before args s = true) (hS : va_S A H0 H locs) (hA : ∀ q : Nat, H0.size ≤ q → A q) (hK : va_K D vwCl tys s) (hP : va_P D vwCl Wd H) (hD : va_D A Wd) (ks : List Nat) (hk : ks.filterMap (fun i => tys[i]?) = tc) (isC isR perm : List Nat) (hC : isC.map (fun i => Wd[i]?) = wc.map some) (hnC : va_nd isC = true) (hR : isR.map (fun i => Wd[i]?) = wr.map some) (hn : va_nd isR = true) (hdis : ∀ i ∈ isR, i ∉ isC) (hpm : perm.map (fun i => (wr ++ w1)[i]?) = W'.map some) (hpn : va_nd perm = true) 
    (hAs : As.length = n) (hsize : ls.size = nL) (hst : st0 = As.reverse ++ rest) (hW : (rest.map fun v => v.category).sum ≤ 8) (hdg : decode cc pc = .ok (.invokestatic index, 3)) (hf : cells + mc ≤ R.cells ∧ slots + ms ≤ R.slots)
    (kk : ∀ (H : Heap) (locs : List Loc), ok → va_P D vwCl W' H → va_D A W' → va_S A H0 H locs → W p l e R s m args below meth c H locs (cells + mc) (slots + ms) Q (F0 m (pc + 3) ls (.long v :: rest))) : W p l e R s m args below meth c H locs cells slots Q (F0 m pc ls st0) := by
  have hF := va_free (wc := wc) hD hS hA isC hC
  refine va_calll (va_runS S hM cw ⟨gPre.blind, (fun U hU hW => ⟨rfl, gc_S (av := As) hK hP hD ks hk isC hC hnC U hU hW⟩)⟩ rfl hAs hsize hst (lv_room hW) hdg hf) hS (fun q _ h => hF q h) hF (fun r u t H1 locs1 ht hvm hw hB hz1 hk1 hS1 => ?_)
  obtain ⟨hP1, hK1, hD1⟩ := hB
  rw [ht] at hP1
  obtain ⟨rfl, hw⟩ := hw
  obtain ⟨hPn, hDn⟩ := gc_join (H0 := H0) hP hD isC isR perm hC hR hn hdis hpm hpn hk1 hF hP1 hD1
  exact kk H1 locs1 hw hPn hDn hS1
theorem gI_v {Wd wc wr w1 W' : va_W} {tc : List (ClassId × FieldType)} {H0 : Heap} {bytes : ByteArray} {nL maxL n index : Nat} {own : String} {y : MethodName} {wsy Ts : List Cond} {rm : Room} {b : Addr} {As rest st0 : List Value} {mc ms : Nat} {ok : Prop} (S : CallFix p m c cc nL s args Ts own) (hM : gCv l y wsy rm D tc (.ref b :: As) wc w1 ok mc ms H.size) (cw : CallB R s args own index y bytes maxL none wsy rm mc ms n ∧ y.name = "<init>" ∧ (Cond.instanceMethod y).before args s = true) (hS : va_S A H0 H locs) (hA : ∀ q : Nat, H0.size ≤ q → A q) (hK : va_K D vwCl tys s) (hP : va_P D vwCl Wd H) (hD : va_D A Wd) (ks : List Nat) (hk : ks.filterMap (fun i => tys[i]?) = tc) (isC isR perm : List Nat) (hC : isC.map (fun i => Wd[i]?) = wc.map some) (hnC : va_nd isC = true) (hR : isR.map (fun i => Wd[i]?) = wr.map some) (hn : va_nd isR = true) (hdis : ∀ i ∈ isR, i ∉ isC) (hpm : perm.map (fun i => (wr ++ w1)[i]?) = W'.map some) (hpn : va_nd perm = true) 
    (hAs : As.length = n) (hsize : ls.size = nL) (hst : st0 = As.reverse ++ .ref b :: rest) (hW : (rest.map fun v => v.category).sum ≤ 8) (hdg : decode cc pc = .ok (.invokespecial index, 3)) (hf : cells + mc ≤ R.cells ∧ slots + ms ≤ R.slots)
    (kk : ∀ (H : Heap) (locs : List Loc), ok → va_P D vwCl W' H → va_D A W' → va_S A H0 H locs → W p l e R s m args below meth c H locs (cells + mc) (slots + ms) Q (F0 m (pc + 3) ls (rest))) : W p l e R s m args below meth c H locs cells slots Q (F0 m pc ls st0) := by
  have hF := va_free (wc := wc) hD hS hA isC hC
  refine va_callv (va_runI S hM cw ⟨gPre.blind, (fun U hU hW => ⟨rfl, gc_S (av := As) hK hP hD ks hk isC hC hnC U hU hW⟩)⟩ rfl hAs hsize hst (lv_room hW) hdg hf) hS (fun q _ h => hF q h) hF (fun u t H1 locs1 ht hvm hw hB hz1 hk1 hS1 => ?_)
  obtain ⟨hP1, hK1, hD1⟩ := hB
  rw [ht] at hP1
  obtain ⟨hPn, hDn⟩ := gc_join (H0 := H0) hP hD isC isR perm hC hR hn hdis hpm hpn hk1 hF hP1 hD1
  exact kk H1 locs1 hw hPn hDn hS1
theorem gSW_i {Wd wc wr w1 W' : va_W} {tc : List (ClassId × FieldType)} {H0 : Heap} {bytes : ByteArray} {nL maxL n index : Nat} {own : String} {y : MethodName} {wsy Ts : List Cond} {rm : Room} {As rest st0 : List Value} {mc ms : Nat} {ok : Prop} {v : Int32} {ret : Option FieldType} {hh : List (Nat × Nat × Nat × Nat)} (S : CallFix p m c cc nL s args Ts own) (hM : gCi l y wsy rm D tc As wc w1 v ok mc ms H.size) (cw : vx_CSW R s args own index y bytes maxL ret hh wsy rm mc ms n) (hS : va_S A H0 H locs) (hA : ∀ q : Nat, H0.size ≤ q → A q) (hK : va_K D vwCl tys s) (hP : va_P D vwCl Wd H) (hD : va_D A Wd) (ks : List Nat) (hk : ks.filterMap (fun i => tys[i]?) = tc) (isC isR perm : List Nat) (hC : isC.map (fun i => Wd[i]?) = wc.map some) (hnC : va_nd isC = true) (hR : isR.map (fun i => Wd[i]?) = wr.map some) (hn : va_nd isR = true) (hdis : ∀ i ∈ isR, i ∉ isC) (hpm : perm.map (fun i => (wr ++ w1)[i]?) = W'.map some) (hpn : va_nd perm = true) 
    (hAs : As.length = n) (hsize : ls.size = nL) (hst : st0 = As.reverse ++ rest) (hW : (rest.map fun v => v.category).sum ≤ 8) (hdg : decode cc pc = .ok (.invokestatic index, 3)) (hf : cells + mc ≤ R.cells ∧ slots + ms ≤ R.slots)
    (kk : ∀ (H : Heap) (locs : List Loc), ok → va_P D vwCl W' H → va_D A W' → va_S A H0 H locs → W p l e R s m args below meth c H locs (cells + mc) (slots + ms) Q (F0 m (pc + 3) ls (.int v :: rest))) : W p l e R s m args below meth c H locs cells slots Q (F0 m pc ls st0) := by
  have hF := va_free (wc := wc) hD hS hA isC hC
  refine va_calli (vx_runSW S hM cw ⟨gPre.blind, (fun U hU hW => ⟨rfl, gc_S (av := As) hK hP hD ks hk isC hC hnC U hU hW⟩)⟩ rfl hAs hsize hst (lv_room hW) hdg hf) hS (fun q _ h => hF q h) hF (fun r u t H1 locs1 ht hvm hw hB hz1 hk1 hS1 => ?_)
  obtain ⟨hP1, hK1, hD1⟩ := hB
  rw [ht] at hP1
  obtain ⟨rfl, hw⟩ := hw
  obtain ⟨hPn, hDn⟩ := gc_join (H0 := H0) hP hD isC isR perm hC hR hn hdis hpm hpn hk1 hF hP1 hD1
  exact kk H1 locs1 hw hPn hDn hS1
variable {rest : List Value} {a : Nat} {ws : va_W} {H0 : Heap}
theorem ga_iald (hexec : p.tables.exec = Jvm.exec) (hb : c.code = cc) (hK : va_K D vwCl tys s) (hP : va_P D vwCl ws H) (q0 t0 : Nat) {cA : ClassId} {n : Nat} {f : Nat → Int32} (ha : ws[q0]? = some (a, .inl (cA, n, .inl f))) (ht : tys[t0]? = some (cA, .int)) {j : Nat} (hj : j < n) (hn : n < 2 ^ 31) (hdg : decode cc pc = .ok (.iaload, 1))
    (kk : W p l e R s m args below meth c H locs cells slots Q (F0 m (pc + 1) ls (.int (f j) :: rest))) : W p l e R s m args below meth c H locs cells slots Q (F0 m pc ls (.int (nI j) :: .ref a :: rest)) :=
  va_iald hexec hb hK hP q0 t0 ha ht (vp_in_nI hj hn) hdg (by rw [nI_clamp (Nat.lt_trans hj hn)]; exact kk)
theorem ga_lald (hexec : p.tables.exec = Jvm.exec) (hb : c.code = cc) (hK : va_K D vwCl tys s) (hP : va_P D vwCl ws H) (q0 t0 : Nat) {cA : ClassId} {n : Nat} {f : Nat → Int64} (ha : ws[q0]? = some (a, .inl (cA, n, .inr (.inl f)))) (ht : tys[t0]? = some (cA, .long)) {j : Nat} (hj : j < n) (hn : n < 2 ^ 31) (hdg : decode cc pc = .ok (.laload, 1))
    (kk : W p l e R s m args below meth c H locs cells slots Q (F0 m (pc + 1) ls (.long (f j) :: rest))) : W p l e R s m args below meth c H locs cells slots Q (F0 m pc ls (.int (nI j) :: .ref a :: rest)) :=
  va_lald hexec hb hK hP q0 t0 ha ht (vp_in_nI hj hn) hdg (by rw [nI_clamp (Nat.lt_trans hj hn)]; exact kk)
theorem ga_iast (hexec : p.tables.exec = Jvm.exec) (hb : c.code = cc) (hK : va_K D vwCl tys s) (hP : va_P D vwCl ws H) (hD : va_D A ws) (hS : va_S A H0 H locs) (q0 t0 : Nat) {cA : ClassId} {n : Nat} {f : Nat → Int32} (ha : ws[q0]? = some (a, .inl (cA, n, .inl f))) (ht : tys[t0]? = some (cA, .int)) {j : Nat} {x : Int32} (hj : j < n) (hn : n < 2 ^ 31) (hdg : decode cc pc = .ok (.iastore, 1))
    {ws' : va_W} (hw : ws.set q0 (a, .inl (cA, n, .inl (upd f j x))) = ws') (kk : ∀ (H1 : Heap) (locs1 : List Loc), va_P D vwCl ws' H1 → va_D A ws' → va_S A H0 H1 locs1 → W p l e R s m args below meth c H1 locs1 cells slots Q (F0 m (pc + 1) ls rest)) : W p l e R s m args below meth c H locs cells slots Q (F0 m pc ls (.int x :: .int (nI j) :: .ref a :: rest)) :=
  va_iast hexec hb hK hP hD hS q0 t0 ha ht (vp_in_nI hj hn) hdg (fun H1 l1 h1 h2 h3 => by rw [nI_clamp (Nat.lt_trans hj hn), hw] at h1 h2; exact kk H1 l1 h1 h2 h3)
theorem ga_last (hexec : p.tables.exec = Jvm.exec) (hb : c.code = cc) (hK : va_K D vwCl tys s) (hP : va_P D vwCl ws H) (hD : va_D A ws) (hS : va_S A H0 H locs) (q0 t0 : Nat) {cA : ClassId} {n : Nat} {f : Nat → Int64} (ha : ws[q0]? = some (a, .inl (cA, n, .inr (.inl f)))) (ht : tys[t0]? = some (cA, .long)) {j : Nat} {x : Int64} (hj : j < n) (hn : n < 2 ^ 31) (hdg : decode cc pc = .ok (.lastore, 1))
    {ws' : va_W} (hw : ws.set q0 (a, .inl (cA, n, .inr (.inl (vp_updL f j x)))) = ws') (kk : ∀ (H1 : Heap) (locs1 : List Loc), va_P D vwCl ws' H1 → va_D A ws' → va_S A H0 H1 locs1 → W p l e R s m args below meth c H1 locs1 cells slots Q (F0 m (pc + 1) ls rest)) : W p l e R s m args below meth c H locs cells slots Q (F0 m pc ls (.long x :: .int (nI j) :: .ref a :: rest)) :=
  va_last hexec hb hK hP hD hS q0 t0 ha ht (vp_in_nI hj hn) hdg (fun H1 l1 h1 h2 h3 => by rw [nI_clamp (Nat.lt_trans hj hn), hw] at h1 h2; exact kk H1 l1 h1 h2 h3)
theorem gi_1 (i : Nat) : nI i + Int32.ofInt 1 = nI (i + 1) := nI_1 i
end GE
theorem gt_a1 : ∀ q ∈ (vx_atS RX1 132 IAE ["java/lang/RuntimeException", "java/lang/Exception"]).filter (fun q => !goodWord q), q ∈ Cond.castable IAE IAE :: tz_dn.map Cond.declares := by decide +kernel
theorem gt_g1 : ∀ q ∈ Cond.classLink RX1 128 IAE :: Cond.initialized IAE :: vx_atS RX1 132 IAE ["java/lang/RuntimeException", "java/lang/Exception"], vx_ot q = true := by decide +kernel
theorem gt_a2 : ∀ q ∈ (vx_atS RX1 139 ISE ["java/lang/RuntimeException", "java/lang/Exception"]).filter (fun q => !goodWord q), q ∈ Cond.castable ISE ISE :: tz_dn.map Cond.declares := by decide +kernel
theorem gt_g2 : ∀ q ∈ Cond.classLink RX1 135 ISE :: Cond.initialized ISE :: vx_atS RX1 139 ISE ["java/lang/RuntimeException", "java/lang/Exception"], vx_ot q = true := by decide +kernel
end
section
/-! numbers and worlds in my own words -/
/-- the lesser, the greater of two -/
def mnI (x y : Int32) : Int32 := if y < x then y else x
def mxI (x y : Int32) : Int32 := if x < y then y else x
theorem arrV_cg {cI : ClassId} {n : Nat} {f g : Nat → Value} (h : ∀ j, j < n → f j = g j) : arrV cI n f = arrV cI n g := by
  have e : (fun j : Fin n => f j.val) = (fun j : Fin n => g j.val) := funext fun j => h _ j.isLt
  simp only [arrV, e]
theorem gw_I {D : va_G} {cl : List vw_C} {ws ws' : va_W} {H : Heap} (hP : va_P D cl ws H) (k : Nat) {a : Nat} {cA : ClassId} {n : Nat} {f g : Nat → Int32} (hk : ws[k]? = some (a, .inl (cA, n, .inl f))) (h : ∀ j, j < n → f j = g j) (e : ws.set k (a, .inl (cA, n, .inl g)) = ws') : va_P D cl ws' H := by
  subst e
  intro i q hq
  by_cases hi : i = k
  · subst hi
    have hlt : i < ws.length := (List.getElem?_eq_some_iff.mp hk).1
    rw [List.getElem?_set] at hq
    simp only [if_true, hlt] at hq
    cases hq
    have h1 : H[a]? = some (vp_cell cA (n, .inl f)) := hP i _ hk
    show H[a]? = some (vp_cell cA (n, .inl g))
    rw [h1]
    show some (arrV cA n (fun j => .int (f j))) = some (arrV cA n (fun j => .int (g j)))
    rw [arrV_cg (fun j hj => by rw [h j hj])]
  · rw [List.getElem?_set] at hq
    simp only [if_neg (fun z : k = i => hi z.symm)] at hq
    exact hP i q hq
theorem gw_L {D : va_G} {cl : List vw_C} {ws ws' : va_W} {H : Heap} (hP : va_P D cl ws H) (k : Nat) {a : Nat} {cA : ClassId} {n : Nat} {f g : Nat → Int64} (hk : ws[k]? = some (a, .inl (cA, n, .inr (.inl f)))) (h : ∀ j, j < n → f j = g j) (e : ws.set k (a, .inl (cA, n, .inr (.inl g))) = ws') : va_P D cl ws' H := by
  subst e
  intro i q hq
  by_cases hi : i = k
  · subst hi
    have hlt : i < ws.length := (List.getElem?_eq_some_iff.mp hk).1
    rw [List.getElem?_set] at hq
    simp only [if_true, hlt] at hq
    cases hq
    have h1 : H[a]? = some (vp_cell cA (n, .inr (.inl f))) := hP i _ hk
    show H[a]? = some (vp_cell cA (n, .inr (.inl g)))
    rw [h1]
    show some (arrV cA n (fun j => .long (f j))) = some (arrV cA n (fun j => .long (g j)))
    rw [arrV_cg (fun j hj => by rw [h j hj])]
  · rw [List.getElem?_set] at hq
    simp only [if_neg (fun z : k = i => hi z.symm)] at hq
    exact hP i q hq
theorem gw_D {A : Nat → Prop} {ws ws' : va_W} (hD : va_D A ws) (k : Nat) {a : Nat} {e0 e1 : va_E} (hk : ws[k]? = some (a, e0)) (e : ws.set k (a, e1) = ws') : va_D A ws' := e ▸ va_D.set hD hk
theorem gj_i {p : Program} {l : Launch} {e : Env} {R : Room} {s : State} {m : MethodId} {args : Array Value} {below : List Frame} {meth : Method} {c : Code} {H : Heap} {locs : List Loc} {cells slots : Nat} {Q : State → Prop} {pc : Nat} {ls : Array Slot} {rest : List Value} {x y : Int32} (h : x = y) (k : W p l e R s m args below meth c H locs cells slots Q (F0 m pc ls (.int y :: rest))) : W p l e R s m args below meth c H locs cells slots Q (F0 m pc ls (.int x :: rest)) := h ▸ k
theorem gj_l {p : Program} {l : Launch} {e : Env} {R : Room} {s : State} {m : MethodId} {args : Array Value} {below : List Frame} {meth : Method} {c : Code} {H : Heap} {locs : List Loc} {cells slots : Nat} {Q : State → Prop} {pc : Nat} {ls : Array Slot} {rest : List Value} {x y : Int64} (h : x = y) (k : W p l e R s m args below meth c H locs cells slots Q (F0 m pc ls (.long y :: rest))) : W p l e R s m args below meth c H locs cells slots Q (F0 m pc ls (.long x :: rest)) := h ▸ k
/-- the first i places are v, the others f's -/
def flf (f : Nat → Int32) (v : Int32) (i : Nat) : Nat → Int32 := fun j => if j < i then v else f j
theorem flf_0 (f : Nat → Int32) (v : Int32) : flf f v 0 = f := rfl
theorem flf_s (f : Nat → Int32) (v : Int32) (i : Nat) : upd (flf f v i) i v = flf f v (i + 1) := by
  funext j
  unfold upd flf
  by_cases h : j = i
  · rw [if_pos h, if_pos (by omega)]
  · rw [if_neg h]
    by_cases h2 : j < i
    · rw [if_pos h2, if_pos (by omega)]
    · rw [if_neg h2, if_neg (by omega)]
/-- a stock: its object q, its row -/
abbrev wK (q r : Nat) (cI : ClassId) (f : Nat → Int32) (k z : Int32) : va_W := [(q, .inr (0, [.ref r, .int k, .int z])), (r, .inl (cI, 20, .inl f))]
/-- what lapses before the year y -/
def lpF (f : Nat → Int32) (k y : Nat) : Nat → Int32 := if k + 1 ≤ y then upd f (y - k - 1) 0 else f
def lpZ (f : Nat → Int32) (z : Int32) (k y : Nat) : Int32 := if k + 1 ≤ y then z + f (y - k - 1) else z
abbrev wG (ad : Nat → Nat) (cI cL : ClassId) (qy lp sp : Int32) (pr ex : Nat → Int32) (cl : Int32) (dy tk mk : Nat → Int32) (mK mS : Int32) (su : Nat → Int32) (uK uS : Int32) (sh mu co sr : Nat → Int32) (du bi : Nat → Int64) (bb : Int64) : va_W :=
  [(ad 0, .inr (1, [.int qy, .int lp, .int sp, .ref (ad 1), .ref (ad 2), .int cl, .ref (ad 3), .ref (ad 4), .ref (ad 5), .ref (ad 6), .ref (ad 7), .ref (ad 8), .ref (ad 9), .ref (ad 10), .ref (ad 11), .ref (ad 12), .long bb])),
   (ad 1, .inl (cI, 20, .inl pr)), (ad 2, .inl (cI, 20, .inl ex)), (ad 3, .inl (cI, 360, .inl dy)), (ad 4, .inl (cI, 20, .inl tk)),
   (ad 5, .inr (0, [.ref (ad 13), .int mK, .int mS])), (ad 6, .inr (0, [.ref (ad 14), .int uK, .int uS])),
   (ad 7, .inl (cI, 20, .inl sh)), (ad 8, .inl (cI, 20, .inl mu)), (ad 9, .inl (cI, 20, .inl co)), (ad 10, .inl (cI, 20, .inl sr)), (ad 11, .inl (cL, 20, .inr (.inl du))), (ad 12, .inl (cL, 20, .inr (.inl bi))),
   (ad 13, .inl (cI, 20, .inl mk)), (ad 14, .inl (cI, 20, .inl su))]
abbrev wM (bd : Nat → Nat) (cI cL : ClassId) (th qy lp sp mK uK : Int32) (pr ex dy tk : Nat → Int32) (bi : Nat → Int64) (cl : Int32) (sh sr mk su mu co : Nat → Int32) (du : Nat → Int64) (mS : Int32) : va_W :=
  [(bd 0, .inr (2, [.int th, .int qy, .int lp, .int sp, .int mK, .int uK, .ref (bd 1), .ref (bd 2), .ref (bd 3), .ref (bd 4), .ref (bd 5), .int cl, .ref (bd 6), .ref (bd 7), .ref (bd 8), .ref (bd 9), .ref (bd 10), .ref (bd 11), .ref (bd 12), .int mS])),
   (bd 1, .inl (cI, 20, .inl pr)), (bd 2, .inl (cI, 20, .inl ex)), (bd 3, .inl (cI, 360, .inl dy)), (bd 4, .inl (cI, 20, .inl tk)), (bd 5, .inl (cL, 20, .inr (.inl bi))),
   (bd 6, .inl (cI, 20, .inl sh)), (bd 7, .inl (cI, 20, .inl sr)), (bd 8, .inl (cI, 20, .inl mk)), (bd 9, .inl (cI, 20, .inl su)), (bd 10, .inl (cI, 20, .inl mu)), (bd 11, .inl (cI, 20, .inl co)), (bd 12, .inl (cL, 20, .inr (.inl du)))]
theorem lp_neg : ∀ y, y < 20 → ∀ k, k < 20 → y < k + 1 → nI y - nI k - 1 < 0 := by decide +kernel
theorem lp_pos : ∀ y, y < 20 → ∀ k, k < 20 → k + 1 ≤ y → nI y - nI k - 1 = nI (y - k - 1) := by decide +kernel
end
section
set_option maxHeartbeats 4000000 in
set_option maxRecDepth 100000 in
theorem c_J7_fill_53178 (l : Launch) (D : va_G) (sz : Nat) (a n : Nat) (cI cL : ClassId) (f : Nat → Int32) (v : Int32) (hn : n < 2 ^ 31) : gCv l yJ7_fill_53178 wsJ7_fill_53178 ({ frames := 0, cells := 0, slots := 0, locals := 0 } : Room) D [(cI, .int), (cL, .long)] [.ref a, .int v] [(a, .inl (cI, n, .inl f))] [(a, .inl (cI, n, .inl (fun _ => v)))] True 0 0 sz := by
  refine gm_v (cc := cJ7_fill_53178) (maxL := 4) (by decide) rfl (Nat.le_of_ble_eq_true rfl) ?_
  intro pg en s m args below meth cd A ls hx hb hr hml hown hts hlocks hin hA hK hP hD hl
  have hl : lv_has ls 4 [(0, .ref a), (1, .int v)] := hl
  have hS : va_S A s.heap s.heap [] := va_S.rf
  refine lv_iconst (v := 0) hx hb dJ7_fill_53178_0 (by decide) ?_
  refine lv_istore_n (lv' := [(2, .int 0), (0, .ref a), (1, .int v)]) hx hb dJ7_fill_53178_1 rfl hl (by decide) rfl (fun ls hl => ?_)
  refine lv_aload_n hx hb dJ7_fill_53178_2 rfl (lv_at hl 1 rfl) ?_
  refine va_alen (v := nI n) hx hb hK hP 0 0 rfl rfl rfl dJ7_fill_53178_3 ?_
  refine lv_istore_n (lv' := [(3, .int (nI n)), (2, .int 0), (0, .ref a), (1, .int v)]) hx hb dJ7_fill_53178_4 rfl hl (by decide) rfl (fun ls hl => ?_)
  have lp : ∀ (k i : Nat), i ≤ n → n < i + k → ∀ (H : Heap) (locs : List Loc), va_P D vwCl [(a, .inl (cI, n, .inl (flf f v i)))] H → va_D A [(a, .inl (cI, n, .inl (flf f v i)))] → va_S A s.heap H locs → ∀ (ls : Array Slot), lv_has ls 4 [(0, .ref a), (1, .int v), (2, .int (nI i)), (3, .int (nI n))] → W pg l en ({ frames := 0, cells := 0, slots := 0, locals := 0 } : Room) s m args below meth cd H locs 0 0 (gEv True below D [(cI, .int), (cL, .long)] [(a, .inl (cI, n, .inl (fun _ => v)))] A args s 0 0) (F0 m 5 ls []) := by
    intro k
    induction k with
    | zero => intro i h1 h2; exact absurd h2 (by omega)
    | succ k ih =>
      intro i hi hin2 H locs hP hD hS ls hl
      refine lv_iload_n hx hb dJ7_fill_53178_5 rfl (lv_at hl 2 rfl) ?_
      refine lv_iload_n hx hb dJ7_fill_53178_6 rfl (lv_at hl 3 rfl) ?_
      refine lv_icmp_ge (tgt := 20) hx hb dJ7_fill_53178_7 (by decide) (fun c7 => ?_) (fun c7 => ?_)
      · have hni : ¬ i < n := fun h => absurd c7 (nI_ge h hn)
        have hP : va_P D vwCl [(a, .inl (cI, n, .inl (fun _ => v)))] H := gw_I hP 0 rfl (fun j hj => if_pos (by omega)) rfl
        have hD : va_D A [(a, .inl (cI, n, .inl (fun _ => v)))] := gw_D hD 0 rfl rfl
        exact ge_v hx hb hr hlocks hK hP hD hS trivial (Nat.le_of_ble_eq_true rfl) (Nat.le_of_ble_eq_true rfl) dJ7_fill_53178_20
      · have hlt : i < n := Nat.not_le.mp (fun h => c7 (nI_le h (by omega)))
        refine lv_aload_n hx hb dJ7_fill_53178_10 rfl (lv_at hl 0 rfl) ?_
        refine lv_iload_n hx hb dJ7_fill_53178_11 rfl (lv_at hl 2 rfl) ?_
        refine lv_iload_n hx hb dJ7_fill_53178_12 rfl (lv_at hl 1 rfl) ?_
        refine ga_iast (ws' := [(a, .inl (cI, n, .inl (flf f v (i + 1))))]) hx hb hK hP hD hS 0 0 rfl rfl hlt hn dJ7_fill_53178_13 (by rw [flf_s]; rfl) (fun H locs hP hD hS => ?_)
        refine lv_iinc (v := nI (i + 1)) (lv' := [(2, .int (nI (i + 1))), (0, .ref a), (1, .int v), (3, .int (nI n))]) hx hb dJ7_fill_53178_14 hl (k := 2) rfl (gi_1 _) (by decide) rfl (fun ls hl => ?_)
        refine lv_goto (tgt := 5) hx hb dJ7_fill_53178_17 (by decide) ?_
        exact ih (i + 1) (by omega) (by omega) _ _ hP hD hS ls (lv_sub hl [1, 2, 0, 3] rfl)
  exact lp (n + 1) 0 (by omega) (by omega) _ _ hP hD hS ls (lv_sub hl [2, 3, 1, 0] rfl)
theorem inX0_keepFor_X0 : ∀ q ∈ wsX00, q ∈ wsX0_keepFor := by decide +kernel
theorem hX0_keepFor__fieldLink_RX0_15_MakeupGas_Stock_yearsKept_I_ : Cond.fieldLink RX0 15 "MakeupGas$Stock" "yearsKept" "I" ∈ wsX0_keepFor := by decide +kernel
set_option maxHeartbeats 4000000 in
set_option maxRecDepth 100000 in
theorem c_X0_keepFor (l : Launch) (D : va_G) (sz : Nat) (q r : Nat) (cI cL : ClassId) (f : Nat → Int32) (k z : Int32) (y : Int32)  : gCv l yX0_keepFor wsX0_keepFor ({ frames := 0, cells := 0, slots := 0, locals := 0 } : Room) D [(cI, .int), (cL, .long)] [.ref q, .int y] (wK q r cI f k z) (wK q r cI f y z) True 0 0 sz := by
  refine gm_v (cc := cX0_keepFor) (maxL := 2) (by decide) rfl (Nat.le_of_ble_eq_true rfl) ?_
  intro pg en s m args below meth cd A ls hx hb hr hml hown hts hlocks hin hA hK hP hD hl
  have hl : lv_has ls 2 [(0, .ref q), (1, .int y)] := hl
  have hS : va_S A s.heap s.heap [] := va_S.rf
  refine lv_aload_n hx hb dX0_keepFor_0 rfl (lv_at hl 0 rfl) ?_
  refine lv_iload_n hx hb dX0_keepFor_1 rfl (lv_at hl 1 rfl) ?_
  refine va_put (D := D) (ci := 0) (v := .int y) (ty := .int) (C := RX0) (T := TX0) (N := 3) hx hb hts inX0_keepFor_X0 tyX0 tyX0_ok nmX0 hown hK hP hD hS 0 rfl rfl 1 (by decide) (hts _ hX0_keepFor__fieldLink_RX0_15_MakeupGas_Stock_yearsKept_I_) (fun _ h9 => h9) (by decide +kernel) (by decide +kernel) rfl rfl (Nat.le_of_ble_eq_true rfl) dX0_keepFor_2 (fun H locs hP hD hS => ?_)
  have hP : va_P D vwCl (wK q r cI f y z) H := hP
  have hD : va_D A (wK q r cI f y z) := hD
  exact ge_v hx hb hr hlocks hK hP hD hS trivial (Nat.le_of_ble_eq_true rfl) (Nat.le_of_ble_eq_true rfl) dX0_keepFor_5
theorem inX0_empty_X0 : ∀ q ∈ wsX00, q ∈ wsX0_empty := by decide +kernel
theorem hX0_empty__fieldLink_RX0_9_MakeupGas_Stock_left_I_ : Cond.fieldLink RX0 9 "MakeupGas$Stock" "left" "[I" ∈ wsX0_empty := by decide +kernel
theorem hX0_empty__fieldLink_RX0_25_MakeupGas_Stock_lapsedSum_I_ : Cond.fieldLink RX0 25 "MakeupGas$Stock" "lapsedSum" "I" ∈ wsX0_empty := by decide +kernel
set_option maxHeartbeats 4000000 in
set_option maxRecDepth 100000 in
theorem c_X0_empty (l : Launch) (D : va_G) (sz : Nat) (q r : Nat) (cI cL : ClassId) (f : Nat → Int32) (k z : Int32)  : gCv l yX0_empty wsX0_empty ({ frames := 1, cells := 0, slots := 0, locals := 23 } : Room) D [(cI, .int), (cL, .long)] [.ref q] (wK q r cI f k z) (wK q r cI (fun _ => 0) k 0) True 0 0 sz := by
  refine gm_v (cc := cX0_empty) (maxL := 1) (by decide) rfl (Nat.le_of_ble_eq_true rfl) ?_
  intro pg en s m args below meth cd A ls hx hb hr hml hown hts hlocks hin hA hK hP hD hl
  have hl : lv_has ls 1 [(0, .ref q)] := hl
  have hS : va_S A s.heap s.heap [] := va_S.rf
  refine lv_aload_n hx hb dX0_empty_0 rfl (lv_at hl 0 rfl) ?_
  refine va_get (D := D) (ci := 0) (C := RX0) (T := TX0) (N := 3) hx hb hts inX0_empty_X0 hown hK hP 0 rfl rfl 0 (by decide) (hts _ hX0_empty__fieldLink_RX0_9_MakeupGas_Stock_left_I_) (fun _ h9 => h9) rfl dX0_empty_1 ?_
  refine lv_iconst (v := 0) hx hb dX0_empty_4 (by decide) ?_
  refine gS_v (wc := [(r, .inl (cI, 20, .inl f))]) (wr := [(q, .inr (0, [.ref r, .int k, .int z]))]) (w1 := [(r, .inl (cI, 20, .inl (fun _ => 0)))]) (W' := (wK q r cI (fun _ => 0) k z)) (As := [.ref r, .int 0]) (rest := []) ⟨hx, hb, hml, hown, hts⟩ (c_J7_fill_53178 l D s.heap.size r 20 cI cL f 0 (by decide)) (va_cwS 2 hts gX0_empty_J7_fill_53178 rfl rfl rfl (by decide +kernel) ⟨(Nat.le_of_ble_eq_true rfl), (Nat.le_of_ble_eq_true rfl)⟩) hS hA hK hP hD [0, 1] rfl [1] [0] [0, 1] rfl (by decide) rfl (by decide) (by decide) rfl (by decide) rfl hl.1 rfl (Nat.le_of_ble_eq_true rfl) dX0_empty_5 ⟨(Nat.le_of_ble_eq_true rfl), (Nat.le_of_ble_eq_true rfl)⟩ (fun H locs _ hP hD hS => ?_)
  refine lv_aload_n hx hb dX0_empty_8 rfl (lv_at hl 0 rfl) ?_
  refine lv_iconst (v := 0) hx hb dX0_empty_9 (by decide) ?_
  refine va_put (D := D) (ci := 0) (v := .int 0) (ty := .int) (C := RX0) (T := TX0) (N := 3) hx hb hts inX0_empty_X0 tyX0 tyX0_ok nmX0 hown hK hP hD hS 0 rfl rfl 2 (by decide) (hts _ hX0_empty__fieldLink_RX0_25_MakeupGas_Stock_lapsedSum_I_) (fun _ h9 => h9) (by decide +kernel) (by decide +kernel) rfl rfl (Nat.le_of_ble_eq_true rfl) dX0_empty_10 (fun H locs hP hD hS => ?_)
  have hP : va_P D vwCl (wK q r cI (fun _ => 0) k 0) H := hP
  have hD : va_D A (wK q r cI (fun _ => 0) k 0) := hD
  exact ge_v hx hb hr hlocks hK hP hD hS trivial (Nat.le_of_ble_eq_true rfl) (Nat.le_of_ble_eq_true rfl) dX0_empty_13
theorem inX0_put_X0 : ∀ q ∈ wsX00, q ∈ wsX0_put := by decide +kernel
theorem hX0_put__fieldLink_RX0_9_MakeupGas_Stock_left_I_ : Cond.fieldLink RX0 9 "MakeupGas$Stock" "left" "[I" ∈ wsX0_put := by decide +kernel
set_option maxHeartbeats 4000000 in
set_option maxRecDepth 100000 in
theorem c_X0_put (l : Launch) (D : va_G) (sz : Nat) (q r : Nat) (cI cL : ClassId) (f : Nat → Int32) (k z : Int32) (o : Nat) (v : Int32) (ho : o < 20) : gCv l yX0_put wsX0_put ({ frames := 0, cells := 0, slots := 0, locals := 0 } : Room) D [(cI, .int), (cL, .long)] [.ref q, .int (nI o), .int v] (wK q r cI f k z) (wK q r cI (upd f o v) k z) True 0 0 sz := by
  refine gm_v (cc := cX0_put) (maxL := 3) (by decide) rfl (Nat.le_of_ble_eq_true rfl) ?_
  intro pg en s m args below meth cd A ls hx hb hr hml hown hts hlocks hin hA hK hP hD hl
  have hl : lv_has ls 3 [(0, .ref q), (1, .int (nI o)), (2, .int v)] := hl
  have hS : va_S A s.heap s.heap [] := va_S.rf
  refine lv_aload_n hx hb dX0_put_0 rfl (lv_at hl 0 rfl) ?_
  refine va_get (D := D) (ci := 0) (C := RX0) (T := TX0) (N := 3) hx hb hts inX0_put_X0 hown hK hP 0 rfl rfl 0 (by decide) (hts _ hX0_put__fieldLink_RX0_9_MakeupGas_Stock_left_I_) (fun _ h9 => h9) rfl dX0_put_1 ?_
  refine lv_iload_n hx hb dX0_put_4 rfl (lv_at hl 1 rfl) ?_
  refine lv_iload_n hx hb dX0_put_5 rfl (lv_at hl 2 rfl) ?_
  refine ga_iast (j := o) (ws' := (wK q r cI (upd f o v) k z)) hx hb hK hP hD hS 1 0 rfl rfl ho (by decide) dX0_put_6 rfl (fun H locs hP hD hS => ?_)
  exact ge_v hx hb hr hlocks hK hP hD hS trivial (Nat.le_of_ble_eq_true rfl) (Nat.le_of_ble_eq_true rfl) dX0_put_7
theorem inX0_leftFrom_X0 : ∀ q ∈ wsX00, q ∈ wsX0_leftFrom := by decide +kernel
theorem hX0_leftFrom__fieldLink_RX0_9_MakeupGas_Stock_left_I_ : Cond.fieldLink RX0 9 "MakeupGas$Stock" "left" "[I" ∈ wsX0_leftFrom := by decide +kernel
set_option maxHeartbeats 4000000 in
set_option maxRecDepth 100000 in
theorem c_X0_leftFrom (l : Launch) (D : va_G) (sz : Nat) (q r : Nat) (cI cL : ClassId) (f : Nat → Int32) (k z : Int32) (o : Nat) (ho : o < 20) : gCi l yX0_leftFrom wsX0_leftFrom ({ frames := 0, cells := 0, slots := 0, locals := 0 } : Room) D [(cI, .int), (cL, .long)] [.ref q, .int (nI o)] (wK q r cI f k z) (wK q r cI f k z) (f o) True 0 0 sz := by
  refine gm_i (cc := cX0_leftFrom) (maxL := 2) (by decide) rfl (Nat.le_of_ble_eq_true rfl) ?_
  intro pg en s m args below meth cd A ls hx hb hr hml hown hts hlocks hin hA hK hP hD hl
  have hl : lv_has ls 2 [(0, .ref q), (1, .int (nI o))] := hl
  have hS : va_S A s.heap s.heap [] := va_S.rf
  refine lv_aload_n hx hb dX0_leftFrom_0 rfl (lv_at hl 0 rfl) ?_
  refine va_get (D := D) (ci := 0) (C := RX0) (T := TX0) (N := 3) hx hb hts inX0_leftFrom_X0 hown hK hP 0 rfl rfl 0 (by decide) (hts _ hX0_leftFrom__fieldLink_RX0_9_MakeupGas_Stock_left_I_) (fun _ h9 => h9) rfl dX0_leftFrom_1 ?_
  refine lv_iload_n hx hb dX0_leftFrom_4 rfl (lv_at hl 1 rfl) ?_
  refine ga_iald (j := o) hx hb hK hP 1 0 rfl rfl ho (by decide) dX0_leftFrom_5 ?_
  exact ge_i hx hb hr hlocks rfl hK hP hD hS trivial (Nat.le_of_ble_eq_true rfl) (Nat.le_of_ble_eq_true rfl) dX0_leftFrom_6
theorem inX0_lapsedInAll_X0 : ∀ q ∈ wsX00, q ∈ wsX0_lapsedInAll := by decide +kernel
theorem hX0_lapsedInAll__fieldLink_RX0_25_MakeupGas_Stock_lapsedSum_I_ : Cond.fieldLink RX0 25 "MakeupGas$Stock" "lapsedSum" "I" ∈ wsX0_lapsedInAll := by decide +kernel
set_option maxHeartbeats 4000000 in
set_option maxRecDepth 100000 in
theorem c_X0_lapsedInAll (l : Launch) (D : va_G) (sz : Nat) (q r : Nat) (cI cL : ClassId) (f : Nat → Int32) (k z : Int32)  : gCi l yX0_lapsedInAll wsX0_lapsedInAll ({ frames := 0, cells := 0, slots := 0, locals := 0 } : Room) D [(cI, .int), (cL, .long)] [.ref q] (wK q r cI f k z) (wK q r cI f k z) z True 0 0 sz := by
  refine gm_i (cc := cX0_lapsedInAll) (maxL := 1) (by decide) rfl (Nat.le_of_ble_eq_true rfl) ?_
  intro pg en s m args below meth cd A ls hx hb hr hml hown hts hlocks hin hA hK hP hD hl
  have hl : lv_has ls 1 [(0, .ref q)] := hl
  have hS : va_S A s.heap s.heap [] := va_S.rf
  refine lv_aload_n hx hb dX0_lapsedInAll_0 rfl (lv_at hl 0 rfl) ?_
  refine va_get (D := D) (ci := 0) (C := RX0) (T := TX0) (N := 3) hx hb hts inX0_lapsedInAll_X0 hown hK hP 0 rfl rfl 2 (by decide) (hts _ hX0_lapsedInAll__fieldLink_RX0_25_MakeupGas_Stock_lapsedSum_I_) (fun _ h9 => h9) rfl dX0_lapsedInAll_1 ?_
  exact ge_i hx hb hr hlocks rfl hK hP hD hS trivial (Nat.le_of_ble_eq_true rfl) (Nat.le_of_ble_eq_true rfl) dX0_lapsedInAll_4
theorem inX0_drawFrom_X0 : ∀ q ∈ wsX00, q ∈ wsX0_drawFrom := by decide +kernel
theorem hX0_drawFrom__fieldLink_RX0_9_MakeupGas_Stock_left_I_ : Cond.fieldLink RX0 9 "MakeupGas$Stock" "left" "[I" ∈ wsX0_drawFrom := by decide +kernel
theorem hX0_drawFrom__methodLink_RX0_28_Lib_Math_min_name : Cond.methodLink RX0 28 Lib.Math.min.name ∈ wsX0_drawFrom := by decide +kernel
theorem hX0_drawFrom__static_Lib_Math_min_name : Cond.static Lib.Math.min.name ∈ wsX0_drawFrom := by decide +kernel
theorem hX0_drawFrom__initialized_java_lang_Math_ : Cond.initialized "java/lang/Math" ∈ wsX0_drawFrom := by decide +kernel
theorem hX0_drawFrom__code_Lib_Math_min_name_Lib_Math_min_code_2_some_int_ : Cond.code Lib.Math.min.name Lib.Math.min.code 2 (some .int) ∈ wsX0_drawFrom := by decide +kernel
set_option maxHeartbeats 4000000 in
set_option maxRecDepth 100000 in
theorem c_X0_drawFrom (l : Launch) (D : va_G) (sz : Nat) (q r : Nat) (cI cL : ClassId) (f : Nat → Int32) (k z : Int32) (o : Nat) (v : Int32) (ho : o < 20) : gCi l yX0_drawFrom wsX0_drawFrom ({ frames := 1, cells := 0, slots := 0, locals := 21 } : Room) D [(cI, .int), (cL, .long)] [.ref q, .int (nI o), .int v] (wK q r cI f k z) (wK q r cI (upd f o (f o - mnI v (f o))) k z) (mnI v (f o)) True 0 0 sz := by
  refine gm_i (cc := cX0_drawFrom) (maxL := 4) (by decide) rfl (Nat.le_of_ble_eq_true rfl) ?_
  intro pg en s m args below meth cd A ls hx hb hr hml hown hts hlocks hin hA hK hP hD hl
  have hl : lv_has ls 4 [(0, .ref q), (1, .int (nI o)), (2, .int v)] := hl
  have hS : va_S A s.heap s.heap [] := va_S.rf
  refine lv_iload_n hx hb dX0_drawFrom_0 rfl (lv_at hl 2 rfl) ?_
  refine lv_aload_n hx hb dX0_drawFrom_1 rfl (lv_at hl 0 rfl) ?_
  refine va_get (D := D) (ci := 0) (C := RX0) (T := TX0) (N := 3) hx hb hts inX0_drawFrom_X0 hown hK hP 0 rfl rfl 0 (by decide) (hts _ hX0_drawFrom__fieldLink_RX0_9_MakeupGas_Stock_left_I_) (fun _ h9 => h9) rfl dX0_drawFrom_2 ?_
  refine lv_iload_n hx hb dX0_drawFrom_5 rfl (lv_at hl 1 rfl) ?_
  refine ga_iald (j := o) hx hb hK hP 1 0 rfl rfl ho (by decide) dX0_drawFrom_6 ?_
  refine va_mmin hx hb (by rw [hml]; exact hl.1.symm) hown (hts _ hX0_drawFrom__methodLink_RX0_28_Lib_Math_min_name) (hts _ hX0_drawFrom__static_Lib_Math_min_name) (hts _ hX0_drawFrom__initialized_java_lang_Math_) (hts _ hX0_drawFrom__code_Lib_Math_min_name_Lib_Math_min_code_2_some_int_) (Nat.le_of_ble_eq_true rfl) (Nat.le_of_ble_eq_true rfl) (Nat.le_of_ble_eq_true rfl) (Nat.le_of_ble_eq_true rfl) dX0_drawFrom_7 ?_
  refine lv_istore_n (lv' := [(3, .int (mnI v (f o))), (0, .ref q), (1, .int (nI o)), (2, .int v)]) hx hb dX0_drawFrom_10 rfl hl (by decide) rfl (fun ls hl => ?_)
  refine lv_aload_n hx hb dX0_drawFrom_11 rfl (lv_at hl 1 rfl) ?_
  refine va_get (D := D) (ci := 0) (C := RX0) (T := TX0) (N := 3) hx hb hts inX0_drawFrom_X0 hown hK hP 0 rfl rfl 0 (by decide) (hts _ hX0_drawFrom__fieldLink_RX0_9_MakeupGas_Stock_left_I_) (fun _ h9 => h9) rfl dX0_drawFrom_12 ?_
  refine lv_iload_n hx hb dX0_drawFrom_15 rfl (lv_at hl 2 rfl) ?_
  refine lv_dup2_11 hx hb dX0_drawFrom_16 rfl rfl ?_
  refine ga_iald (j := o) hx hb hK hP 1 0 rfl rfl ho (by decide) dX0_drawFrom_17 ?_
  refine lv_iload_n hx hb dX0_drawFrom_18 rfl (lv_at hl 0 rfl) ?_
  refine lv_isub hx hb dX0_drawFrom_19 ?_
  refine ga_iast (j := o) (ws' := (wK q r cI (upd f o ((f o) - (mnI v (f o)))) k z)) hx hb hK hP hD hS 1 0 rfl rfl ho (by decide) dX0_drawFrom_20 rfl (fun H locs hP hD hS => ?_)
  refine lv_iload_n hx hb dX0_drawFrom_21 rfl (lv_at hl 0 rfl) ?_
  exact ge_i hx hb hr hlocks rfl hK hP hD hS trivial (Nat.le_of_ble_eq_true rfl) (Nat.le_of_ble_eq_true rfl) dX0_drawFrom_22
theorem inX0_lapseBefore_X0 : ∀ q ∈ wsX00, q ∈ wsX0_lapseBefore := by decide +kernel
theorem hX0_lapseBefore__fieldLink_RX0_15_MakeupGas_Stock_yearsKept_I_ : Cond.fieldLink RX0 15 "MakeupGas$Stock" "yearsKept" "I" ∈ wsX0_lapseBefore := by decide +kernel
theorem hX0_lapseBefore__fieldLink_RX0_25_MakeupGas_Stock_lapsedSum_I_ : Cond.fieldLink RX0 25 "MakeupGas$Stock" "lapsedSum" "I" ∈ wsX0_lapseBefore := by decide +kernel
theorem hX0_lapseBefore__fieldLink_RX0_9_MakeupGas_Stock_left_I_ : Cond.fieldLink RX0 9 "MakeupGas$Stock" "left" "[I" ∈ wsX0_lapseBefore := by decide +kernel
set_option maxHeartbeats 4000000 in
set_option maxRecDepth 100000 in
theorem c_X0_lapseBefore (l : Launch) (D : va_G) (sz : Nat) (q r : Nat) (cI cL : ClassId) (f : Nat → Int32) (kk : Nat) (z : Int32) (y : Nat) (hy : y < 20) (hk : kk < 20) : gCv l yX0_lapseBefore wsX0_lapseBefore ({ frames := 0, cells := 0, slots := 0, locals := 0 } : Room) D [(cI, .int), (cL, .long)] [.ref q, .int (nI y)] (wK q r cI f (nI kk) z) (wK q r cI (lpF f kk y) (nI kk) (lpZ f z kk y)) True 0 0 sz := by
  refine gm_v (cc := cX0_lapseBefore) (maxL := 3) (by decide) rfl (Nat.le_of_ble_eq_true rfl) ?_
  intro pg en s m args below meth cd A ls hx hb hr hml hown hts hlocks hin hA hK hP hD hl
  have hl : lv_has ls 3 [(0, .ref q), (1, .int (nI y))] := hl
  have hS : va_S A s.heap s.heap [] := va_S.rf
  refine lv_iload_n hx hb dX0_lapseBefore_0 rfl (lv_at hl 1 rfl) ?_
  refine lv_aload_n hx hb dX0_lapseBefore_1 rfl (lv_at hl 0 rfl) ?_
  refine va_get (D := D) (ci := 0) (C := RX0) (T := TX0) (N := 3) hx hb hts inX0_lapseBefore_X0 hown hK hP 0 rfl rfl 1 (by decide) (hts _ hX0_lapseBefore__fieldLink_RX0_15_MakeupGas_Stock_yearsKept_I_) (fun _ h9 => h9) rfl dX0_lapseBefore_2 ?_
  refine lv_isub hx hb dX0_lapseBefore_5 ?_
  refine lv_iconst (v := 1) hx hb dX0_lapseBefore_6 (by decide) ?_
  refine lv_isub hx hb dX0_lapseBefore_7 ?_
  rcases Nat.lt_or_ge y (kk + 1) with hlt | hge
  · refine lv_topi (fun x ex => ?_)
    refine lv_istore_n (lv' := [(2, .int x), (0, .ref q), (1, .int (nI y))]) hx hb dX0_lapseBefore_8 rfl hl (by decide) rfl (fun ls hl => ?_)
    refine lv_iload_n hx hb dX0_lapseBefore_9 rfl (lv_at hl 0 rfl) ?_
    refine lv_if_lt (tgt := 41) hx hb dX0_lapseBefore_10 (by decide) (fun c10 => ?_) (fun c10 => ?_)
    · have hP : va_P D vwCl (wK q r cI (lpF f kk y) (nI kk) (lpZ f z kk y)) s.heap := by rw [lpF, lpZ, if_neg (by omega), if_neg (by omega)]; exact hP
      have hD : va_D A (wK q r cI (lpF f kk y) (nI kk) (lpZ f z kk y)) := by rw [lpF, lpZ, if_neg (by omega), if_neg (by omega)]; exact hD
      exact ge_v hx hb hr hlocks hK hP hD hS trivial (Nat.le_of_ble_eq_true rfl) (Nat.le_of_ble_eq_true rfl) dX0_lapseBefore_41
    · exact absurd (by rw [ex]; exact lp_neg y hy kk hk hlt) c10
  · refine gj_i (lp_pos y hy kk hk hge) ?_
    have ho : y - kk - 1 < 20 := by omega
    refine lv_istore_n (lv' := [(2, .int (nI (y - kk - 1))), (0, .ref q), (1, .int (nI y))]) hx hb dX0_lapseBefore_8 rfl hl (by decide) rfl (fun ls hl => ?_)
    refine lv_iload_n hx hb dX0_lapseBefore_9 rfl (lv_at hl 0 rfl) ?_
    refine lv_if_lt (tgt := 41) hx hb dX0_lapseBefore_10 (by decide) (fun c10 => ?_) (fun c10 => ?_)
    · exact absurd c10 (nI_pos (by omega))
    · refine lv_iload_n hx hb dX0_lapseBefore_13 rfl (lv_at hl 0 rfl) ?_
      refine lv_bipush (v := 20) hx hb dX0_lapseBefore_14 (by decide) ?_
      refine lv_icmp_ge (tgt := 41) hx hb dX0_lapseBefore_16 (by decide) (fun c16 => ?_) (fun c16 => ?_)
      · exact absurd c16 (nI_ge ho (by decide))
      · refine lv_aload_n hx hb dX0_lapseBefore_19 rfl (lv_at hl 1 rfl) ?_
        refine lv_dup hx hb dX0_lapseBefore_20 rfl ?_
        refine va_get (D := D) (ci := 0) (C := RX0) (T := TX0) (N := 3) hx hb hts inX0_lapseBefore_X0 hown hK hP 0 rfl rfl 2 (by decide) (hts _ hX0_lapseBefore__fieldLink_RX0_25_MakeupGas_Stock_lapsedSum_I_) (fun _ h9 => h9) rfl dX0_lapseBefore_21 ?_
        refine lv_aload_n hx hb dX0_lapseBefore_24 rfl (lv_at hl 1 rfl) ?_
        refine va_get (D := D) (ci := 0) (C := RX0) (T := TX0) (N := 3) hx hb hts inX0_lapseBefore_X0 hown hK hP 0 rfl rfl 0 (by decide) (hts _ hX0_lapseBefore__fieldLink_RX0_9_MakeupGas_Stock_left_I_) (fun _ h9 => h9) rfl dX0_lapseBefore_25 ?_
        refine lv_iload_n hx hb dX0_lapseBefore_28 rfl (lv_at hl 0 rfl) ?_
        refine ga_iald (j := y - kk - 1) hx hb hK hP 1 0 rfl rfl ho (by decide) dX0_lapseBefore_29 ?_
        refine lv_iadd hx hb dX0_lapseBefore_30 ?_
        refine va_put (D := D) (ci := 0) (v := .int (z + (f (y - kk - 1)))) (ty := .int) (C := RX0) (T := TX0) (N := 3) hx hb hts inX0_lapseBefore_X0 tyX0 tyX0_ok nmX0 hown hK hP hD hS 0 rfl rfl 2 (by decide) (hts _ hX0_lapseBefore__fieldLink_RX0_25_MakeupGas_Stock_lapsedSum_I_) (fun _ h9 => h9) (by decide +kernel) (by decide +kernel) rfl rfl (Nat.le_of_ble_eq_true rfl) dX0_lapseBefore_31 (fun H locs hP hD hS => ?_)
        have hP : va_P D vwCl (wK q r cI f (nI kk) (z + (f (y - kk - 1)))) H := hP
        have hD : va_D A (wK q r cI f (nI kk) (z + (f (y - kk - 1)))) := hD
        refine lv_aload_n hx hb dX0_lapseBefore_34 rfl (lv_at hl 1 rfl) ?_
        refine va_get (D := D) (ci := 0) (C := RX0) (T := TX0) (N := 3) hx hb hts inX0_lapseBefore_X0 hown hK hP 0 rfl rfl 0 (by decide) (hts _ hX0_lapseBefore__fieldLink_RX0_9_MakeupGas_Stock_left_I_) (fun _ h9 => h9) rfl dX0_lapseBefore_35 ?_
        refine lv_iload_n hx hb dX0_lapseBefore_38 rfl (lv_at hl 0 rfl) ?_
        refine lv_iconst (v := 0) hx hb dX0_lapseBefore_39 (by decide) ?_
        refine ga_iast (j := y - kk - 1) (ws' := (wK q r cI (upd f (y - kk - 1) 0) (nI kk) (z + (f (y - kk - 1))))) hx hb hK hP hD hS 1 0 rfl rfl ho (by decide) dX0_lapseBefore_40 rfl (fun H locs hP hD hS => ?_)
        have hP : va_P D vwCl (wK q r cI (lpF f kk y) (nI kk) (lpZ f z kk y)) H := by rw [lpF, lpZ, if_pos hge, if_pos hge]; exact hP
        have hD : va_D A (wK q r cI (lpF f kk y) (nI kk) (lpZ f z kk y)) := by rw [lpF, lpZ, if_pos hge, if_pos hge]; exact hD
        exact ge_v hx hb hr hlocks hK hP hD hS trivial (Nat.le_of_ble_eq_true rfl) (Nat.le_of_ble_eq_true rfl) dX0_lapseBefore_41
end
section
/-! the class's own numbers -/
abbrev inR (v lo hi : Int32) : Prop := ¬ v < lo ∧ v ≤ hi
/-- the least quantity of the year y -/
def lqf (qy lp : Int32) (ex : Nat → Int32) (y : Nat) : Int32 := ((qy.toInt64 * lp.toInt64 * (360 - ex y).toInt64) / 36000).toInt32
/-- the shortfall price of the year y -/
def spf (pr : Nat → Int32) (sp : Int32) (y : Nat) : Int32 := pr y * sp / 100
/-- w drawn from the first n places of a row: what is left, what was drawn -/
def dw (f : Nat → Int32) (w : Int32) : Nat → (Nat → Int32) × Int32
  | 0 => (f, 0)
  | n + 1 => (upd (dw f w n).1 n ((dw f w n).1 n - mnI (w - (dw f w n).2) ((dw f w n).1 n)), (dw f w n).2 + mnI (w - (dw f w n).2) ((dw f w n).1 n))
theorem dw_0 (f : Nat → Int32) (w : Int32) : dw f w 0 = (f, 0) := rfl
theorem dw_1 (f : Nat → Int32) (w : Int32) (n : Nat) : (dw f w (n + 1)).1 = upd (dw f w n).1 n ((dw f w n).1 n - mnI (w - (dw f w n).2) ((dw f w n).1 n)) := rfl
theorem dw_2 (f : Nat → Int32) (w : Int32) (n : Nat) : (dw f w (n + 1)).2 = (dw f w n).2 + mnI (w - (dw f w n).2) ((dw f w n).1 n) := rfl
/-- what make-up gas adds to what is paid, out of the first n places -/
def dwa (f : Nat → Int32) (w : Int32) (pr : Nat → Int32) (sp : Int32) (y : Nat) : Nat → Int64
  | 0 => 0
  | n + 1 => dwa f w pr sp y n + (mnI (w - (dw f w n).2) ((dw f w n).1 n)).toInt64 * (mxI 0 (pr y - spf pr sp n)).toInt64
theorem dwa_1 (f : Nat → Int32) (w : Int32) (pr : Nat → Int32) (sp : Int32) (y n : Nat) : dwa f w pr sp y (n + 1) = dwa f w pr sp y n + (mnI (w - (dw f w n).2) ((dw f w n).1 n)).toInt64 * (mxI 0 (pr y - spf pr sp n)).toInt64 := rfl
/-- a year with a gap: the gap, what surplus covers, the shortfall, what is due -/
def gpG (qy lp : Int32) (ex tk : Nat → Int32) (y : Nat) : Int32 := lqf qy lp ex y - tk y
def gpC (qy lp : Int32) (ex tk su : Nat → Int32) (y : Nat) : Int32 := (dw su (gpG qy lp ex tk y) y).2
def gpM (qy lp : Int32) (ex tk su : Nat → Int32) (y : Nat) : Int32 := gpG qy lp ex tk y - gpC qy lp ex tk su y
def gpD (qy lp sp : Int32) (pr ex tk su : Nat → Int32) (y : Nat) : Int64 := (tk y).toInt64 * (pr y).toInt64 + (gpM qy lp ex tk su y).toInt64 * (spf pr sp y).toInt64
/-- a year with enough: above the least, make-up gas, the ordinary rest, surplus, what is due -/
def enA (qy lp : Int32) (ex tk : Nat → Int32) (y : Nat) : Int32 := tk y - lqf qy lp ex y
def enM (qy lp : Int32) (ex tk mk : Nat → Int32) (y : Nat) : Int32 := (dw mk (enA qy lp ex tk y) y).2
def enO (qy lp : Int32) (ex tk mk : Nat → Int32) (y : Nat) : Int32 := tk y - enM qy lp ex tk mk y
def enS (qy lp : Int32) (ex tk mk : Nat → Int32) (y : Nat) : Int32 := mxI 0 (enO qy lp ex tk mk y - qy)
def enD (qy lp sp : Int32) (pr ex tk mk : Nat → Int32) (y : Nat) : Int64 := (enO qy lp ex tk mk y).toInt64 * (pr y).toInt64 + dwa mk (enA qy lp ex tk y) pr sp y y
/-- what is found of the closed years: mk, mS, su, uS, sh, mu, co, sr, du -/
abbrev TR : Type := (Nat → Int32) × Int32 × (Nat → Int32) × Int32 × (Nat → Int32) × (Nat → Int32) × (Nat → Int32) × (Nat → Int32) × (Nat → Int64)
abbrev rMk (t : TR) : Nat → Int32 := t.1
abbrev rMS (t : TR) : Int32 := t.2.1
abbrev rSu (t : TR) : Nat → Int32 := t.2.2.1
abbrev rUS (t : TR) : Int32 := t.2.2.2.1
abbrev rSh (t : TR) : Nat → Int32 := t.2.2.2.2.1
abbrev rMu (t : TR) : Nat → Int32 := t.2.2.2.2.2.1
abbrev rCo (t : TR) : Nat → Int32 := t.2.2.2.2.2.2.1
abbrev rSr (t : TR) : Nat → Int32 := t.2.2.2.2.2.2.2.1
abbrev rDu (t : TR) : Nat → Int64 := t.2.2.2.2.2.2.2.2
def stG (qy lp sp : Int32) (pr ex tk : Nat → Int32) (y : Nat) (t : TR) : TR :=
  (upd (rMk t) y (gpM qy lp ex tk (rSu t) y), rMS t, (dw (rSu t) (gpG qy lp ex tk y) y).1, rUS t, upd (rSh t) y (gpM qy lp ex tk (rSu t) y), upd (rMu t) y 0, upd (rCo t) y (gpC qy lp ex tk (rSu t) y), upd (rSr t) y 0, vp_updL (rDu t) y (gpD qy lp sp pr ex tk (rSu t) y))
def stE (qy lp sp : Int32) (pr ex tk : Nat → Int32) (y : Nat) (t : TR) : TR :=
  ((dw (rMk t) (enA qy lp ex tk y) y).1, rMS t, upd (rSu t) y (enS qy lp ex tk (rMk t) y), rUS t, upd (rSh t) y 0, upd (rMu t) y (enM qy lp ex tk (rMk t) y), upd (rCo t) y 0, upd (rSr t) y (enS qy lp ex tk (rMk t) y), vp_updL (rDu t) y (enD qy lp sp pr ex tk (rMk t) y))
def stL (mK uK y : Nat) (t : TR) : TR := (lpF (rMk t) mK y, lpZ (rMk t) (rMS t) mK y, lpF (rSu t) uK y, lpZ (rSu t) (rUS t) uK y, rSh t, rMu t, rCo t, rSr t, rDu t)
def stp (qy lp sp : Int32) (pr ex tk : Nat → Int32) (mK uK y : Nat) (t : TR) : TR := if tk y < lqf qy lp ex y then stG qy lp sp pr ex tk y (stL mK uK y t) else stE qy lp sp pr ex tk y (stL mK uK y t)
def stC (qy lp sp : Int32) (pr ex tk : Nat → Int32) (mK uK : Nat) (t : TR) : Nat → TR
  | 0 => t
  | n + 1 => stp qy lp sp pr ex tk mK uK n (stC qy lp sp pr ex tk mK uK t n)
/-- the rows before the first year -/
abbrev st0 (sh mu co sr : Nat → Int32) (du : Nat → Int64) : TR := (fun _ => 0, 0, fun _ => 0, 0, sh, mu, co, sr, du)
def smL (f : Nat → Int64) : Nat → Int64
  | 0 => 0
  | n + 1 => smL f n + f n
def smI (f : Nat → Int32) (a : Nat) : Nat → Int32
  | 0 => 0
  | n + 1 => smI f a n + f (a + n)
/-- q more on the days from a on, below i -/
def adF (f : Nat → Int32) (a i : Nat) (q : Int32) : Nat → Int32 := fun j => if a ≤ j ∧ j < i then f j + q else f j
theorem adF_0 (f : Nat → Int32) (a : Nat) (q : Int32) : adF f a a q = f := by
  funext j; unfold adF; rw [if_neg (by omega)]
theorem adF_at (f : Nat → Int32) (a i : Nat) (q : Int32) : adF f a i q i = f i := by
  unfold adF; rw [if_neg (by omega)]
theorem adF_s (f : Nat → Int32) {a i : Nat} (q : Int32) (h : a ≤ i) : upd (adF f a i q) i (adF f a i q i + q) = adF f a (i + 1) q := by
  funext j
  rw [adF_at]
  unfold upd adF
  by_cases e : j = i
  · subst e; rw [if_pos rfl, if_pos (by omega)]
  · rw [if_neg e]
    by_cases h2 : a ≤ j ∧ j < i
    · rw [if_pos h2, if_pos (by omega)]
    · rw [if_neg h2, if_neg (by omega)]
/-- the price v from the year y on, below i -/
def rvF (f : Nat → Int32) (y i : Nat) (v : Int32) : Nat → Int32 := fun j => if y ≤ j ∧ j < i then v else f j
theorem rvF_0 (f : Nat → Int32) (y : Nat) (v : Int32) : rvF f y y v = f := by
  funext j; unfold rvF; rw [if_neg (by omega)]
theorem rvF_s (f : Nat → Int32) {y i : Nat} (v : Int32) (h : y ≤ i) : upd (rvF f y i v) i v = rvF f y (i + 1) v := by
  funext j
  unfold upd rvF
  by_cases e : j = i
  · subst e; rw [if_pos rfl, if_pos (by omega)]
  · rw [if_neg e]
    by_cases h2 : y ≤ j ∧ j < i
    · rw [if_pos h2, if_pos (by omega)]
    · rw [if_neg h2, if_neg (by omega)]
theorem inR_nat {y hi : Int32} {n : Nat} (hn : hi.toInt = n) (h : inR y 0 hi) : ∃ j : Nat, j ≤ n ∧ y = nI j := nI_of2 hn h.1 h.2
theorem inR_nI {j : Nat} {hi : Int32} {n : Nat} (hn : hi = nI n) (h : j ≤ n) (hs : n < 2 ^ 31) : inR (nI j) 0 hi := ⟨nI_pos (by omega), by rw [hn]; exact nI_le h hs⟩
end
section
theorem hwX1_requireRange_IAE : ∀ q ∈ (vx_atS RX1 132 IAE ["java/lang/RuntimeException", "java/lang/Exception"]).filter goodWord, q ∈ wsX1_requireRange := by decide +kernel
theorem hX1_requireRange__classLink_RX1_128_IAE : Cond.classLink RX1 128 IAE ∈ wsX1_requireRange := by decide +kernel
theorem hX1_requireRange__initialized_IAE : Cond.initialized IAE ∈ wsX1_requireRange := by decide +kernel
set_option maxHeartbeats 4000000 in
set_option maxRecDepth 100000 in
theorem c_X1_requireRange (l : Launch) (hst : l.stackTraces = false) (D : va_G) (sz : Nat) (cI cL : ClassId) (v lo hi : Int32)  : gTv l yX1_requireRange wsX1_requireRange ({ frames := 6, cells := 1, slots := 6, locals := 90 } : Room) D [(cI, .int), (cL, .long)] [.int v, .int lo, .int hi] [] [] (inR v lo hi) (fun E => E = IAE ∧ ¬ inR v lo hi) 1 6 sz := by
  refine gmx_v (cc := cX1_requireRange) (maxL := 3) (by decide) rfl (Nat.le_of_ble_eq_true rfl) ?_
  intro pg en s m args below meth cd A ls hx hb hr hml hown hts hlocks hin hA hK hP hD hT hnx hl
  have hl : lv_has ls 3 [(0, .int v), (1, .int lo), (2, .int hi)] := hl
  have hS : va_S A s.heap s.heap [] := va_S.rf
  refine lv_iload_n hx hb dX1_requireRange_0 rfl (lv_at hl 0 rfl) ?_
  refine lv_iload_n hx hb dX1_requireRange_1 rfl (lv_at hl 1 rfl) ?_
  refine lv_icmp_lt (tgt := 10) hx hb dX1_requireRange_2 (by decide) (fun c2 => ?_) (fun c2 => ?_)
  · exact gx_thr (cls := IAE) (text := "an argument is out of range") (ik := 128) (is := 130) (ic := 132) hx hb hst hown (by decide +kernel) (hts _ hX1_requireRange__classLink_RX1_128_IAE) (hts _ hX1_requireRange__initialized_IAE) (by decide) hT.2.2.1 (fun q hq => hts q (hwX1_requireRange_IAE q hq)) gt_a1 gt_g1 hT hK hP hD hS (hl.1.trans hml.symm) dX1_requireRange_10 dX1_requireRange_13 dX1_requireRange_14 dX1_requireRange_16 dX1_requireRange_19 hnx (Nat.le_of_ble_eq_true rfl) (Nat.le_of_ble_eq_true rfl) (Nat.le_of_ble_eq_true rfl) (Nat.le_of_ble_eq_true rfl) hlocks (⟨rfl, fun z => z.1 c2⟩) (Nat.le_of_ble_eq_true rfl) (Nat.le_of_ble_eq_true rfl)
  · refine lv_iload_n hx hb dX1_requireRange_5 rfl (lv_at hl 0 rfl) ?_
    refine lv_iload_n hx hb dX1_requireRange_6 rfl (lv_at hl 2 rfl) ?_
    refine lv_icmp_le (tgt := 20) hx hb dX1_requireRange_7 (by decide) (fun c7 => ?_) (fun c7 => ?_)
    · exact gex_v hx hb hr hlocks hK hP hD hS (⟨c2, c7⟩) (Nat.le_of_ble_eq_true rfl) (Nat.le_of_ble_eq_true rfl) dX1_requireRange_20
    · exact gx_thr (cls := IAE) (text := "an argument is out of range") (ik := 128) (is := 130) (ic := 132) hx hb hst hown (by decide +kernel) (hts _ hX1_requireRange__classLink_RX1_128_IAE) (hts _ hX1_requireRange__initialized_IAE) (by decide) hT.2.2.1 (fun q hq => hts q (hwX1_requireRange_IAE q hq)) gt_a1 gt_g1 hT hK hP hD hS (hl.1.trans hml.symm) dX1_requireRange_10 dX1_requireRange_13 dX1_requireRange_14 dX1_requireRange_16 dX1_requireRange_19 hnx (Nat.le_of_ble_eq_true rfl) (Nat.le_of_ble_eq_true rfl) (Nat.le_of_ble_eq_true rfl) (Nat.le_of_ble_eq_true rfl) hlocks (⟨rfl, fun z => c7 z.2⟩) (Nat.le_of_ble_eq_true rfl) (Nat.le_of_ble_eq_true rfl)
set_option maxHeartbeats 4000000 in
set_option maxRecDepth 100000 in
theorem c_X1_requireYear (l : Launch) (hst : l.stackTraces = false) (D : va_G) (sz : Nat) (cI cL : ClassId) (v : Int32)  : gTv l yX1_requireYear wsX1_requireYear ({ frames := 7, cells := 1, slots := 6, locals := 112 } : Room) D [(cI, .int), (cL, .long)] [.int v] [] [] (inR v 0 19) (fun E => E = IAE ∧ ¬ inR v 0 19) 1 6 sz := by
  refine gmx_v (cc := cX1_requireYear) (maxL := 1) (by decide) rfl (Nat.le_of_ble_eq_true rfl) ?_
  intro pg en s m args below meth cd A ls hx hb hr hml hown hts hlocks hin hA hK hP hD hT hnx hl
  have hl : lv_has ls 1 [(0, .int v)] := hl
  have hS : va_S A s.heap s.heap [] := va_S.rf
  refine lv_iload_n hx hb dX1_requireYear_0 rfl (lv_at hl 0 rfl) ?_
  refine lv_iconst (v := 0) hx hb dX1_requireYear_1 (by decide) ?_
  refine lv_bipush (v := 19) hx hb dX1_requireYear_2 (by decide) ?_
  refine gxS_v (wc := []) (wr := []) (w1 := []) (W' := []) (As := [.int v, .int 0, .int 19]) (rest := []) ⟨hx, hb, hml, hown, hts⟩ (c_X1_requireRange l hst D s.heap.size cI cL v 0 19) (va_cwS 3 hts gX1_requireYear_X1_requireRange rfl rfl rfl (by decide +kernel) ⟨(Nat.le_of_ble_eq_true rfl), (Nat.le_of_ble_eq_true rfl)⟩) hT hS hA hK hP hD [0, 1] rfl [] [] [] rfl (by decide) rfl (by decide) (by decide) rfl (by decide) rfl hl.1 rfl (Nat.le_of_ble_eq_true rfl) dX1_requireYear_4 ⟨(Nat.le_of_ble_eq_true rfl), (Nat.le_of_ble_eq_true rfl)⟩ hnx hlocks (fun _ h => h) (Nat.le_of_ble_eq_true rfl) (Nat.le_of_ble_eq_true rfl) [] rfl (by decide) (fun H locs hok hP hD hS => ?_)
  exact gex_v hx hb hr hlocks hK hP hD hS hok (Nat.le_of_ble_eq_true rfl) (Nat.le_of_ble_eq_true rfl) dX1_requireYear_7
set_option maxHeartbeats 4000000 in
set_option maxRecDepth 100000 in
theorem c_X1_requireDay (l : Launch) (hst : l.stackTraces = false) (D : va_G) (sz : Nat) (cI cL : ClassId) (v : Int32)  : gTv l yX1_requireDay wsX1_requireDay ({ frames := 7, cells := 1, slots := 6, locals := 112 } : Room) D [(cI, .int), (cL, .long)] [.int v] [] [] (inR v 0 359) (fun E => E = IAE ∧ ¬ inR v 0 359) 1 6 sz := by
  refine gmx_v (cc := cX1_requireDay) (maxL := 1) (by decide) rfl (Nat.le_of_ble_eq_true rfl) ?_
  intro pg en s m args below meth cd A ls hx hb hr hml hown hts hlocks hin hA hK hP hD hT hnx hl
  have hl : lv_has ls 1 [(0, .int v)] := hl
  have hS : va_S A s.heap s.heap [] := va_S.rf
  refine lv_iload_n hx hb dX1_requireDay_0 rfl (lv_at hl 0 rfl) ?_
  refine lv_iconst (v := 0) hx hb dX1_requireDay_1 (by decide) ?_
  refine lv_sipush (v := 359) hx hb dX1_requireDay_2 (by decide) ?_
  refine gxS_v (wc := []) (wr := []) (w1 := []) (W' := []) (As := [.int v, .int 0, .int 359]) (rest := []) ⟨hx, hb, hml, hown, hts⟩ (c_X1_requireRange l hst D s.heap.size cI cL v 0 359) (va_cwS 3 hts gX1_requireDay_X1_requireRange rfl rfl rfl (by decide +kernel) ⟨(Nat.le_of_ble_eq_true rfl), (Nat.le_of_ble_eq_true rfl)⟩) hT hS hA hK hP hD [0, 1] rfl [] [] [] rfl (by decide) rfl (by decide) (by decide) rfl (by decide) rfl hl.1 rfl (Nat.le_of_ble_eq_true rfl) dX1_requireDay_5 ⟨(Nat.le_of_ble_eq_true rfl), (Nat.le_of_ble_eq_true rfl)⟩ hnx hlocks (fun _ h => h) (Nat.le_of_ble_eq_true rfl) (Nat.le_of_ble_eq_true rfl) [] rfl (by decide) (fun H locs hok hP hD hS => ?_)
  exact gex_v hx hb hr hlocks hK hP hD hS hok (Nat.le_of_ble_eq_true rfl) (Nat.le_of_ble_eq_true rfl) dX1_requireDay_8
set_option maxHeartbeats 4000000 in
set_option maxRecDepth 100000 in
theorem c_X1_requireDays (l : Launch) (hst : l.stackTraces = false) (D : va_G) (sz : Nat) (cI cL : ClassId) (v w : Int32)  : gTv l yX1_requireDays wsX1_requireDays ({ frames := 8, cells := 2, slots := 12, locals := 132 } : Room) D [(cI, .int), (cL, .long)] [.int v, .int w] [] [] (inR v 0 359 ∧ inR w v 359) (fun E => E = IAE ∧ ¬ (inR v 0 359 ∧ inR w v 359)) 2 12 sz := by
  refine gmx_v (cc := cX1_requireDays) (maxL := 2) (by decide) rfl (Nat.le_of_ble_eq_true rfl) ?_
  intro pg en s m args below meth cd A ls hx hb hr hml hown hts hlocks hin hA hK hP hD hT hnx hl
  have hl : lv_has ls 2 [(0, .int v), (1, .int w)] := hl
  have hS : va_S A s.heap s.heap [] := va_S.rf
  refine lv_iload_n hx hb dX1_requireDays_0 rfl (lv_at hl 0 rfl) ?_
  refine gxS_v (wc := []) (wr := []) (w1 := []) (W' := []) (As := [.int v]) (rest := []) ⟨hx, hb, hml, hown, hts⟩ (c_X1_requireDay l hst D s.heap.size cI cL v) (va_cwS 1 hts gX1_requireDays_X1_requireDay rfl rfl rfl (by decide +kernel) ⟨(Nat.le_of_ble_eq_true rfl), (Nat.le_of_ble_eq_true rfl)⟩) hT hS hA hK hP hD [0, 1] rfl [] [] [] rfl (by decide) rfl (by decide) (by decide) rfl (by decide) rfl hl.1 rfl (Nat.le_of_ble_eq_true rfl) dX1_requireDays_1 ⟨(Nat.le_of_ble_eq_true rfl), (Nat.le_of_ble_eq_true rfl)⟩ hnx hlocks (fun _ h => ⟨h.1, fun z => h.2 z.1⟩) (Nat.le_of_ble_eq_true rfl) (Nat.le_of_ble_eq_true rfl) [] rfl (by decide) (fun H locs h1 hP hD hS => ?_)
  refine lv_iload_n hx hb dX1_requireDays_4 rfl (lv_at hl 1 rfl) ?_
  refine lv_iload_n hx hb dX1_requireDays_5 rfl (lv_at hl 0 rfl) ?_
  refine lv_sipush (v := 359) hx hb dX1_requireDays_6 (by decide) ?_
  refine gxS_v (wc := []) (wr := []) (w1 := []) (W' := []) (As := [.int w, .int v, .int 359]) (rest := []) ⟨hx, hb, hml, hown, hts⟩ (c_X1_requireRange l hst D H.size cI cL w v 359) (va_cwS 3 hts gX1_requireDays_X1_requireRange rfl rfl rfl (by decide +kernel) ⟨(Nat.le_of_ble_eq_true rfl), (Nat.le_of_ble_eq_true rfl)⟩) hT hS hA hK hP hD [0, 1] rfl [] [] [] rfl (by decide) rfl (by decide) (by decide) rfl (by decide) rfl hl.1 rfl (Nat.le_of_ble_eq_true rfl) dX1_requireDays_9 ⟨(Nat.le_of_ble_eq_true rfl), (Nat.le_of_ble_eq_true rfl)⟩ hnx hlocks (fun _ h => ⟨h.1, fun z => h.2 z.2⟩) (Nat.le_of_ble_eq_true rfl) (Nat.le_of_ble_eq_true rfl) [] rfl (by decide) (fun H locs h2 hP hD hS => ?_)
  exact gex_v hx hb hr hlocks hK hP hD hS (⟨h1, h2⟩) (Nat.le_of_ble_eq_true rfl) (Nat.le_of_ble_eq_true rfl) dX1_requireDays_12
theorem inX1_requireClosedYear_X1 : ∀ q ∈ wsX10, q ∈ wsX1_requireClosedYear := by decide +kernel
theorem hX1_requireClosedYear__fieldLink_RX1_103_MakeupGas_closedYears_I_ : Cond.fieldLink RX1 103 "MakeupGas" "closedYears" "I" ∈ wsX1_requireClosedYear := by decide +kernel
theorem hwX1_requireClosedYear_ISE : ∀ q ∈ (vx_atS RX1 139 ISE ["java/lang/RuntimeException", "java/lang/Exception"]).filter goodWord, q ∈ wsX1_requireClosedYear := by decide +kernel
theorem hX1_requireClosedYear__classLink_RX1_135_ISE : Cond.classLink RX1 135 ISE ∈ wsX1_requireClosedYear := by decide +kernel
theorem hX1_requireClosedYear__initialized_ISE : Cond.initialized ISE ∈ wsX1_requireClosedYear := by decide +kernel
set_option maxHeartbeats 4000000 in
set_option maxRecDepth 100000 in
theorem c_X1_requireClosedYear (l : Launch) (hst : l.stackTraces = false) (D : va_G) (sz : Nat) (ad : Nat → Nat) (cI cL : ClassId) (qy lp sp : Int32) (pr ex : Nat → Int32) (c : Nat) (dy tk mk : Nat → Int32) (mK : Nat) (mS : Int32) (su : Nat → Int32) (uK : Nat) (uS : Int32) (sh mu co sr : Nat → Int32) (du bi : Nat → Int64) (bb : Int64) (v : Int32)  : gTv l yX1_requireClosedYear wsX1_requireClosedYear ({ frames := 8, cells := 2, slots := 12, locals := 132 } : Room) D [(cI, .int), (cL, .long)] [.ref (ad 0), .int v] (wG ad cI cL qy lp sp pr ex (nI c) dy tk mk (nI mK) mS su (nI uK) uS sh mu co sr du bi bb) (wG ad cI cL qy lp sp pr ex (nI c) dy tk mk (nI mK) mS su (nI uK) uS sh mu co sr du bi bb) (inR v 0 19 ∧ v < nI c) (fun E => (E = IAE ∧ ¬ inR v 0 19) ∨ (E = ISE ∧ inR v 0 19 ∧ ¬ v < nI c)) 2 12 sz := by
  refine gmx_v (cc := cX1_requireClosedYear) (maxL := 2) (by decide) rfl (Nat.le_of_ble_eq_true rfl) ?_
  intro pg en s m args below meth cd A ls hx hb hr hml hown hts hlocks hin hA hK hP hD hT hnx hl
  have hl : lv_has ls 2 [(0, .ref (ad 0)), (1, .int v)] := hl
  have hS : va_S A s.heap s.heap [] := va_S.rf
  refine lv_iload_n hx hb dX1_requireClosedYear_0 rfl (lv_at hl 1 rfl) ?_
  refine gxS_v (wc := []) (wr := [(ad 0, .inr (1, [.int qy, .int lp, .int sp, .ref (ad 1), .ref (ad 2), .int (nI c), .ref (ad 3), .ref (ad 4), .ref (ad 5), .ref (ad 6), .ref (ad 7), .ref (ad 8), .ref (ad 9), .ref (ad 10), .ref (ad 11), .ref (ad 12), .long bb])), (ad 1, .inl (cI, 20, .inl pr)), (ad 2, .inl (cI, 20, .inl ex)), (ad 3, .inl (cI, 360, .inl dy)), (ad 4, .inl (cI, 20, .inl tk)), (ad 5, .inr (0, [.ref (ad 13), .int (nI mK), .int mS])), (ad 6, .inr (0, [.ref (ad 14), .int (nI uK), .int uS])), (ad 7, .inl (cI, 20, .inl sh)), (ad 8, .inl (cI, 20, .inl mu)), (ad 9, .inl (cI, 20, .inl co)), (ad 10, .inl (cI, 20, .inl sr)), (ad 11, .inl (cL, 20, .inr (.inl du))), (ad 12, .inl (cL, 20, .inr (.inl bi))), (ad 13, .inl (cI, 20, .inl mk)), (ad 14, .inl (cI, 20, .inl su))]) (w1 := []) (W' := (wG ad cI cL qy lp sp pr ex (nI c) dy tk mk (nI mK) mS su (nI uK) uS sh mu co sr du bi bb)) (As := [.int v]) (rest := []) ⟨hx, hb, hml, hown, hts⟩ (c_X1_requireYear l hst D s.heap.size cI cL v) (va_cwS 1 hts gX1_requireClosedYear_X1_requireYear rfl rfl rfl (by decide +kernel) ⟨(Nat.le_of_ble_eq_true rfl), (Nat.le_of_ble_eq_true rfl)⟩) hT hS hA hK hP hD [0, 1] rfl [] [0, 1, 2, 3, 4, 5, 6, 7, 8, 9, 10, 11, 12, 13, 14] [0, 1, 2, 3, 4, 5, 6, 7, 8, 9, 10, 11, 12, 13, 14] rfl (by decide) rfl (by decide) (by decide) rfl (by decide) rfl hl.1 rfl (Nat.le_of_ble_eq_true rfl) dX1_requireClosedYear_1 ⟨(Nat.le_of_ble_eq_true rfl), (Nat.le_of_ble_eq_true rfl)⟩ hnx hlocks (fun _ h => Or.inl h) (Nat.le_of_ble_eq_true rfl) (Nat.le_of_ble_eq_true rfl) [0, 1, 2, 3, 4, 5, 6, 7, 8, 9, 10, 11, 12, 13, 14] rfl (by decide) (fun H locs h1 hP hD hS => ?_)
  refine lv_iload_n hx hb dX1_requireClosedYear_4 rfl (lv_at hl 1 rfl) ?_
  refine lv_aload_n hx hb dX1_requireClosedYear_5 rfl (lv_at hl 0 rfl) ?_
  refine va_get (D := D) (ci := 1) (C := RX1) (T := TX1) (N := 17) hx hb hts inX1_requireClosedYear_X1 hown hK hP 0 rfl rfl 5 (by decide) (hts _ hX1_requireClosedYear__fieldLink_RX1_103_MakeupGas_closedYears_I_) (fun _ h9 => h9) rfl dX1_requireClosedYear_6 ?_
  refine lv_icmp_lt (tgt := 22) hx hb dX1_requireClosedYear_9 (by decide) (fun c9 => ?_) (fun c9 => ?_)
  · exact gex_v hx hb hr hlocks hK hP hD hS (⟨h1, c9⟩) (Nat.le_of_ble_eq_true rfl) (Nat.le_of_ble_eq_true rfl) dX1_requireClosedYear_22
  · exact gx_thr (cls := ISE) (text := "the year is not closed") (ik := 135) (is := 137) (ic := 139) hx hb hst hown (by decide +kernel) (hts _ hX1_requireClosedYear__classLink_RX1_135_ISE) (hts _ hX1_requireClosedYear__initialized_ISE) (by decide) hT.2.2.2.1 (fun q hq => hts q (hwX1_requireClosedYear_ISE q hq)) gt_a2 gt_g2 hT hK hP hD hS (hl.1.trans hml.symm) dX1_requireClosedYear_12 dX1_requireClosedYear_15 dX1_requireClosedYear_16 dX1_requireClosedYear_18 dX1_requireClosedYear_21 hnx (Nat.le_of_ble_eq_true rfl) (Nat.le_of_ble_eq_true rfl) (Nat.le_of_ble_eq_true rfl) (Nat.le_of_ble_eq_true rfl) hlocks (Or.inr ⟨rfl, h1, c9⟩) (Nat.le_of_ble_eq_true rfl) (Nat.le_of_ble_eq_true rfl)
theorem inX1_requireYearGoingOn_X1 : ∀ q ∈ wsX10, q ∈ wsX1_requireYearGoingOn := by decide +kernel
theorem hX1_requireYearGoingOn__fieldLink_RX1_103_MakeupGas_closedYears_I_ : Cond.fieldLink RX1 103 "MakeupGas" "closedYears" "I" ∈ wsX1_requireYearGoingOn := by decide +kernel
theorem hwX1_requireYearGoingOn_ISE : ∀ q ∈ (vx_atS RX1 139 ISE ["java/lang/RuntimeException", "java/lang/Exception"]).filter goodWord, q ∈ wsX1_requireYearGoingOn := by decide +kernel
theorem hX1_requireYearGoingOn__classLink_RX1_135_ISE : Cond.classLink RX1 135 ISE ∈ wsX1_requireYearGoingOn := by decide +kernel
theorem hX1_requireYearGoingOn__initialized_ISE : Cond.initialized ISE ∈ wsX1_requireYearGoingOn := by decide +kernel
set_option maxHeartbeats 4000000 in
set_option maxRecDepth 100000 in
theorem c_X1_requireYearGoingOn (l : Launch) (hst : l.stackTraces = false) (D : va_G) (sz : Nat) (ad : Nat → Nat) (cI cL : ClassId) (qy lp sp : Int32) (pr ex : Nat → Int32) (c : Nat) (dy tk mk : Nat → Int32) (mK : Nat) (mS : Int32) (su : Nat → Int32) (uK : Nat) (uS : Int32) (sh mu co sr : Nat → Int32) (du bi : Nat → Int64) (bb : Int64)  : gTv l yX1_requireYearGoingOn wsX1_requireYearGoingOn ({ frames := 6, cells := 1, slots := 6, locals := 90 } : Room) D [(cI, .int), (cL, .long)] [.ref (ad 0)] (wG ad cI cL qy lp sp pr ex (nI c) dy tk mk (nI mK) mS su (nI uK) uS sh mu co sr du bi bb) (wG ad cI cL qy lp sp pr ex (nI c) dy tk mk (nI mK) mS su (nI uK) uS sh mu co sr du bi bb) (nI c < 20) (fun E => E = ISE ∧ ¬ nI c < 20) 1 6 sz := by
  refine gmx_v (cc := cX1_requireYearGoingOn) (maxL := 1) (by decide) rfl (Nat.le_of_ble_eq_true rfl) ?_
  intro pg en s m args below meth cd A ls hx hb hr hml hown hts hlocks hin hA hK hP hD hT hnx hl
  have hl : lv_has ls 1 [(0, .ref (ad 0))] := hl
  have hS : va_S A s.heap s.heap [] := va_S.rf
  refine lv_aload_n hx hb dX1_requireYearGoingOn_0 rfl (lv_at hl 0 rfl) ?_
  refine va_get (D := D) (ci := 1) (C := RX1) (T := TX1) (N := 17) hx hb hts inX1_requireYearGoingOn_X1 hown hK hP 0 rfl rfl 5 (by decide) (hts _ hX1_requireYearGoingOn__fieldLink_RX1_103_MakeupGas_closedYears_I_) (fun _ h9 => h9) rfl dX1_requireYearGoingOn_1 ?_
  refine lv_bipush (v := 20) hx hb dX1_requireYearGoingOn_4 (by decide) ?_
  refine lv_icmp_lt (tgt := 19) hx hb dX1_requireYearGoingOn_6 (by decide) (fun c1 => ?_) (fun c1 => ?_)
  · exact gex_v hx hb hr hlocks hK hP hD hS c1 (Nat.le_of_ble_eq_true rfl) (Nat.le_of_ble_eq_true rfl) dX1_requireYearGoingOn_19
  · exact gx_thr (cls := ISE) (text := "all years are closed") (ik := 135) (is := 140) (ic := 139) hx hb hst hown (by decide +kernel) (hts _ hX1_requireYearGoingOn__classLink_RX1_135_ISE) (hts _ hX1_requireYearGoingOn__initialized_ISE) (by decide) hT.2.2.2.1 (fun q hq => hts q (hwX1_requireYearGoingOn_ISE q hq)) gt_a2 gt_g2 hT hK hP hD hS (hl.1.trans hml.symm) dX1_requireYearGoingOn_9 dX1_requireYearGoingOn_12 dX1_requireYearGoingOn_13 dX1_requireYearGoingOn_15 dX1_requireYearGoingOn_18 hnx (Nat.le_of_ble_eq_true rfl) (Nat.le_of_ble_eq_true rfl) (Nat.le_of_ble_eq_true rfl) (Nat.le_of_ble_eq_true rfl) hlocks (⟨rfl, c1⟩) (Nat.le_of_ble_eq_true rfl) (Nat.le_of_ble_eq_true rfl)
theorem inX1_requireUnused_X1 : ∀ q ∈ wsX10, q ∈ wsX1_requireUnused := by decide +kernel
theorem hX1_requireUnused__fieldLink_RX1_103_MakeupGas_closedYears_I_ : Cond.fieldLink RX1 103 "MakeupGas" "closedYears" "I" ∈ wsX1_requireUnused := by decide +kernel
theorem hwX1_requireUnused_ISE : ∀ q ∈ (vx_atS RX1 139 ISE ["java/lang/RuntimeException", "java/lang/Exception"]).filter goodWord, q ∈ wsX1_requireUnused := by decide +kernel
theorem hX1_requireUnused__classLink_RX1_135_ISE : Cond.classLink RX1 135 ISE ∈ wsX1_requireUnused := by decide +kernel
theorem hX1_requireUnused__initialized_ISE : Cond.initialized ISE ∈ wsX1_requireUnused := by decide +kernel
theorem hX1_requireUnused__fieldLink_RX1_36_MakeupGas_takenPerYear_I_ : Cond.fieldLink RX1 36 "MakeupGas" "takenPerYear" "[I" ∈ wsX1_requireUnused := by decide +kernel
set_option maxHeartbeats 4000000 in
set_option maxRecDepth 100000 in
theorem c_X1_requireUnused (l : Launch) (hst : l.stackTraces = false) (D : va_G) (sz : Nat) (ad : Nat → Nat) (cI cL : ClassId) (qy lp sp : Int32) (pr ex : Nat → Int32) (c : Nat) (dy tk mk : Nat → Int32) (mK : Nat) (mS : Int32) (su : Nat → Int32) (uK : Nat) (uS : Int32) (sh mu co sr : Nat → Int32) (du bi : Nat → Int64) (bb : Int64)  : gTv l yX1_requireUnused wsX1_requireUnused ({ frames := 6, cells := 1, slots := 6, locals := 90 } : Room) D [(cI, .int), (cL, .long)] [.ref (ad 0)] (wG ad cI cL qy lp sp pr ex (nI c) dy tk mk (nI mK) mS su (nI uK) uS sh mu co sr du bi bb) (wG ad cI cL qy lp sp pr ex (nI c) dy tk mk (nI mK) mS su (nI uK) uS sh mu co sr du bi bb) (¬ 0 < nI c ∧ tk 0 ≤ 0) (fun E => E = ISE ∧ ¬ (¬ 0 < nI c ∧ tk 0 ≤ 0)) 1 6 sz := by
  refine gmx_v (cc := cX1_requireUnused) (maxL := 1) (by decide) rfl (Nat.le_of_ble_eq_true rfl) ?_
  intro pg en s m args below meth cd A ls hx hb hr hml hown hts hlocks hin hA hK hP hD hT hnx hl
  have hl : lv_has ls 1 [(0, .ref (ad 0))] := hl
  have hS : va_S A s.heap s.heap [] := va_S.rf
  refine lv_aload_n hx hb dX1_requireUnused_0 rfl (lv_at hl 0 rfl) ?_
  refine va_get (D := D) (ci := 1) (C := RX1) (T := TX1) (N := 17) hx hb hts inX1_requireUnused_X1 hown hK hP 0 rfl rfl 5 (by decide) (hts _ hX1_requireUnused__fieldLink_RX1_103_MakeupGas_closedYears_I_) (fun _ h9 => h9) rfl dX1_requireUnused_1 ?_
  refine lv_if_gt (tgt := 16) hx hb dX1_requireUnused_4 (by decide) (fun c1 => ?_) (fun c1 => ?_)
  · exact gx_thr (cls := ISE) (text := "something was taken, or a year is closed") (ik := 135) (is := 142) (ic := 139) hx hb hst hown (by decide +kernel) (hts _ hX1_requireUnused__classLink_RX1_135_ISE) (hts _ hX1_requireUnused__initialized_ISE) (by decide) hT.2.2.2.1 (fun q hq => hts q (hwX1_requireUnused_ISE q hq)) gt_a2 gt_g2 hT hK hP hD hS (hl.1.trans hml.symm) dX1_requireUnused_16 dX1_requireUnused_19 dX1_requireUnused_20 dX1_requireUnused_22 dX1_requireUnused_25 hnx (Nat.le_of_ble_eq_true rfl) (Nat.le_of_ble_eq_true rfl) (Nat.le_of_ble_eq_true rfl) (Nat.le_of_ble_eq_true rfl) hlocks (⟨rfl, fun z => z.1 c1⟩) (Nat.le_of_ble_eq_true rfl) (Nat.le_of_ble_eq_true rfl)
  · refine lv_aload_n hx hb dX1_requireUnused_7 rfl (lv_at hl 0 rfl) ?_
    refine va_get (D := D) (ci := 1) (C := RX1) (T := TX1) (N := 17) hx hb hts inX1_requireUnused_X1 hown hK hP 0 rfl rfl 7 (by decide) (hts _ hX1_requireUnused__fieldLink_RX1_36_MakeupGas_takenPerYear_I_) (fun _ h9 => h9) rfl dX1_requireUnused_8 ?_
    refine lv_iconst (v := 0) hx hb dX1_requireUnused_11 (by decide) ?_
    refine ga_iald (j := 0) hx hb hK hP 4 0 rfl rfl (by decide) (by decide) dX1_requireUnused_12 ?_
    refine lv_if_le (tgt := 26) hx hb dX1_requireUnused_13 (by decide) (fun c2 => ?_) (fun c2 => ?_)
    · exact gex_v hx hb hr hlocks hK hP hD hS (⟨c1, c2⟩) (Nat.le_of_ble_eq_true rfl) (Nat.le_of_ble_eq_true rfl) dX1_requireUnused_26
    · exact gx_thr (cls := ISE) (text := "something was taken, or a year is closed") (ik := 135) (is := 142) (ic := 139) hx hb hst hown (by decide +kernel) (hts _ hX1_requireUnused__classLink_RX1_135_ISE) (hts _ hX1_requireUnused__initialized_ISE) (by decide) hT.2.2.2.1 (fun q hq => hts q (hwX1_requireUnused_ISE q hq)) gt_a2 gt_g2 hT hK hP hD hS (hl.1.trans hml.symm) dX1_requireUnused_16 dX1_requireUnused_19 dX1_requireUnused_20 dX1_requireUnused_22 dX1_requireUnused_25 hnx (Nat.le_of_ble_eq_true rfl) (Nat.le_of_ble_eq_true rfl) (Nat.le_of_ble_eq_true rfl) (Nat.le_of_ble_eq_true rfl) hlocks (⟨rfl, fun z => c2 z.2⟩) (Nat.le_of_ble_eq_true rfl) (Nat.le_of_ble_eq_true rfl)
theorem inX1_requireRoom_X1 : ∀ q ∈ wsX10, q ∈ wsX1_requireRoom := by decide +kernel
theorem hX1_requireRoom__fieldLink_RX1_33_MakeupGas_takenPerDay_I_ : Cond.fieldLink RX1 33 "MakeupGas" "takenPerDay" "[I" ∈ wsX1_requireRoom := by decide +kernel
theorem hwX1_requireRoom_ISE : ∀ q ∈ (vx_atS RX1 139 ISE ["java/lang/RuntimeException", "java/lang/Exception"]).filter goodWord, q ∈ wsX1_requireRoom := by decide +kernel
theorem hX1_requireRoom__classLink_RX1_135_ISE : Cond.classLink RX1 135 ISE ∈ wsX1_requireRoom := by decide +kernel
theorem hX1_requireRoom__initialized_ISE : Cond.initialized ISE ∈ wsX1_requireRoom := by decide +kernel
set_option maxHeartbeats 4000000 in
set_option maxRecDepth 100000 in
theorem c_X1_requireRoom (l : Launch) (hst : l.stackTraces = false) (D : va_G) (sz : Nat) (ad : Nat → Nat) (cI cL : ClassId) (qy lp sp : Int32) (pr ex : Nat → Int32) (c : Nat) (dy tk mk : Nat → Int32) (mK : Nat) (mS : Int32) (su : Nat → Int32) (uK : Nat) (uS : Int32) (sh mu co sr : Nat → Int32) (du bi : Nat → Int64) (bb : Int64) (a b : Nat) (q : Int32) (hab : a ≤ b) (hb3 : b < 360) : gTv l yX1_requireRoom wsX1_requireRoom ({ frames := 6, cells := 1, slots := 6, locals := 90 } : Room) D [(cI, .int), (cL, .long)] [.ref (ad 0), .int (nI a), .int (nI b), .int q] (wG ad cI cL qy lp sp pr ex (nI c) dy tk mk (nI mK) mS su (nI uK) uS sh mu co sr du bi bb) (wG ad cI cL qy lp sp pr ex (nI c) dy tk mk (nI mK) mS su (nI uK) uS sh mu co sr du bi bb) (∀ d, a ≤ d → d ≤ b → dy d + q ≤ 500) (fun E => E = ISE ∧ ¬ ∀ d, a ≤ d → d ≤ b → dy d + q ≤ 500) 1 6 sz := by
  refine gmx_v (cc := cX1_requireRoom) (maxL := 5) (by decide) rfl (Nat.le_of_ble_eq_true rfl) ?_
  intro pg en s m args below meth cd A ls hx hb hr hml hown hts hlocks hin hA hK hP hD hT hnx hl
  have hl : lv_has ls 5 [(0, .ref (ad 0)), (1, .int (nI a)), (2, .int (nI b)), (3, .int q)] := hl
  have hS : va_S A s.heap s.heap [] := va_S.rf
  refine lv_iload_n hx hb dX1_requireRoom_0 rfl (lv_at hl 1 rfl) ?_
  refine lv_istore (lv' := [(4, .int (nI a)), (0, .ref (ad 0)), (1, .int (nI a)), (2, .int (nI b)), (3, .int q)]) hx hb dX1_requireRoom_1 hl (by decide) rfl (fun ls hl => ?_)
  have lp_3 : ∀ (n i : Nat), i ≤ (b + 1) → (b + 1) < i + n → a ≤ i → (∀ d, a ≤ d → d < i → dy d + q ≤ 500) → ∀ (H : Heap) (locs : List Loc), va_P D vwCl (wG ad cI cL qy lp sp pr ex (nI c) dy tk mk (nI mK) mS su (nI uK) uS sh mu co sr du bi bb) H → va_D A (wG ad cI cL qy lp sp pr ex (nI c) dy tk mk (nI mK) mS su (nI uK) uS sh mu co sr du bi bb) → va_S A s.heap H locs → ∀ (ls : Array Slot), lv_has ls 5 [(0, .ref (ad 0)), (1, .int (nI a)), (2, .int (nI b)), (3, .int q), (4, .int (nI i))] → W pg l en ({ frames := 6, cells := 1, slots := 6, locals := 90 } : Room) s m args below meth cd H locs 0 0 (gFv (∀ d, a ≤ d → d ≤ b → dy d + q ≤ 500) (fun E => E = ISE ∧ ¬ ∀ d, a ≤ d → d ≤ b → dy d + q ≤ 500) below D [(cI, .int), (cL, .long)] (wG ad cI cL qy lp sp pr ex (nI c) dy tk mk (nI mK) mS su (nI uK) uS sh mu co sr du bi bb) (wG ad cI cL qy lp sp pr ex (nI c) dy tk mk (nI mK) mS su (nI uK) uS sh mu co sr du bi bb) A args s 1 6) (F0 m 3 ls []) := by
    intro n
    induction n with
    | zero => intro i h1 h2; exact absurd h2 (by omega)
    | succ n ih =>
      intro i hi hin2 hai hall H locs hP hD hS ls hl
      refine lv_iload hx hb dX1_requireRoom_3 (lv_at hl 4 rfl) ?_
      refine lv_iload_n hx hb dX1_requireRoom_5 rfl (lv_at hl 2 rfl) ?_
      refine lv_icmp_gt (tgt := 40) hx hb dX1_requireRoom_6 (by decide) (fun c6 => ?_) (fun c6 => ?_)
      · have hbi : ¬ i ≤ b := fun h => absurd c6 (Int32.not_lt.mpr (nI_le h (by omega)))
        exact gex_v hx hb hr hlocks hK hP hD hS (fun d h1 h2 => hall d h1 (by omega)) (Nat.le_of_ble_eq_true rfl) (Nat.le_of_ble_eq_true rfl) dX1_requireRoom_40
      · have hib : i ≤ b := Nat.not_lt.mp (fun h => c6 (nI_lt h (by omega)))
        have hi3 : i < 360 := by omega
        refine lv_aload_n hx hb dX1_requireRoom_9 rfl (lv_at hl 0 rfl) ?_
        refine va_get (D := D) (ci := 1) (C := RX1) (T := TX1) (N := 17) hx hb hts inX1_requireRoom_X1 hown hK hP 0 rfl rfl 6 (by decide) (hts _ hX1_requireRoom__fieldLink_RX1_33_MakeupGas_takenPerDay_I_) (fun _ h9 => h9) rfl dX1_requireRoom_10 ?_
        refine lv_iload hx hb dX1_requireRoom_13 (lv_at hl 4 rfl) ?_
        refine ga_iald (j := i) hx hb hK hP 3 0 rfl rfl hi3 (by decide) dX1_requireRoom_15 ?_
        refine lv_iload_n hx hb dX1_requireRoom_16 rfl (lv_at hl 3 rfl) ?_
        refine lv_iadd hx hb dX1_requireRoom_17 ?_
        refine lv_sipush (v := 500) hx hb dX1_requireRoom_18 (by decide) ?_
        refine lv_icmp_le (tgt := 34) hx hb dX1_requireRoom_21 (by decide) (fun c21 => ?_) (fun c21 => ?_)
        · refine lv_iinc (v := nI (i + 1)) (lv' := [(4, .int (nI (i + 1))), (0, .ref (ad 0)), (1, .int (nI a)), (2, .int (nI b)), (3, .int q)]) hx hb dX1_requireRoom_34 hl (k := 4) rfl (gi_1 _) (by decide) rfl (fun ls hl => ?_)
          refine lv_goto (tgt := 3) hx hb dX1_requireRoom_37 (by decide) ?_
          exact ih (i + 1) (by omega) (by omega) (by omega) (fun d h1 h2 => by rcases Nat.lt_or_ge d i with h | h; exact hall d h1 h; rw [show d = i by omega]; exact c21) _ _ hP hD hS ls (lv_sub hl [1, 2, 3, 4, 0] rfl)
        · exact gx_thr (cls := ISE) (text := "too much would be taken on a day") (ik := 135) (is := 144) (ic := 139) hx hb hst hown (by decide +kernel) (hts _ hX1_requireRoom__classLink_RX1_135_ISE) (hts _ hX1_requireRoom__initialized_ISE) (by decide) hT.2.2.2.1 (fun q hq => hts q (hwX1_requireRoom_ISE q hq)) gt_a2 gt_g2 hT hK hP hD hS (hl.1.trans hml.symm) dX1_requireRoom_24 dX1_requireRoom_27 dX1_requireRoom_28 dX1_requireRoom_30 dX1_requireRoom_33 hnx (Nat.le_of_ble_eq_true rfl) (Nat.le_of_ble_eq_true rfl) (Nat.le_of_ble_eq_true rfl) (Nat.le_of_ble_eq_true rfl) hlocks (⟨rfl, fun z => c21 (z i hai hib)⟩) (Nat.le_of_ble_eq_true rfl) (Nat.le_of_ble_eq_true rfl)
  exact lp_3 ((b + 1) + 1) a (by omega) (by omega) (Nat.le_refl a) (fun d h1 h2 => absurd h1 (by omega)) _ _ hP hD hS ls (lv_sub hl [1, 2, 3, 4, 0] rfl)
theorem inX1_addTakes_X1 : ∀ q ∈ wsX10, q ∈ wsX1_addTakes := by decide +kernel
theorem hX1_addTakes__fieldLink_RX1_36_MakeupGas_takenPerYear_I_ : Cond.fieldLink RX1 36 "MakeupGas" "takenPerYear" "[I" ∈ wsX1_addTakes := by decide +kernel
theorem hX1_addTakes__fieldLink_RX1_103_MakeupGas_closedYears_I_ : Cond.fieldLink RX1 103 "MakeupGas" "closedYears" "I" ∈ wsX1_addTakes := by decide +kernel
theorem hX1_addTakes__fieldLink_RX1_33_MakeupGas_takenPerDay_I_ : Cond.fieldLink RX1 33 "MakeupGas" "takenPerDay" "[I" ∈ wsX1_addTakes := by decide +kernel
set_option maxHeartbeats 4000000 in
set_option maxRecDepth 100000 in
theorem c_X1_addTakes (l : Launch) (D : va_G) (sz : Nat) (ad : Nat → Nat) (cI cL : ClassId) (qy lp sp : Int32) (pr ex : Nat → Int32) (c : Nat) (dy tk mk : Nat → Int32) (mK : Nat) (mS : Int32) (su : Nat → Int32) (uK : Nat) (uS : Int32) (sh mu co sr : Nat → Int32) (du bi : Nat → Int64) (bb : Int64) (a b : Nat) (q : Int32) (hab : a ≤ b) (hb3 : b < 360) (hc : c < 20) : gCv l yX1_addTakes wsX1_addTakes ({ frames := 0, cells := 0, slots := 0, locals := 0 } : Room) D [(cI, .int), (cL, .long)] [.ref (ad 0), .int (nI a), .int (nI b), .int q] (wG ad cI cL qy lp sp pr ex (nI c) dy tk mk (nI mK) mS su (nI uK) uS sh mu co sr du bi bb) (wG ad cI cL qy lp sp pr ex (nI c) (adF dy a (b + 1) q) (upd tk c (tk c + q * (nI b - nI a + 1))) mk (nI mK) mS su (nI uK) uS sh mu co sr du bi bb) True 0 0 sz := by
  refine gm_v (cc := cX1_addTakes) (maxL := 5) (by decide) rfl (Nat.le_of_ble_eq_true rfl) ?_
  intro pg en s m args below meth cd A ls hx hb hr hml hown hts hlocks hin hA hK hP hD hl
  have hl : lv_has ls 5 [(0, .ref (ad 0)), (1, .int (nI a)), (2, .int (nI b)), (3, .int q)] := hl
  have hS : va_S A s.heap s.heap [] := va_S.rf
  refine lv_iload_n hx hb dX1_addTakes_0 rfl (lv_at hl 1 rfl) ?_
  refine lv_istore (lv' := [(4, .int (nI a)), (0, .ref (ad 0)), (1, .int (nI a)), (2, .int (nI b)), (3, .int q)]) hx hb dX1_addTakes_1 hl (by decide) rfl (fun ls hl => ?_)
  have lp_3 : ∀ (n i : Nat), i ≤ (b + 1) → (b + 1) < i + n → a ≤ i → ∀ (H : Heap) (locs : List Loc), va_P D vwCl (wG ad cI cL qy lp sp pr ex (nI c) (adF dy a i q) tk mk (nI mK) mS su (nI uK) uS sh mu co sr du bi bb) H → va_D A (wG ad cI cL qy lp sp pr ex (nI c) (adF dy a i q) tk mk (nI mK) mS su (nI uK) uS sh mu co sr du bi bb) → va_S A s.heap H locs → ∀ (ls : Array Slot), lv_has ls 5 [(0, .ref (ad 0)), (1, .int (nI a)), (2, .int (nI b)), (3, .int q), (4, .int (nI i))] → W pg l en ({ frames := 0, cells := 0, slots := 0, locals := 0 } : Room) s m args below meth cd H locs 0 0 (gEv True below D [(cI, .int), (cL, .long)] (wG ad cI cL qy lp sp pr ex (nI c) (adF dy a (b + 1) q) (upd tk c (tk c + q * (nI b - nI a + 1))) mk (nI mK) mS su (nI uK) uS sh mu co sr du bi bb) A args s 0 0) (F0 m 3 ls []) := by
    intro n
    induction n with
    | zero => intro i h1 h2; exact absurd h2 (by omega)
    | succ n ih =>
      intro i hi hin2 hai H locs hP hD hS ls hl
      refine lv_iload hx hb dX1_addTakes_3 (lv_at hl 4 rfl) ?_
      refine lv_iload_n hx hb dX1_addTakes_5 rfl (lv_at hl 2 rfl) ?_
      refine lv_icmp_gt (tgt := 26) hx hb dX1_addTakes_6 (by decide) (fun c6 => ?_) (fun c6 => ?_)
      · have hbi : ¬ i ≤ b := fun h => absurd c6 (Int32.not_lt.mpr (nI_le h (by omega)))
        obtain rfl : i = b + 1 := by omega
        refine lv_aload_n hx hb dX1_addTakes_26 rfl (lv_at hl 0 rfl) ?_
        refine va_get (D := D) (ci := 1) (C := RX1) (T := TX1) (N := 17) hx hb hts inX1_addTakes_X1 hown hK hP 0 rfl rfl 7 (by decide) (hts _ hX1_addTakes__fieldLink_RX1_36_MakeupGas_takenPerYear_I_) (fun _ h9 => h9) rfl dX1_addTakes_27 ?_
        refine lv_aload_n hx hb dX1_addTakes_30 rfl (lv_at hl 0 rfl) ?_
        refine va_get (D := D) (ci := 1) (C := RX1) (T := TX1) (N := 17) hx hb hts inX1_addTakes_X1 hown hK hP 0 rfl rfl 5 (by decide) (hts _ hX1_addTakes__fieldLink_RX1_103_MakeupGas_closedYears_I_) (fun _ h9 => h9) rfl dX1_addTakes_31 ?_
        refine lv_dup2_11 hx hb dX1_addTakes_34 rfl rfl ?_
        refine ga_iald (j := c) hx hb hK hP 4 0 rfl rfl hc (by decide) dX1_addTakes_35 ?_
        refine lv_iload_n hx hb dX1_addTakes_36 rfl (lv_at hl 3 rfl) ?_
        refine lv_iload_n hx hb dX1_addTakes_37 rfl (lv_at hl 2 rfl) ?_
        refine lv_iload_n hx hb dX1_addTakes_38 rfl (lv_at hl 1 rfl) ?_
        refine lv_isub hx hb dX1_addTakes_39 ?_
        refine lv_iconst (v := 1) hx hb dX1_addTakes_40 (by decide) ?_
        refine lv_iadd hx hb dX1_addTakes_41 ?_
        refine lv_imul hx hb dX1_addTakes_42 ?_
        refine lv_iadd hx hb dX1_addTakes_43 ?_
        refine ga_iast (j := c) (ws' := (wG ad cI cL qy lp sp pr ex (nI c) (adF dy a (b + 1) q) (upd tk c ((tk c) + (q * (((nI b) - (nI a)) + 1)))) mk (nI mK) mS su (nI uK) uS sh mu co sr du bi bb)) hx hb hK hP hD hS 4 0 rfl rfl hc (by decide) dX1_addTakes_44 rfl (fun H locs hP hD hS => ?_)
        exact ge_v hx hb hr hlocks hK hP hD hS trivial (Nat.le_of_ble_eq_true rfl) (Nat.le_of_ble_eq_true rfl) dX1_addTakes_45
      · have hib : i ≤ b := Nat.not_lt.mp (fun h => c6 (nI_lt h (by omega)))
        have hi3 : i < 360 := by omega
        refine lv_aload_n hx hb dX1_addTakes_9 rfl (lv_at hl 0 rfl) ?_
        refine va_get (D := D) (ci := 1) (C := RX1) (T := TX1) (N := 17) hx hb hts inX1_addTakes_X1 hown hK hP 0 rfl rfl 6 (by decide) (hts _ hX1_addTakes__fieldLink_RX1_33_MakeupGas_takenPerDay_I_) (fun _ h9 => h9) rfl dX1_addTakes_10 ?_
        refine lv_iload hx hb dX1_addTakes_13 (lv_at hl 4 rfl) ?_
        refine lv_dup2_11 hx hb dX1_addTakes_15 rfl rfl ?_
        refine ga_iald (j := i) hx hb hK hP 3 0 rfl rfl hi3 (by decide) dX1_addTakes_16 ?_
        refine lv_iload_n hx hb dX1_addTakes_17 rfl (lv_at hl 3 rfl) ?_
        refine lv_iadd hx hb dX1_addTakes_18 ?_
        refine ga_iast (j := i) (ws' := (wG ad cI cL qy lp sp pr ex (nI c) (adF dy a (i + 1) q) tk mk (nI mK) mS su (nI uK) uS sh mu co sr du bi bb)) hx hb hK hP hD hS 3 0 rfl rfl hi3 (by decide) dX1_addTakes_19 (by rw [adF_s dy q hai]; rfl) (fun H locs hP hD hS => ?_)
        refine lv_iinc (v := nI (i + 1)) (lv' := [(4, .int (nI (i + 1))), (0, .ref (ad 0)), (1, .int (nI a)), (2, .int (nI b)), (3, .int q)]) hx hb dX1_addTakes_20 hl (k := 4) rfl (gi_1 _) (by decide) rfl (fun ls hl => ?_)
        refine lv_goto (tgt := 3) hx hb dX1_addTakes_23 (by decide) ?_
        exact ih (i + 1) (by omega) (by omega) (by omega) _ _ hP hD hS ls (lv_sub hl [1, 2, 3, 4, 0] rfl)
  rw [← adF_0 dy a q] at hP hD
  exact lp_3 ((b + 1) + 1) a (by omega) (by omega) (Nat.le_refl a) _ _ hP hD hS ls (lv_sub hl [1, 2, 3, 4, 0] rfl)
theorem inX1_leastQuantity_X1 : ∀ q ∈ wsX10, q ∈ wsX1_leastQuantity := by decide +kernel
theorem hX1_leastQuantity__fieldLink_RX1_10_MakeupGas_yearlyQuantity_I_ : Cond.fieldLink RX1 10 "MakeupGas" "yearlyQuantity" "I" ∈ wsX1_leastQuantity := by decide +kernel
theorem hX1_leastQuantity__fieldLink_RX1_14_MakeupGas_leastPercent_I_ : Cond.fieldLink RX1 14 "MakeupGas" "leastPercent" "I" ∈ wsX1_leastQuantity := by decide +kernel
theorem hX1_leastQuantity__fieldLink_RX1_30_MakeupGas_excusedDays_I_ : Cond.fieldLink RX1 30 "MakeupGas" "excusedDays" "[I" ∈ wsX1_leastQuantity := by decide +kernel
theorem hX1_leastQuantity__constantLong_RX1_146_36000_ : Cond.constantLong RX1 146 (36000) ∈ wsX1_leastQuantity := by decide +kernel
set_option maxHeartbeats 4000000 in
set_option maxRecDepth 100000 in
theorem c_X1_leastQuantity (l : Launch) (D : va_G) (sz : Nat) (ad : Nat → Nat) (cI cL : ClassId) (qy lp sp : Int32) (pr ex : Nat → Int32) (c : Nat) (dy tk mk : Nat → Int32) (mK : Nat) (mS : Int32) (su : Nat → Int32) (uK : Nat) (uS : Int32) (sh mu co sr : Nat → Int32) (du bi : Nat → Int64) (bb : Int64) (y : Nat) (hy : y < 20) : gCi l yX1_leastQuantity wsX1_leastQuantity ({ frames := 0, cells := 0, slots := 0, locals := 0 } : Room) D [(cI, .int), (cL, .long)] [.ref (ad 0), .int (nI y)] (wG ad cI cL qy lp sp pr ex (nI c) dy tk mk (nI mK) mS su (nI uK) uS sh mu co sr du bi bb) (wG ad cI cL qy lp sp pr ex (nI c) dy tk mk (nI mK) mS su (nI uK) uS sh mu co sr du bi bb) (lqf qy lp ex y) True 0 0 sz := by
  refine gm_i (cc := cX1_leastQuantity) (maxL := 4) (by decide) rfl (Nat.le_of_ble_eq_true rfl) ?_
  intro pg en s m args below meth cd A ls hx hb hr hml hown hts hlocks hin hA hK hP hD hl
  have hl : lv_has ls 4 [(0, .ref (ad 0)), (1, .int (nI y))] := hl
  have hS : va_S A s.heap s.heap [] := va_S.rf
  refine lv_aload_n hx hb dX1_leastQuantity_0 rfl (lv_at hl 0 rfl) ?_
  refine va_get (D := D) (ci := 1) (C := RX1) (T := TX1) (N := 17) hx hb hts inX1_leastQuantity_X1 hown hK hP 0 rfl rfl 0 (by decide) (hts _ hX1_leastQuantity__fieldLink_RX1_10_MakeupGas_yearlyQuantity_I_) (fun _ h9 => h9) rfl dX1_leastQuantity_1 ?_
  refine lv_i2l hx hb dX1_leastQuantity_4 rfl ?_
  refine lv_aload_n hx hb dX1_leastQuantity_5 rfl (lv_at hl 0 rfl) ?_
  refine va_get (D := D) (ci := 1) (C := RX1) (T := TX1) (N := 17) hx hb hts inX1_leastQuantity_X1 hown hK hP 0 rfl rfl 1 (by decide) (hts _ hX1_leastQuantity__fieldLink_RX1_14_MakeupGas_leastPercent_I_) (fun _ h9 => h9) rfl dX1_leastQuantity_6 ?_
  refine lv_i2l hx hb dX1_leastQuantity_9 rfl ?_
  refine lv_lmul hx hb dX1_leastQuantity_10 ?_
  refine lv_sipush (v := 360) hx hb dX1_leastQuantity_11 (by decide) ?_
  refine lv_aload_n hx hb dX1_leastQuantity_14 rfl (lv_at hl 0 rfl) ?_
  refine va_get (D := D) (ci := 1) (C := RX1) (T := TX1) (N := 17) hx hb hts inX1_leastQuantity_X1 hown hK hP 0 rfl rfl 4 (by decide) (hts _ hX1_leastQuantity__fieldLink_RX1_30_MakeupGas_excusedDays_I_) (fun _ h9 => h9) rfl dX1_leastQuantity_15 ?_
  refine lv_iload_n hx hb dX1_leastQuantity_18 rfl (lv_at hl 1 rfl) ?_
  refine ga_iald (j := y) hx hb hK hP 2 0 rfl rfl hy (by decide) dX1_leastQuantity_19 ?_
  refine lv_isub hx hb dX1_leastQuantity_20 ?_
  refine lv_i2l hx hb dX1_leastQuantity_21 rfl ?_
  refine lv_lmul hx hb dX1_leastQuantity_22 ?_
  refine lv_lstore_n (lv' := [(2, .long ((qy.toInt64 * lp.toInt64) * ((360 - (ex y)).toInt64))), (0, .ref (ad 0)), (1, .int (nI y))]) hx hb dX1_leastQuantity_23 rfl hl (by decide) rfl (fun ls hl => ?_)
  refine lv_lload_n hx hb dX1_leastQuantity_24 rfl (lv_at hl 0 rfl) ?_
  refine lv_ldc2 (v := 36000) hx hb hown (hts _ hX1_leastQuantity__constantLong_RX1_146_36000_) dX1_leastQuantity_25 ?_
  refine lv_ldiv hx hb dX1_leastQuantity_28 (by decide) ?_
  refine lv_l2i hx hb dX1_leastQuantity_29 rfl ?_
  exact ge_i hx hb hr hlocks rfl hK hP hD hS trivial (Nat.le_of_ble_eq_true rfl) (Nat.le_of_ble_eq_true rfl) dX1_leastQuantity_30
theorem inX1_shortfallPrice_X1 : ∀ q ∈ wsX10, q ∈ wsX1_shortfallPrice := by decide +kernel
theorem hX1_shortfallPrice__fieldLink_RX1_20_MakeupGas_pricePerYear_I_ : Cond.fieldLink RX1 20 "MakeupGas" "pricePerYear" "[I" ∈ wsX1_shortfallPrice := by decide +kernel
theorem hX1_shortfallPrice__fieldLink_RX1_17_MakeupGas_shortfallPercent_I_ : Cond.fieldLink RX1 17 "MakeupGas" "shortfallPercent" "I" ∈ wsX1_shortfallPrice := by decide +kernel
set_option maxHeartbeats 4000000 in
set_option maxRecDepth 100000 in
theorem c_X1_shortfallPrice (l : Launch) (D : va_G) (sz : Nat) (ad : Nat → Nat) (cI cL : ClassId) (qy lp sp : Int32) (pr ex : Nat → Int32) (c : Nat) (dy tk mk : Nat → Int32) (mK : Nat) (mS : Int32) (su : Nat → Int32) (uK : Nat) (uS : Int32) (sh mu co sr : Nat → Int32) (du bi : Nat → Int64) (bb : Int64) (y : Nat) (hy : y < 20) : gCi l yX1_shortfallPrice wsX1_shortfallPrice ({ frames := 0, cells := 0, slots := 0, locals := 0 } : Room) D [(cI, .int), (cL, .long)] [.ref (ad 0), .int (nI y)] (wG ad cI cL qy lp sp pr ex (nI c) dy tk mk (nI mK) mS su (nI uK) uS sh mu co sr du bi bb) (wG ad cI cL qy lp sp pr ex (nI c) dy tk mk (nI mK) mS su (nI uK) uS sh mu co sr du bi bb) (spf pr sp y) True 0 0 sz := by
  refine gm_i (cc := cX1_shortfallPrice) (maxL := 2) (by decide) rfl (Nat.le_of_ble_eq_true rfl) ?_
  intro pg en s m args below meth cd A ls hx hb hr hml hown hts hlocks hin hA hK hP hD hl
  have hl : lv_has ls 2 [(0, .ref (ad 0)), (1, .int (nI y))] := hl
  have hS : va_S A s.heap s.heap [] := va_S.rf
  refine lv_aload_n hx hb dX1_shortfallPrice_0 rfl (lv_at hl 0 rfl) ?_
  refine va_get (D := D) (ci := 1) (C := RX1) (T := TX1) (N := 17) hx hb hts inX1_shortfallPrice_X1 hown hK hP 0 rfl rfl 3 (by decide) (hts _ hX1_shortfallPrice__fieldLink_RX1_20_MakeupGas_pricePerYear_I_) (fun _ h9 => h9) rfl dX1_shortfallPrice_1 ?_
  refine lv_iload_n hx hb dX1_shortfallPrice_4 rfl (lv_at hl 1 rfl) ?_
  refine ga_iald (j := y) hx hb hK hP 1 0 rfl rfl hy (by decide) dX1_shortfallPrice_5 ?_
  refine lv_aload_n hx hb dX1_shortfallPrice_6 rfl (lv_at hl 0 rfl) ?_
  refine va_get (D := D) (ci := 1) (C := RX1) (T := TX1) (N := 17) hx hb hts inX1_shortfallPrice_X1 hown hK hP 0 rfl rfl 2 (by decide) (hts _ hX1_shortfallPrice__fieldLink_RX1_17_MakeupGas_shortfallPercent_I_) (fun _ h9 => h9) rfl dX1_shortfallPrice_7 ?_
  refine lv_imul hx hb dX1_shortfallPrice_10 ?_
  refine lv_bipush (v := 100) hx hb dX1_shortfallPrice_11 (by decide) ?_
  refine lv_idiv hx hb dX1_shortfallPrice_13 (by decide) ?_
  exact ge_i hx hb hr hlocks rfl hK hP hD hS trivial (Nat.le_of_ble_eq_true rfl) (Nat.le_of_ble_eq_true rfl) dX1_shortfallPrice_14
end
section
theorem inX1_drawSurplus_X1 : ∀ q ∈ wsX10, q ∈ wsX1_drawSurplus := by decide +kernel
theorem hX1_drawSurplus__fieldLink_RX1_48_MakeupGas_surplusStock_LMakeupGas_Stock_ : Cond.fieldLink RX1 48 "MakeupGas" "surplusStock" "LMakeupGas$Stock;" ∈ wsX1_drawSurplus := by decide +kernel
set_option maxHeartbeats 4000000 in
set_option maxRecDepth 100000 in
theorem c_X1_drawSurplus (l : Launch) (D : va_G) (sz : Nat) (ad : Nat → Nat) (cI cL : ClassId) (qy lp sp : Int32) (pr ex : Nat → Int32) (c : Nat) (dy tk mk : Nat → Int32) (mK : Nat) (mS : Int32) (su : Nat → Int32) (uK : Nat) (uS : Int32) (sh mu co sr : Nat → Int32) (du bi : Nat → Int64) (bb : Int64) (y : Nat) (w : Int32) (hy : y < 20) : gCi l yX1_drawSurplus wsX1_drawSurplus ({ frames := 2, cells := 0, slots := 0, locals := 44 } : Room) D [(cI, .int), (cL, .long)] [.ref (ad 0), .int (nI y), .int w] (wG ad cI cL qy lp sp pr ex (nI c) dy tk mk (nI mK) mS su (nI uK) uS sh mu co sr du bi bb) (wG ad cI cL qy lp sp pr ex (nI c) dy tk mk (nI mK) mS ((dw su w y).1) (nI uK) uS sh mu co sr du bi bb) ((dw su w y).2) True 0 0 sz := by
  refine gm_i (cc := cX1_drawSurplus) (maxL := 5) (by decide) rfl (Nat.le_of_ble_eq_true rfl) ?_
  intro pg en s m args below meth cd A ls hx hb hr hml hown hts hlocks hin hA hK hP hD hl
  have hl : lv_has ls 5 [(0, .ref (ad 0)), (1, .int (nI y)), (2, .int w)] := hl
  have hS : va_S A s.heap s.heap [] := va_S.rf
  refine lv_iconst (v := 0) hx hb dX1_drawSurplus_0 (by decide) ?_
  refine lv_istore_n (lv' := [(3, .int 0), (0, .ref (ad 0)), (1, .int (nI y)), (2, .int w)]) hx hb dX1_drawSurplus_1 rfl hl (by decide) rfl (fun ls hl => ?_)
  refine lv_iconst (v := 0) hx hb dX1_drawSurplus_2 (by decide) ?_
  refine lv_istore (lv' := [(4, .int 0), (3, .int 0), (0, .ref (ad 0)), (1, .int (nI y)), (2, .int w)]) hx hb dX1_drawSurplus_3 hl (by decide) rfl (fun ls hl => ?_)
  have lp_5 : ∀ (n i : Nat), i ≤ y → y < i + n → ∀ (H : Heap) (locs : List Loc), va_P D vwCl (wG ad cI cL qy lp sp pr ex (nI c) dy tk mk (nI mK) mS ((dw su w i).1) (nI uK) uS sh mu co sr du bi bb) H → va_D A (wG ad cI cL qy lp sp pr ex (nI c) dy tk mk (nI mK) mS ((dw su w i).1) (nI uK) uS sh mu co sr du bi bb) → va_S A s.heap H locs → ∀ (ls : Array Slot), lv_has ls 5 [(0, .ref (ad 0)), (1, .int (nI y)), (2, .int w), (3, .int ((dw su w i).2)), (4, .int (nI i))] → W pg l en ({ frames := 2, cells := 0, slots := 0, locals := 44 } : Room) s m args below meth cd H locs 0 0 (gEi ((dw su w y).2) True below D [(cI, .int), (cL, .long)] (wG ad cI cL qy lp sp pr ex (nI c) dy tk mk (nI mK) mS ((dw su w y).1) (nI uK) uS sh mu co sr du bi bb) A args s 0 0) (F0 m 5 ls []) := by
    intro n
    induction n with
    | zero => intro i h1 h2; exact absurd h2 (by omega)
    | succ n ih =>
      intro i hi hin2  H locs hP hD hS ls hl
      refine lv_iload hx hb dX1_drawSurplus_5 (lv_at hl 4 rfl) ?_
      refine lv_iload_n hx hb dX1_drawSurplus_7 rfl (lv_at hl 1 rfl) ?_
      refine lv_icmp_ge (tgt := 32) hx hb dX1_drawSurplus_8 (by decide) (fun c1 => ?_) (fun c1 => ?_)
      · obtain rfl : i = y := Nat.le_antisymm hi (Nat.not_lt.mp fun h => absurd c1 (nI_ge h (by omega)))
        refine lv_iload_n hx hb dX1_drawSurplus_32 rfl (lv_at hl 3 rfl) ?_
        exact ge_i hx hb hr hlocks rfl hK hP hD hS trivial (Nat.le_of_ble_eq_true rfl) (Nat.le_of_ble_eq_true rfl) dX1_drawSurplus_33
      · have hiy : i < y := Nat.not_le.mp (fun h => c1 (nI_le h (by omega)))
        have hi3 : i < 20 := by omega
        refine lv_iload_n hx hb dX1_drawSurplus_11 rfl (lv_at hl 3 rfl) ?_
        refine lv_aload_n hx hb dX1_drawSurplus_12 rfl (lv_at hl 0 rfl) ?_
        refine va_get (D := D) (ci := 1) (C := RX1) (T := TX1) (N := 17) hx hb hts inX1_drawSurplus_X1 hown hK hP 0 rfl rfl 9 (by decide) (hts _ hX1_drawSurplus__fieldLink_RX1_48_MakeupGas_surplusStock_LMakeupGas_Stock_) (fun _ h9 => h9) rfl dX1_drawSurplus_13 ?_
        refine lv_iload hx hb dX1_drawSurplus_16 (lv_at hl 4 rfl) ?_
        refine lv_iload_n hx hb dX1_drawSurplus_18 rfl (lv_at hl 2 rfl) ?_
        refine lv_iload_n hx hb dX1_drawSurplus_19 rfl (lv_at hl 3 rfl) ?_
        refine lv_isub hx hb dX1_drawSurplus_20 ?_
        refine gV_i (wc := (wK (ad 6) (ad 14) cI ((dw su w i).1) (nI uK) uS)) (wr := [(ad 0, .inr (1, [.int qy, .int lp, .int sp, .ref (ad 1), .ref (ad 2), .int (nI c), .ref (ad 3), .ref (ad 4), .ref (ad 5), .ref (ad 6), .ref (ad 7), .ref (ad 8), .ref (ad 9), .ref (ad 10), .ref (ad 11), .ref (ad 12), .long bb])), (ad 1, .inl (cI, 20, .inl pr)), (ad 2, .inl (cI, 20, .inl ex)), (ad 3, .inl (cI, 360, .inl dy)), (ad 4, .inl (cI, 20, .inl tk)), (ad 5, .inr (0, [.ref (ad 13), .int (nI mK), .int mS])), (ad 7, .inl (cI, 20, .inl sh)), (ad 8, .inl (cI, 20, .inl mu)), (ad 9, .inl (cI, 20, .inl co)), (ad 10, .inl (cI, 20, .inl sr)), (ad 11, .inl (cL, 20, .inr (.inl du))), (ad 12, .inl (cL, 20, .inr (.inl bi))), (ad 13, .inl (cI, 20, .inl mk))]) (w1 := (wK (ad 6) (ad 14) cI (upd ((dw su w i).1) i (((dw su w i).1) i - mnI (w - ((dw su w i).2)) (((dw su w i).1) i))) (nI uK) uS)) (W' := (wG ad cI cL qy lp sp pr ex (nI c) dy tk mk (nI mK) mS (upd ((dw su w i).1) i (((dw su w i).1) i - mnI (w - ((dw su w i).2)) (((dw su w i).1) i))) (nI uK) uS sh mu co sr du bi bb)) (As := [.int (nI i), .int (w - ((dw su w i).2))]) (rest := [.int ((dw su w i).2)]) ⟨hx, hb, hml, hown, hts⟩ (c_X0_drawFrom l D H.size (ad 6) (ad 14) cI cL ((dw su w i).1) (nI uK) uS i (w - ((dw su w i).2)) hi3) (cwV 2 hts gX1_drawSurplus_X0_drawFrom rfl rfl rfl (by decide +kernel) ⟨(Nat.le_of_ble_eq_true rfl), (Nat.le_of_ble_eq_true rfl)⟩) hS hA hK hP hD [0, 1] rfl [6, 14] [0, 1, 2, 3, 4, 5, 7, 8, 9, 10, 11, 12, 13] [0, 1, 2, 3, 4, 5, 13, 6, 7, 8, 9, 10, 11, 12, 14] rfl (by decide) rfl (by decide) (by decide) rfl (by decide) 0 0 rfl rfl rfl rfl hl.1 rfl (Nat.le_of_ble_eq_true rfl) dX1_drawSurplus_21 ⟨(Nat.le_of_ble_eq_true rfl), (Nat.le_of_ble_eq_true rfl)⟩ (fun H locs _ hP hD hS => ?_)
        refine lv_iadd hx hb dX1_drawSurplus_24 ?_
        refine lv_istore_n (lv' := [(3, .int ((dw su w (i + 1)).2)), (0, .ref (ad 0)), (1, .int (nI y)), (2, .int w), (4, .int (nI i))]) hx hb dX1_drawSurplus_25 rfl hl (by decide) rfl (fun ls hl => ?_)
        refine lv_iinc (v := nI (i + 1)) (lv' := [(4, .int (nI (i + 1))), (3, .int ((dw su w (i + 1)).2)), (0, .ref (ad 0)), (1, .int (nI y)), (2, .int w)]) hx hb dX1_drawSurplus_26 hl (k := 4) rfl (gi_1 _) (by decide) rfl (fun ls hl => ?_)
        refine lv_goto (tgt := 5) hx hb dX1_drawSurplus_29 (by decide) ?_
        exact ih (i + 1) (by omega) (by omega) _ _ hP hD hS ls (lv_sub hl [2, 3, 4, 1, 0] rfl)
  exact lp_5 (y + 1) 0 (by omega) (by omega) _ _ hP hD hS ls (lv_sub hl [2, 3, 4, 1, 0] rfl)
theorem inX1_settleGap_X1 : ∀ q ∈ wsX10, q ∈ wsX1_settleGap := by decide +kernel
theorem hX1_settleGap__fieldLink_RX1_36_MakeupGas_takenPerYear_I_ : Cond.fieldLink RX1 36 "MakeupGas" "takenPerYear" "[I" ∈ wsX1_settleGap := by decide +kernel
theorem hX1_settleGap__fieldLink_RX1_44_MakeupGas_makeUpStock_LMakeupGas_Stock_ : Cond.fieldLink RX1 44 "MakeupGas" "makeUpStock" "LMakeupGas$Stock;" ∈ wsX1_settleGap := by decide +kernel
theorem hX1_settleGap__fieldLink_RX1_57_MakeupGas_coveredPerYear_I_ : Cond.fieldLink RX1 57 "MakeupGas" "coveredPerYear" "[I" ∈ wsX1_settleGap := by decide +kernel
theorem hX1_settleGap__fieldLink_RX1_51_MakeupGas_shortfallPerYear_I_ : Cond.fieldLink RX1 51 "MakeupGas" "shortfallPerYear" "[I" ∈ wsX1_settleGap := by decide +kernel
theorem hX1_settleGap__fieldLink_RX1_54_MakeupGas_madeUpPerYear_I_ : Cond.fieldLink RX1 54 "MakeupGas" "madeUpPerYear" "[I" ∈ wsX1_settleGap := by decide +kernel
theorem hX1_settleGap__fieldLink_RX1_60_MakeupGas_surplusPerYear_I_ : Cond.fieldLink RX1 60 "MakeupGas" "surplusPerYear" "[I" ∈ wsX1_settleGap := by decide +kernel
theorem hX1_settleGap__fieldLink_RX1_63_MakeupGas_duePerYear_J_ : Cond.fieldLink RX1 63 "MakeupGas" "duePerYear" "[J" ∈ wsX1_settleGap := by decide +kernel
theorem hX1_settleGap__fieldLink_RX1_20_MakeupGas_pricePerYear_I_ : Cond.fieldLink RX1 20 "MakeupGas" "pricePerYear" "[I" ∈ wsX1_settleGap := by decide +kernel
set_option maxHeartbeats 4000000 in
set_option maxRecDepth 100000 in
theorem c_X1_settleGap (l : Launch) (D : va_G) (sz : Nat) (ad : Nat → Nat) (cI cL : ClassId) (qy lp sp : Int32) (pr ex : Nat → Int32) (c : Nat) (dy tk mk : Nat → Int32) (mK : Nat) (mS : Int32) (su : Nat → Int32) (uK : Nat) (uS : Int32) (sh mu co sr : Nat → Int32) (du bi : Nat → Int64) (bb : Int64) (y : Nat) (hy : y < 20) : gCv l yX1_settleGap wsX1_settleGap ({ frames := 3, cells := 0, slots := 0, locals := 68 } : Room) D [(cI, .int), (cL, .long)] [.ref (ad 0), .int (nI y)] (wG ad cI cL qy lp sp pr ex (nI c) dy tk mk (nI mK) mS su (nI uK) uS sh mu co sr du bi bb) (wG ad cI cL qy lp sp pr ex (nI c) dy tk (upd mk y (gpM qy lp ex tk su y)) (nI mK) mS ((dw su (gpG qy lp ex tk y) y).1) (nI uK) uS (upd sh y (gpM qy lp ex tk su y)) (upd mu y 0) (upd co y (gpC qy lp ex tk su y)) (upd sr y 0) (vp_updL du y (gpD qy lp sp pr ex tk su y)) bi bb) True 0 0 sz := by
  refine gm_v (cc := cX1_settleGap) (maxL := 5) (by decide) rfl (Nat.le_of_ble_eq_true rfl) ?_
  intro pg en s m args below meth cd A ls hx hb hr hml hown hts hlocks hin hA hK hP hD hl
  have hl : lv_has ls 5 [(0, .ref (ad 0)), (1, .int (nI y))] := hl
  have hS : va_S A s.heap s.heap [] := va_S.rf
  refine lv_aload_n hx hb dX1_settleGap_0 rfl (lv_at hl 0 rfl) ?_
  refine lv_iload_n hx hb dX1_settleGap_1 rfl (lv_at hl 1 rfl) ?_
  refine gV_i (wc := (wG ad cI cL qy lp sp pr ex (nI c) dy tk mk (nI mK) mS su (nI uK) uS sh mu co sr du bi bb)) (wr := []) (w1 := (wG ad cI cL qy lp sp pr ex (nI c) dy tk mk (nI mK) mS su (nI uK) uS sh mu co sr du bi bb)) (W' := (wG ad cI cL qy lp sp pr ex (nI c) dy tk mk (nI mK) mS su (nI uK) uS sh mu co sr du bi bb)) (As := [.int (nI y)]) (rest := []) ⟨hx, hb, hml, hown, hts⟩ (c_X1_leastQuantity l D s.heap.size ad cI cL qy lp sp pr ex c dy tk mk mK mS su uK uS sh mu co sr du bi bb y hy) (cwV 1 hts gX1_settleGap_X1_leastQuantity rfl rfl rfl (by decide +kernel) ⟨(Nat.le_of_ble_eq_true rfl), (Nat.le_of_ble_eq_true rfl)⟩) hS hA hK hP hD [0, 1] rfl [0, 1, 2, 3, 4, 5, 6, 7, 8, 9, 10, 11, 12, 13, 14] [] [0, 1, 2, 3, 4, 5, 6, 7, 8, 9, 10, 11, 12, 13, 14] rfl (by decide) rfl (by decide) (by decide) rfl (by decide) 0 1 rfl rfl rfl rfl hl.1 rfl (Nat.le_of_ble_eq_true rfl) dX1_settleGap_2 ⟨(Nat.le_of_ble_eq_true rfl), (Nat.le_of_ble_eq_true rfl)⟩ (fun H locs _ hP hD hS => ?_)
  refine lv_aload_n hx hb dX1_settleGap_5 rfl (lv_at hl 0 rfl) ?_
  refine va_get (D := D) (ci := 1) (C := RX1) (T := TX1) (N := 17) hx hb hts inX1_settleGap_X1 hown hK hP 0 rfl rfl 7 (by decide) (hts _ hX1_settleGap__fieldLink_RX1_36_MakeupGas_takenPerYear_I_) (fun _ h9 => h9) rfl dX1_settleGap_6 ?_
  refine lv_iload_n hx hb dX1_settleGap_9 rfl (lv_at hl 1 rfl) ?_
  refine ga_iald (j := y) hx hb hK hP 4 0 rfl rfl hy (by decide) dX1_settleGap_10 ?_
  refine lv_isub hx hb dX1_settleGap_11 ?_
  refine lv_istore_n (lv' := [(2, .int (gpG qy lp ex tk y)), (0, .ref (ad 0)), (1, .int (nI y))]) hx hb dX1_settleGap_12 rfl hl (by decide) rfl (fun ls hl => ?_)
  refine lv_aload_n hx hb dX1_settleGap_13 rfl (lv_at hl 1 rfl) ?_
  refine lv_iload_n hx hb dX1_settleGap_14 rfl (lv_at hl 2 rfl) ?_
  refine lv_iload_n hx hb dX1_settleGap_15 rfl (lv_at hl 0 rfl) ?_
  refine gV_i (wc := (wG ad cI cL qy lp sp pr ex (nI c) dy tk mk (nI mK) mS su (nI uK) uS sh mu co sr du bi bb)) (wr := []) (w1 := (wG ad cI cL qy lp sp pr ex (nI c) dy tk mk (nI mK) mS ((dw su (gpG qy lp ex tk y) y).1) (nI uK) uS sh mu co sr du bi bb)) (W' := (wG ad cI cL qy lp sp pr ex (nI c) dy tk mk (nI mK) mS ((dw su (gpG qy lp ex tk y) y).1) (nI uK) uS sh mu co sr du bi bb)) (As := [.int (nI y), .int (gpG qy lp ex tk y)]) (rest := []) ⟨hx, hb, hml, hown, hts⟩ (c_X1_drawSurplus l D H.size ad cI cL qy lp sp pr ex c dy tk mk mK mS su uK uS sh mu co sr du bi bb y (gpG qy lp ex tk y) hy) (cwV 2 hts gX1_settleGap_X1_drawSurplus rfl rfl rfl (by decide +kernel) ⟨(Nat.le_of_ble_eq_true rfl), (Nat.le_of_ble_eq_true rfl)⟩) hS hA hK hP hD [0, 1] rfl [0, 1, 2, 3, 4, 5, 6, 7, 8, 9, 10, 11, 12, 13, 14] [] [0, 1, 2, 3, 4, 5, 6, 7, 8, 9, 10, 11, 12, 13, 14] rfl (by decide) rfl (by decide) (by decide) rfl (by decide) 0 1 rfl rfl rfl rfl hl.1 rfl (Nat.le_of_ble_eq_true rfl) dX1_settleGap_16 ⟨(Nat.le_of_ble_eq_true rfl), (Nat.le_of_ble_eq_true rfl)⟩ (fun H locs _ hP hD hS => ?_)
  refine lv_istore_n (lv' := [(3, .int (gpC qy lp ex tk su y)), (2, .int (gpG qy lp ex tk y)), (0, .ref (ad 0)), (1, .int (nI y))]) hx hb dX1_settleGap_19 rfl hl (by decide) rfl (fun ls hl => ?_)
  refine lv_iload_n hx hb dX1_settleGap_20 rfl (lv_at hl 1 rfl) ?_
  refine lv_iload_n hx hb dX1_settleGap_21 rfl (lv_at hl 0 rfl) ?_
  refine lv_isub hx hb dX1_settleGap_22 ?_
  refine lv_istore (lv' := [(4, .int (gpM qy lp ex tk su y)), (3, .int (gpC qy lp ex tk su y)), (2, .int (gpG qy lp ex tk y)), (0, .ref (ad 0)), (1, .int (nI y))]) hx hb dX1_settleGap_23 hl (by decide) rfl (fun ls hl => ?_)
  refine lv_aload_n hx hb dX1_settleGap_25 rfl (lv_at hl 3 rfl) ?_
  refine va_get (D := D) (ci := 1) (C := RX1) (T := TX1) (N := 17) hx hb hts inX1_settleGap_X1 hown hK hP 0 rfl rfl 8 (by decide) (hts _ hX1_settleGap__fieldLink_RX1_44_MakeupGas_makeUpStock_LMakeupGas_Stock_) (fun _ h9 => h9) rfl dX1_settleGap_26 ?_
  refine lv_iload_n hx hb dX1_settleGap_29 rfl (lv_at hl 4 rfl) ?_
  refine lv_iload hx hb dX1_settleGap_30 (lv_at hl 0 rfl) ?_
  refine gV_v (wc := (wK (ad 5) (ad 13) cI mk (nI mK) mS)) (wr := [(ad 0, .inr (1, [.int qy, .int lp, .int sp, .ref (ad 1), .ref (ad 2), .int (nI c), .ref (ad 3), .ref (ad 4), .ref (ad 5), .ref (ad 6), .ref (ad 7), .ref (ad 8), .ref (ad 9), .ref (ad 10), .ref (ad 11), .ref (ad 12), .long bb])), (ad 1, .inl (cI, 20, .inl pr)), (ad 2, .inl (cI, 20, .inl ex)), (ad 3, .inl (cI, 360, .inl dy)), (ad 4, .inl (cI, 20, .inl tk)), (ad 6, .inr (0, [.ref (ad 14), .int (nI uK), .int uS])), (ad 7, .inl (cI, 20, .inl sh)), (ad 8, .inl (cI, 20, .inl mu)), (ad 9, .inl (cI, 20, .inl co)), (ad 10, .inl (cI, 20, .inl sr)), (ad 11, .inl (cL, 20, .inr (.inl du))), (ad 12, .inl (cL, 20, .inr (.inl bi))), (ad 14, .inl (cI, 20, .inl ((dw su (gpG qy lp ex tk y) y).1)))]) (w1 := (wK (ad 5) (ad 13) cI (upd mk y (gpM qy lp ex tk su y)) (nI mK) mS)) (W' := (wG ad cI cL qy lp sp pr ex (nI c) dy tk (upd mk y (gpM qy lp ex tk su y)) (nI mK) mS ((dw su (gpG qy lp ex tk y) y).1) (nI uK) uS sh mu co sr du bi bb)) (As := [.int (nI y), .int (gpM qy lp ex tk su y)]) (rest := []) ⟨hx, hb, hml, hown, hts⟩ (c_X0_put l D H.size (ad 5) (ad 13) cI cL mk (nI mK) mS y (gpM qy lp ex tk su y) hy) (cwV 2 hts gX1_settleGap_X0_put rfl rfl rfl (by decide +kernel) ⟨(Nat.le_of_ble_eq_true rfl), (Nat.le_of_ble_eq_true rfl)⟩) hS hA hK hP hD [0, 1] rfl [5, 13] [0, 1, 2, 3, 4, 6, 7, 8, 9, 10, 11, 12, 14] [0, 1, 2, 3, 4, 13, 5, 6, 7, 8, 9, 10, 11, 14, 12] rfl (by decide) rfl (by decide) (by decide) rfl (by decide) 0 0 rfl rfl rfl rfl hl.1 rfl (Nat.le_of_ble_eq_true rfl) dX1_settleGap_32 ⟨(Nat.le_of_ble_eq_true rfl), (Nat.le_of_ble_eq_true rfl)⟩ (fun H locs _ hP hD hS => ?_)
  refine lv_aload_n hx hb dX1_settleGap_35 rfl (lv_at hl 3 rfl) ?_
  refine va_get (D := D) (ci := 1) (C := RX1) (T := TX1) (N := 17) hx hb hts inX1_settleGap_X1 hown hK hP 0 rfl rfl 12 (by decide) (hts _ hX1_settleGap__fieldLink_RX1_57_MakeupGas_coveredPerYear_I_) (fun _ h9 => h9) rfl dX1_settleGap_36 ?_
  refine lv_iload_n hx hb dX1_settleGap_39 rfl (lv_at hl 4 rfl) ?_
  refine lv_iload_n hx hb dX1_settleGap_40 rfl (lv_at hl 1 rfl) ?_
  refine ga_iast (j := y) (ws' := (wG ad cI cL qy lp sp pr ex (nI c) dy tk (upd mk y (gpM qy lp ex tk su y)) (nI mK) mS ((dw su (gpG qy lp ex tk y) y).1) (nI uK) uS sh mu (upd co y (gpC qy lp ex tk su y)) sr du bi bb)) hx hb hK hP hD hS 9 0 rfl rfl hy (by decide) dX1_settleGap_41 rfl (fun H locs hP hD hS => ?_)
  refine lv_aload_n hx hb dX1_settleGap_42 rfl (lv_at hl 3 rfl) ?_
  refine va_get (D := D) (ci := 1) (C := RX1) (T := TX1) (N := 17) hx hb hts inX1_settleGap_X1 hown hK hP 0 rfl rfl 10 (by decide) (hts _ hX1_settleGap__fieldLink_RX1_51_MakeupGas_shortfallPerYear_I_) (fun _ h9 => h9) rfl dX1_settleGap_43 ?_
  refine lv_iload_n hx hb dX1_settleGap_46 rfl (lv_at hl 4 rfl) ?_
  refine lv_iload hx hb dX1_settleGap_47 (lv_at hl 0 rfl) ?_
  refine ga_iast (j := y) (ws' := (wG ad cI cL qy lp sp pr ex (nI c) dy tk (upd mk y (gpM qy lp ex tk su y)) (nI mK) mS ((dw su (gpG qy lp ex tk y) y).1) (nI uK) uS (upd sh y (gpM qy lp ex tk su y)) mu (upd co y (gpC qy lp ex tk su y)) sr du bi bb)) hx hb hK hP hD hS 7 0 rfl rfl hy (by decide) dX1_settleGap_49 rfl (fun H locs hP hD hS => ?_)
  refine lv_aload_n hx hb dX1_settleGap_50 rfl (lv_at hl 3 rfl) ?_
  refine va_get (D := D) (ci := 1) (C := RX1) (T := TX1) (N := 17) hx hb hts inX1_settleGap_X1 hown hK hP 0 rfl rfl 11 (by decide) (hts _ hX1_settleGap__fieldLink_RX1_54_MakeupGas_madeUpPerYear_I_) (fun _ h9 => h9) rfl dX1_settleGap_51 ?_
  refine lv_iload_n hx hb dX1_settleGap_54 rfl (lv_at hl 4 rfl) ?_
  refine lv_iconst (v := 0) hx hb dX1_settleGap_55 (by decide) ?_
  refine ga_iast (j := y) (ws' := (wG ad cI cL qy lp sp pr ex (nI c) dy tk (upd mk y (gpM qy lp ex tk su y)) (nI mK) mS ((dw su (gpG qy lp ex tk y) y).1) (nI uK) uS (upd sh y (gpM qy lp ex tk su y)) (upd mu y 0) (upd co y (gpC qy lp ex tk su y)) sr du bi bb)) hx hb hK hP hD hS 8 0 rfl rfl hy (by decide) dX1_settleGap_56 rfl (fun H locs hP hD hS => ?_)
  refine lv_aload_n hx hb dX1_settleGap_57 rfl (lv_at hl 3 rfl) ?_
  refine va_get (D := D) (ci := 1) (C := RX1) (T := TX1) (N := 17) hx hb hts inX1_settleGap_X1 hown hK hP 0 rfl rfl 13 (by decide) (hts _ hX1_settleGap__fieldLink_RX1_60_MakeupGas_surplusPerYear_I_) (fun _ h9 => h9) rfl dX1_settleGap_58 ?_
  refine lv_iload_n hx hb dX1_settleGap_61 rfl (lv_at hl 4 rfl) ?_
  refine lv_iconst (v := 0) hx hb dX1_settleGap_62 (by decide) ?_
  refine ga_iast (j := y) (ws' := (wG ad cI cL qy lp sp pr ex (nI c) dy tk (upd mk y (gpM qy lp ex tk su y)) (nI mK) mS ((dw su (gpG qy lp ex tk y) y).1) (nI uK) uS (upd sh y (gpM qy lp ex tk su y)) (upd mu y 0) (upd co y (gpC qy lp ex tk su y)) (upd sr y 0) du bi bb)) hx hb hK hP hD hS 10 0 rfl rfl hy (by decide) dX1_settleGap_63 rfl (fun H locs hP hD hS => ?_)
  refine lv_aload_n hx hb dX1_settleGap_64 rfl (lv_at hl 3 rfl) ?_
  refine va_get (D := D) (ci := 1) (C := RX1) (T := TX1) (N := 17) hx hb hts inX1_settleGap_X1 hown hK hP 0 rfl rfl 14 (by decide) (hts _ hX1_settleGap__fieldLink_RX1_63_MakeupGas_duePerYear_J_) (fun _ h9 => h9) rfl dX1_settleGap_65 ?_
  refine lv_iload_n hx hb dX1_settleGap_68 rfl (lv_at hl 4 rfl) ?_
  refine lv_aload_n hx hb dX1_settleGap_69 rfl (lv_at hl 3 rfl) ?_
  refine va_get (D := D) (ci := 1) (C := RX1) (T := TX1) (N := 17) hx hb hts inX1_settleGap_X1 hown hK hP 0 rfl rfl 7 (by decide) (hts _ hX1_settleGap__fieldLink_RX1_36_MakeupGas_takenPerYear_I_) (fun _ h9 => h9) rfl dX1_settleGap_70 ?_
  refine lv_iload_n hx hb dX1_settleGap_73 rfl (lv_at hl 4 rfl) ?_
  refine ga_iald (j := y) hx hb hK hP 4 0 rfl rfl hy (by decide) dX1_settleGap_74 ?_
  refine lv_i2l hx hb dX1_settleGap_75 rfl ?_
  refine lv_aload_n hx hb dX1_settleGap_76 rfl (lv_at hl 3 rfl) ?_
  refine va_get (D := D) (ci := 1) (C := RX1) (T := TX1) (N := 17) hx hb hts inX1_settleGap_X1 hown hK hP 0 rfl rfl 3 (by decide) (hts _ hX1_settleGap__fieldLink_RX1_20_MakeupGas_pricePerYear_I_) (fun _ h9 => h9) rfl dX1_settleGap_77 ?_
  refine lv_iload_n hx hb dX1_settleGap_80 rfl (lv_at hl 4 rfl) ?_
  refine ga_iald (j := y) hx hb hK hP 1 0 rfl rfl hy (by decide) dX1_settleGap_81 ?_
  refine lv_i2l hx hb dX1_settleGap_82 rfl ?_
  refine lv_lmul hx hb dX1_settleGap_83 ?_
  refine lv_iload hx hb dX1_settleGap_84 (lv_at hl 0 rfl) ?_
  refine lv_i2l hx hb dX1_settleGap_86 rfl ?_
  refine lv_aload_n hx hb dX1_settleGap_87 rfl (lv_at hl 3 rfl) ?_
  refine lv_iload_n hx hb dX1_settleGap_88 rfl (lv_at hl 4 rfl) ?_
  refine gV_i (wc := (wG ad cI cL qy lp sp pr ex (nI c) dy tk (upd mk y (gpM qy lp ex tk su y)) (nI mK) mS ((dw su (gpG qy lp ex tk y) y).1) (nI uK) uS (upd sh y (gpM qy lp ex tk su y)) (upd mu y 0) (upd co y (gpC qy lp ex tk su y)) (upd sr y 0) du bi bb)) (wr := []) (w1 := (wG ad cI cL qy lp sp pr ex (nI c) dy tk (upd mk y (gpM qy lp ex tk su y)) (nI mK) mS ((dw su (gpG qy lp ex tk y) y).1) (nI uK) uS (upd sh y (gpM qy lp ex tk su y)) (upd mu y 0) (upd co y (gpC qy lp ex tk su y)) (upd sr y 0) du bi bb)) (W' := (wG ad cI cL qy lp sp pr ex (nI c) dy tk (upd mk y (gpM qy lp ex tk su y)) (nI mK) mS ((dw su (gpG qy lp ex tk y) y).1) (nI uK) uS (upd sh y (gpM qy lp ex tk su y)) (upd mu y 0) (upd co y (gpC qy lp ex tk su y)) (upd sr y 0) du bi bb)) (As := [.int (nI y)]) (rest := [.long ((gpM qy lp ex tk su y).toInt64), .long (((tk y).toInt64) * ((pr y).toInt64)), .int (nI y), .ref (ad 11)]) ⟨hx, hb, hml, hown, hts⟩ (c_X1_shortfallPrice l D H.size ad cI cL qy lp sp pr ex c dy tk (upd mk y (gpM qy lp ex tk su y)) mK mS ((dw su (gpG qy lp ex tk y) y).1) uK uS (upd sh y (gpM qy lp ex tk su y)) (upd mu y 0) (upd co y (gpC qy lp ex tk su y)) (upd sr y 0) du bi bb y hy) (cwV 1 hts gX1_settleGap_X1_shortfallPrice rfl rfl rfl (by decide +kernel) ⟨(Nat.le_of_ble_eq_true rfl), (Nat.le_of_ble_eq_true rfl)⟩) hS hA hK hP hD [0, 1] rfl [0, 1, 2, 3, 4, 5, 6, 7, 8, 9, 10, 11, 12, 13, 14] [] [0, 1, 2, 3, 4, 5, 6, 7, 8, 9, 10, 11, 12, 13, 14] rfl (by decide) rfl (by decide) (by decide) rfl (by decide) 0 1 rfl rfl rfl rfl hl.1 rfl (Nat.le_of_ble_eq_true rfl) dX1_settleGap_89 ⟨(Nat.le_of_ble_eq_true rfl), (Nat.le_of_ble_eq_true rfl)⟩ (fun H locs _ hP hD hS => ?_)
  refine lv_i2l hx hb dX1_settleGap_92 rfl ?_
  refine lv_lmul hx hb dX1_settleGap_93 ?_
  refine lv_ladd hx hb dX1_settleGap_94 ?_
  refine ga_last (j := y) (ws' := (wG ad cI cL qy lp sp pr ex (nI c) dy tk (upd mk y (gpM qy lp ex tk su y)) (nI mK) mS ((dw su (gpG qy lp ex tk y) y).1) (nI uK) uS (upd sh y (gpM qy lp ex tk su y)) (upd mu y 0) (upd co y (gpC qy lp ex tk su y)) (upd sr y 0) (vp_updL du y (gpD qy lp sp pr ex tk su y)) bi bb)) hx hb hK hP hD hS 11 1 rfl rfl hy (by decide) dX1_settleGap_95 rfl (fun H locs hP hD hS => ?_)
  exact ge_v hx hb hr hlocks hK hP hD hS trivial (Nat.le_of_ble_eq_true rfl) (Nat.le_of_ble_eq_true rfl) dX1_settleGap_96
theorem inX1_settleEnough_X1 : ∀ q ∈ wsX10, q ∈ wsX1_settleEnough := by decide +kernel
theorem hX1_settleEnough__fieldLink_RX1_36_MakeupGas_takenPerYear_I_ : Cond.fieldLink RX1 36 "MakeupGas" "takenPerYear" "[I" ∈ wsX1_settleEnough := by decide +kernel
theorem hX1_settleEnough__fieldLink_RX1_10_MakeupGas_yearlyQuantity_I_ : Cond.fieldLink RX1 10 "MakeupGas" "yearlyQuantity" "I" ∈ wsX1_settleEnough := by decide +kernel
theorem hX1_settleEnough__methodLink_RX1_173_Lib_Math_max_name : Cond.methodLink RX1 173 Lib.Math.max.name ∈ wsX1_settleEnough := by decide +kernel
theorem hX1_settleEnough__static_Lib_Math_max_name : Cond.static Lib.Math.max.name ∈ wsX1_settleEnough := by decide +kernel
theorem hX1_settleEnough__initialized_java_lang_Math_ : Cond.initialized "java/lang/Math" ∈ wsX1_settleEnough := by decide +kernel
theorem hX1_settleEnough__code_Lib_Math_max_name_Lib_Math_max_code_2_some_int_ : Cond.code Lib.Math.max.name Lib.Math.max.code 2 (some .int) ∈ wsX1_settleEnough := by decide +kernel
theorem hX1_settleEnough__fieldLink_RX1_48_MakeupGas_surplusStock_LMakeupGas_Stock_ : Cond.fieldLink RX1 48 "MakeupGas" "surplusStock" "LMakeupGas$Stock;" ∈ wsX1_settleEnough := by decide +kernel
theorem hX1_settleEnough__fieldLink_RX1_57_MakeupGas_coveredPerYear_I_ : Cond.fieldLink RX1 57 "MakeupGas" "coveredPerYear" "[I" ∈ wsX1_settleEnough := by decide +kernel
theorem hX1_settleEnough__fieldLink_RX1_51_MakeupGas_shortfallPerYear_I_ : Cond.fieldLink RX1 51 "MakeupGas" "shortfallPerYear" "[I" ∈ wsX1_settleEnough := by decide +kernel
theorem hX1_settleEnough__fieldLink_RX1_54_MakeupGas_madeUpPerYear_I_ : Cond.fieldLink RX1 54 "MakeupGas" "madeUpPerYear" "[I" ∈ wsX1_settleEnough := by decide +kernel
theorem hX1_settleEnough__fieldLink_RX1_60_MakeupGas_surplusPerYear_I_ : Cond.fieldLink RX1 60 "MakeupGas" "surplusPerYear" "[I" ∈ wsX1_settleEnough := by decide +kernel
theorem hX1_settleEnough__fieldLink_RX1_63_MakeupGas_duePerYear_J_ : Cond.fieldLink RX1 63 "MakeupGas" "duePerYear" "[J" ∈ wsX1_settleEnough := by decide +kernel
theorem hX1_settleEnough__fieldLink_RX1_20_MakeupGas_pricePerYear_I_ : Cond.fieldLink RX1 20 "MakeupGas" "pricePerYear" "[I" ∈ wsX1_settleEnough := by decide +kernel
theorem hX1_settleEnough__fieldLink_RX1_44_MakeupGas_makeUpStock_LMakeupGas_Stock_ : Cond.fieldLink RX1 44 "MakeupGas" "makeUpStock" "LMakeupGas$Stock;" ∈ wsX1_settleEnough := by decide +kernel
set_option maxHeartbeats 4000000 in
set_option maxRecDepth 100000 in
theorem c_X1_settleEnough (l : Launch) (D : va_G) (sz : Nat) (ad : Nat → Nat) (cI cL : ClassId) (qy lp sp : Int32) (pr ex : Nat → Int32) (c : Nat) (dy tk mk : Nat → Int32) (mK : Nat) (mS : Int32) (su : Nat → Int32) (uK : Nat) (uS : Int32) (sh mu co sr : Nat → Int32) (du bi : Nat → Int64) (bb : Int64) (y : Nat) (hy : y < 20) : gCv l yX1_settleEnough wsX1_settleEnough ({ frames := 2, cells := 0, slots := 0, locals := 44 } : Room) D [(cI, .int), (cL, .long)] [.ref (ad 0), .int (nI y)] (wG ad cI cL qy lp sp pr ex (nI c) dy tk mk (nI mK) mS su (nI uK) uS sh mu co sr du bi bb) (wG ad cI cL qy lp sp pr ex (nI c) dy tk ((dw mk (enA qy lp ex tk y) y).1) (nI mK) mS (upd su y (enS qy lp ex tk mk y)) (nI uK) uS (upd sh y 0) (upd mu y (enM qy lp ex tk mk y)) (upd co y 0) (upd sr y (enS qy lp ex tk mk y)) (vp_updL du y (enD qy lp sp pr ex tk mk y)) bi bb) True 0 0 sz := by
  refine gm_v (cc := cX1_settleEnough) (maxL := 8) (by decide) rfl (Nat.le_of_ble_eq_true rfl) ?_
  intro pg en s m args below meth cd A ls hx hb hr hml hown hts hlocks hin hA hK hP hD hl
  have hl : lv_has ls 8 [(0, .ref (ad 0)), (1, .int (nI y))] := hl
  have hS : va_S A s.heap s.heap [] := va_S.rf
  refine lv_aload_n hx hb dX1_settleEnough_0 rfl (lv_at hl 0 rfl) ?_
  refine va_get (D := D) (ci := 1) (C := RX1) (T := TX1) (N := 17) hx hb hts inX1_settleEnough_X1 hown hK hP 0 rfl rfl 7 (by decide) (hts _ hX1_settleEnough__fieldLink_RX1_36_MakeupGas_takenPerYear_I_) (fun _ h9 => h9) rfl dX1_settleEnough_1 ?_
  refine lv_iload_n hx hb dX1_settleEnough_4 rfl (lv_at hl 1 rfl) ?_
  refine ga_iald (j := y) hx hb hK hP 4 0 rfl rfl hy (by decide) dX1_settleEnough_5 ?_
  refine lv_aload_n hx hb dX1_settleEnough_6 rfl (lv_at hl 0 rfl) ?_
  refine lv_iload_n hx hb dX1_settleEnough_7 rfl (lv_at hl 1 rfl) ?_
  refine gV_i (wc := (wG ad cI cL qy lp sp pr ex (nI c) dy tk mk (nI mK) mS su (nI uK) uS sh mu co sr du bi bb)) (wr := []) (w1 := (wG ad cI cL qy lp sp pr ex (nI c) dy tk mk (nI mK) mS su (nI uK) uS sh mu co sr du bi bb)) (W' := (wG ad cI cL qy lp sp pr ex (nI c) dy tk mk (nI mK) mS su (nI uK) uS sh mu co sr du bi bb)) (As := [.int (nI y)]) (rest := [.int (tk y)]) ⟨hx, hb, hml, hown, hts⟩ (c_X1_leastQuantity l D s.heap.size ad cI cL qy lp sp pr ex c dy tk mk mK mS su uK uS sh mu co sr du bi bb y hy) (cwV 1 hts gX1_settleEnough_X1_leastQuantity rfl rfl rfl (by decide +kernel) ⟨(Nat.le_of_ble_eq_true rfl), (Nat.le_of_ble_eq_true rfl)⟩) hS hA hK hP hD [0, 1] rfl [0, 1, 2, 3, 4, 5, 6, 7, 8, 9, 10, 11, 12, 13, 14] [] [0, 1, 2, 3, 4, 5, 6, 7, 8, 9, 10, 11, 12, 13, 14] rfl (by decide) rfl (by decide) (by decide) rfl (by decide) 0 1 rfl rfl rfl rfl hl.1 rfl (Nat.le_of_ble_eq_true rfl) dX1_settleEnough_8 ⟨(Nat.le_of_ble_eq_true rfl), (Nat.le_of_ble_eq_true rfl)⟩ (fun H locs _ hP hD hS => ?_)
  refine lv_isub hx hb dX1_settleEnough_11 ?_
  refine lv_istore_n (lv' := [(2, .int (enA qy lp ex tk y)), (0, .ref (ad 0)), (1, .int (nI y))]) hx hb dX1_settleEnough_12 rfl hl (by decide) rfl (fun ls hl => ?_)
  refine lv_iconst (v := 0) hx hb dX1_settleEnough_13 (by decide) ?_
  refine lv_istore_n (lv' := [(3, .int 0), (2, .int (enA qy lp ex tk y)), (0, .ref (ad 0)), (1, .int (nI y))]) hx hb dX1_settleEnough_14 rfl hl (by decide) rfl (fun ls hl => ?_)
  refine lv_lconst (v := 0) hx hb dX1_settleEnough_15 (by decide) ?_
  refine lv_lstore (lv' := [(4, .long 0), (3, .int 0), (2, .int (enA qy lp ex tk y)), (0, .ref (ad 0)), (1, .int (nI y))]) hx hb dX1_settleEnough_16 hl (by decide) rfl (fun ls hl => ?_)
  refine lv_iconst (v := 0) hx hb dX1_settleEnough_18 (by decide) ?_
  refine lv_istore (lv' := [(6, .int 0), (4, .long 0), (3, .int 0), (2, .int (enA qy lp ex tk y)), (0, .ref (ad 0)), (1, .int (nI y))]) hx hb dX1_settleEnough_19 hl (by decide) rfl (fun ls hl => ?_)
  have lp_21 : ∀ (n i : Nat), i ≤ y → y < i + n → ∀ (H : Heap) (locs : List Loc), va_P D vwCl (wG ad cI cL qy lp sp pr ex (nI c) dy tk ((dw mk (enA qy lp ex tk y) i).1) (nI mK) mS su (nI uK) uS sh mu co sr du bi bb) H → va_D A (wG ad cI cL qy lp sp pr ex (nI c) dy tk ((dw mk (enA qy lp ex tk y) i).1) (nI mK) mS su (nI uK) uS sh mu co sr du bi bb) → va_S A s.heap H locs → ∀ (ls : Array Slot), lv_has ls 8 [(0, .ref (ad 0)), (1, .int (nI y)), (2, .int (enA qy lp ex tk y)), (3, .int ((dw mk (enA qy lp ex tk y) i).2)), (4, .long (dwa mk (enA qy lp ex tk y) pr sp y i)), (6, .int (nI i))] → W pg l en ({ frames := 2, cells := 0, slots := 0, locals := 44 } : Room) s m args below meth cd H locs 0 0 (gEv True below D [(cI, .int), (cL, .long)] (wG ad cI cL qy lp sp pr ex (nI c) dy tk ((dw mk (enA qy lp ex tk y) y).1) (nI mK) mS (upd su y (enS qy lp ex tk mk y)) (nI uK) uS (upd sh y 0) (upd mu y (enM qy lp ex tk mk y)) (upd co y 0) (upd sr y (enS qy lp ex tk mk y)) (vp_updL du y (enD qy lp sp pr ex tk mk y)) bi bb) A args s 0 0) (F0 m 21 ls []) := by
    intro n
    induction n with
    | zero => intro i h1 h2; exact absurd h2 (by omega)
    | succ n ih =>
      intro i hi hin2  H locs hP hD hS ls hl
      refine lv_iload hx hb dX1_settleEnough_21 (lv_at hl 5 rfl) ?_
      refine lv_iload_n hx hb dX1_settleEnough_23 rfl (lv_at hl 1 rfl) ?_
      refine lv_icmp_ge (tgt := 79) hx hb dX1_settleEnough_24 (by decide) (fun c1 => ?_) (fun c1 => ?_)
      · obtain rfl : i = y := Nat.le_antisymm hi (Nat.not_lt.mp fun h => absurd c1 (nI_ge h (by omega)))
        refine lv_aload_n hx hb dX1_settleEnough_79 rfl (lv_at hl 0 rfl) ?_
        refine va_get (D := D) (ci := 1) (C := RX1) (T := TX1) (N := 17) hx hb hts inX1_settleEnough_X1 hown hK hP 0 rfl rfl 7 (by decide) (hts _ hX1_settleEnough__fieldLink_RX1_36_MakeupGas_takenPerYear_I_) (fun _ h9 => h9) rfl dX1_settleEnough_80 ?_
        refine lv_iload_n hx hb dX1_settleEnough_83 rfl (lv_at hl 1 rfl) ?_
        refine ga_iald (j := i) hx hb hK hP 4 0 rfl rfl hy (by decide) dX1_settleEnough_84 ?_
        refine lv_iload_n hx hb dX1_settleEnough_85 rfl (lv_at hl 3 rfl) ?_
        refine lv_isub hx hb dX1_settleEnough_86 ?_
        refine lv_istore (lv' := [(6, .int (enO qy lp ex tk mk i)), (0, .ref (ad 0)), (1, .int (nI i)), (2, .int (enA qy lp ex tk i)), (3, .int ((dw mk (enA qy lp ex tk i) i).2)), (4, .long (dwa mk (enA qy lp ex tk i) pr sp i i))]) hx hb dX1_settleEnough_87 hl (by decide) rfl (fun ls hl => ?_)
        refine lv_iconst (v := 0) hx hb dX1_settleEnough_89 (by decide) ?_
        refine lv_iload hx hb dX1_settleEnough_90 (lv_at hl 0 rfl) ?_
        refine lv_aload_n hx hb dX1_settleEnough_92 rfl (lv_at hl 1 rfl) ?_
        refine va_get (D := D) (ci := 1) (C := RX1) (T := TX1) (N := 17) hx hb hts inX1_settleEnough_X1 hown hK hP 0 rfl rfl 0 (by decide) (hts _ hX1_settleEnough__fieldLink_RX1_10_MakeupGas_yearlyQuantity_I_) (fun _ h9 => h9) rfl dX1_settleEnough_93 ?_
        refine lv_isub hx hb dX1_settleEnough_96 ?_
        refine va_mmax hx hb (by rw [hml]; exact hl.1.symm) hown (hts _ hX1_settleEnough__methodLink_RX1_173_Lib_Math_max_name) (hts _ hX1_settleEnough__static_Lib_Math_max_name) (hts _ hX1_settleEnough__initialized_java_lang_Math_) (hts _ hX1_settleEnough__code_Lib_Math_max_name_Lib_Math_max_code_2_some_int_) (Nat.le_of_ble_eq_true rfl) (Nat.le_of_ble_eq_true rfl) (Nat.le_of_ble_eq_true rfl) (Nat.le_of_ble_eq_true rfl) dX1_settleEnough_97 ?_
        refine lv_istore (lv' := [(7, .int (enS qy lp ex tk mk i)), (6, .int (enO qy lp ex tk mk i)), (0, .ref (ad 0)), (1, .int (nI i)), (2, .int (enA qy lp ex tk i)), (3, .int ((dw mk (enA qy lp ex tk i) i).2)), (4, .long (dwa mk (enA qy lp ex tk i) pr sp i i))]) hx hb dX1_settleEnough_100 hl (by decide) rfl (fun ls hl => ?_)
        refine lv_aload_n hx hb dX1_settleEnough_102 rfl (lv_at hl 2 rfl) ?_
        refine va_get (D := D) (ci := 1) (C := RX1) (T := TX1) (N := 17) hx hb hts inX1_settleEnough_X1 hown hK hP 0 rfl rfl 9 (by decide) (hts _ hX1_settleEnough__fieldLink_RX1_48_MakeupGas_surplusStock_LMakeupGas_Stock_) (fun _ h9 => h9) rfl dX1_settleEnough_103 ?_
        refine lv_iload_n hx hb dX1_settleEnough_106 rfl (lv_at hl 3 rfl) ?_
        refine lv_iload hx hb dX1_settleEnough_107 (lv_at hl 0 rfl) ?_
        refine gV_v (wc := (wK (ad 6) (ad 14) cI su (nI uK) uS)) (wr := [(ad 0, .inr (1, [.int qy, .int lp, .int sp, .ref (ad 1), .ref (ad 2), .int (nI c), .ref (ad 3), .ref (ad 4), .ref (ad 5), .ref (ad 6), .ref (ad 7), .ref (ad 8), .ref (ad 9), .ref (ad 10), .ref (ad 11), .ref (ad 12), .long bb])), (ad 1, .inl (cI, 20, .inl pr)), (ad 2, .inl (cI, 20, .inl ex)), (ad 3, .inl (cI, 360, .inl dy)), (ad 4, .inl (cI, 20, .inl tk)), (ad 5, .inr (0, [.ref (ad 13), .int (nI mK), .int mS])), (ad 7, .inl (cI, 20, .inl sh)), (ad 8, .inl (cI, 20, .inl mu)), (ad 9, .inl (cI, 20, .inl co)), (ad 10, .inl (cI, 20, .inl sr)), (ad 11, .inl (cL, 20, .inr (.inl du))), (ad 12, .inl (cL, 20, .inr (.inl bi))), (ad 13, .inl (cI, 20, .inl ((dw mk (enA qy lp ex tk i) i).1)))]) (w1 := (wK (ad 6) (ad 14) cI (upd su i (enS qy lp ex tk mk i)) (nI uK) uS)) (W' := (wG ad cI cL qy lp sp pr ex (nI c) dy tk ((dw mk (enA qy lp ex tk i) i).1) (nI mK) mS (upd su i (enS qy lp ex tk mk i)) (nI uK) uS sh mu co sr du bi bb)) (As := [.int (nI i), .int (enS qy lp ex tk mk i)]) (rest := []) ⟨hx, hb, hml, hown, hts⟩ (c_X0_put l D H.size (ad 6) (ad 14) cI cL su (nI uK) uS i (enS qy lp ex tk mk i) hy) (cwV 2 hts gX1_settleEnough_X0_put rfl rfl rfl (by decide +kernel) ⟨(Nat.le_of_ble_eq_true rfl), (Nat.le_of_ble_eq_true rfl)⟩) hS hA hK hP hD [0, 1] rfl [6, 14] [0, 1, 2, 3, 4, 5, 7, 8, 9, 10, 11, 12, 13] [0, 1, 2, 3, 4, 5, 13, 6, 7, 8, 9, 10, 11, 12, 14] rfl (by decide) rfl (by decide) (by decide) rfl (by decide) 0 0 rfl rfl rfl rfl hl.1 rfl (Nat.le_of_ble_eq_true rfl) dX1_settleEnough_109 ⟨(Nat.le_of_ble_eq_true rfl), (Nat.le_of_ble_eq_true rfl)⟩ (fun H locs _ hP hD hS => ?_)
        refine lv_aload_n hx hb dX1_settleEnough_112 rfl (lv_at hl 2 rfl) ?_
        refine va_get (D := D) (ci := 1) (C := RX1) (T := TX1) (N := 17) hx hb hts inX1_settleEnough_X1 hown hK hP 0 rfl rfl 12 (by decide) (hts _ hX1_settleEnough__fieldLink_RX1_57_MakeupGas_coveredPerYear_I_) (fun _ h9 => h9) rfl dX1_settleEnough_113 ?_
        refine lv_iload_n hx hb dX1_settleEnough_116 rfl (lv_at hl 3 rfl) ?_
        refine lv_iconst (v := 0) hx hb dX1_settleEnough_117 (by decide) ?_
        refine ga_iast (j := i) (ws' := (wG ad cI cL qy lp sp pr ex (nI c) dy tk ((dw mk (enA qy lp ex tk i) i).1) (nI mK) mS (upd su i (enS qy lp ex tk mk i)) (nI uK) uS sh mu (upd co i 0) sr du bi bb)) hx hb hK hP hD hS 9 0 rfl rfl hy (by decide) dX1_settleEnough_118 rfl (fun H locs hP hD hS => ?_)
        refine lv_aload_n hx hb dX1_settleEnough_119 rfl (lv_at hl 2 rfl) ?_
        refine va_get (D := D) (ci := 1) (C := RX1) (T := TX1) (N := 17) hx hb hts inX1_settleEnough_X1 hown hK hP 0 rfl rfl 10 (by decide) (hts _ hX1_settleEnough__fieldLink_RX1_51_MakeupGas_shortfallPerYear_I_) (fun _ h9 => h9) rfl dX1_settleEnough_120 ?_
        refine lv_iload_n hx hb dX1_settleEnough_123 rfl (lv_at hl 3 rfl) ?_
        refine lv_iconst (v := 0) hx hb dX1_settleEnough_124 (by decide) ?_
        refine ga_iast (j := i) (ws' := (wG ad cI cL qy lp sp pr ex (nI c) dy tk ((dw mk (enA qy lp ex tk i) i).1) (nI mK) mS (upd su i (enS qy lp ex tk mk i)) (nI uK) uS (upd sh i 0) mu (upd co i 0) sr du bi bb)) hx hb hK hP hD hS 7 0 rfl rfl hy (by decide) dX1_settleEnough_125 rfl (fun H locs hP hD hS => ?_)
        refine lv_aload_n hx hb dX1_settleEnough_126 rfl (lv_at hl 2 rfl) ?_
        refine va_get (D := D) (ci := 1) (C := RX1) (T := TX1) (N := 17) hx hb hts inX1_settleEnough_X1 hown hK hP 0 rfl rfl 11 (by decide) (hts _ hX1_settleEnough__fieldLink_RX1_54_MakeupGas_madeUpPerYear_I_) (fun _ h9 => h9) rfl dX1_settleEnough_127 ?_
        refine lv_iload_n hx hb dX1_settleEnough_130 rfl (lv_at hl 3 rfl) ?_
        refine lv_iload_n hx hb dX1_settleEnough_131 rfl (lv_at hl 5 rfl) ?_
        refine ga_iast (j := i) (ws' := (wG ad cI cL qy lp sp pr ex (nI c) dy tk ((dw mk (enA qy lp ex tk i) i).1) (nI mK) mS (upd su i (enS qy lp ex tk mk i)) (nI uK) uS (upd sh i 0) (upd mu i ((dw mk (enA qy lp ex tk i) i).2)) (upd co i 0) sr du bi bb)) hx hb hK hP hD hS 8 0 rfl rfl hy (by decide) dX1_settleEnough_132 rfl (fun H locs hP hD hS => ?_)
        refine lv_aload_n hx hb dX1_settleEnough_133 rfl (lv_at hl 2 rfl) ?_
        refine va_get (D := D) (ci := 1) (C := RX1) (T := TX1) (N := 17) hx hb hts inX1_settleEnough_X1 hown hK hP 0 rfl rfl 13 (by decide) (hts _ hX1_settleEnough__fieldLink_RX1_60_MakeupGas_surplusPerYear_I_) (fun _ h9 => h9) rfl dX1_settleEnough_134 ?_
        refine lv_iload_n hx hb dX1_settleEnough_137 rfl (lv_at hl 3 rfl) ?_
        refine lv_iload hx hb dX1_settleEnough_138 (lv_at hl 0 rfl) ?_
        refine ga_iast (j := i) (ws' := (wG ad cI cL qy lp sp pr ex (nI c) dy tk ((dw mk (enA qy lp ex tk i) i).1) (nI mK) mS (upd su i (enS qy lp ex tk mk i)) (nI uK) uS (upd sh i 0) (upd mu i ((dw mk (enA qy lp ex tk i) i).2)) (upd co i 0) (upd sr i (enS qy lp ex tk mk i)) du bi bb)) hx hb hK hP hD hS 10 0 rfl rfl hy (by decide) dX1_settleEnough_140 rfl (fun H locs hP hD hS => ?_)
        refine lv_aload_n hx hb dX1_settleEnough_141 rfl (lv_at hl 2 rfl) ?_
        refine va_get (D := D) (ci := 1) (C := RX1) (T := TX1) (N := 17) hx hb hts inX1_settleEnough_X1 hown hK hP 0 rfl rfl 14 (by decide) (hts _ hX1_settleEnough__fieldLink_RX1_63_MakeupGas_duePerYear_J_) (fun _ h9 => h9) rfl dX1_settleEnough_142 ?_
        refine lv_iload_n hx hb dX1_settleEnough_145 rfl (lv_at hl 3 rfl) ?_
        refine lv_iload hx hb dX1_settleEnough_146 (lv_at hl 1 rfl) ?_
        refine lv_i2l hx hb dX1_settleEnough_148 rfl ?_
        refine lv_aload_n hx hb dX1_settleEnough_149 rfl (lv_at hl 2 rfl) ?_
        refine va_get (D := D) (ci := 1) (C := RX1) (T := TX1) (N := 17) hx hb hts inX1_settleEnough_X1 hown hK hP 0 rfl rfl 3 (by decide) (hts _ hX1_settleEnough__fieldLink_RX1_20_MakeupGas_pricePerYear_I_) (fun _ h9 => h9) rfl dX1_settleEnough_150 ?_
        refine lv_iload_n hx hb dX1_settleEnough_153 rfl (lv_at hl 3 rfl) ?_
        refine ga_iald (j := i) hx hb hK hP 1 0 rfl rfl hy (by decide) dX1_settleEnough_154 ?_
        refine lv_i2l hx hb dX1_settleEnough_155 rfl ?_
        refine lv_lmul hx hb dX1_settleEnough_156 ?_
        refine lv_lload hx hb dX1_settleEnough_157 (lv_at hl 6 rfl) ?_
        refine lv_ladd hx hb dX1_settleEnough_159 ?_
        refine ga_last (j := i) (ws' := (wG ad cI cL qy lp sp pr ex (nI c) dy tk ((dw mk (enA qy lp ex tk i) i).1) (nI mK) mS (upd su i (enS qy lp ex tk mk i)) (nI uK) uS (upd sh i 0) (upd mu i ((dw mk (enA qy lp ex tk i) i).2)) (upd co i 0) (upd sr i (enS qy lp ex tk mk i)) (vp_updL du i (enD qy lp sp pr ex tk mk i)) bi bb)) hx hb hK hP hD hS 11 1 rfl rfl hy (by decide) dX1_settleEnough_160 rfl (fun H locs hP hD hS => ?_)
        exact ge_v hx hb hr hlocks hK hP hD hS trivial (Nat.le_of_ble_eq_true rfl) (Nat.le_of_ble_eq_true rfl) dX1_settleEnough_161
      · have hiy : i < y := Nat.not_le.mp (fun h => c1 (nI_le h (by omega)))
        have hi3 : i < 20 := by omega
        refine lv_aload_n hx hb dX1_settleEnough_27 rfl (lv_at hl 0 rfl) ?_
        refine va_get (D := D) (ci := 1) (C := RX1) (T := TX1) (N := 17) hx hb hts inX1_settleEnough_X1 hown hK hP 0 rfl rfl 8 (by decide) (hts _ hX1_settleEnough__fieldLink_RX1_44_MakeupGas_makeUpStock_LMakeupGas_Stock_) (fun _ h9 => h9) rfl dX1_settleEnough_28 ?_
        refine lv_iload hx hb dX1_settleEnough_31 (lv_at hl 5 rfl) ?_
        refine lv_iload_n hx hb dX1_settleEnough_33 rfl (lv_at hl 2 rfl) ?_
        refine lv_iload_n hx hb dX1_settleEnough_34 rfl (lv_at hl 3 rfl) ?_
        refine lv_isub hx hb dX1_settleEnough_35 ?_
        refine gV_i (wc := (wK (ad 5) (ad 13) cI ((dw mk (enA qy lp ex tk y) i).1) (nI mK) mS)) (wr := [(ad 0, .inr (1, [.int qy, .int lp, .int sp, .ref (ad 1), .ref (ad 2), .int (nI c), .ref (ad 3), .ref (ad 4), .ref (ad 5), .ref (ad 6), .ref (ad 7), .ref (ad 8), .ref (ad 9), .ref (ad 10), .ref (ad 11), .ref (ad 12), .long bb])), (ad 1, .inl (cI, 20, .inl pr)), (ad 2, .inl (cI, 20, .inl ex)), (ad 3, .inl (cI, 360, .inl dy)), (ad 4, .inl (cI, 20, .inl tk)), (ad 6, .inr (0, [.ref (ad 14), .int (nI uK), .int uS])), (ad 7, .inl (cI, 20, .inl sh)), (ad 8, .inl (cI, 20, .inl mu)), (ad 9, .inl (cI, 20, .inl co)), (ad 10, .inl (cI, 20, .inl sr)), (ad 11, .inl (cL, 20, .inr (.inl du))), (ad 12, .inl (cL, 20, .inr (.inl bi))), (ad 14, .inl (cI, 20, .inl su))]) (w1 := (wK (ad 5) (ad 13) cI (upd ((dw mk (enA qy lp ex tk y) i).1) i (((dw mk (enA qy lp ex tk y) i).1) i - mnI ((enA qy lp ex tk y) - ((dw mk (enA qy lp ex tk y) i).2)) (((dw mk (enA qy lp ex tk y) i).1) i))) (nI mK) mS)) (W' := (wG ad cI cL qy lp sp pr ex (nI c) dy tk (upd ((dw mk (enA qy lp ex tk y) i).1) i (((dw mk (enA qy lp ex tk y) i).1) i - mnI ((enA qy lp ex tk y) - ((dw mk (enA qy lp ex tk y) i).2)) (((dw mk (enA qy lp ex tk y) i).1) i))) (nI mK) mS su (nI uK) uS sh mu co sr du bi bb)) (As := [.int (nI i), .int ((enA qy lp ex tk y) - ((dw mk (enA qy lp ex tk y) i).2))]) (rest := []) ⟨hx, hb, hml, hown, hts⟩ (c_X0_drawFrom l D H.size (ad 5) (ad 13) cI cL ((dw mk (enA qy lp ex tk y) i).1) (nI mK) mS i ((enA qy lp ex tk y) - ((dw mk (enA qy lp ex tk y) i).2)) hi3) (cwV 2 hts gX1_settleEnough_X0_drawFrom rfl rfl rfl (by decide +kernel) ⟨(Nat.le_of_ble_eq_true rfl), (Nat.le_of_ble_eq_true rfl)⟩) hS hA hK hP hD [0, 1] rfl [5, 13] [0, 1, 2, 3, 4, 6, 7, 8, 9, 10, 11, 12, 14] [0, 1, 2, 3, 4, 13, 5, 6, 7, 8, 9, 10, 11, 14, 12] rfl (by decide) rfl (by decide) (by decide) rfl (by decide) 0 0 rfl rfl rfl rfl hl.1 rfl (Nat.le_of_ble_eq_true rfl) dX1_settleEnough_36 ⟨(Nat.le_of_ble_eq_true rfl), (Nat.le_of_ble_eq_true rfl)⟩ (fun H locs _ hP hD hS => ?_)
        refine lv_istore (lv' := [(7, .int (mnI ((enA qy lp ex tk y) - ((dw mk (enA qy lp ex tk y) i).2)) (((dw mk (enA qy lp ex tk y) i).1) i))), (0, .ref (ad 0)), (1, .int (nI y)), (2, .int (enA qy lp ex tk y)), (3, .int ((dw mk (enA qy lp ex tk y) i).2)), (4, .long (dwa mk (enA qy lp ex tk y) pr sp y i)), (6, .int (nI i))]) hx hb dX1_settleEnough_39 hl (by decide) rfl (fun ls hl => ?_)
        refine lv_iload_n hx hb dX1_settleEnough_41 rfl (lv_at hl 4 rfl) ?_
        refine lv_iload hx hb dX1_settleEnough_42 (lv_at hl 0 rfl) ?_
        refine lv_iadd hx hb dX1_settleEnough_44 ?_
        refine lv_istore_n (lv' := [(3, .int ((dw mk (enA qy lp ex tk y) (i + 1)).2)), (7, .int (mnI ((enA qy lp ex tk y) - ((dw mk (enA qy lp ex tk y) i).2)) (((dw mk (enA qy lp ex tk y) i).1) i))), (0, .ref (ad 0)), (1, .int (nI y)), (2, .int (enA qy lp ex tk y)), (4, .long (dwa mk (enA qy lp ex tk y) pr sp y i)), (6, .int (nI i))]) hx hb dX1_settleEnough_45 rfl hl (by decide) rfl (fun ls hl => ?_)
        refine lv_lload hx hb dX1_settleEnough_46 (lv_at hl 5 rfl) ?_
        refine lv_iload hx hb dX1_settleEnough_48 (lv_at hl 1 rfl) ?_
        refine lv_i2l hx hb dX1_settleEnough_50 rfl ?_
        refine lv_iconst (v := 0) hx hb dX1_settleEnough_51 (by decide) ?_
        refine lv_aload_n hx hb dX1_settleEnough_52 rfl (lv_at hl 2 rfl) ?_
        refine va_get (D := D) (ci := 1) (C := RX1) (T := TX1) (N := 17) hx hb hts inX1_settleEnough_X1 hown hK hP 0 rfl rfl 3 (by decide) (hts _ hX1_settleEnough__fieldLink_RX1_20_MakeupGas_pricePerYear_I_) (fun _ h9 => h9) rfl dX1_settleEnough_53 ?_
        refine lv_iload_n hx hb dX1_settleEnough_56 rfl (lv_at hl 3 rfl) ?_
        refine ga_iald (j := y) hx hb hK hP 1 0 rfl rfl hy (by decide) dX1_settleEnough_57 ?_
        refine lv_aload_n hx hb dX1_settleEnough_58 rfl (lv_at hl 2 rfl) ?_
        refine lv_iload hx hb dX1_settleEnough_59 (lv_at hl 6 rfl) ?_
        refine gV_i (wc := (wG ad cI cL qy lp sp pr ex (nI c) dy tk ((dw mk (enA qy lp ex tk y) (i + 1)).1) (nI mK) mS su (nI uK) uS sh mu co sr du bi bb)) (wr := []) (w1 := (wG ad cI cL qy lp sp pr ex (nI c) dy tk ((dw mk (enA qy lp ex tk y) (i + 1)).1) (nI mK) mS su (nI uK) uS sh mu co sr du bi bb)) (W' := (wG ad cI cL qy lp sp pr ex (nI c) dy tk ((dw mk (enA qy lp ex tk y) (i + 1)).1) (nI mK) mS su (nI uK) uS sh mu co sr du bi bb)) (As := [.int (nI i)]) (rest := [.int (pr y), .int 0, .long ((mnI ((enA qy lp ex tk y) - ((dw mk (enA qy lp ex tk y) i).2)) (((dw mk (enA qy lp ex tk y) i).1) i)).toInt64), .long (dwa mk (enA qy lp ex tk y) pr sp y i)]) ⟨hx, hb, hml, hown, hts⟩ (c_X1_shortfallPrice l D H.size ad cI cL qy lp sp pr ex c dy tk ((dw mk (enA qy lp ex tk y) (i + 1)).1) mK mS su uK uS sh mu co sr du bi bb i hi3) (cwV 1 hts gX1_settleEnough_X1_shortfallPrice rfl rfl rfl (by decide +kernel) ⟨(Nat.le_of_ble_eq_true rfl), (Nat.le_of_ble_eq_true rfl)⟩) hS hA hK hP hD [0, 1] rfl [0, 1, 2, 3, 4, 5, 6, 7, 8, 9, 10, 11, 12, 13, 14] [] [0, 1, 2, 3, 4, 5, 6, 7, 8, 9, 10, 11, 12, 13, 14] rfl (by decide) rfl (by decide) (by decide) rfl (by decide) 0 1 rfl rfl rfl rfl hl.1 rfl (Nat.le_of_ble_eq_true rfl) dX1_settleEnough_61 ⟨(Nat.le_of_ble_eq_true rfl), (Nat.le_of_ble_eq_true rfl)⟩ (fun H locs _ hP hD hS => ?_)
        refine lv_isub hx hb dX1_settleEnough_64 ?_
        refine va_mmax hx hb (by rw [hml]; exact hl.1.symm) hown (hts _ hX1_settleEnough__methodLink_RX1_173_Lib_Math_max_name) (hts _ hX1_settleEnough__static_Lib_Math_max_name) (hts _ hX1_settleEnough__initialized_java_lang_Math_) (hts _ hX1_settleEnough__code_Lib_Math_max_name_Lib_Math_max_code_2_some_int_) (Nat.le_of_ble_eq_true rfl) (Nat.le_of_ble_eq_true rfl) (Nat.le_of_ble_eq_true rfl) (Nat.le_of_ble_eq_true rfl) dX1_settleEnough_65 ?_
        refine lv_i2l hx hb dX1_settleEnough_68 rfl ?_
        refine lv_lmul hx hb dX1_settleEnough_69 ?_
        refine lv_ladd hx hb dX1_settleEnough_70 ?_
        refine lv_lstore (lv' := [(4, .long (dwa mk (enA qy lp ex tk y) pr sp y (i + 1))), (3, .int ((dw mk (enA qy lp ex tk y) (i + 1)).2)), (7, .int (mnI ((enA qy lp ex tk y) - ((dw mk (enA qy lp ex tk y) i).2)) (((dw mk (enA qy lp ex tk y) i).1) i))), (0, .ref (ad 0)), (1, .int (nI y)), (2, .int (enA qy lp ex tk y)), (6, .int (nI i))]) hx hb dX1_settleEnough_71 hl (by decide) rfl (fun ls hl => ?_)
        refine lv_iinc (v := nI (i + 1)) (lv' := [(6, .int (nI (i + 1))), (4, .long (dwa mk (enA qy lp ex tk y) pr sp y (i + 1))), (3, .int ((dw mk (enA qy lp ex tk y) (i + 1)).2)), (7, .int (mnI ((enA qy lp ex tk y) - ((dw mk (enA qy lp ex tk y) i).2)) (((dw mk (enA qy lp ex tk y) i).1) i))), (0, .ref (ad 0)), (1, .int (nI y)), (2, .int (enA qy lp ex tk y))]) hx hb dX1_settleEnough_73 hl (k := 6) rfl (gi_1 _) (by decide) rfl (fun ls hl => ?_)
        refine lv_goto (tgt := 21) hx hb dX1_settleEnough_76 (by decide) ?_
        exact ih (i + 1) (by omega) (by omega) _ _ hP hD hS ls (lv_sub hl [4, 5, 6, 2, 1, 0] rfl)
  exact lp_21 (y + 1) 0 (by omega) (by omega) _ _ hP hD hS ls (lv_sub hl [4, 5, 3, 2, 1, 0] rfl)
theorem inX1_settleClosedYears_X1 : ∀ q ∈ wsX10, q ∈ wsX1_settleClosedYears := by decide +kernel
theorem hX1_settleClosedYears__fieldLink_RX1_44_MakeupGas_makeUpStock_LMakeupGas_Stock_ : Cond.fieldLink RX1 44 "MakeupGas" "makeUpStock" "LMakeupGas$Stock;" ∈ wsX1_settleClosedYears := by decide +kernel
theorem hX1_settleClosedYears__fieldLink_RX1_48_MakeupGas_surplusStock_LMakeupGas_Stock_ : Cond.fieldLink RX1 48 "MakeupGas" "surplusStock" "LMakeupGas$Stock;" ∈ wsX1_settleClosedYears := by decide +kernel
theorem hX1_settleClosedYears__fieldLink_RX1_103_MakeupGas_closedYears_I_ : Cond.fieldLink RX1 103 "MakeupGas" "closedYears" "I" ∈ wsX1_settleClosedYears := by decide +kernel
theorem hX1_settleClosedYears__fieldLink_RX1_36_MakeupGas_takenPerYear_I_ : Cond.fieldLink RX1 36 "MakeupGas" "takenPerYear" "[I" ∈ wsX1_settleClosedYears := by decide +kernel
set_option maxHeartbeats 4000000 in
set_option maxRecDepth 100000 in
theorem c_X1_settleClosedYears (l : Launch) (D : va_G) (sz : Nat) (ad : Nat → Nat) (cI cL : ClassId) (qy lp sp : Int32) (pr ex : Nat → Int32) (c : Nat) (dy tk mk : Nat → Int32) (mK : Nat) (mS : Int32) (su : Nat → Int32) (uK : Nat) (uS : Int32) (sh mu co sr : Nat → Int32) (du bi : Nat → Int64) (bb : Int64) (hc : c ≤ 20) (hmK : mK < 20) (huK : uK < 20) : gCv l yX1_settleClosedYears wsX1_settleClosedYears ({ frames := 4, cells := 0, slots := 0, locals := 92 } : Room) D [(cI, .int), (cL, .long)] [.ref (ad 0)] (wG ad cI cL qy lp sp pr ex (nI c) dy tk mk (nI mK) mS su (nI uK) uS sh mu co sr du bi bb) (wG ad cI cL qy lp sp pr ex (nI c) dy tk (rMk (stC qy lp sp pr ex tk mK uK (st0 sh mu co sr du) c)) (nI mK) (rMS (stC qy lp sp pr ex tk mK uK (st0 sh mu co sr du) c)) (rSu (stC qy lp sp pr ex tk mK uK (st0 sh mu co sr du) c)) (nI uK) (rUS (stC qy lp sp pr ex tk mK uK (st0 sh mu co sr du) c)) (rSh (stC qy lp sp pr ex tk mK uK (st0 sh mu co sr du) c)) (rMu (stC qy lp sp pr ex tk mK uK (st0 sh mu co sr du) c)) (rCo (stC qy lp sp pr ex tk mK uK (st0 sh mu co sr du) c)) (rSr (stC qy lp sp pr ex tk mK uK (st0 sh mu co sr du) c)) (rDu (stC qy lp sp pr ex tk mK uK (st0 sh mu co sr du) c)) bi bb) True 0 0 sz := by
  refine gm_v (cc := cX1_settleClosedYears) (maxL := 2) (by decide) rfl (Nat.le_of_ble_eq_true rfl) ?_
  intro pg en s m args below meth cd A ls hx hb hr hml hown hts hlocks hin hA hK hP hD hl
  have hl : lv_has ls 2 [(0, .ref (ad 0))] := hl
  have hS : va_S A s.heap s.heap [] := va_S.rf
  refine lv_aload_n hx hb dX1_settleClosedYears_0 rfl (lv_at hl 0 rfl) ?_
  refine va_get (D := D) (ci := 1) (C := RX1) (T := TX1) (N := 17) hx hb hts inX1_settleClosedYears_X1 hown hK hP 0 rfl rfl 8 (by decide) (hts _ hX1_settleClosedYears__fieldLink_RX1_44_MakeupGas_makeUpStock_LMakeupGas_Stock_) (fun _ h9 => h9) rfl dX1_settleClosedYears_1 ?_
  refine gV_v (wc := (wK (ad 5) (ad 13) cI mk (nI mK) mS)) (wr := [(ad 0, .inr (1, [.int qy, .int lp, .int sp, .ref (ad 1), .ref (ad 2), .int (nI c), .ref (ad 3), .ref (ad 4), .ref (ad 5), .ref (ad 6), .ref (ad 7), .ref (ad 8), .ref (ad 9), .ref (ad 10), .ref (ad 11), .ref (ad 12), .long bb])), (ad 1, .inl (cI, 20, .inl pr)), (ad 2, .inl (cI, 20, .inl ex)), (ad 3, .inl (cI, 360, .inl dy)), (ad 4, .inl (cI, 20, .inl tk)), (ad 6, .inr (0, [.ref (ad 14), .int (nI uK), .int uS])), (ad 7, .inl (cI, 20, .inl sh)), (ad 8, .inl (cI, 20, .inl mu)), (ad 9, .inl (cI, 20, .inl co)), (ad 10, .inl (cI, 20, .inl sr)), (ad 11, .inl (cL, 20, .inr (.inl du))), (ad 12, .inl (cL, 20, .inr (.inl bi))), (ad 14, .inl (cI, 20, .inl su))]) (w1 := (wK (ad 5) (ad 13) cI (fun _ => 0) (nI mK) 0)) (W' := (wG ad cI cL qy lp sp pr ex (nI c) dy tk (fun _ => 0) (nI mK) 0 su (nI uK) uS sh mu co sr du bi bb)) (As := []) (rest := []) ⟨hx, hb, hml, hown, hts⟩ (c_X0_empty l D s.heap.size (ad 5) (ad 13) cI cL mk (nI mK) mS ) (cwV 0 hts gX1_settleClosedYears_X0_empty rfl rfl rfl (by decide +kernel) ⟨(Nat.le_of_ble_eq_true rfl), (Nat.le_of_ble_eq_true rfl)⟩) hS hA hK hP hD [0, 1] rfl [5, 13] [0, 1, 2, 3, 4, 6, 7, 8, 9, 10, 11, 12, 14] [0, 1, 2, 3, 4, 13, 5, 6, 7, 8, 9, 10, 11, 14, 12] rfl (by decide) rfl (by decide) (by decide) rfl (by decide) 0 0 rfl rfl rfl rfl hl.1 rfl (Nat.le_of_ble_eq_true rfl) dX1_settleClosedYears_4 ⟨(Nat.le_of_ble_eq_true rfl), (Nat.le_of_ble_eq_true rfl)⟩ (fun H locs _ hP hD hS => ?_)
  refine lv_aload_n hx hb dX1_settleClosedYears_7 rfl (lv_at hl 0 rfl) ?_
  refine va_get (D := D) (ci := 1) (C := RX1) (T := TX1) (N := 17) hx hb hts inX1_settleClosedYears_X1 hown hK hP 0 rfl rfl 9 (by decide) (hts _ hX1_settleClosedYears__fieldLink_RX1_48_MakeupGas_surplusStock_LMakeupGas_Stock_) (fun _ h9 => h9) rfl dX1_settleClosedYears_8 ?_
  refine gV_v (wc := (wK (ad 6) (ad 14) cI su (nI uK) uS)) (wr := [(ad 0, .inr (1, [.int qy, .int lp, .int sp, .ref (ad 1), .ref (ad 2), .int (nI c), .ref (ad 3), .ref (ad 4), .ref (ad 5), .ref (ad 6), .ref (ad 7), .ref (ad 8), .ref (ad 9), .ref (ad 10), .ref (ad 11), .ref (ad 12), .long bb])), (ad 1, .inl (cI, 20, .inl pr)), (ad 2, .inl (cI, 20, .inl ex)), (ad 3, .inl (cI, 360, .inl dy)), (ad 4, .inl (cI, 20, .inl tk)), (ad 5, .inr (0, [.ref (ad 13), .int (nI mK), .int 0])), (ad 7, .inl (cI, 20, .inl sh)), (ad 8, .inl (cI, 20, .inl mu)), (ad 9, .inl (cI, 20, .inl co)), (ad 10, .inl (cI, 20, .inl sr)), (ad 11, .inl (cL, 20, .inr (.inl du))), (ad 12, .inl (cL, 20, .inr (.inl bi))), (ad 13, .inl (cI, 20, .inl (fun _ => 0)))]) (w1 := (wK (ad 6) (ad 14) cI (fun _ => 0) (nI uK) 0)) (W' := (wG ad cI cL qy lp sp pr ex (nI c) dy tk (fun _ => 0) (nI mK) 0 (fun _ => 0) (nI uK) 0 sh mu co sr du bi bb)) (As := []) (rest := []) ⟨hx, hb, hml, hown, hts⟩ (c_X0_empty l D H.size (ad 6) (ad 14) cI cL su (nI uK) uS ) (cwV 0 hts gX1_settleClosedYears_X0_empty rfl rfl rfl (by decide +kernel) ⟨(Nat.le_of_ble_eq_true rfl), (Nat.le_of_ble_eq_true rfl)⟩) hS hA hK hP hD [0, 1] rfl [6, 14] [0, 1, 2, 3, 4, 5, 7, 8, 9, 10, 11, 12, 13] [0, 1, 2, 3, 4, 5, 13, 6, 7, 8, 9, 10, 11, 12, 14] rfl (by decide) rfl (by decide) (by decide) rfl (by decide) 0 0 rfl rfl rfl rfl hl.1 rfl (Nat.le_of_ble_eq_true rfl) dX1_settleClosedYears_11 ⟨(Nat.le_of_ble_eq_true rfl), (Nat.le_of_ble_eq_true rfl)⟩ (fun H locs _ hP hD hS => ?_)
  refine lv_iconst (v := 0) hx hb dX1_settleClosedYears_14 (by decide) ?_
  refine lv_istore_n (lv' := [(1, .int 0), (0, .ref (ad 0))]) hx hb dX1_settleClosedYears_15 rfl hl (by decide) rfl (fun ls hl => ?_)
  obtain ⟨T, hT0, hTs, hTc⟩ : ∃ T : Nat → TR, T 0 = st0 sh mu co sr du ∧ (∀ n, T (n + 1) = stp qy lp sp pr ex tk mK uK n (T n)) ∧ T c = stC qy lp sp pr ex tk mK uK (st0 sh mu co sr du) c := ⟨stC qy lp sp pr ex tk mK uK (st0 sh mu co sr du), rfl, fun _ => rfl, rfl⟩
  rw [← hTc]
  have hP : va_P D vwCl (wG ad cI cL qy lp sp pr ex (nI c) dy tk (rMk (T 0)) (nI mK) (rMS (T 0)) (rSu (T 0)) (nI uK) (rUS (T 0)) (rSh (T 0)) (rMu (T 0)) (rCo (T 0)) (rSr (T 0)) (rDu (T 0)) bi bb) H := by rw [hT0]; exact hP
  have hD : va_D A (wG ad cI cL qy lp sp pr ex (nI c) dy tk (rMk (T 0)) (nI mK) (rMS (T 0)) (rSu (T 0)) (nI uK) (rUS (T 0)) (rSh (T 0)) (rMu (T 0)) (rCo (T 0)) (rSr (T 0)) (rDu (T 0)) bi bb) := by rw [hT0]; exact hD
  have lp_16 : ∀ (n i : Nat), i ≤ c → c < i + n → ∀ (H : Heap) (locs : List Loc), va_P D vwCl (wG ad cI cL qy lp sp pr ex (nI c) dy tk (rMk (T i)) (nI mK) (rMS (T i)) (rSu (T i)) (nI uK) (rUS (T i)) (rSh (T i)) (rMu (T i)) (rCo (T i)) (rSr (T i)) (rDu (T i)) bi bb) H → va_D A (wG ad cI cL qy lp sp pr ex (nI c) dy tk (rMk (T i)) (nI mK) (rMS (T i)) (rSu (T i)) (nI uK) (rUS (T i)) (rSh (T i)) (rMu (T i)) (rCo (T i)) (rSr (T i)) (rDu (T i)) bi bb) → va_S A s.heap H locs → ∀ (ls : Array Slot), lv_has ls 2 [(0, .ref (ad 0)), (1, .int (nI i))] → W pg l en ({ frames := 4, cells := 0, slots := 0, locals := 92 } : Room) s m args below meth cd H locs 0 0 (gEv True below D [(cI, .int), (cL, .long)] (wG ad cI cL qy lp sp pr ex (nI c) dy tk (rMk (T c)) (nI mK) (rMS (T c)) (rSu (T c)) (nI uK) (rUS (T c)) (rSh (T c)) (rMu (T c)) (rCo (T c)) (rSr (T c)) (rDu (T c)) bi bb) A args s 0 0) (F0 m 16 ls []) := by
    intro n
    induction n with
    | zero => intro i h1 h2; exact absurd h2 (by omega)
    | succ n ih =>
      intro i hi hin2  H locs hP hD hS ls hl
      refine lv_iload_n hx hb dX1_settleClosedYears_16 rfl (lv_at hl 1 rfl) ?_
      refine lv_aload_n hx hb dX1_settleClosedYears_17 rfl (lv_at hl 0 rfl) ?_
      refine va_get (D := D) (ci := 1) (C := RX1) (T := TX1) (N := 17) hx hb hts inX1_settleClosedYears_X1 hown hK hP 0 rfl rfl 5 (by decide) (hts _ hX1_settleClosedYears__fieldLink_RX1_103_MakeupGas_closedYears_I_) (fun _ h9 => h9) rfl dX1_settleClosedYears_18 ?_
      refine lv_icmp_ge (tgt := 73) hx hb dX1_settleClosedYears_21 (by decide) (fun c1 => ?_) (fun c1 => ?_)
      · obtain rfl : i = c := Nat.le_antisymm hi (Nat.not_lt.mp fun h => absurd c1 (nI_ge h (by omega)))
        exact ge_v hx hb hr hlocks hK hP hD hS trivial (Nat.le_of_ble_eq_true rfl) (Nat.le_of_ble_eq_true rfl) dX1_settleClosedYears_73
      · have hic : i < c := Nat.not_le.mp (fun h => c1 (nI_le h (by omega)))
        have hi3 : i < 20 := by omega
        refine lv_aload_n hx hb dX1_settleClosedYears_24 rfl (lv_at hl 0 rfl) ?_
        refine va_get (D := D) (ci := 1) (C := RX1) (T := TX1) (N := 17) hx hb hts inX1_settleClosedYears_X1 hown hK hP 0 rfl rfl 8 (by decide) (hts _ hX1_settleClosedYears__fieldLink_RX1_44_MakeupGas_makeUpStock_LMakeupGas_Stock_) (fun _ h9 => h9) rfl dX1_settleClosedYears_25 ?_
        refine lv_iload_n hx hb dX1_settleClosedYears_28 rfl (lv_at hl 1 rfl) ?_
        refine gV_v (wc := (wK (ad 5) (ad 13) cI (rMk (T i)) (nI mK) (rMS (T i)))) (wr := [(ad 0, .inr (1, [.int qy, .int lp, .int sp, .ref (ad 1), .ref (ad 2), .int (nI c), .ref (ad 3), .ref (ad 4), .ref (ad 5), .ref (ad 6), .ref (ad 7), .ref (ad 8), .ref (ad 9), .ref (ad 10), .ref (ad 11), .ref (ad 12), .long bb])), (ad 1, .inl (cI, 20, .inl pr)), (ad 2, .inl (cI, 20, .inl ex)), (ad 3, .inl (cI, 360, .inl dy)), (ad 4, .inl (cI, 20, .inl tk)), (ad 6, .inr (0, [.ref (ad 14), .int (nI uK), .int (rUS (T i))])), (ad 7, .inl (cI, 20, .inl (rSh (T i)))), (ad 8, .inl (cI, 20, .inl (rMu (T i)))), (ad 9, .inl (cI, 20, .inl (rCo (T i)))), (ad 10, .inl (cI, 20, .inl (rSr (T i)))), (ad 11, .inl (cL, 20, .inr (.inl (rDu (T i))))), (ad 12, .inl (cL, 20, .inr (.inl bi))), (ad 14, .inl (cI, 20, .inl (rSu (T i))))]) (w1 := (wK (ad 5) (ad 13) cI (lpF (rMk (T i)) mK i) (nI mK) (lpZ (rMk (T i)) (rMS (T i)) mK i))) (W' := (wG ad cI cL qy lp sp pr ex (nI c) dy tk (lpF (rMk (T i)) mK i) (nI mK) (lpZ (rMk (T i)) (rMS (T i)) mK i) (rSu (T i)) (nI uK) (rUS (T i)) (rSh (T i)) (rMu (T i)) (rCo (T i)) (rSr (T i)) (rDu (T i)) bi bb)) (As := [.int (nI i)]) (rest := []) ⟨hx, hb, hml, hown, hts⟩ (c_X0_lapseBefore l D H.size (ad 5) (ad 13) cI cL (rMk (T i)) mK (rMS (T i)) i hi3 hmK) (cwV 1 hts gX1_settleClosedYears_X0_lapseBefore rfl rfl rfl (by decide +kernel) ⟨(Nat.le_of_ble_eq_true rfl), (Nat.le_of_ble_eq_true rfl)⟩) hS hA hK hP hD [0, 1] rfl [5, 13] [0, 1, 2, 3, 4, 6, 7, 8, 9, 10, 11, 12, 14] [0, 1, 2, 3, 4, 13, 5, 6, 7, 8, 9, 10, 11, 14, 12] rfl (by decide) rfl (by decide) (by decide) rfl (by decide) 0 0 rfl rfl rfl rfl hl.1 rfl (Nat.le_of_ble_eq_true rfl) dX1_settleClosedYears_29 ⟨(Nat.le_of_ble_eq_true rfl), (Nat.le_of_ble_eq_true rfl)⟩ (fun H locs _ hP hD hS => ?_)
        refine lv_aload_n hx hb dX1_settleClosedYears_32 rfl (lv_at hl 0 rfl) ?_
        refine va_get (D := D) (ci := 1) (C := RX1) (T := TX1) (N := 17) hx hb hts inX1_settleClosedYears_X1 hown hK hP 0 rfl rfl 9 (by decide) (hts _ hX1_settleClosedYears__fieldLink_RX1_48_MakeupGas_surplusStock_LMakeupGas_Stock_) (fun _ h9 => h9) rfl dX1_settleClosedYears_33 ?_
        refine lv_iload_n hx hb dX1_settleClosedYears_36 rfl (lv_at hl 1 rfl) ?_
        refine gV_v (wc := (wK (ad 6) (ad 14) cI (rSu (T i)) (nI uK) (rUS (T i)))) (wr := [(ad 0, .inr (1, [.int qy, .int lp, .int sp, .ref (ad 1), .ref (ad 2), .int (nI c), .ref (ad 3), .ref (ad 4), .ref (ad 5), .ref (ad 6), .ref (ad 7), .ref (ad 8), .ref (ad 9), .ref (ad 10), .ref (ad 11), .ref (ad 12), .long bb])), (ad 1, .inl (cI, 20, .inl pr)), (ad 2, .inl (cI, 20, .inl ex)), (ad 3, .inl (cI, 360, .inl dy)), (ad 4, .inl (cI, 20, .inl tk)), (ad 5, .inr (0, [.ref (ad 13), .int (nI mK), .int (lpZ (rMk (T i)) (rMS (T i)) mK i)])), (ad 7, .inl (cI, 20, .inl (rSh (T i)))), (ad 8, .inl (cI, 20, .inl (rMu (T i)))), (ad 9, .inl (cI, 20, .inl (rCo (T i)))), (ad 10, .inl (cI, 20, .inl (rSr (T i)))), (ad 11, .inl (cL, 20, .inr (.inl (rDu (T i))))), (ad 12, .inl (cL, 20, .inr (.inl bi))), (ad 13, .inl (cI, 20, .inl (lpF (rMk (T i)) mK i)))]) (w1 := (wK (ad 6) (ad 14) cI (lpF (rSu (T i)) uK i) (nI uK) (lpZ (rSu (T i)) (rUS (T i)) uK i))) (W' := (wG ad cI cL qy lp sp pr ex (nI c) dy tk (lpF (rMk (T i)) mK i) (nI mK) (lpZ (rMk (T i)) (rMS (T i)) mK i) (lpF (rSu (T i)) uK i) (nI uK) (lpZ (rSu (T i)) (rUS (T i)) uK i) (rSh (T i)) (rMu (T i)) (rCo (T i)) (rSr (T i)) (rDu (T i)) bi bb)) (As := [.int (nI i)]) (rest := []) ⟨hx, hb, hml, hown, hts⟩ (c_X0_lapseBefore l D H.size (ad 6) (ad 14) cI cL (rSu (T i)) uK (rUS (T i)) i hi3 huK) (cwV 1 hts gX1_settleClosedYears_X0_lapseBefore rfl rfl rfl (by decide +kernel) ⟨(Nat.le_of_ble_eq_true rfl), (Nat.le_of_ble_eq_true rfl)⟩) hS hA hK hP hD [0, 1] rfl [6, 14] [0, 1, 2, 3, 4, 5, 7, 8, 9, 10, 11, 12, 13] [0, 1, 2, 3, 4, 5, 13, 6, 7, 8, 9, 10, 11, 12, 14] rfl (by decide) rfl (by decide) (by decide) rfl (by decide) 0 0 rfl rfl rfl rfl hl.1 rfl (Nat.le_of_ble_eq_true rfl) dX1_settleClosedYears_37 ⟨(Nat.le_of_ble_eq_true rfl), (Nat.le_of_ble_eq_true rfl)⟩ (fun H locs _ hP hD hS => ?_)
        refine lv_aload_n hx hb dX1_settleClosedYears_40 rfl (lv_at hl 0 rfl) ?_
        refine va_get (D := D) (ci := 1) (C := RX1) (T := TX1) (N := 17) hx hb hts inX1_settleClosedYears_X1 hown hK hP 0 rfl rfl 7 (by decide) (hts _ hX1_settleClosedYears__fieldLink_RX1_36_MakeupGas_takenPerYear_I_) (fun _ h9 => h9) rfl dX1_settleClosedYears_41 ?_
        refine lv_iload_n hx hb dX1_settleClosedYears_44 rfl (lv_at hl 1 rfl) ?_
        refine ga_iald (j := i) hx hb hK hP 4 0 rfl rfl hi3 (by decide) dX1_settleClosedYears_45 ?_
        refine lv_aload_n hx hb dX1_settleClosedYears_46 rfl (lv_at hl 0 rfl) ?_
        refine lv_iload_n hx hb dX1_settleClosedYears_47 rfl (lv_at hl 1 rfl) ?_
        refine gV_i (wc := (wG ad cI cL qy lp sp pr ex (nI c) dy tk (lpF (rMk (T i)) mK i) (nI mK) (lpZ (rMk (T i)) (rMS (T i)) mK i) (lpF (rSu (T i)) uK i) (nI uK) (lpZ (rSu (T i)) (rUS (T i)) uK i) (rSh (T i)) (rMu (T i)) (rCo (T i)) (rSr (T i)) (rDu (T i)) bi bb)) (wr := []) (w1 := (wG ad cI cL qy lp sp pr ex (nI c) dy tk (lpF (rMk (T i)) mK i) (nI mK) (lpZ (rMk (T i)) (rMS (T i)) mK i) (lpF (rSu (T i)) uK i) (nI uK) (lpZ (rSu (T i)) (rUS (T i)) uK i) (rSh (T i)) (rMu (T i)) (rCo (T i)) (rSr (T i)) (rDu (T i)) bi bb)) (W' := (wG ad cI cL qy lp sp pr ex (nI c) dy tk (lpF (rMk (T i)) mK i) (nI mK) (lpZ (rMk (T i)) (rMS (T i)) mK i) (lpF (rSu (T i)) uK i) (nI uK) (lpZ (rSu (T i)) (rUS (T i)) uK i) (rSh (T i)) (rMu (T i)) (rCo (T i)) (rSr (T i)) (rDu (T i)) bi bb)) (As := [.int (nI i)]) (rest := [.int (tk i)]) ⟨hx, hb, hml, hown, hts⟩ (c_X1_leastQuantity l D H.size ad cI cL qy lp sp pr ex c dy tk (lpF (rMk (T i)) mK i) mK (lpZ (rMk (T i)) (rMS (T i)) mK i) (lpF (rSu (T i)) uK i) uK (lpZ (rSu (T i)) (rUS (T i)) uK i) (rSh (T i)) (rMu (T i)) (rCo (T i)) (rSr (T i)) (rDu (T i)) bi bb i hi3) (cwV 1 hts gX1_settleClosedYears_X1_leastQuantity rfl rfl rfl (by decide +kernel) ⟨(Nat.le_of_ble_eq_true rfl), (Nat.le_of_ble_eq_true rfl)⟩) hS hA hK hP hD [0, 1] rfl [0, 1, 2, 3, 4, 5, 6, 7, 8, 9, 10, 11, 12, 13, 14] [] [0, 1, 2, 3, 4, 5, 6, 7, 8, 9, 10, 11, 12, 13, 14] rfl (by decide) rfl (by decide) (by decide) rfl (by decide) 0 1 rfl rfl rfl rfl hl.1 rfl (Nat.le_of_ble_eq_true rfl) dX1_settleClosedYears_48 ⟨(Nat.le_of_ble_eq_true rfl), (Nat.le_of_ble_eq_true rfl)⟩ (fun H locs _ hP hD hS => ?_)
        refine lv_icmp_ge (tgt := 62) hx hb dX1_settleClosedYears_51 (by decide) (fun c2 => ?_) (fun c2 => ?_)
        · refine lv_aload_n hx hb dX1_settleClosedYears_62 rfl (lv_at hl 0 rfl) ?_
          refine lv_iload_n hx hb dX1_settleClosedYears_63 rfl (lv_at hl 1 rfl) ?_
          refine gV_v (wc := (wG ad cI cL qy lp sp pr ex (nI c) dy tk (lpF (rMk (T i)) mK i) (nI mK) (lpZ (rMk (T i)) (rMS (T i)) mK i) (lpF (rSu (T i)) uK i) (nI uK) (lpZ (rSu (T i)) (rUS (T i)) uK i) (rSh (T i)) (rMu (T i)) (rCo (T i)) (rSr (T i)) (rDu (T i)) bi bb)) (wr := []) (w1 := (wG ad cI cL qy lp sp pr ex (nI c) dy tk ((dw (lpF (rMk (T i)) mK i) (enA qy lp ex tk i) i).1) (nI mK) (lpZ (rMk (T i)) (rMS (T i)) mK i) (upd (lpF (rSu (T i)) uK i) i (enS qy lp ex tk (lpF (rMk (T i)) mK i) i)) (nI uK) (lpZ (rSu (T i)) (rUS (T i)) uK i) (upd (rSh (T i)) i 0) (upd (rMu (T i)) i (enM qy lp ex tk (lpF (rMk (T i)) mK i) i)) (upd (rCo (T i)) i 0) (upd (rSr (T i)) i (enS qy lp ex tk (lpF (rMk (T i)) mK i) i)) (vp_updL (rDu (T i)) i (enD qy lp sp pr ex tk (lpF (rMk (T i)) mK i) i)) bi bb)) (W' := (wG ad cI cL qy lp sp pr ex (nI c) dy tk ((dw (lpF (rMk (T i)) mK i) (enA qy lp ex tk i) i).1) (nI mK) (lpZ (rMk (T i)) (rMS (T i)) mK i) (upd (lpF (rSu (T i)) uK i) i (enS qy lp ex tk (lpF (rMk (T i)) mK i) i)) (nI uK) (lpZ (rSu (T i)) (rUS (T i)) uK i) (upd (rSh (T i)) i 0) (upd (rMu (T i)) i (enM qy lp ex tk (lpF (rMk (T i)) mK i) i)) (upd (rCo (T i)) i 0) (upd (rSr (T i)) i (enS qy lp ex tk (lpF (rMk (T i)) mK i) i)) (vp_updL (rDu (T i)) i (enD qy lp sp pr ex tk (lpF (rMk (T i)) mK i) i)) bi bb)) (As := [.int (nI i)]) (rest := []) ⟨hx, hb, hml, hown, hts⟩ (c_X1_settleEnough l D H.size ad cI cL qy lp sp pr ex c dy tk (lpF (rMk (T i)) mK i) mK (lpZ (rMk (T i)) (rMS (T i)) mK i) (lpF (rSu (T i)) uK i) uK (lpZ (rSu (T i)) (rUS (T i)) uK i) (rSh (T i)) (rMu (T i)) (rCo (T i)) (rSr (T i)) (rDu (T i)) bi bb i hi3) (cwV 1 hts gX1_settleClosedYears_X1_settleEnough rfl rfl rfl (by decide +kernel) ⟨(Nat.le_of_ble_eq_true rfl), (Nat.le_of_ble_eq_true rfl)⟩) hS hA hK hP hD [0, 1] rfl [0, 1, 2, 3, 4, 5, 6, 7, 8, 9, 10, 11, 12, 13, 14] [] [0, 1, 2, 3, 4, 5, 6, 7, 8, 9, 10, 11, 12, 13, 14] rfl (by decide) rfl (by decide) (by decide) rfl (by decide) 0 1 rfl rfl rfl rfl hl.1 rfl (Nat.le_of_ble_eq_true rfl) dX1_settleClosedYears_64 ⟨(Nat.le_of_ble_eq_true rfl), (Nat.le_of_ble_eq_true rfl)⟩ (fun H locs _ hP hD hS => ?_)
          have hP : va_P D vwCl (wG ad cI cL qy lp sp pr ex (nI c) dy tk (rMk (T (i + 1))) (nI mK) (rMS (T (i + 1))) (rSu (T (i + 1))) (nI uK) (rUS (T (i + 1))) (rSh (T (i + 1))) (rMu (T (i + 1))) (rCo (T (i + 1))) (rSr (T (i + 1))) (rDu (T (i + 1))) bi bb) H := by rw [hTs, stp, if_neg (Int32.not_lt.mpr c2)]; exact hP
          have hD : va_D A (wG ad cI cL qy lp sp pr ex (nI c) dy tk (rMk (T (i + 1))) (nI mK) (rMS (T (i + 1))) (rSu (T (i + 1))) (nI uK) (rUS (T (i + 1))) (rSh (T (i + 1))) (rMu (T (i + 1))) (rCo (T (i + 1))) (rSr (T (i + 1))) (rDu (T (i + 1))) bi bb) := by rw [hTs, stp, if_neg (Int32.not_lt.mpr c2)]; exact hD
          refine lv_iinc (v := nI (i + 1)) (lv' := [(1, .int (nI (i + 1))), (0, .ref (ad 0))]) hx hb dX1_settleClosedYears_67 hl (k := 1) rfl (gi_1 _) (by decide) rfl (fun ls hl => ?_)
          refine lv_goto (tgt := 16) hx hb dX1_settleClosedYears_70 (by decide) ?_
          exact ih (i + 1) (by omega) (by omega) _ _ hP hD hS ls (lv_sub hl [1, 0] rfl)
        · refine lv_aload_n hx hb dX1_settleClosedYears_54 rfl (lv_at hl 0 rfl) ?_
          refine lv_iload_n hx hb dX1_settleClosedYears_55 rfl (lv_at hl 1 rfl) ?_
          refine gV_v (wc := (wG ad cI cL qy lp sp pr ex (nI c) dy tk (lpF (rMk (T i)) mK i) (nI mK) (lpZ (rMk (T i)) (rMS (T i)) mK i) (lpF (rSu (T i)) uK i) (nI uK) (lpZ (rSu (T i)) (rUS (T i)) uK i) (rSh (T i)) (rMu (T i)) (rCo (T i)) (rSr (T i)) (rDu (T i)) bi bb)) (wr := []) (w1 := (wG ad cI cL qy lp sp pr ex (nI c) dy tk (upd (lpF (rMk (T i)) mK i) i (gpM qy lp ex tk (lpF (rSu (T i)) uK i) i)) (nI mK) (lpZ (rMk (T i)) (rMS (T i)) mK i) ((dw (lpF (rSu (T i)) uK i) (gpG qy lp ex tk i) i).1) (nI uK) (lpZ (rSu (T i)) (rUS (T i)) uK i) (upd (rSh (T i)) i (gpM qy lp ex tk (lpF (rSu (T i)) uK i) i)) (upd (rMu (T i)) i 0) (upd (rCo (T i)) i (gpC qy lp ex tk (lpF (rSu (T i)) uK i) i)) (upd (rSr (T i)) i 0) (vp_updL (rDu (T i)) i (gpD qy lp sp pr ex tk (lpF (rSu (T i)) uK i) i)) bi bb)) (W' := (wG ad cI cL qy lp sp pr ex (nI c) dy tk (upd (lpF (rMk (T i)) mK i) i (gpM qy lp ex tk (lpF (rSu (T i)) uK i) i)) (nI mK) (lpZ (rMk (T i)) (rMS (T i)) mK i) ((dw (lpF (rSu (T i)) uK i) (gpG qy lp ex tk i) i).1) (nI uK) (lpZ (rSu (T i)) (rUS (T i)) uK i) (upd (rSh (T i)) i (gpM qy lp ex tk (lpF (rSu (T i)) uK i) i)) (upd (rMu (T i)) i 0) (upd (rCo (T i)) i (gpC qy lp ex tk (lpF (rSu (T i)) uK i) i)) (upd (rSr (T i)) i 0) (vp_updL (rDu (T i)) i (gpD qy lp sp pr ex tk (lpF (rSu (T i)) uK i) i)) bi bb)) (As := [.int (nI i)]) (rest := []) ⟨hx, hb, hml, hown, hts⟩ (c_X1_settleGap l D H.size ad cI cL qy lp sp pr ex c dy tk (lpF (rMk (T i)) mK i) mK (lpZ (rMk (T i)) (rMS (T i)) mK i) (lpF (rSu (T i)) uK i) uK (lpZ (rSu (T i)) (rUS (T i)) uK i) (rSh (T i)) (rMu (T i)) (rCo (T i)) (rSr (T i)) (rDu (T i)) bi bb i hi3) (cwV 1 hts gX1_settleClosedYears_X1_settleGap rfl rfl rfl (by decide +kernel) ⟨(Nat.le_of_ble_eq_true rfl), (Nat.le_of_ble_eq_true rfl)⟩) hS hA hK hP hD [0, 1] rfl [0, 1, 2, 3, 4, 5, 6, 7, 8, 9, 10, 11, 12, 13, 14] [] [0, 1, 2, 3, 4, 5, 6, 7, 8, 9, 10, 11, 12, 13, 14] rfl (by decide) rfl (by decide) (by decide) rfl (by decide) 0 1 rfl rfl rfl rfl hl.1 rfl (Nat.le_of_ble_eq_true rfl) dX1_settleClosedYears_56 ⟨(Nat.le_of_ble_eq_true rfl), (Nat.le_of_ble_eq_true rfl)⟩ (fun H locs _ hP hD hS => ?_)
          refine lv_goto (tgt := 67) hx hb dX1_settleClosedYears_59 (by decide) ?_
          have hP : va_P D vwCl (wG ad cI cL qy lp sp pr ex (nI c) dy tk (rMk (T (i + 1))) (nI mK) (rMS (T (i + 1))) (rSu (T (i + 1))) (nI uK) (rUS (T (i + 1))) (rSh (T (i + 1))) (rMu (T (i + 1))) (rCo (T (i + 1))) (rSr (T (i + 1))) (rDu (T (i + 1))) bi bb) H := by rw [hTs, stp, if_pos (Int32.not_le.mp c2)]; exact hP
          have hD : va_D A (wG ad cI cL qy lp sp pr ex (nI c) dy tk (rMk (T (i + 1))) (nI mK) (rMS (T (i + 1))) (rSu (T (i + 1))) (nI uK) (rUS (T (i + 1))) (rSh (T (i + 1))) (rMu (T (i + 1))) (rCo (T (i + 1))) (rSr (T (i + 1))) (rDu (T (i + 1))) bi bb) := by rw [hTs, stp, if_pos (Int32.not_le.mp c2)]; exact hD
          refine lv_iinc (v := nI (i + 1)) (lv' := [(1, .int (nI (i + 1))), (0, .ref (ad 0))]) hx hb dX1_settleClosedYears_67 hl (k := 1) rfl (gi_1 _) (by decide) rfl (fun ls hl => ?_)
          refine lv_goto (tgt := 16) hx hb dX1_settleClosedYears_70 (by decide) ?_
          exact ih (i + 1) (by omega) (by omega) _ _ hP hD hS ls (lv_sub hl [1, 0] rfl)
  exact lp_16 (c + 1) 0 (by omega) (by omega) _ _ hP hD hS ls (lv_sub hl [1, 0] rfl)
theorem inX1_dueInAll_X1 : ∀ q ∈ wsX10, q ∈ wsX1_dueInAll := by decide +kernel
theorem hX1_dueInAll__fieldLink_RX1_103_MakeupGas_closedYears_I_ : Cond.fieldLink RX1 103 "MakeupGas" "closedYears" "I" ∈ wsX1_dueInAll := by decide +kernel
theorem hX1_dueInAll__fieldLink_RX1_63_MakeupGas_duePerYear_J_ : Cond.fieldLink RX1 63 "MakeupGas" "duePerYear" "[J" ∈ wsX1_dueInAll := by decide +kernel
set_option maxHeartbeats 4000000 in
set_option maxRecDepth 100000 in
theorem c_X1_dueInAll (l : Launch) (D : va_G) (sz : Nat) (ad : Nat → Nat) (cI cL : ClassId) (qy lp sp : Int32) (pr ex : Nat → Int32) (c : Nat) (dy tk mk : Nat → Int32) (mK : Nat) (mS : Int32) (su : Nat → Int32) (uK : Nat) (uS : Int32) (sh mu co sr : Nat → Int32) (du bi : Nat → Int64) (bb : Int64) (hc : c ≤ 20) : gCl l yX1_dueInAll wsX1_dueInAll ({ frames := 0, cells := 0, slots := 0, locals := 0 } : Room) D [(cI, .int), (cL, .long)] [.ref (ad 0)] (wG ad cI cL qy lp sp pr ex (nI c) dy tk mk (nI mK) mS su (nI uK) uS sh mu co sr du bi bb) (wG ad cI cL qy lp sp pr ex (nI c) dy tk mk (nI mK) mS su (nI uK) uS sh mu co sr du bi bb) (smL du c) True 0 0 sz := by
  refine gm_l (cc := cX1_dueInAll) (maxL := 4) (by decide) rfl (Nat.le_of_ble_eq_true rfl) ?_
  intro pg en s m args below meth cd A ls hx hb hr hml hown hts hlocks hin hA hK hP hD hl
  have hl : lv_has ls 4 [(0, .ref (ad 0))] := hl
  have hS : va_S A s.heap s.heap [] := va_S.rf
  refine lv_lconst (v := 0) hx hb dX1_dueInAll_0 (by decide) ?_
  refine lv_lstore_n (lv' := [(1, .long 0), (0, .ref (ad 0))]) hx hb dX1_dueInAll_1 rfl hl (by decide) rfl (fun ls hl => ?_)
  refine lv_iconst (v := 0) hx hb dX1_dueInAll_2 (by decide) ?_
  refine lv_istore_n (lv' := [(3, .int 0), (1, .long 0), (0, .ref (ad 0))]) hx hb dX1_dueInAll_3 rfl hl (by decide) rfl (fun ls hl => ?_)
  have lp_4 : ∀ (n i : Nat), i ≤ c → c < i + n → ∀ (H : Heap) (locs : List Loc), va_P D vwCl (wG ad cI cL qy lp sp pr ex (nI c) dy tk mk (nI mK) mS su (nI uK) uS sh mu co sr du bi bb) H → va_D A (wG ad cI cL qy lp sp pr ex (nI c) dy tk mk (nI mK) mS su (nI uK) uS sh mu co sr du bi bb) → va_S A s.heap H locs → ∀ (ls : Array Slot), lv_has ls 4 [(0, .ref (ad 0)), (1, .long (smL du i)), (3, .int (nI i))] → W pg l en ({ frames := 0, cells := 0, slots := 0, locals := 0 } : Room) s m args below meth cd H locs 0 0 (gEl (smL du c) True below D [(cI, .int), (cL, .long)] (wG ad cI cL qy lp sp pr ex (nI c) dy tk mk (nI mK) mS su (nI uK) uS sh mu co sr du bi bb) A args s 0 0) (F0 m 4 ls []) := by
    intro n
    induction n with
    | zero => intro i h1 h2; exact absurd h2 (by omega)
    | succ n ih =>
      intro i hi hin2  H locs hP hD hS ls hl
      refine lv_iload_n hx hb dX1_dueInAll_4 rfl (lv_at hl 2 rfl) ?_
      refine lv_aload_n hx hb dX1_dueInAll_5 rfl (lv_at hl 0 rfl) ?_
      refine va_get (D := D) (ci := 1) (C := RX1) (T := TX1) (N := 17) hx hb hts inX1_dueInAll_X1 hown hK hP 0 rfl rfl 5 (by decide) (hts _ hX1_dueInAll__fieldLink_RX1_103_MakeupGas_closedYears_I_) (fun _ h9 => h9) rfl dX1_dueInAll_6 ?_
      refine lv_icmp_ge (tgt := 27) hx hb dX1_dueInAll_9 (by decide) (fun c1 => ?_) (fun c1 => ?_)
      · obtain rfl : i = c := Nat.le_antisymm hi (Nat.not_lt.mp fun h => absurd c1 (nI_ge h (by omega)))
        refine lv_lload_n hx hb dX1_dueInAll_27 rfl (lv_at hl 1 rfl) ?_
        exact ge_l hx hb hr hlocks hK hP hD hS trivial (Nat.le_of_ble_eq_true rfl) (Nat.le_of_ble_eq_true rfl) dX1_dueInAll_28
      · have hic : i < c := Nat.not_le.mp (fun h => c1 (nI_le h (by omega)))
        have hi3 : i < 20 := by omega
        refine lv_lload_n hx hb dX1_dueInAll_12 rfl (lv_at hl 1 rfl) ?_
        refine lv_aload_n hx hb dX1_dueInAll_13 rfl (lv_at hl 0 rfl) ?_
        refine va_get (D := D) (ci := 1) (C := RX1) (T := TX1) (N := 17) hx hb hts inX1_dueInAll_X1 hown hK hP 0 rfl rfl 14 (by decide) (hts _ hX1_dueInAll__fieldLink_RX1_63_MakeupGas_duePerYear_J_) (fun _ h9 => h9) rfl dX1_dueInAll_14 ?_
        refine lv_iload_n hx hb dX1_dueInAll_17 rfl (lv_at hl 2 rfl) ?_
        refine ga_lald (j := i) hx hb hK hP 11 1 rfl rfl hi3 (by decide) dX1_dueInAll_18 ?_
        refine lv_ladd hx hb dX1_dueInAll_19 ?_
        refine lv_lstore_n (lv' := [(1, .long (smL du (i + 1))), (0, .ref (ad 0)), (3, .int (nI i))]) hx hb dX1_dueInAll_20 rfl hl (by decide) rfl (fun ls hl => ?_)
        refine lv_iinc (v := nI (i + 1)) (lv' := [(3, .int (nI (i + 1))), (1, .long (smL du (i + 1))), (0, .ref (ad 0))]) hx hb dX1_dueInAll_21 hl (k := 2) rfl (gi_1 _) (by decide) rfl (fun ls hl => ?_)
        refine lv_goto (tgt := 4) hx hb dX1_dueInAll_24 (by decide) ?_
        exact ih (i + 1) (by omega) (by omega) _ _ hP hD hS ls (lv_sub hl [2, 1, 0] rfl)
  exact lp_4 (c + 1) 0 (by omega) (by omega) _ _ hP hD hS ls (lv_sub hl [2, 1, 0] rfl)
end
