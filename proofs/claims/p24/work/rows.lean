section
-- ===== PART A: goes FIRST, ahead of the names: the tables' words, and 'selects' of the private methods out of them =====
/-- a private method of a class that the tables say can be made, by its rows of tables_1 -/
def lw_okq (q : MethodName × Nat) : Prop := (q.1.cls ≠ "java/lang/invoke/MethodHandle" ∧ q.1.cls ≠ "java/lang/invoke/VarHandle") ∧ Cond.instantiable q.1.cls q.2 ∈ tables_1 ∧ Cond.privateMethod q.1 ∈ tables_1 ∧ Cond.instanceMethod q.1 ∈ tables_1
theorem lw_p0 : lw_okq (⟨"java/lang/Throwable", "fillInStackTrace", "(I)Ljava/lang/Throwable;"⟩, 6) := ⟨⟨by decide +kernel, by decide +kernel⟩, List.mem_of_getElem? (i := 144) (by decide +kernel), List.mem_of_getElem? (i := 142) (by decide +kernel), List.mem_of_getElem? (i := 143) (by decide +kernel)⟩
theorem lw_p1 : lw_okq (⟨"MakeupGas", "leastQuantity", "(I)I"⟩, 17) := ⟨⟨by decide +kernel, by decide +kernel⟩, List.mem_of_getElem? (i := 11) (by decide +kernel), List.mem_of_getElem? (i := 178) (by decide +kernel), List.mem_of_getElem? (i := 179) (by decide +kernel)⟩
theorem lw_p2 : lw_okq (⟨"MakeupGas", "dueInAll", "()J"⟩, 17) := ⟨⟨by decide +kernel, by decide +kernel⟩, List.mem_of_getElem? (i := 11) (by decide +kernel), List.mem_of_getElem? (i := 195) (by decide +kernel), List.mem_of_getElem? (i := 196) (by decide +kernel)⟩
theorem lw_p3 : lw_okq (⟨"MakeupGas", "requireUnused", "()V"⟩, 17) := ⟨⟨by decide +kernel, by decide +kernel⟩, List.mem_of_getElem? (i := 11) (by decide +kernel), List.mem_of_getElem? (i := 214) (by decide +kernel), List.mem_of_getElem? (i := 215) (by decide +kernel)⟩
theorem lw_p4 : lw_okq (⟨"MakeupGas", "settleClosedYears", "()V"⟩, 17) := ⟨⟨by decide +kernel, by decide +kernel⟩, List.mem_of_getElem? (i := 11) (by decide +kernel), List.mem_of_getElem? (i := 243) (by decide +kernel), List.mem_of_getElem? (i := 244) (by decide +kernel)⟩
theorem lw_p5 : lw_okq (⟨"MakeupGas", "settleGap", "(I)V"⟩, 17) := ⟨⟨by decide +kernel, by decide +kernel⟩, List.mem_of_getElem? (i := 11) (by decide +kernel), List.mem_of_getElem? (i := 256) (by decide +kernel), List.mem_of_getElem? (i := 257) (by decide +kernel)⟩
theorem lw_p6 : lw_okq (⟨"MakeupGas", "drawSurplus", "(II)I"⟩, 17) := ⟨⟨by decide +kernel, by decide +kernel⟩, List.mem_of_getElem? (i := 11) (by decide +kernel), List.mem_of_getElem? (i := 260) (by decide +kernel), List.mem_of_getElem? (i := 261) (by decide +kernel)⟩
theorem lw_p7 : lw_okq (⟨"MakeupGas", "shortfallPrice", "(I)I"⟩, 17) := ⟨⟨by decide +kernel, by decide +kernel⟩, List.mem_of_getElem? (i := 11) (by decide +kernel), List.mem_of_getElem? (i := 275) (by decide +kernel), List.mem_of_getElem? (i := 276) (by decide +kernel)⟩
theorem lw_p8 : lw_okq (⟨"MakeupGas", "settleEnough", "(I)V"⟩, 17) := ⟨⟨by decide +kernel, by decide +kernel⟩, List.mem_of_getElem? (i := 11) (by decide +kernel), List.mem_of_getElem? (i := 279) (by decide +kernel), List.mem_of_getElem? (i := 280) (by decide +kernel)⟩
theorem lw_p9 : lw_okq (⟨"MakeupGas", "requireYearGoingOn", "()V"⟩, 17) := ⟨⟨by decide +kernel, by decide +kernel⟩, List.mem_of_getElem? (i := 11) (by decide +kernel), List.mem_of_getElem? (i := 312) (by decide +kernel), List.mem_of_getElem? (i := 313) (by decide +kernel)⟩
theorem lw_p10 : lw_okq (⟨"MakeupGas", "requireRoom", "(III)V"⟩, 17) := ⟨⟨by decide +kernel, by decide +kernel⟩, List.mem_of_getElem? (i := 11) (by decide +kernel), List.mem_of_getElem? (i := 317) (by decide +kernel), List.mem_of_getElem? (i := 318) (by decide +kernel)⟩
theorem lw_p11 : lw_okq (⟨"MakeupGas", "addTakes", "(III)V"⟩, 17) := ⟨⟨by decide +kernel, by decide +kernel⟩, List.mem_of_getElem? (i := 11) (by decide +kernel), List.mem_of_getElem? (i := 322) (by decide +kernel), List.mem_of_getElem? (i := 323) (by decide +kernel)⟩
theorem lw_p12 : lw_okq (⟨"MakeupGas", "requireClosedYear", "(I)V"⟩, 17) := ⟨⟨by decide +kernel, by decide +kernel⟩, List.mem_of_getElem? (i := 11) (by decide +kernel), List.mem_of_getElem? (i := 341) (by decide +kernel), List.mem_of_getElem? (i := 342) (by decide +kernel)⟩
def lw_privs_1 : List (MethodName × Nat) := [(⟨"java/lang/Throwable", "fillInStackTrace", "(I)Ljava/lang/Throwable;"⟩, 6), (⟨"MakeupGas", "leastQuantity", "(I)I"⟩, 17), (⟨"MakeupGas", "dueInAll", "()J"⟩, 17), (⟨"MakeupGas", "requireUnused", "()V"⟩, 17), (⟨"MakeupGas", "settleClosedYears", "()V"⟩, 17), (⟨"MakeupGas", "settleGap", "(I)V"⟩, 17), (⟨"MakeupGas", "drawSurplus", "(II)I"⟩, 17), (⟨"MakeupGas", "shortfallPrice", "(I)I"⟩, 17), (⟨"MakeupGas", "settleEnough", "(I)V"⟩, 17), (⟨"MakeupGas", "requireYearGoingOn", "()V"⟩, 17), (⟨"MakeupGas", "requireRoom", "(III)V"⟩, 17), (⟨"MakeupGas", "addTakes", "(III)V"⟩, 17), (⟨"MakeupGas", "requireClosedYear", "(I)V"⟩, 17)]
theorem lw_r1 : ∀ q ∈ lw_privs_1, lw_okq q := List.forall_mem_cons.mpr ⟨lw_p0, List.forall_mem_cons.mpr ⟨lw_p1, List.forall_mem_cons.mpr ⟨lw_p2, List.forall_mem_cons.mpr ⟨lw_p3, List.forall_mem_cons.mpr ⟨lw_p4, List.forall_mem_cons.mpr ⟨lw_p5, List.forall_mem_cons.mpr ⟨lw_p6, List.forall_mem_cons.mpr ⟨lw_p7, List.forall_mem_cons.mpr ⟨lw_p8, List.forall_mem_cons.mpr ⟨lw_p9, List.forall_mem_cons.mpr ⟨lw_p10, List.forall_mem_cons.mpr ⟨lw_p11, List.forall_mem_cons.mpr ⟨lw_p12, fun _ h => absurd h List.not_mem_nil⟩⟩⟩⟩⟩⟩⟩⟩⟩⟩⟩⟩⟩
def lw_privs : List (MethodName × Nat) := lw_privs_1
def lw_tbl : List Cond := k2_sels lw_privs ++ tables_1
theorem lw_privs_ok : ∀ q ∈ lw_privs, lw_okq q := lw_r1
-- ===== end of PART A; then your names; then what follows =====
end
section
/-! ===== BEGIN words of one list among another's, by their places ===== -/
theorem goodIn_r {big : List Cond} (ws : List Cond) (ps : List Nat) (hp : ws = ps.filterMap (fun i => big[i]?)) (h : ws.all goodWord = true) : GoodIn big ws := by
  intro w hw
  have h1 := List.all_eq_true.mp h w hw
  rw [hp] at hw
  obtain ⟨i, -, hi⟩ := List.mem_filterMap.mp hw
  have hm : w ∈ big := by first | exact List.mem_of_getElem? hi | exact List.getElem?_mem hi
  exact ⟨hm, good_of_word h1⟩
theorem goodIn_app {big a b : List Cond} (ha : GoodIn big a) (hb : GoodIn big b) : GoodIn big (a ++ b) := fun w h => (List.mem_append.mp h).elim (ha w) (hb w)
theorem goodIn_ca {big a b : List Cond} {c : Cond} (ha : GoodIn big (c :: a)) (hb : GoodIn big b) : GoodIn big (c :: (a ++ b)) := fun w h => (List.mem_cons.mp h).elim (fun e => ha w (List.mem_cons.mpr (Or.inl e))) (fun h => (List.mem_append.mp h).elim (fun h => ha w (List.mem_cons.mpr (Or.inr h))) (hb w))
theorem goodIn_sub {big ws : List Cond} (hm : ∀ w ∈ ws, w ∈ big) (h : ws.all goodWord = true) : GoodIn big ws := fun w hw => ⟨hm w hw, good_of_word (List.all_eq_true.mp h w hw)⟩
/-! ===== END ===== -/

/-! ===== BEGIN exceptions that leave a method, and their catching by the caller (launches without stack traces) ===== -/
section VXA
/-! The laws vx_back, vx_callV, vx_callS, vx_callSW, vx_throw0, vx_throwS follow proofs of the library, with one case more: JvmDerived/Free/Laws.lean (Back.of_free), Shelf42/LK1.lean (callV, callS), Shelf/KitTraced.lean (throwNew0V, throwNewS). -/
/-- where a method has thrown q: the class by its name, the cell, what was written, the world -/
def vx_T (XC : String → State → State → Prop) (st : State) (q : Addr) (t : State) (mc ms : Nat) (free : Addr → Prop) : Prop :=
  ∃ (E : String) (ce : Cell) (L : List Loc), XC E st t ∧ t.heap[q]? = some ce ∧ ce.vm = .none ∧ st.vm.findClass E = some ce.cls ∧ st.WarmedH t.vm ∧ st.sameButNew ({ t with vm := st.vm } : State) L mc ms ∧ ∀ z ∈ L, free z.base
def vx_Q (Qc : Array Value → State → Outcome → State → Prop) (XC : String → State → State → Prop) (mc ms : Nat) (free : Addr → Prop) : Array Value → State → Outcome → State → Prop := fun a st o t =>
  (Qc a st o t ∧ ∃ L, FrameEnd st o t L mc ms ∧ ∀ q ∈ L, free q.base) ∨ ∃ q, o = .threw q ∧ vx_T XC st q t mc ms free
/-- a callee that returns or throws -/
def vx_Met (l : Launch) (y : MethodName) (ws : List Cond) (rm : Room) (Pc : Array Value → State → Prop) (Qc : Array Value → State → Outcome → State → Prop) (XC : String → State → State → Prop) (mc ms : Nat) (free : Addr → Prop) : Prop :=
  MetFree l y (headSpec ws rm) Pc (fun _ _ _ _ _ => True) (vx_Q Qc XC mc ms free)
def vx_Post (XC : String → State → State → Prop) (mc ms : Nat) (free : Addr → Prop) : Pt → Array Value → Addr → Pt → Prop := fun A a q B =>
  ∃ (g : JFrame) (mk : MethodId) (t : State) (L : List Loc) (E : String) (ce : Cell), B.U.heap = t.heap ∧ B.U.vm = t.vm ∧ XC E (A.U.calling g mk a) t ∧ t.heap[q]? = some ce ∧ ce.vm = .none ∧ A.U.vm.findClass E = some ce.cls ∧ B.locs = A.locs ++ L ∧ (∀ z ∈ L, free z.base) ∧ B.cells = A.cells + mc ∧ B.slots = A.slots + ms
def vx_Back (l : Launch) (R : Room) (p : Program) (e : Env) (below : List Frame) (s : State) (sargs : Array Value) (y : MethodName) (len W9 : Nat)
    (Pre : Pt → Array Value → Prop) (Post : Pt → Array Value → Option Value → Pt → Prop) (PostX : Pt → Array Value → Addr → Pt → Prop) : Prop :=
  ∀ (m : MethodId) (meth : Method) (c : Code) (A : Pt) (g : JFrame) (ig : Instr) (mk : MethodId) (a : Array Value),
    Stand p l e R s m sargs below meth c A.U A.locs A.cells A.slots → g.method = m → g.locals.size = c.maxLocals → decode c.code g.pc = .ok (ig, len) →
    2 * g.monitorRoom + (g.stack.map fun v => v.category).sum ≤ W9 → A.U.methodNamed? y = some mk → Pre A a →
    (∃ (v : Option Value) (B : Pt), Stand p l e R s m sargs below meth c B.U B.locs B.cells B.slots ∧ Post A a v B ∧
      Steps p.tables e below (doInvoke e (A.U.setTop g) [] mk a).1 (B.U.setTop { g with pc := g.pc + len, stack := v.toList ++ g.stack })) ∨
    (∃ (q : Addr) (B : Pt), Stand p l e R s m sargs below meth c B.U B.locs B.cells B.slots ∧ PostX A a q B ∧
      Steps p.tables e below (doInvoke e (A.U.setTop g) [] mk a).1 ((B.U.setTop g).pushFrame (.throwing q)))
section Payer
variable {l : Launch} {R : Room} {p : Program} {e : Env} {below : List Frame} {s : State} {sargs : Array Value} {y : MethodName} {len W9 : Nat}
theorem vx_back {ws : List Cond} {rm : Room} {Pc : Array Value → State → Prop} {Qc : Array Value → State → Outcome → State → Prop} {XC : String → State → State → Prop} {mc ms : Nat} {free : Addr → Prop} {bytes : ByteArray} {maxL : Nat} {ret : Option FieldType}
    (hM : vx_Met l y ws rm Pc Qc XC mc ms free) (hblind : FrameBlind Pc) (hrc : rm.cells = mc) (hrs : rm.slots = ms)
    (hframes : rm.frames + 1 ≤ R.frames) (hlocals : W9 + (maxL + 11) + rm.locals ≤ R.locals)
    (hws : ∀ w ∈ ws, ∀ a' U, s.WarmedH U.vm → w.before a' U = true) (hcode : Cond.code y bytes maxL ret ∈ ws) (hinit : ∀ a' U, s.WarmedH U.vm → (Cond.initialized y.cls).before a' U = true) :
    vx_Back l R p e below s sargs y len W9 (PreOf R mc ms Pc) (PostOf Qc mc ms free) (vx_Post XC mc ms free) := by
  intro m meth c A g ig mk a X hg hsize hdg hW hn hp
  have h1 : (headSpec ws rm).pre.before a A.U = true := atoms_intro fun w hw => hws w hw _ _ X.warmed
  have h2 : (Cond.code y bytes maxL ret).before a A.U = true := hws _ hcode _ _ X.warmed
  have h3 : (Cond.initialized y.cls).before a A.U = true := hinit _ _ X.warmed
  have h4 : A.cells + (headSpec ws rm).room.cells ≤ R.cells := by rw [show (headSpec ws rm).room.cells = mc from hrc]; exact hp.1
  have h5 : A.slots + (headSpec ws rm).room.slots ≤ R.slots := by rw [show (headSpec ws rm).room.slots = ms from hrs]; exact hp.2.1
  have hPc : Pc a (A.U.calling g mk a) := hblind _ _ _ _ hp.2.2
  obtain ⟨U, Ls, c0, s0⟩ := A
  dsimp only [Pt.U, Pt.locs, Pt.cells, Pt.slots] at h1 h2 h3 h4 h5 X hn hPc ⊢
  obtain ⟨methY, cY, hmY, hcY, -, hlY, -, -, -, -⟩ := Cond.code_spec hn h2
  obtain ⟨kY, hkY, -⟩ := className_of_methodNamed hn
  have hinitY : kY.init = .initialized := Cond.initialized_spec (findClass_of_methodNamed hn) hkY h3
  have h : At U g.method c below := by rw [hg]; exact X.here
  have hlocals9 : W9 + (maxL + 11) + (headSpec ws rm).room.locals ≤ R.locals := hlocals
  have happ : (headSpec ws rm).appliesLoose y e.platform (U.calling g mk a) = true :=
    Spec.appliesLoose_calling (g := g) h hdg hn hkY hinitY
      (X.room_calling (g := g) (R' := (headSpec ws rm).room) hsize hmY hcY hframes (by rw [hlY]; omega) h4 h5) h1
  obtain ⟨mid, hmid⟩ := h.above
  have hfr : (U.setTop g).frames = (.java g :: mid) ++ below := by rw [State.frames_setTop' g h.top, hmid]; rfl
  obtain ⟨o, s₂, hsteps, -, hend, hq⟩ := Steps.callFree hM p X.admits X.cas X.clock (acts := []) hfr happ hPc trivial
  have hq' : vx_Q Qc XC mc ms free a (U.calling g mk a) o s₂ := hq
  rw [State.frames_setTop' g h.top] at hend
  obtain ⟨g₀, hg0⟩ := Option.isSome_iff_exists.mp h.top
  obtain ⟨r, hr⟩ := State.topJava?_eq_some.mp hg0
  have hr' : (({ U with heap := s₂.heap, slotsUsed := s₂.slotsUsed } : State).setVm s₂.vm).frames = .java g₀ :: r := hr
  rcases hq' with ⟨hqc, L, hfe, hL⟩ | ⟨q, rfl, E, ce, L, hx, hce, hcv, hcl, hW₂, hsm, hL⟩
  · obtain ⟨⟨v, rfl⟩, hW₂, e2, q2, q3, q4, q5, q6⟩ := id hfe
    have e3 : s₂ = ({ (U.calling g mk a).setFrames s₂.frames with heap := s₂.heap, slotsUsed := s₂.slotsUsed } : State).setVm s₂.vm := by
      have : s₂ = ({ s₂ with vm := (U.calling g mk a).vm } : State).setVm s₂.vm := rfl
      rw [e2] at this
      exact this
    obtain ⟨c₂, i₂, len₂, hc₂, hd₂, hf₂⟩ := hend
    have hW' : U.WarmedH s₂.vm := hW₂
    have hcc : c₂ = c := by
      have h1 : s₂.code? g.method = U.code? g.method := by
        rw [State.code?_eq, State.code?_eq, hW'.alike.method?]
      exact Option.some.inj (hc₂.symm.trans (h1.trans h.code))
    subst hcc
    have hlen : len₂ = len := by rw [hdg] at hd₂; cases hd₂; rfl
    subst hlen
    have hs₂ : s₂ = (({ U with heap := s₂.heap, slotsUsed := s₂.slotsUsed } : State).setVm s₂.vm).setTop { g with pc := g.pc + len₂, stack := v.toList ++ g.stack } := by
      refine e3.trans ?_
      rw [hf₂, State.calling_eq h.top, State.setFrames_setFrames, State.setTop_of_frames _ hr', hr]
      rfl
    have hsame : U.sameButNew ({ U with heap := s₂.heap, slotsUsed := s₂.slotsUsed } : State) L mc ms := by
      refine ⟨?_, q2, q3, q4, q5, q6⟩
      obtain ⟨t, ht, -⟩ := State.frames_cons hr
      show ({ U with heap := s₂.heap, slotsUsed := s₂.slotsUsed } : State) = { U.setFrames U.frames with heap := s₂.heap, slotsUsed := s₂.slotsUsed }
      rw [State.setFrames_self ht]
    subst hg
    refine Or.inl ⟨v, ⟨(({ U with heap := s₂.heap, slotsUsed := s₂.slotsUsed } : State).setVm s₂.vm), Ls ++ L, c0 + mc, s0 + ms⟩,
      ⟨X.admits, X.cas, X.clock, X.frames, X.room, X.hears, X.method, X.code, (X.here.setHeapUsed s₂.heap s₂.slotsUsed).setVm hW'.alike, X.tail, State.WarmedH.trans X.warmed hW', X.limits, X.bytes, X.same.trans (hsame.setVm s.vm)⟩,
      ⟨g, mk, s₂, L, rfl, rfl, hqc, rfl, hL, rfl, rfl⟩, ?_⟩
    show Steps p.tables e below _ ((({ U with heap := s₂.heap, slotsUsed := s₂.slotsUsed } : State).setVm s₂.vm).setTop { g with pc := g.pc + len₂, stack := v.toList ++ g.stack })
    rw [← hs₂]
    exact hsteps
  · obtain ⟨e2, q2, q3, q4, q5, q6⟩ := id hsm
    have e3 : s₂ = ({ (U.calling g mk a).setFrames s₂.frames with heap := s₂.heap, slotsUsed := s₂.slotsUsed } : State).setVm s₂.vm := by
      have : s₂ = ({ s₂ with vm := (U.calling g mk a).vm } : State).setVm s₂.vm := rfl
      rw [e2] at this
      exact this
    have hf₂ : s₂.frames = .throwing q :: .java g :: U.frames.tail := hend
    have hW' : U.WarmedH s₂.vm := hW₂
    have hs₂ : s₂ = ((({ U with heap := s₂.heap, slotsUsed := s₂.slotsUsed } : State).setVm s₂.vm).setTop g).pushFrame (.throwing q) := by
      refine e3.trans ?_
      rw [hf₂, State.calling_eq h.top, State.setFrames_setFrames, State.pushFrame, State.frames_setTop _ hr', State.setTop_of_frames _ hr', State.setFrames_setFrames, hr]
      rfl
    have hsame : U.sameButNew ({ U with heap := s₂.heap, slotsUsed := s₂.slotsUsed } : State) L mc ms := by
      refine ⟨?_, q2, q3, q4, q5, q6⟩
      obtain ⟨t, ht, -⟩ := State.frames_cons hr
      show ({ U with heap := s₂.heap, slotsUsed := s₂.slotsUsed } : State) = { U.setFrames U.frames with heap := s₂.heap, slotsUsed := s₂.slotsUsed }
      rw [State.setFrames_self ht]
    subst hg
    refine Or.inr ⟨q, ⟨(({ U with heap := s₂.heap, slotsUsed := s₂.slotsUsed } : State).setVm s₂.vm), Ls ++ L, c0 + mc, s0 + ms⟩,
      ⟨X.admits, X.cas, X.clock, X.frames, X.room, X.hears, X.method, X.code, (X.here.setHeapUsed s₂.heap s₂.slotsUsed).setVm hW'.alike, X.tail, State.WarmedH.trans X.warmed hW', X.limits, X.bytes, X.same.trans (hsame.setVm s.vm)⟩,
      ⟨g, mk, s₂, L, E, ce, rfl, rfl, hx, hce, hcv, hcl, rfl, hL, rfl, rfl⟩, ?_⟩
    show Steps p.tables e below _ (((({ U with heap := s₂.heap, slotsUsed := s₂.slotsUsed } : State).setVm s₂.vm).setTop g).pushFrame (.throwing q))
    rw [← hs₂]
    exact hsteps
end Payer
section Calls
variable {p : Program} {l : Launch} {e : Env} {R : Room} {s : State} {m : MethodId} {args : Array Value} {below : List Frame} {meth : Method} {c : Code} {T : State} {locs : List Loc} {cells slots : Nat}
theorem vx_callV (X : Stand p l e R s m args below meth c T locs cells slots) (hexec : p.tables.exec = Jvm.exec) {own C : String} {index : Nat} {y : MethodName} {bytes : ByteArray} {maxL : Nat} {ret : Option FieldType}
    (hown : s.vm.findClass own = some m.cls) (hlink : (Cond.methodLink own index y).before args s = true) (hinst : (Cond.instanceMethod y).before args s = true) (hsel : (Cond.selects C y y).before args s = true)
    (hcode : (Cond.code y bytes maxL ret).before args s = true) (hy : y.cls ≠ "java/lang/invoke/MethodHandle" ∧ y.cls ≠ "java/lang/invoke/VarHandle")
    {W9 : Nat} {Pre : Pt → Array Value → Prop} {Post : Pt → Array Value → Option Value → Pt → Prop} {PostX : Pt → Array Value → Addr → Pt → Prop} (hK : vx_Back l R p e below s args y 3 W9 Pre Post PostX)
    {b : Addr} {cellB : Cell} (hcell : T.heap[b]? = some cellB) (hobj : cellB.vm.isStatics = false) (hcls : s.vm.findClass C = some cellB.cls)
    {g : JFrame} (hg : g.method = m) (hsize : g.locals.size = c.maxLocals) {argsL rest : List Value} (hlen : ∀ sig, parseMethodDescriptor y.desc = some sig → argsL.length = sig.parameters.length)
    (hstack : g.stack = argsL.reverse ++ .ref b :: rest) (hW : 2 * g.monitorRoom + (rest.map fun v => v.category).sum ≤ W9) (hdg : decode c.code g.pc = .ok (.invokevirtual index, 3))
    (hpre : ∀ vm₁, s.WarmedH vm₁ → Pre ⟨T.setVm vm₁, locs, cells, slots⟩ (Value.ref b :: argsL).toArray) :
    (∃ (v : Option Value) (vm₁ : Vm) (B : Pt), s.WarmedH vm₁ ∧ Stand p l e R s m args below meth c B.U B.locs B.cells B.slots ∧ Post ⟨T.setVm vm₁, locs, cells, slots⟩ (Value.ref b :: argsL).toArray v B ∧
      ∀ target, Steps p.tables e below (B.U.setTop { g with pc := g.pc + 3, stack := v.toList ++ rest }) target → Steps p.tables e below (T.setTop g) target) ∨
    (∃ (q : Addr) (vm₁ : Vm) (B : Pt), s.WarmedH vm₁ ∧ Stand p l e R s m args below meth c B.U B.locs B.cells B.slots ∧ PostX ⟨T.setVm vm₁, locs, cells, slots⟩ (Value.ref b :: argsL).toArray q B ∧
      Steps p.tables e below (T.setTop g) ((B.U.setTop { g with stack := rest }).pushFrame (.throwing q))) := by
  obtain ⟨mk, methM, hnamed, hmethM, hstM, habM⟩ := Cond.instanceMethod_spec hinst
  obtain ⟨methM', cM, hmethM', -, -, -, -, -, -, hsigM⟩ := Cond.code_spec hnamed hcode
  cases hmethM.symm.trans hmethM'
  obtain ⟨c2, r2, m2, q1, q2, q3, q4, kP, hkP, hkPi⟩ := Cond.selects_spec hsel
  cases hcls.symm.trans q1
  cases (State.methodFound?_of_named hnamed hy).symm.trans q2
  cases hnamed.symm.trans q3
  have hselP : selectMethod e.platform s.vm cellB.cls mk = .method mk := by rw [Launch.admits_selectMethod X.admits]; exact q4
  obtain ⟨vm₁, X₁, hstep₁⟩ := X.invokevirtual hexec hown hlink hnamed hmethM hstM hkP hkPi hy (a := b) (cell := cellB) hcell
    (fun z h => by rw [h] at hobj; cases hobj) hselP hmethM habM hkP hkPi (g := g) hg (argsL := argsL) (rest := rest) (hlen _ hsigM) hstack hdg
  rcases hK m meth c ⟨T.setVm vm₁, locs, cells, slots⟩ { g with stack := rest } (.invokevirtual index) mk (Value.ref b :: argsL).toArray X₁ hg hsize hdg hW (X₁.named hnamed) (hpre vm₁ X₁.warmed) with ⟨v, B, X', hpost, hsteps⟩ | ⟨q, B, X', hpost, hsteps⟩
  · exact Or.inl ⟨v, vm₁, B, X₁.warmed, X', hpost, fun target h => hstep₁ _ fun acts => by rw [doInvoke_state]; exact hsteps.trans h⟩
  · exact Or.inr ⟨q, vm₁, B, X₁.warmed, X', hpost, hstep₁ _ fun acts => by rw [doInvoke_state]; exact hsteps⟩
theorem vx_callS (X : Stand p l e R s m args below meth c T locs cells slots) (hexec : p.tables.exec = Jvm.exec) {own : String} {index : Nat} {y : MethodName} {bytes : ByteArray} {maxL : Nat} {ret : Option FieldType}
    (hown : s.vm.findClass own = some m.cls) (hlink : (Cond.methodLink own index y).before args s = true) (hstat : (Cond.static y).before args s = true) (hinit : (Cond.initialized y.cls).before args s = true)
    (hcode : (Cond.code y bytes maxL ret).before args s = true) (hy : y.cls ≠ "java/lang/invoke/MethodHandle" ∧ y.cls ≠ "java/lang/invoke/VarHandle")
    {W9 : Nat} {Pre : Pt → Array Value → Prop} {Post : Pt → Array Value → Option Value → Pt → Prop} {PostX : Pt → Array Value → Addr → Pt → Prop} (hK : vx_Back l R p e below s args y 3 W9 Pre Post PostX)
    {g : JFrame} (hg : g.method = m) (hsize : g.locals.size = c.maxLocals) {argsL rest : List Value} (hlen : ∀ sig, parseMethodDescriptor y.desc = some sig → argsL.length = sig.parameters.length)
    (hstack : g.stack = argsL.reverse ++ rest) (hW : 2 * g.monitorRoom + (rest.map fun v => v.category).sum ≤ W9) (hdg : decode c.code g.pc = .ok (.invokestatic index, 3))
    (hpre : ∀ vm₁, s.WarmedH vm₁ → Pre ⟨T.setVm vm₁, locs, cells, slots⟩ argsL.toArray) :
    (∃ (v : Option Value) (vm₁ : Vm) (B : Pt), s.WarmedH vm₁ ∧ Stand p l e R s m args below meth c B.U B.locs B.cells B.slots ∧ Post ⟨T.setVm vm₁, locs, cells, slots⟩ argsL.toArray v B ∧
      ∀ target, Steps p.tables e below (B.U.setTop { g with pc := g.pc + 3, stack := v.toList ++ rest }) target → Steps p.tables e below (T.setTop g) target) ∨
    (∃ (q : Addr) (vm₁ : Vm) (B : Pt), s.WarmedH vm₁ ∧ Stand p l e R s m args below meth c B.U B.locs B.cells B.slots ∧ PostX ⟨T.setVm vm₁, locs, cells, slots⟩ argsL.toArray q B ∧
      Steps p.tables e below (T.setTop g) ((B.U.setTop { g with stack := rest }).pushFrame (.throwing q))) := by
  obtain ⟨mk, hnamed⟩ := Cond.code_named hcode
  obtain ⟨methM, cM, hmethM, -, -, -, -, -, -, hsigM⟩ := Cond.code_spec hnamed hcode
  have hstatic : methM.isStatic = true := Cond.static_spec hnamed hmethM hstat
  obtain ⟨kP, hkP, -⟩ := className_of_methodNamed hnamed
  have hinitP : kP.init = .initialized := Cond.initialized_spec (findClass_of_methodNamed hnamed) hkP hinit
  obtain ⟨vm₁, X₁, hstep₁⟩ := X.invokestatic hexec hown hlink hnamed hmethM hstatic hkP hinitP hy (g := g) hg (argsL := argsL) (rest := rest) (hlen _ hsigM) hstack hdg
  rcases hK m meth c ⟨T.setVm vm₁, locs, cells, slots⟩ { g with stack := rest } (.invokestatic index) mk argsL.toArray X₁ hg hsize hdg hW (X₁.named hnamed) (hpre vm₁ X₁.warmed) with ⟨v, B, X', hpost, hsteps⟩ | ⟨q, B, X', hpost, hsteps⟩
  · exact Or.inl ⟨v, vm₁, B, X₁.warmed, X', hpost, fun target h => hstep₁ _ fun acts => by rw [doInvoke_state]; exact hsteps.trans h⟩
  · exact Or.inr ⟨q, vm₁, B, X₁.warmed, X', hpost, hstep₁ _ fun acts => by rw [doInvoke_state]; exact hsteps⟩
end Calls
theorem vx_cls {s : State} {T : State} {vm₁ : Vm} {E : String} {k : ClassId} (hW : s.WarmedH vm₁) (h : (T.setVm vm₁).vm.findClass E = some k) : s.vm.findClass E = some k := by
  have h1 : vm₁.findClass E = some k := h
  rw [hW.alike.findClass] at h1
  exact h1
/-- the method's frame g, with q thrown over it -/
def vx_W (p : Program) (l : Launch) (e : Env) (R : Room) (s : State) (m : MethodId) (args : Array Value) (below : List Frame) (meth : Method) (c : Code) (H : Heap) (locs : List Loc) (cells slots : Nat) (Q : State → Prop) (g : JFrame) (q : Addr) : Prop :=
  ∀ T : State, T.heap = H → Stand p l e R s m args below meth c T locs cells slots → ∃ t, Steps p.tables e below ((T.setTop g).pushFrame (.throwing q)) t ∧ Q t
def vx_Run (p : Program) (l : Launch) (e : Env) (R : Room) (s : State) (m : MethodId) (args : Array Value) (below : List Frame) (meth : Method) (c : Code) (H : Heap) (locs : List Loc) (cells slots mc ms : Nat) (g : JFrame) (rest : List Value) (Qa : State → Outcome → State → Prop) (XC : String → State → State → Prop) (free : Addr → Prop) : Prop :=
  ∀ T : State, T.heap = H → Stand p l e R s m args below meth c T locs cells slots →
    (∃ (v : Option Value) (st₀ t T' : State) (L : List Loc), st₀.heap = H ∧ Stand p l e R s m args below meth c T' (locs ++ L) (cells + mc) (slots + ms) ∧ (∀ q ∈ L, free q.base) ∧ T'.heap = t.heap ∧ T'.vm = t.vm ∧ Qa st₀ (.returned v) t ∧
      Goes p e below T g T' { g with pc := g.pc + 3, stack := v.toList ++ rest }) ∨
    (∃ (q : Addr) (st₀ t T' : State) (L : List Loc) (E : String) (ce : Cell), st₀.heap = H ∧ Stand p l e R s m args below meth c T' (locs ++ L) (cells + mc) (slots + ms) ∧ (∀ z ∈ L, free z.base) ∧ T'.heap = t.heap ∧ T'.vm = t.vm ∧ XC E st₀ t ∧ t.heap[q]? = some ce ∧ ce.vm = .none ∧ s.vm.findClass E = some ce.cls ∧
      Steps p.tables e below (T.setTop g) ((T'.setTop { g with stack := rest }).pushFrame (.throwing q)))
def vx_X {S : Type} (px : S → Prop) (B : String → S → State → Prop) (A : Nat → Prop) : String → State → State → Prop := fun E st t => ∃ u : S, px u ∧ B E u t ∧ va_F A st t
section Runs
variable {p : Program} {l : Launch} {e : Env} {R : Room} {s : State} {m : MethodId} {args : Array Value} {below : List Frame} {meth : Method} {c : Code} {H : Heap} {locs : List Loc} {cells slots : Nat}
variable {y : MethodName} {bytes cc : ByteArray} {maxL nL mc ms n index : Nat} {ret : Option FieldType} {ws : List Cond} {rm : Room} {Pc : Array Value → State → Prop} {Qc : Array Value → State → Outcome → State → Prop} {XC : String → State → State → Prop} {free : Addr → Prop} {Ts : List Cond} {own C : String} {b : Addr} {As rest : List Value} {g : JFrame}
theorem vx_callBack (cb : CallB R s args own index y bytes maxL ret ws rm mc ms n) (hM : vx_Met l y ws rm Pc Qc XC mc ms free) (hbl : FrameBlind Pc) : vx_Back l R p e below s args y 3 8 (PreOf R mc ms Pc) (PostOf Qc mc ms free) (vx_Post XC mc ms free) := by
  obtain ⟨hrc, hrs, hfr, hlo, hws, hcw, -, hini, -⟩ := cb
  exact vx_back (bytes := bytes) (maxL := maxL) (ret := ret) hM hbl hrc hrs hfr hlo hws hcw (fun a' U hW => word_at hW (Or.inl (by first | rfl | simp [Cond.onTables, Cond.keeps, Cond.steady])) hini)
theorem vx_runV (S : CallFix p m c cc nL s args Ts own) (hM : vx_Met l y ws rm Pc Qc XC mc ms free) (cw : CallW R s args own C index y bytes maxL ret ws rm mc ms n) (hp : PreV s H C b Pc As)
    (hg : g.method = m) (hn : As.length = n) (hsize : g.locals.size = nL) (hstack : g.stack = As.reverse ++ .ref b :: rest) (hW : 2 * g.monitorRoom + (rest.map fun v => v.category).sum ≤ 8) (hdg : decode cc g.pc = .ok (.invokevirtual index, 3)) (hf : cells + mc ≤ R.cells ∧ slots + ms ≤ R.slots) :
    vx_Run p l e R s m args below meth c H locs cells slots mc ms g rest (Qc (Value.ref b :: As).toArray) XC free := by
  have hK : vx_Back l R p e below s args y 3 8 (PreOf R mc ms Pc) (PostOf Qc mc ms free) (vx_Post XC mc ms free) := vx_callBack cw.1 hM hp.1
  obtain ⟨⟨-, -, -, -, -, -, hcode, -, hy, hlen, hl⟩, hin, hse⟩ := cw
  obtain ⟨hx, hb, hml, ho, -⟩ := S
  obtain ⟨-, ⟨cellB, hcB, hoB, hclB⟩, hPc⟩ := hp
  intro T hT X
  rcases vx_callV X hx (C := C) (bytes := bytes) (maxL := maxL) (ret := ret) ho hl hin hse hcode hy hK (by rw [hT]; exact hcB) hoB hclB hg (hsize.trans hml.symm) (argsL := As) (rest := rest) (fun sig h => hn.trans (hlen sig h)) hstack hW (by rw [hb]; exact hdg)
    (fun vm₁ hW₁ => ⟨hf.1, hf.2, hPc (T.setVm vm₁) hT hW₁⟩) with ⟨v, vm₁, ⟨U', l2, c2, s2⟩, hW₁, X', ⟨g', mk, t, L, e1, e2, hq, h1, hL, h2, h3⟩, st⟩ | ⟨q, vm₁, ⟨U', l2, c2, s2⟩, hW₁, X', ⟨g', mk, t, L, E, ce, e1, e2, hq, hce, hcv, hcl, h1, hL, h2, h3⟩, st⟩
  · dsimp only [Pt.U, Pt.locs, Pt.cells, Pt.slots] at X' e1 e2 h1 h2 h3 st
    subst h1; subst h2; subst h3
    exact Or.inl ⟨v, (T.setVm vm₁).calling g' mk (Value.ref b :: As).toArray, t, U', L, hT, X', hL, e1, e2, hq, st⟩
  · dsimp only [Pt.U, Pt.locs, Pt.cells, Pt.slots] at X' e1 e2 h1 h2 h3 st hcl
    subst h1; subst h2; subst h3
    exact Or.inr ⟨q, (T.setVm vm₁).calling g' mk (Value.ref b :: As).toArray, t, U', L, E, ce, hT, X', hL, e1, e2, hq, hce, hcv, vx_cls hW₁ hcl, st⟩
theorem vx_runS (S : CallFix p m c cc nL s args Ts own) (hM : vx_Met l y ws rm Pc Qc XC mc ms free) (cw : CallB R s args own index y bytes maxL ret ws rm mc ms n ∧ (Cond.static y).before args s = true) (hp : PreS s H Pc As)
    (hg : g.method = m) (hn : As.length = n) (hsize : g.locals.size = nL) (hstack : g.stack = As.reverse ++ rest) (hW : 2 * g.monitorRoom + (rest.map fun v => v.category).sum ≤ 8) (hdg : decode cc g.pc = .ok (.invokestatic index, 3)) (hf : cells + mc ≤ R.cells ∧ slots + ms ≤ R.slots) :
    vx_Run p l e R s m args below meth c H locs cells slots mc ms g rest (Qc As.toArray) XC free := by
  have hK : vx_Back l R p e below s args y 3 8 (PreOf R mc ms Pc) (PostOf Qc mc ms free) (vx_Post XC mc ms free) := vx_callBack cw.1 hM hp.1
  obtain ⟨⟨-, -, -, -, -, -, hcode, hini, hy, hlen, hl⟩, hstt⟩ := cw
  obtain ⟨hx, hb, hml, ho, -⟩ := S
  intro T hT X
  rcases vx_callS X hx (bytes := bytes) (maxL := maxL) (ret := ret) ho hl hstt hini hcode hy hK hg (hsize.trans hml.symm) (argsL := As) (rest := rest) (fun sig h => hn.trans (hlen sig h)) hstack hW (by rw [hb]; exact hdg)
    (fun vm₁ hW₁ => ⟨hf.1, hf.2, hp.2 (T.setVm vm₁) hT hW₁⟩) with ⟨v, vm₁, ⟨U', l2, c2, s2⟩, hW₁, X', ⟨g', mk, t, L, e1, e2, hq, h1, hL, h2, h3⟩, st⟩ | ⟨q, vm₁, ⟨U', l2, c2, s2⟩, hW₁, X', ⟨g', mk, t, L, E, ce, e1, e2, hq, hce, hcv, hcl, h1, hL, h2, h3⟩, st⟩
  · dsimp only [Pt.U, Pt.locs, Pt.cells, Pt.slots] at X' e1 e2 h1 h2 h3 st
    subst h1; subst h2; subst h3
    exact Or.inl ⟨v, (T.setVm vm₁).calling g' mk As.toArray, t, U', L, hT, X', hL, e1, e2, hq, st⟩
  · dsimp only [Pt.U, Pt.locs, Pt.cells, Pt.slots] at X' e1 e2 h1 h2 h3 st hcl
    subst h1; subst h2; subst h3
    exact Or.inr ⟨q, (T.setVm vm₁).calling g' mk As.toArray, t, U', L, E, ce, hT, X', hL, e1, e2, hq, hce, hcv, vx_cls hW₁ hcl, st⟩
end Runs
section Rows
variable {p : Program} {l : Launch} {e : Env} {R : Room} {s : State} {m : MethodId} {args : Array Value} {below : List Frame} {meth : Method} {c : Code} {H : Heap} {locs : List Loc} {cells slots : Nat} {Q : State → Prop}
variable {mc ms : Nat} {free : Addr → Prop} {A0 A1 : Nat → Prop} {H0 : Heap} {a : Array Value} {pc : Nat} {ls : Array Slot} {st0 rest : List Value}
theorem vx_keep {st₀ t T' : State} {L : List Loc} (h0 : st₀.heap = H) (e1 : T'.heap = t.heap) (hS : va_S A0 H0 H locs) (hA : ∀ q, q < H.size → A1 q → A0 q) (hf : ∀ q, free q → A0 q) (hL : ∀ q ∈ L, free q.base) (hF : va_F A1 st₀ t) :
    H.size ≤ T'.heap.size ∧ (∀ q : Nat, q < H.size → ¬ A1 q → T'.heap[q]? = H[q]?) ∧ va_S A0 H0 T'.heap (locs ++ L) := by
  obtain ⟨hz, hk⟩ := hF
  rw [h0] at hz hk
  exact ⟨by rw [e1]; exact hz, fun q h1 h2 => by rw [e1]; exact hk q h1 h2,
    ⟨Nat.le_trans hS.1 (by rw [e1]; exact hz), fun q h1 h2 => by rw [e1, hk q (Nat.lt_of_lt_of_le h1 hS.1) (fun z => h2 (hA q (Nat.lt_of_lt_of_le h1 hS.1) z))]; exact hS.2.1 q h1 h2, fun q hq => by
      rcases List.mem_append.mp hq with h | h
      · exact hS.2.2 q h
      · exact hf _ (hL q h)⟩⟩
theorem vx_calli {S SX : Type} {post : Int32 → S → Prop} {px : SX → Prop} {B : S → State → Prop} {BX : String → SX → State → Prop} {AX : Nat → Prop} (hr : vx_Run p l e R s m args below meth c H locs cells slots mc ms (F0 m pc ls st0) rest (va_Qi post B A1 a) (vx_X px BX AX) free) (hS : va_S A0 H0 H locs) (hA : ∀ q, q < H.size → A1 q → A0 q) (hf : ∀ q, free q → A0 q) (hAX : ∀ q, q < H.size → AX q → A0 q)
    (kx : ∀ (E : String) (ce : Cell) (q9 : Addr) (u : SX) (t : State) (H1 : Heap) (locs1 : List Loc), t.heap = H1 → s.vm.Alike t.vm → px u → BX E u t → H.size ≤ H1.size → (∀ q : Nat, q < H.size → ¬ AX q → H1[q]? = H[q]?) → va_S A0 H0 H1 locs1 → H1[q9]? = some ce → ce.vm = .none → s.vm.findClass E = some ce.cls → vx_W p l e R s m args below meth c H1 locs1 (cells + mc) (slots + ms) Q (F0 m pc ls rest) q9)
    (kk : ∀ (r : Int32) (u : S) (t : State) (H1 : Heap) (locs1 : List Loc), t.heap = H1 → s.vm.Alike t.vm → post r u → B u t → H.size ≤ H1.size → (∀ q : Nat, q < H.size → ¬ A1 q → H1[q]? = H[q]?) → va_S A0 H0 H1 locs1 → W p l e R s m args below meth c H1 locs1 (cells + mc) (slots + ms) Q (F0 m (pc + 3) ls (.int r :: rest))) : W p l e R s m args below meth c H locs cells slots Q (F0 m pc ls st0) := by
  intro T hT X
  rcases hr T hT X with ⟨v, st₀, t, T', L, h0, X', hL, e1, e2, ⟨⟨r, u, hv, hp, hb⟩, hF⟩, st⟩ | ⟨q, st₀, t, T', L, E, ce, h0, X', hL, e1, e2, ⟨u, hp, hb, hF⟩, hce, hcv, hcl, st⟩
  · cases hv
    obtain ⟨k1, k2, k3⟩ := vx_keep h0 e1 hS hA hf hL hF
    obtain ⟨t2, a1, b1⟩ := kk r u t T'.heap (locs ++ L) e1.symm (by rw [← e2]; exact X'.warmed.alike) hp hb k1 k2 k3 T' rfl X'
    exact ⟨t2, st t2 a1, b1⟩
  · obtain ⟨k1, k2, k3⟩ := vx_keep h0 e1 hS hAX hf hL hF
    obtain ⟨t2, a1, b1⟩ := kx E ce q u t T'.heap (locs ++ L) e1.symm (by rw [← e2]; exact X'.warmed.alike) hp hb k1 k2 k3 (by rw [e1]; exact hce) hcv hcl T' rfl X'
    exact ⟨t2, st.trans a1, b1⟩
theorem vx_calll {S SX : Type} {post : Int64 → S → Prop} {px : SX → Prop} {B : S → State → Prop} {BX : String → SX → State → Prop} {AX : Nat → Prop} (hr : vx_Run p l e R s m args below meth c H locs cells slots mc ms (F0 m pc ls st0) rest (va_Ql post B A1 a) (vx_X px BX AX) free) (hS : va_S A0 H0 H locs) (hA : ∀ q, q < H.size → A1 q → A0 q) (hf : ∀ q, free q → A0 q) (hAX : ∀ q, q < H.size → AX q → A0 q)
    (kx : ∀ (E : String) (ce : Cell) (q9 : Addr) (u : SX) (t : State) (H1 : Heap) (locs1 : List Loc), t.heap = H1 → s.vm.Alike t.vm → px u → BX E u t → H.size ≤ H1.size → (∀ q : Nat, q < H.size → ¬ AX q → H1[q]? = H[q]?) → va_S A0 H0 H1 locs1 → H1[q9]? = some ce → ce.vm = .none → s.vm.findClass E = some ce.cls → vx_W p l e R s m args below meth c H1 locs1 (cells + mc) (slots + ms) Q (F0 m pc ls rest) q9)
    (kk : ∀ (r : Int64) (u : S) (t : State) (H1 : Heap) (locs1 : List Loc), t.heap = H1 → s.vm.Alike t.vm → post r u → B u t → H.size ≤ H1.size → (∀ q : Nat, q < H.size → ¬ A1 q → H1[q]? = H[q]?) → va_S A0 H0 H1 locs1 → W p l e R s m args below meth c H1 locs1 (cells + mc) (slots + ms) Q (F0 m (pc + 3) ls (.long r :: rest))) : W p l e R s m args below meth c H locs cells slots Q (F0 m pc ls st0) := by
  intro T hT X
  rcases hr T hT X with ⟨v, st₀, t, T', L, h0, X', hL, e1, e2, ⟨⟨r, u, hv, hp, hb⟩, hF⟩, st⟩ | ⟨q, st₀, t, T', L, E, ce, h0, X', hL, e1, e2, ⟨u, hp, hb, hF⟩, hce, hcv, hcl, st⟩
  · cases hv
    obtain ⟨k1, k2, k3⟩ := vx_keep h0 e1 hS hA hf hL hF
    obtain ⟨t2, a1, b1⟩ := kk r u t T'.heap (locs ++ L) e1.symm (by rw [← e2]; exact X'.warmed.alike) hp hb k1 k2 k3 T' rfl X'
    exact ⟨t2, st t2 a1, b1⟩
  · obtain ⟨k1, k2, k3⟩ := vx_keep h0 e1 hS hAX hf hL hF
    obtain ⟨t2, a1, b1⟩ := kx E ce q u t T'.heap (locs ++ L) e1.symm (by rw [← e2]; exact X'.warmed.alike) hp hb k1 k2 k3 (by rw [e1]; exact hce) hcv hcl T' rfl X'
    exact ⟨t2, st.trans a1, b1⟩
theorem vx_callf {S SX : Type} {post : UInt32 → S → Prop} {px : SX → Prop} {B : S → State → Prop} {BX : String → SX → State → Prop} {AX : Nat → Prop} (hr : vx_Run p l e R s m args below meth c H locs cells slots mc ms (F0 m pc ls st0) rest (va_Qf post B A1 a) (vx_X px BX AX) free) (hS : va_S A0 H0 H locs) (hA : ∀ q, q < H.size → A1 q → A0 q) (hf : ∀ q, free q → A0 q) (hAX : ∀ q, q < H.size → AX q → A0 q)
    (kx : ∀ (E : String) (ce : Cell) (q9 : Addr) (u : SX) (t : State) (H1 : Heap) (locs1 : List Loc), t.heap = H1 → s.vm.Alike t.vm → px u → BX E u t → H.size ≤ H1.size → (∀ q : Nat, q < H.size → ¬ AX q → H1[q]? = H[q]?) → va_S A0 H0 H1 locs1 → H1[q9]? = some ce → ce.vm = .none → s.vm.findClass E = some ce.cls → vx_W p l e R s m args below meth c H1 locs1 (cells + mc) (slots + ms) Q (F0 m pc ls rest) q9)
    (kk : ∀ (r : UInt32) (u : S) (t : State) (H1 : Heap) (locs1 : List Loc), t.heap = H1 → s.vm.Alike t.vm → post r u → B u t → H.size ≤ H1.size → (∀ q : Nat, q < H.size → ¬ A1 q → H1[q]? = H[q]?) → va_S A0 H0 H1 locs1 → W p l e R s m args below meth c H1 locs1 (cells + mc) (slots + ms) Q (F0 m (pc + 3) ls (.float r :: rest))) : W p l e R s m args below meth c H locs cells slots Q (F0 m pc ls st0) := by
  intro T hT X
  rcases hr T hT X with ⟨v, st₀, t, T', L, h0, X', hL, e1, e2, ⟨⟨r, u, hv, hp, hb⟩, hF⟩, st⟩ | ⟨q, st₀, t, T', L, E, ce, h0, X', hL, e1, e2, ⟨u, hp, hb, hF⟩, hce, hcv, hcl, st⟩
  · cases hv
    obtain ⟨k1, k2, k3⟩ := vx_keep h0 e1 hS hA hf hL hF
    obtain ⟨t2, a1, b1⟩ := kk r u t T'.heap (locs ++ L) e1.symm (by rw [← e2]; exact X'.warmed.alike) hp hb k1 k2 k3 T' rfl X'
    exact ⟨t2, st t2 a1, b1⟩
  · obtain ⟨k1, k2, k3⟩ := vx_keep h0 e1 hS hAX hf hL hF
    obtain ⟨t2, a1, b1⟩ := kx E ce q u t T'.heap (locs ++ L) e1.symm (by rw [← e2]; exact X'.warmed.alike) hp hb k1 k2 k3 (by rw [e1]; exact hce) hcv hcl T' rfl X'
    exact ⟨t2, st.trans a1, b1⟩
theorem vx_calld {S SX : Type} {post : UInt64 → S → Prop} {px : SX → Prop} {B : S → State → Prop} {BX : String → SX → State → Prop} {AX : Nat → Prop} (hr : vx_Run p l e R s m args below meth c H locs cells slots mc ms (F0 m pc ls st0) rest (va_Qd post B A1 a) (vx_X px BX AX) free) (hS : va_S A0 H0 H locs) (hA : ∀ q, q < H.size → A1 q → A0 q) (hf : ∀ q, free q → A0 q) (hAX : ∀ q, q < H.size → AX q → A0 q)
    (kx : ∀ (E : String) (ce : Cell) (q9 : Addr) (u : SX) (t : State) (H1 : Heap) (locs1 : List Loc), t.heap = H1 → s.vm.Alike t.vm → px u → BX E u t → H.size ≤ H1.size → (∀ q : Nat, q < H.size → ¬ AX q → H1[q]? = H[q]?) → va_S A0 H0 H1 locs1 → H1[q9]? = some ce → ce.vm = .none → s.vm.findClass E = some ce.cls → vx_W p l e R s m args below meth c H1 locs1 (cells + mc) (slots + ms) Q (F0 m pc ls rest) q9)
    (kk : ∀ (r : UInt64) (u : S) (t : State) (H1 : Heap) (locs1 : List Loc), t.heap = H1 → s.vm.Alike t.vm → post r u → B u t → H.size ≤ H1.size → (∀ q : Nat, q < H.size → ¬ A1 q → H1[q]? = H[q]?) → va_S A0 H0 H1 locs1 → W p l e R s m args below meth c H1 locs1 (cells + mc) (slots + ms) Q (F0 m (pc + 3) ls (.double r :: rest))) : W p l e R s m args below meth c H locs cells slots Q (F0 m pc ls st0) := by
  intro T hT X
  rcases hr T hT X with ⟨v, st₀, t, T', L, h0, X', hL, e1, e2, ⟨⟨r, u, hv, hp, hb⟩, hF⟩, st⟩ | ⟨q, st₀, t, T', L, E, ce, h0, X', hL, e1, e2, ⟨u, hp, hb, hF⟩, hce, hcv, hcl, st⟩
  · cases hv
    obtain ⟨k1, k2, k3⟩ := vx_keep h0 e1 hS hA hf hL hF
    obtain ⟨t2, a1, b1⟩ := kk r u t T'.heap (locs ++ L) e1.symm (by rw [← e2]; exact X'.warmed.alike) hp hb k1 k2 k3 T' rfl X'
    exact ⟨t2, st t2 a1, b1⟩
  · obtain ⟨k1, k2, k3⟩ := vx_keep h0 e1 hS hAX hf hL hF
    obtain ⟨t2, a1, b1⟩ := kx E ce q u t T'.heap (locs ++ L) e1.symm (by rw [← e2]; exact X'.warmed.alike) hp hb k1 k2 k3 (by rw [e1]; exact hce) hcv hcl T' rfl X'
    exact ⟨t2, st.trans a1, b1⟩
theorem vx_callv {S SX : Type} {post : S → Prop} {px : SX → Prop} {B : S → State → Prop} {BX : String → SX → State → Prop} {AX : Nat → Prop} (hr : vx_Run p l e R s m args below meth c H locs cells slots mc ms (F0 m pc ls st0) rest (va_Qv post B A1 a) (vx_X px BX AX) free) (hS : va_S A0 H0 H locs) (hA : ∀ q, q < H.size → A1 q → A0 q) (hf : ∀ q, free q → A0 q) (hAX : ∀ q, q < H.size → AX q → A0 q)
    (kx : ∀ (E : String) (ce : Cell) (q9 : Addr) (u : SX) (t : State) (H1 : Heap) (locs1 : List Loc), t.heap = H1 → s.vm.Alike t.vm → px u → BX E u t → H.size ≤ H1.size → (∀ q : Nat, q < H.size → ¬ AX q → H1[q]? = H[q]?) → va_S A0 H0 H1 locs1 → H1[q9]? = some ce → ce.vm = .none → s.vm.findClass E = some ce.cls → vx_W p l e R s m args below meth c H1 locs1 (cells + mc) (slots + ms) Q (F0 m pc ls rest) q9)
    (kk : ∀ (u : S) (t : State) (H1 : Heap) (locs1 : List Loc), t.heap = H1 → s.vm.Alike t.vm → post u → B u t → H.size ≤ H1.size → (∀ q : Nat, q < H.size → ¬ A1 q → H1[q]? = H[q]?) → va_S A0 H0 H1 locs1 → W p l e R s m args below meth c H1 locs1 (cells + mc) (slots + ms) Q (F0 m (pc + 3) ls (rest))) : W p l e R s m args below meth c H locs cells slots Q (F0 m pc ls st0) := by
  intro T hT X
  rcases hr T hT X with ⟨v, st₀, t, T', L, h0, X', hL, e1, e2, ⟨⟨u, hv, hp, hb⟩, hF⟩, st⟩ | ⟨q, st₀, t, T', L, E, ce, h0, X', hL, e1, e2, ⟨u, hp, hb, hF⟩, hce, hcv, hcl, st⟩
  · cases hv
    obtain ⟨k1, k2, k3⟩ := vx_keep h0 e1 hS hA hf hL hF
    obtain ⟨t2, a1, b1⟩ := kk u t T'.heap (locs ++ L) e1.symm (by rw [← e2]; exact X'.warmed.alike) hp hb k1 k2 k3 T' rfl X'
    exact ⟨t2, st t2 a1, b1⟩
  · obtain ⟨k1, k2, k3⟩ := vx_keep h0 e1 hS hAX hf hL hF
    obtain ⟨t2, a1, b1⟩ := kx E ce q u t T'.heap (locs ++ L) e1.symm (by rw [← e2]; exact X'.warmed.alike) hp hb k1 k2 k3 (by rw [e1]; exact hce) hcv hcl T' rfl X'
    exact ⟨t2, st.trans a1, b1⟩
/-- caught by the row x of this method's table; the rows ahead don't take it -/
theorem vx_catch {own name : String} {E : String} {ce : Cell} {q : Addr} (hown : s.vm.findClass own = some m.cls) (pre : List ExceptionTableEntry) (x : ExceptionTableEntry) (suf : List ExceptionTableEntry) (hsplit : c.exceptionTable.toList = pre ++ x :: suf)
    (hpass : ∀ z ∈ pre, covers z pc = false ∨ (z.catchType ≠ 0 ∧ ∃ nm : String, (Cond.classLink own z.catchType nm).before args s = true ∧ va_Nc E nm s)) (hx : covers x pc = true) (h0 : x.catchType ≠ 0)
    (hlink : (Cond.classLink own x.catchType name).before args s = true) (hcast : (Cond.castable E name).before args s = true) (hcell : H[q]? = some ce) (hv : ce.vm = .none) (hcl : s.vm.findClass E = some ce.cls)
    (kk : W p l e R s m args below meth c H locs cells slots Q (F0 m x.handlerPc ls [.ref q])) : vx_W p l e R s m args below meth c H locs cells slots Q (F0 m pc ls rest) q := by
  intro T hT X
  have hpl : e.platform.magicAccessors = ({} : Platform).magicAccessors := by rw [X.admits.platform]
  obtain ⟨c3, c4, hc3, hc4, hasg⟩ := Cond.castable_spec hcast
  cases Option.some.inj (hc3.symm.trans hcl)
  obtain ⟨c5, hc5, hcl5⟩ := Cond.classLink_spec hown hlink e.platform hpl
  cases Option.some.inj (hc4.symm.trans hc5)
  obtain ⟨vm', X', st⟩ := X.thenCaughtThrough q (g := F0 m pc ls rest) rfl (Steps.refl _) (by rw [hT]; exact hcell) (by rw [hv]; rfl) (by obtain ⟨k9, h9, -⟩ := Vm.findClass_spec hcl; exact ⟨k9, h9⟩) pre x suf hsplit
    (fun z hz => by
      rcases hpass z hz with h | ⟨hz0, nm, hl1, hn1⟩
      · exact Or.inl h
      · obtain ⟨c6, hc6, hcl6⟩ := Cond.classLink_spec hown hl1 e.platform hpl
        obtain ⟨a8, b8, h1, h2, h3⟩ := hn1
        cases Option.some.inj (h1.symm.trans hcl)
        cases Option.some.inj (h2.symm.trans hc6)
        exact Or.inr ⟨hz0, _, hcl6, h3⟩) hx (Or.inr ⟨h0, c4, hcl5, hasg⟩)
  obtain ⟨t, a1, b1⟩ := kk (T.setVm vm') hT X'
  exact ⟨t, st.trans a1, b1⟩
end Rows
section Ends
variable {p : Program} {l : Launch} {e : Env} {R : Room} {s : State} {m : MethodId} {args : Array Value} {below : List Frame} {meth : Method} {c : Code} {H : Heap} {locs : List Loc} {cells slots : Nat} {Q : State → Prop}
variable {mc ms : Nat} {free : Addr → Prop} {A0 A1 : Nat → Prop} {H0 : Heap} {a : Array Value} {ls : Array Slot} {st0 rest : List Value}
variable {Qc : Array Value → State → Outcome → State → Prop} {XC : String → State → State → Prop}
/-- what a body that may throw owes at its end -/
def vx_MQ (below : List Frame) (Qc : Array Value → State → Outcome → State → Prop) (XC : String → State → State → Prop) (a : Array Value) (s : State) (mc ms : Nat) (free : Addr → Prop) : State → Prop := fun t =>
  ∃ o, t.status = .running ∧ Ended t below o ∧ vx_Q Qc XC mc ms free a s o t
theorem vx_ret {g : JFrame} {mc ms : Nat} (k : W p l e R s m args below meth c H locs cells slots (MQ below Qc args s mc ms free) g) : W p l e R s m args below meth c H locs cells slots (vx_MQ below Qc XC args s mc ms free) g := by
  intro T hT X
  obtain ⟨t, a1, o, b1, b2, b3, b4⟩ := k T hT X
  exact ⟨t, a1, o, b1, b2, Or.inl ⟨b3, b4⟩⟩
/-- not caught here: it goes on to the caller -/
theorem vx_widen {g : JFrame} {q : Addr} {k n : Nat} (h1 : cells ≤ k) (h2 : slots ≤ n) (kk : vx_W p l e R s m args below meth c H locs k n Q g q) : vx_W p l e R s m args below meth c H locs cells slots Q g q := fun T hT X => kk T hT (stand_widen X h1 h2)
theorem vx_out {pc : Nat} {E : String} {ce : Cell} {q : Addr} {mc ms : Nat} (hout : ∀ x ∈ c.exceptionTable.toList, covers x pc = false) (hlocks : meth.locks = false) (hcell : H[q]? = some ce) (hv : ce.vm = .none) (hcl : s.vm.findClass E = some ce.cls)
    (hx : ∀ t : State, t.heap = H → s.vm.Alike t.vm → XC E s t) (hf : ∀ z ∈ locs, free z.base) (hc : cells ≤ mc) (hs : slots ≤ ms) :
    vx_W p l e R s m args below meth c H locs cells slots (vx_MQ below Qc XC args s mc ms free) (F0 m pc ls rest) q := by
  intro T hT X
  obtain ⟨st1, hrun, hend, hW, hsm⟩ := X.leaveThrown q (g := F0 m pc ls rest) rfl rfl rfl hout hlocks
  have hcell9 : (T.setFrames (.throwing q :: below)).heap[q]? = some ce := by
    show T.heap[q]? = some ce
    rw [hT]; exact hcell
  exact ⟨_, st1, .threw q, hrun, hend, Or.inr ⟨q, rfl, E, ce, locs, hx _ hT hW.alike, hcell9, hv, hcl, hW, hsm.mono hc hs, hf⟩⟩
theorem vx_frame {U : State} {k n : Nat} (h : s.sameButNew ({ U with vm := s.vm } : State) locs k n) : s.heap.size ≤ U.heap.size ∧ ∀ q : Nat, q < s.heap.size → (∀ z ∈ locs, z.base ≠ q) → U.heap[q]? = s.heap[q]? := by
  obtain ⟨-, h2, -, -, -, h6⟩ := h
  refine ⟨h2, fun q hq hz => ?_⟩
  obtain ⟨c9, e1, e2, e3, e4⟩ := h6 q _ (Array.getElem?_eq_getElem hq)
  have hs : c9.slots = (s.heap[q]).slots := Array.ext_getElem? fun i => e4 i fun hm => hz _ hm rfl
  have h9 : c9 = s.heap[q] := by
    rw [hs] at e2
    exact e2
  have e5 : U.heap[q]? = some c9 := e1
  rw [e5, h9, Array.getElem?_eq_getElem hq]
/-- the words of a throw but the four that speak of the heap -/
def vx_no (w : Cond) : Bool := decide (w ≠ .isRef (.static Bundle.tN "UNASSIGNED_STACK" Bundle.steD)) && decide (w ≠ .isRef (.static Bundle.tN "SUPPRESSED_SENTINEL" Bundle.listD)) && decide (w ≠ .laysStatic Bundle.tN "UNASSIGNED_STACK" Bundle.steD) && decide (w ≠ .laysStatic Bundle.tN "SUPPRESSED_SENTINEL" Bundle.listD)
def vx_at0 (own : String) (ic : Nat) (X : String) (names : List String) : List Cond := (Bundle.ownAtoms0 own ic X names).filter vx_no
def vx_atS (own : String) (ic : Nat) (X : String) (names : List String) : List Cond := (Bundle.ownAtoms own ic X names).filter vx_no
/-- a word that the tables alone decide, or a good one -/
def vx_ot (w : Cond) : Bool := w.onTables || goodWord w
theorem vx_ot_at {args a' : Array Value} {s U : State} {w : Cond} (hW : s.WarmedH U.vm) (hvm : s.vm = U.vm) (hg : vx_ot w = true) (h : w.before args s = true) : w.before a' U = true := by
  simp only [vx_ot, Bool.or_eq_true] at hg
  rcases hg with hg | hg
  · exact va_tabs hg hvm h
  · exact word_at hW (good_of_word hg) h
/-- a list's words: the good ones out of the method's own list, the others by premises of their own -/
theorem vx_hat {args : Array Value} {s : State} {L B : List Cond} (h1 : ∀ w ∈ L.filter goodWord, w.before args s = true) (h2 : ∀ w ∈ L.filter (fun w => !goodWord w), w ∈ B) (h3 : ∀ w ∈ B, w.before args s = true) : ∀ w ∈ L, w.before args s = true := by
  intro w hw
  by_cases g : goodWord w = true
  · exact h1 w (List.mem_filter.mpr ⟨hw, g⟩)
  · refine h3 w (h2 w (List.mem_filter.mpr ⟨hw, ?_⟩))
    show (!goodWord w) = true
    cases hgw : goodWord w
    · rfl
    · exact absurd hgw g
theorem vx_c {args : Array Value} {s : State} {w : Cond} {B : List Cond} (h : w.before args s = true) (t : ∀ w ∈ B, w.before args s = true) : ∀ w' ∈ w :: B, w'.before args s = true := fun w' h' => (List.mem_cons.mp h').elim (fun e => by rw [e]; exact h) (t w')
theorem vx_n {args : Array Value} {s : State} : ∀ w ∈ ([] : List Cond), w.before args s = true := fun _ h => nomatch h
theorem vx_own {args : Array Value} {s : State} {L : List Cond} (h1 : ∀ w ∈ L.filter vx_no, w.before args s = true)
    (hU : (Cond.isRef (.static Bundle.tN "UNASSIGNED_STACK" Bundle.steD)).before args s = true) (hN : (Cond.isRef (.static Bundle.tN "SUPPRESSED_SENTINEL" Bundle.listD)).before args s = true)
    (lU : (Cond.laysStatic Bundle.tN "UNASSIGNED_STACK" Bundle.steD).before args s = true) (lN : (Cond.laysStatic Bundle.tN "SUPPRESSED_SENTINEL" Bundle.listD).before args s = true) : ∀ w ∈ L, w.before args s = true := by
  intro w hw
  by_cases e1 : w = .isRef (.static Bundle.tN "UNASSIGNED_STACK" Bundle.steD)
  · rw [e1]; exact hU
  · by_cases e2 : w = .isRef (.static Bundle.tN "SUPPRESSED_SENTINEL" Bundle.listD)
    · rw [e2]; exact hN
    · by_cases e3 : w = .laysStatic Bundle.tN "UNASSIGNED_STACK" Bundle.steD
      · rw [e3]; exact lU
      · by_cases e4 : w = .laysStatic Bundle.tN "SUPPRESSED_SENTINEL" Bundle.listD
        · rw [e4]; exact lN
        · exact h1 w (List.mem_filter.mpr ⟨hw, by unfold vx_no; rw [decide_eq_true e1, decide_eq_true e2, decide_eq_true e3, decide_eq_true e4]; rfl⟩)
/-- where a static field lies, its class's statics cell in H -/
def vx_L (C n d : String) (A : Nat → Prop) (U : State) (H : Heap) : Prop := ∃ (c : ClassId) (k : Class) (i : Nat) (f : Field) (a : Nat) (cell : Cell), U.vm.findClass C = some c ∧ U.fieldFound? C n d = some (c, k, i, f) ∧ f.isStatic = true ∧ k.statics = some a ∧ H[a]? = some cell ∧ cell.vm.isStatics = true ∧ cell.cls = c ∧ f.slot < cell.slots.size ∧ k.staticTypes[f.slot]? = some f.type ∧ ¬ A a
theorem vx_L.moved {C n d : String} {A : Nat → Prop} {u U : State} {H : Heap} (hvm : u.vm.Alike U.vm) (h : vx_L C n d A u H) : vx_L C n d A U H := by
  obtain ⟨c, k, i, f, a, cell, h1, h2, h3, h4, h5, h6, h7, h8, h9, h10⟩ := h
  obtain ⟨k', hi', he⟩ := State.fieldFound?_setVm hvm h2
  exact ⟨c, k', i, f, a, cell, by rw [hvm.findClass]; exact h1, hi', h3, by rw [he]; exact h4, h5, h6, h7, h8, by rw [he]; exact h9, h10⟩
theorem vx_L.kept {C n d : String} {A : Nat → Prop} {U : State} {H H1 : Heap} (h : vx_L C n d A U H) (hq : ∀ a : Nat, a < H.size → ¬ A a → H1[a]? = H[a]?) : vx_L C n d A U H1 := by
  obtain ⟨c, k, i, f, a, cell, h1, h2, h3, h4, h5, h6, h7, h8, h9, h10⟩ := h
  exact ⟨c, k, i, f, a, cell, h1, h2, h3, h4, by rw [hq a (Array.getElem?_eq_some_iff.mp h5).1 h10]; exact h5, h6, h7, h8, h9, h10⟩
theorem vx_L.narrow {C n d : String} {A B : Nat → Prop} {U : State} {H : Heap} (h : vx_L C n d A U H) (hAB : ∀ q, B q → A q) : vx_L C n d B U H := by
  obtain ⟨c, k, i, f, a, cell, h1, h2, h3, h4, h5, h6, h7, h8, h9, h10⟩ := h
  exact ⟨c, k, i, f, a, cell, h1, h2, h3, h4, h5, h6, h7, h8, h9, fun z => h10 (hAB _ z)⟩
theorem vx_L.word {C n d : String} {A : Nat → Prop} {s : State} {args : Array Value} (h : vx_L C n d A s s.heap) : (Cond.laysStatic C n d).before args s = true := by
  obtain ⟨c, k, i, f, a, cell, h1, h2, h3, h4, h5, h6, h7, h8, h9, -⟩ := h
  show (Cond.laysStatic C n d).holds args s none s [] = true
  exact Cond.laysStatic_of h1 h2 h3 h4 h5 h6 h7 h8 h9
/-- .. and what it holds: null or some reference -/
def vx_Zq (C n d : String) (A : Nat → Prop) (U : State) (H : Heap) : Prop := va_Zq C n d A U H ∧ vx_L C n d A U H
theorem vx_Zq.moved {C n d : String} {A : Nat → Prop} {u U : State} {H : Heap} (hvm : u.vm.Alike U.vm) (h : vx_Zq C n d A u H) : vx_Zq C n d A U H := ⟨va_Zq.moved hvm h.1, vx_L.moved hvm h.2⟩
theorem vx_Zq.kept {C n d : String} {A : Nat → Prop} {U : State} {H H1 : Heap} (h : vx_Zq C n d A U H) (hq : ∀ a : Nat, a < H.size → ¬ A a → H1[a]? = H[a]?) : vx_Zq C n d A U H1 := ⟨va_Zq.kept h.1 hq, vx_L.kept h.2 hq⟩
theorem vx_Zq.narrow {C n d : String} {A B : Nat → Prop} {U : State} {H : Heap} (h : vx_Zq C n d A U H) (hAB : ∀ q, B q → A q) : vx_Zq C n d B U H := ⟨va_Zq.narrow h.1 hAB, vx_L.narrow h.2 hAB⟩
theorem vx_Zqof {args : Array Value} {s : State} {C n d : String} {A : Nat → Prop} (hl : (Cond.laysStatic C n d).before args s = true) (hini : (Cond.initialized C).before args s = true) (h : (Cond.isRef (.static C n d)).before args s = true) (hA : ∀ a : Nat, a < s.heap.size → ¬ A a) : vx_Zq C n d A s s.heap := by
  refine ⟨va_Zqof hl hini h hA, ?_⟩
  obtain ⟨c, k, i, f, a, cell, h1, h2, h3, h4, h5, h6, h7, h8, h9⟩ := Cond.laysStatic_spec hl
  exact ⟨c, k, i, f, a, cell, h1, h2, h3, h4, h5, h6, h7, h8, h9, hA a (Array.getElem?_eq_some_iff.mp h5).1⟩
theorem vx_isRef {C n d : String} {v : Value} {A : Nat → Prop} {s : State} {args : Array Value} (h : va_Z C n d v A s s.heap) (hv : v.isRef = true) : (Cond.isRef (.static C n d)).before args s = true := by
  obtain ⟨cf, kf, fi, f, a, cell, h1, h2, h3, h4, h5, h6, h7, -⟩ := h
  have he : (Term.static C n d).eval args s none [] s = some v := by
    simp [Term.eval, State.fieldNamed?, h1, h2, h4, h5, h6, h7]
  simp only [Cond.before, Cond.holds, Cond.value, he]
  cases v <;> simp_all [Value.isRef]
theorem vx_isRefq {C n d : String} {A : Nat → Prop} {s : State} {args : Array Value} (h : va_Zq C n d A s s.heap) : (Cond.isRef (.static C n d)).before args s = true := by
  rcases h with h | ⟨t, h⟩
  · exact vx_isRef h rfl
  · exact vx_isRef h rfl
/-- the same frame, seen from here: as if the method were called anew in this heap -/
theorem vx_rebase {T : State} (X : Stand p l e R s m args below meth c T locs cells slots) {R' : Room} (hf : R'.frames ≤ R.frames) (hl : R'.locals ≤ R.locals) (hc : cells + R'.cells ≤ R.cells) (hs : slots + R'.slots ≤ R.slots) :
    Stand p l e R' ((T.setVm s.vm).setFrames (.invoking m args :: below)) m args below meth c T [] 0 0 := by
  have htop : (T.setVm s.vm).topJava?.isSome := X.here.top
  have hF : ((T.setVm s.vm).setFrames (.invoking m args :: below)).frames = .invoking m args :: below := State.frames_setFrames _ (State.cur_lt_of_top htop)
  obtain ⟨g₀, hg0⟩ := Option.isSome_iff_exists.mp htop
  obtain ⟨r, hr⟩ := State.topJava?_eq_some.mp hg0
  have hl9 : e.platform.stackLimits (T.setVm s.vm).me = e.platform.stackLimits s.me := X.limits
  have hb9 : (T.setVm s.vm).me.stackBytes = s.me.stackBytes := X.bytes
  refine ⟨X.admits, X.cas, X.clock, hF, ?_, X.hears, X.method, X.code, X.here, X.tail, X.warmed, ?_, ?_, ?_⟩
  · have h := X.room
    have hU : ((T.setVm s.vm).setFrames (.invoking m args :: below)).localsInUse = s.localsInUse := by
      rw [State.localsInUse_invoking hF (meth := meth) (c := c) X.method X.code, State.localsInUse_invoking X.frames X.method X.code]
    simp only [State.hasRoom, Bool.and_eq_true, decide_eq_true_eq] at h ⊢
    obtain ⟨⟨⟨⟨h1, h2, h3, h4, h5, h6⟩, h7⟩, h8⟩, h9⟩ := h
    rw [X.frames, List.length_cons] at h2 h3
    have q1 := X.heapSize
    have q2 := X.used
    simp only [hF, hU, List.length_cons, State.stackLimits_setFrames, State.stackBytes_setFrames, hl9, hb9]
    refine ⟨⟨⟨⟨by omega, by omega, by omega, by omega, by omega, h6⟩, ?_⟩, ?_⟩, X.book⟩
    · show T.heap.size + R'.cells ≤ e.platform.maxCells
      omega
    · show T.slotsUsed + R'.slots ≤ e.platform.maxSlots
      omega
  · rw [State.stackLimits_setFrames]; rfl
  · rw [State.stackBytes_setFrames]; rfl
  · refine ⟨?_, Nat.le_refl _, Nat.le_refl _, ?_, ?_, fun a c9 h9 => ⟨c9, h9, rfl, rfl, fun _ _ => rfl⟩⟩
    · obtain ⟨t, ht, -⟩ := State.frames_cons hr
      show T.setVm s.vm = { ((T.setVm s.vm).setFrames (.invoking m args :: below)).setFrames (T.setVm s.vm).frames with heap := T.heap, slotsUsed := T.slotsUsed }
      rw [State.setFrames_setFrames, State.setFrames_self ht]
      rfl
    · show T.slotsUsed = T.slotsUsed + ((T.heap.toList.drop T.heap.size).map (·.slots.size)).sum
      rw [List.drop_eq_nil_of_le (Nat.le_of_eq Array.length_toList)]
      rfl
    · show ((T.heap.toList.drop T.heap.size).map (·.slots.size)).sum ≤ 0
      rw [List.drop_eq_nil_of_le (Nat.le_of_eq Array.length_toList)]
      exact Nat.le_refl _
/-- 'throw new E()': new; dup; invokespecial; athrow -/
theorem vx_throw0 {cc : ByteArray} {pc : Nat} (hexec : p.tables.exec = Jvm.exec) (hb : c.code = cc) (hl : l.stackTraces = false) {own cls : String} {names : List String} {ik ic mc ms : Nat} {A : Nat → Prop}
    (hown : s.vm.findClass own = some m.cls) (hcls : Bundle.fit cls = true) (hnames : ∀ n ∈ names, Bundle.fit n = true)
    (hk : (Cond.classLink own ik cls).before args s = true) (hini : (Cond.initialized cls).before args s = true) (hat : ∀ w ∈ vx_at0 own ic cls names, w.before args s = true)
    (hgood : ∀ w ∈ Cond.classLink own ik cls :: Cond.initialized cls :: vx_at0 own ic cls names, vx_ot w = true)
    (hU : vx_Zq Bundle.tN "UNASSIGNED_STACK" Bundle.steD A s s.heap) (hN : vx_Zq Bundle.tN "SUPPRESSED_SENTINEL" Bundle.listD A s s.heap) (hS : va_S A s.heap H locs) (hsize : ls.size = c.maxLocals)
    (d0 : decode cc pc = .ok (.new ik, 3)) (d3 : decode cc (pc + 3) = .ok (.dup, 1)) (d4 : decode cc (pc + 4) = .ok (.invokespecial ic, 3)) (d7 : decode cc (pc + 7) = .ok (.athrow, 1))
    (hout : ∀ x ∈ c.exceptionTable.toList, covers x (pc + 7) = false)
    (hRframes : names.length + 3 < R.frames) (hRlocals : (rest.map fun v => v.category).sum + (13 * (names.length + 1) + 42) ≤ R.locals) (hRcells : cells + 1 ≤ R.cells) (hRslots : slots + 6 ≤ R.slots) (hlocks : meth.locks = false)
    (hx : ∀ t : State, s.vm.Alike t.vm → H.size ≤ t.heap.size → (∀ q : Nat, q < H.size → t.heap[q]? = H[q]?) → XC cls s t)
    (hf : ∀ z ∈ locs, free z.base) (hc : cells + 1 ≤ mc) (hs : slots + 6 ≤ ms) :
    W p l e R s m args below meth c H locs cells slots (vx_MQ below Qc XC args s mc ms free) (F0 m pc ls rest) := by
  intro T hT X
  have htr : e.platform.stackTraces = false := (show e.platform.stackTraces = l.stackTraces by rw [X.admits.platform]).trans hl
  have Y := vx_rebase X (R' := { frames := R.frames, locals := R.locals, cells := 1, slots := 6 }) (Nat.le_refl _) (Nat.le_refl _) hRcells hRslots
  obtain ⟨s', hA⟩ : ∃ z, z = (T.setVm s.vm).setFrames (.invoking m args :: below) := ⟨_, rfl⟩
  rw [← hA] at Y
  have hvm : s'.vm = s.vm := by rw [hA]; rfl
  have hhp : s'.heap = H := by rw [hA]; exact hT
  have hW0 : s.WarmedH s'.vm := by rw [hvm]; exact State.WarmedH.refl s
  have hat' : ∀ w ∈ vx_at0 own ic cls names, w.before args s' = true := fun w hw => vx_ot_at hW0 hvm.symm (hgood w (List.mem_cons_of_mem _ (List.mem_cons_of_mem _ hw))) (hat w hw)
  have hk' : (Cond.classLink own ik cls).before args s' = true := vx_ot_at hW0 hvm.symm (hgood _ List.mem_cons_self) hk
  have hini' : (Cond.initialized cls).before args s' = true := vx_ot_at hW0 hvm.symm (hgood _ (List.mem_cons_of_mem _ List.mem_cons_self)) hini
  have hU' : vx_Zq Bundle.tN "UNASSIGNED_STACK" Bundle.steD A s' s'.heap := by rw [hhp]; exact vx_Zq.moved hW0.alike (hU.kept hS.2.1)
  have hN' : vx_Zq Bundle.tN "SUPPRESSED_SENTINEL" Bundle.listD A s' s'.heap := by rw [hhp]; exact vx_Zq.moved hW0.alike (hN.kept hS.2.1)
  have h : ∀ w ∈ Bundle.ownAtoms0 own ic cls names, w.before args s' = true := vx_own hat' (vx_isRefq hU'.1) (vx_isRefq hN'.1) hU'.2.word hN'.2.word
  have hown' : s'.vm.findClass own = some m.cls := by rw [hvm]; exact hown
  have hins : (Cond.instantiable cls 6).before args s' = true := h _ (by simp [Bundle.ownAtoms0])
  obtain ⟨vm₁, cX, kX, hfX, hkX, -, -, X₁, st1⟩ := Y.newCold hexec (own := own) (C := cls) (index := ik) (n := 6) hown' hk' hins hini'
    (g := F0 m pc ls rest) rfl (by rw [hb]; exact d0) (Nat.le_refl _) (Nat.le_refl _)
  generalize hT1 : (T.setVm vm₁).pushCell { cls := cX, slots := kX.instanceTypes.map defaultValue, vm := .none } = T1 at X₁ st1
  have hcat : (Value.ref T.heap.size).category = 1 := rfl
  have hcellA : T1.heap[T.heap.size]? = some (freshCell cX kX) := by rw [← hT1]; exact State.heap_pushCell_size _ _
  have d3' : decode c.code (pc + 3) = .ok (.dup, 1) := by rw [hb]; exact d3
  obtain ⟨U, hsteps, hrun, hend, hW, hsame, ce, hce, hO⟩ := X₁.ctorThrow0 hexec htr (own := own) (cls := cls) (names := names) (ic := ic) hown' hcls hnames h (fun x hx => nomatch hx) hfX hkX hcellA (by rw [hhp, hT]; exact Nat.le_refl _)
    (g := { method := m, pc := pc + 4, locals := ls, stack := .ref T.heap.size :: .ref T.heap.size :: rest, locked := none }) rfl hsize rfl rfl (rest := rest) rfl
    (by rw [hb]; exact d4) (by rw [hb]; exact d7) hout hRframes (by simp only [List.map_cons, List.sum_cons, hcat]; omega) hlocks
  obtain ⟨f1, f2⟩ := vx_frame hsame
  rw [hhp] at f1 f2
  have hWs : s.WarmedH U.vm := State.WarmedH.trans hW0 hW
  have hcl : s.vm.findClass cls = some ce.cls := by
    have h9 := hO.cls
    rw [hvm] at h9
    exact h9
  have hall : s.sameButNew ({ U with vm := s.vm } : State) locs mc ms := by
    subst hA
    obtain ⟨e1, e2⟩ := hsame
    rw [State.setFrames_setFrames] at e1
    have h2 : (T.setVm s.vm).sameButNew ({ U with vm := s.vm } : State) [] (0 + 1) (0 + 6) := ⟨e1, e2⟩
    have h3 := X.same.trans h2
    rw [List.append_nil] at h3
    exact h3.mono hc hs
  refine ⟨U, ?_, .threw T.heap.size, hrun, hend, Or.inr ⟨T.heap.size, rfl, cls, ce, locs, hx U hWs.alike f1 (fun q hq => f2 q hq (fun z hz => nomatch hz)), hce, hO.vm, hcl, hWs, hall, hf⟩⟩
  refine st1 _ ?_
  show Steps p.tables e below (T1.setTop { method := m, pc := pc + 3, locals := ls, stack := .ref T.heap.size :: rest, locked := none }) _
  jvm_step X₁.here [X₁.here.top, hexec, d3', Value.category]
  exact hsteps
/-- 'throw new E("text")': new; dup; ldc; invokespecial; athrow -/
theorem vx_throwS {cc : ByteArray} {pc : Nat} (hexec : p.tables.exec = Jvm.exec) (hb : c.code = cc) (hl : l.stackTraces = false) {own cls text : String} {names : List String} {ik is ic mc ms sa : Nat} {A : Nat → Prop}
    (hown : s.vm.findClass own = some m.cls) (hcls : Bundle.fit cls = true) (hnames : ∀ n ∈ names, Bundle.fit n = true)
    (hk : (Cond.classLink own ik cls).before args s = true) (hini : (Cond.initialized cls).before args s = true) (hstr : vk_R own is text sa s) (hat : ∀ w ∈ vx_atS own ic cls names, w.before args s = true)
    (hgood : ∀ w ∈ Cond.classLink own ik cls :: Cond.initialized cls :: vx_atS own ic cls names, vx_ot w = true)
    (hU : vx_Zq Bundle.tN "UNASSIGNED_STACK" Bundle.steD A s s.heap) (hN : vx_Zq Bundle.tN "SUPPRESSED_SENTINEL" Bundle.listD A s s.heap) (hS : va_S A s.heap H locs) (hsize : ls.size = c.maxLocals)
    (d0 : decode cc pc = .ok (.new ik, 3)) (d3 : decode cc (pc + 3) = .ok (.dup, 1)) (d4 : decode cc (pc + 4) = .ok (.ldc is, 2)) (d6 : decode cc (pc + 6) = .ok (.invokespecial ic, 3)) (d9 : decode cc (pc + 9) = .ok (.athrow, 1))
    (hout : ∀ x ∈ c.exceptionTable.toList, covers x (pc + 9) = false)
    (hRframes : names.length + 3 < R.frames) (hRlocals : (rest.map fun v => v.category).sum + (13 * (names.length + 1) + 43) ≤ R.locals) (hRcells : cells + 1 ≤ R.cells) (hRslots : slots + 6 ≤ R.slots) (hlocks : meth.locks = false)
    (hx : ∀ t : State, s.vm.Alike t.vm → H.size ≤ t.heap.size → (∀ q : Nat, q < H.size → t.heap[q]? = H[q]?) → XC cls s t)
    (hf : ∀ z ∈ locs, free z.base) (hc : cells + 1 ≤ mc) (hs : slots + 6 ≤ ms) :
    W p l e R s m args below meth c H locs cells slots (vx_MQ below Qc XC args s mc ms free) (F0 m pc ls rest) := by
  intro T hT X
  have htr : e.platform.stackTraces = false := (show e.platform.stackTraces = l.stackTraces by rw [X.admits.platform]).trans hl
  have Y := vx_rebase X (R' := { frames := R.frames, locals := R.locals, cells := 1, slots := 6 }) (Nat.le_refl _) (Nat.le_refl _) hRcells hRslots
  obtain ⟨s', hA⟩ : ∃ z, z = (T.setVm s.vm).setFrames (.invoking m args :: below) := ⟨_, rfl⟩
  rw [← hA] at Y
  have hvm : s'.vm = s.vm := by rw [hA]; rfl
  have hhp : s'.heap = H := by rw [hA]; exact hT
  have hW0 : s.WarmedH s'.vm := by rw [hvm]; exact State.WarmedH.refl s
  have hat' : ∀ w ∈ vx_atS own ic cls names, w.before args s' = true := fun w hw => vx_ot_at hW0 hvm.symm (hgood w (List.mem_cons_of_mem _ (List.mem_cons_of_mem _ hw))) (hat w hw)
  have hk' : (Cond.classLink own ik cls).before args s' = true := vx_ot_at hW0 hvm.symm (hgood _ List.mem_cons_self) hk
  have hini' : (Cond.initialized cls).before args s' = true := vx_ot_at hW0 hvm.symm (hgood _ (List.mem_cons_of_mem _ List.mem_cons_self)) hini
  have hU' : vx_Zq Bundle.tN "UNASSIGNED_STACK" Bundle.steD A s' s'.heap := by rw [hhp]; exact vx_Zq.moved hW0.alike (hU.kept hS.2.1)
  have hN' : vx_Zq Bundle.tN "SUPPRESSED_SENTINEL" Bundle.listD A s' s'.heap := by rw [hhp]; exact vx_Zq.moved hW0.alike (hN.kept hS.2.1)
  have h : ∀ w ∈ Bundle.ownAtoms own ic cls names, w.before args s' = true := vx_own hat' (vx_isRefq hU'.1) (vx_isRefq hN'.1) hU'.2.word hN'.2.word
  have hown' : s'.vm.findClass own = some m.cls := by rw [hvm]; exact hown
  have hins : (Cond.instantiable cls 6).before args s' = true := h _ (by simp [Bundle.ownAtoms])
  obtain ⟨vm₁, cX, kX, hfX, hkX, -, -, X₁, st1⟩ := Y.newCold hexec (own := own) (C := cls) (index := ik) (n := 6) hown' hk' hins hini'
    (g := F0 m pc ls rest) rfl (by rw [hb]; exact d0) (Nat.le_refl _) (Nat.le_refl _)
  generalize hT1 : (T.setVm vm₁).pushCell { cls := cX, slots := kX.instanceTypes.map defaultValue, vm := .none } = T1 at X₁ st1
  have hcat : (Value.ref T.heap.size).category = 1 := rfl
  have hcellA : T1.heap[T.heap.size]? = some (freshCell cX kX) := by rw [← hT1]; exact State.heap_pushCell_size _ _
  have d3' : decode c.code (pc + 3) = .ok (.dup, 1) := by rw [hb]; exact d3
  have d4' : decode c.code (pc + 4) = .ok (.ldc is, 2) := by rw [hb]; exact d4
  have hstr' : vk_R own is text sa s' := vk_R.warm hW0 hstr
  obtain ⟨U, hsteps, hrun, hend, hW, hsame, ce, hce, hO⟩ := X₁.ctorThrowS hexec htr (own := own) (cls := cls) (names := names) (ic := ic) hown' hcls hnames h (fun x hx => nomatch hx) hfX hkX hcellA (by rw [hhp, hT]; exact Nat.le_refl _) (msg := .ref sa) rfl
    (g := { method := m, pc := pc + 6, locals := ls, stack := .ref sa :: .ref T.heap.size :: .ref T.heap.size :: rest, locked := none }) rfl hsize rfl rfl (rest := rest) rfl
    (by rw [hb]; exact d6) (by rw [hb]; exact d9) hout hRframes (by simp only [List.map_cons, List.sum_cons, hcat]; omega) hlocks
  obtain ⟨f1, f2⟩ := vx_frame hsame
  rw [hhp] at f1 f2
  have hWs : s.WarmedH U.vm := State.WarmedH.trans hW0 hW
  have hcl : s.vm.findClass cls = some ce.cls := by
    have h9 := hO.cls
    rw [hvm] at h9
    exact h9
  have hall : s.sameButNew ({ U with vm := s.vm } : State) locs mc ms := by
    subst hA
    obtain ⟨e1, e2⟩ := hsame
    rw [State.setFrames_setFrames] at e1
    have h2 : (T.setVm s.vm).sameButNew ({ U with vm := s.vm } : State) [] (0 + 1) (0 + 6) := ⟨e1, e2⟩
    have h3 := X.same.trans h2
    rw [List.append_nil] at h3
    exact h3.mono hc hs
  refine ⟨U, ?_, .threw T.heap.size, hrun, hend, Or.inr ⟨T.heap.size, rfl, cls, ce, locs, hx U hWs.alike f1 (fun q hq => f2 q hq (fun z hz => nomatch hz)), hce, hO.vm, hcl, hWs, hall, hf⟩⟩
  refine st1 _ ?_
  show Steps p.tables e below (T1.setTop { method := m, pc := pc + 3, locals := ls, stack := .ref T.heap.size :: rest, locked := none }) _
  jvm_step X₁.here [X₁.here.top, hexec, d3', Value.category]
  exact X₁.ldcString hexec (own := own) (text := text) (index := is) (a := sa) hown' hstr'.1 hstr'.2
    (g := { method := m, pc := pc + 4, locals := ls, stack := .ref T.heap.size :: .ref T.heap.size :: rest, locked := none }) rfl d4' _ hsteps
/-- 'throw new E("text")', the text by a wide index -/
theorem vx_throwSW {cc : ByteArray} {pc : Nat} (hexec : p.tables.exec = Jvm.exec) (hb : c.code = cc) (hl : l.stackTraces = false) {own cls text : String} {names : List String} {ik is ic mc ms sa : Nat} {A : Nat → Prop}
    (hown : s.vm.findClass own = some m.cls) (hcls : Bundle.fit cls = true) (hnames : ∀ n ∈ names, Bundle.fit n = true)
    (hk : (Cond.classLink own ik cls).before args s = true) (hini : (Cond.initialized cls).before args s = true) (hstr : vk_R own is text sa s) (hat : ∀ w ∈ vx_atS own ic cls names, w.before args s = true)
    (hgood : ∀ w ∈ Cond.classLink own ik cls :: Cond.initialized cls :: vx_atS own ic cls names, vx_ot w = true)
    (hU : vx_Zq Bundle.tN "UNASSIGNED_STACK" Bundle.steD A s s.heap) (hN : vx_Zq Bundle.tN "SUPPRESSED_SENTINEL" Bundle.listD A s s.heap) (hS : va_S A s.heap H locs) (hsize : ls.size = c.maxLocals)
    (d0 : decode cc pc = .ok (.new ik, 3)) (d3 : decode cc (pc + 3) = .ok (.dup, 1)) (d4 : decode cc (pc + 4) = .ok (.ldc_w is, 3)) (d7 : decode cc (pc + 7) = .ok (.invokespecial ic, 3)) (d10 : decode cc (pc + 10) = .ok (.athrow, 1))
    (hout : ∀ x ∈ c.exceptionTable.toList, covers x (pc + 10) = false)
    (hRframes : names.length + 3 < R.frames) (hRlocals : (rest.map fun v => v.category).sum + (13 * (names.length + 1) + 43) ≤ R.locals) (hRcells : cells + 1 ≤ R.cells) (hRslots : slots + 6 ≤ R.slots) (hlocks : meth.locks = false)
    (hx : ∀ t : State, s.vm.Alike t.vm → H.size ≤ t.heap.size → (∀ q : Nat, q < H.size → t.heap[q]? = H[q]?) → XC cls s t)
    (hf : ∀ z ∈ locs, free z.base) (hc : cells + 1 ≤ mc) (hs : slots + 6 ≤ ms) :
    W p l e R s m args below meth c H locs cells slots (vx_MQ below Qc XC args s mc ms free) (F0 m pc ls rest) := by
  intro T hT X
  have htr : e.platform.stackTraces = false := (show e.platform.stackTraces = l.stackTraces by rw [X.admits.platform]).trans hl
  have Y := vx_rebase X (R' := { frames := R.frames, locals := R.locals, cells := 1, slots := 6 }) (Nat.le_refl _) (Nat.le_refl _) hRcells hRslots
  obtain ⟨s', hA⟩ : ∃ z, z = (T.setVm s.vm).setFrames (.invoking m args :: below) := ⟨_, rfl⟩
  rw [← hA] at Y
  have hvm : s'.vm = s.vm := by rw [hA]; rfl
  have hhp : s'.heap = H := by rw [hA]; exact hT
  have hW0 : s.WarmedH s'.vm := by rw [hvm]; exact State.WarmedH.refl s
  have hat' : ∀ w ∈ vx_atS own ic cls names, w.before args s' = true := fun w hw => vx_ot_at hW0 hvm.symm (hgood w (List.mem_cons_of_mem _ (List.mem_cons_of_mem _ hw))) (hat w hw)
  have hk' : (Cond.classLink own ik cls).before args s' = true := vx_ot_at hW0 hvm.symm (hgood _ List.mem_cons_self) hk
  have hini' : (Cond.initialized cls).before args s' = true := vx_ot_at hW0 hvm.symm (hgood _ (List.mem_cons_of_mem _ List.mem_cons_self)) hini
  have hU' : vx_Zq Bundle.tN "UNASSIGNED_STACK" Bundle.steD A s' s'.heap := by rw [hhp]; exact vx_Zq.moved hW0.alike (hU.kept hS.2.1)
  have hN' : vx_Zq Bundle.tN "SUPPRESSED_SENTINEL" Bundle.listD A s' s'.heap := by rw [hhp]; exact vx_Zq.moved hW0.alike (hN.kept hS.2.1)
  have h : ∀ w ∈ Bundle.ownAtoms own ic cls names, w.before args s' = true := vx_own hat' (vx_isRefq hU'.1) (vx_isRefq hN'.1) hU'.2.word hN'.2.word
  have hown' : s'.vm.findClass own = some m.cls := by rw [hvm]; exact hown
  have hins : (Cond.instantiable cls 6).before args s' = true := h _ (by simp [Bundle.ownAtoms])
  obtain ⟨vm₁, cX, kX, hfX, hkX, -, -, X₁, st1⟩ := Y.newCold hexec (own := own) (C := cls) (index := ik) (n := 6) hown' hk' hins hini'
    (g := F0 m pc ls rest) rfl (by rw [hb]; exact d0) (Nat.le_refl _) (Nat.le_refl _)
  generalize hT1 : (T.setVm vm₁).pushCell { cls := cX, slots := kX.instanceTypes.map defaultValue, vm := .none } = T1 at X₁ st1
  have hcat : (Value.ref T.heap.size).category = 1 := rfl
  have hcellA : T1.heap[T.heap.size]? = some (freshCell cX kX) := by rw [← hT1]; exact State.heap_pushCell_size _ _
  have d3' : decode c.code (pc + 3) = .ok (.dup, 1) := by rw [hb]; exact d3
  have d4' : decode c.code (pc + 4) = .ok (.ldc_w is, 3) := by rw [hb]; exact d4
  have hstr' : vk_R own is text sa s' := vk_R.warm hW0 hstr
  obtain ⟨U, hsteps, hrun, hend, hW, hsame, ce, hce, hO⟩ := X₁.ctorThrowS hexec htr (own := own) (cls := cls) (names := names) (ic := ic) hown' hcls hnames h (fun x hx => nomatch hx) hfX hkX hcellA (by rw [hhp, hT]; exact Nat.le_refl _) (msg := .ref sa) rfl
    (g := { method := m, pc := pc + 7, locals := ls, stack := .ref sa :: .ref T.heap.size :: .ref T.heap.size :: rest, locked := none }) rfl hsize rfl rfl (rest := rest) rfl
    (by rw [hb]; exact d7) (by rw [hb]; exact d10) hout hRframes (by simp only [List.map_cons, List.sum_cons, hcat]; omega) hlocks
  obtain ⟨f1, f2⟩ := vx_frame hsame
  rw [hhp] at f1 f2
  have hWs : s.WarmedH U.vm := State.WarmedH.trans hW0 hW
  have hcl : s.vm.findClass cls = some ce.cls := by
    have h9 := hO.cls
    rw [hvm] at h9
    exact h9
  have hall : s.sameButNew ({ U with vm := s.vm } : State) locs mc ms := by
    subst hA
    obtain ⟨e1, e2⟩ := hsame
    rw [State.setFrames_setFrames] at e1
    have h2 : (T.setVm s.vm).sameButNew ({ U with vm := s.vm } : State) [] (0 + 1) (0 + 6) := ⟨e1, e2⟩
    have h3 := X.same.trans h2
    rw [List.append_nil] at h3
    exact h3.mono hc hs
  refine ⟨U, ?_, .threw T.heap.size, hrun, hend, Or.inr ⟨T.heap.size, rfl, cls, ce, locs, hx U hWs.alike f1 (fun q hq => f2 q hq (fun z hz => nomatch hz)), hce, hO.vm, hcl, hWs, hall, hf⟩⟩
  refine st1 _ ?_
  show Steps p.tables e below (T1.setTop { method := m, pc := pc + 3, locals := ls, stack := .ref T.heap.size :: rest, locked := none }) _
  jvm_step X₁.here [X₁.here.top, hexec, d3', Value.category]
  exact X₁.ldcStringW hexec (own := own) (text := text) (index := is) (a := sa) hown' hstr'.1 hstr'.2
    (g := { method := m, pc := pc + 4, locals := ls, stack := .ref T.heap.size :: .ref T.heap.size :: rest, locked := none }) rfl d4' _ hsteps
end Ends
section Bodies
variable {l : Launch}
theorem vx_ofW {y : MethodName} {ws ws' : List Cond} {rm : Room} {Pc : Array Value → State → Prop} {Qc : Array Value → State → Outcome → State → Prop} {XC : String → State → State → Prop} {mc ms : Nat} {free : Addr → Prop} {cc : ByteArray} {maxL : Nat} {ret : Option FieldType}
    (hy : plainName y.cls = true) (hw : ws = Cond.code y cc maxL ret :: ws')
    (body : ∀ p e s m args below meth c s₁, BodyLoose p l y (headSpec ws rm) cc maxL ret e s m args below meth c s₁ → c.maxLocals = maxL → (∀ x ∈ c.exceptionTable.toList, False) → Pc args s →
      W p l e (headSpec ws rm).room s m args below meth c s.heap [] 0 0 (vx_MQ below Qc XC args s mc ms free) (entryFrame m args maxL)) : vx_Met l y ws rm Pc Qc XC mc ms free := by
  refine MetFree.of_bodyS (code := cc) (maxLocals := maxL) (ret := ret) hy ?_ ?_
  · intro args s m h hn
    obtain ⟨meth, c, h1, h2, h3, h4, h5, h6, -, -⟩ := Cond.code_spec hn (atoms_spec (ws := ws) h _ (by rw [hw]; exact List.mem_cons_self))
    exact ⟨meth, c, h1, h2, h3, h4, h5, h6⟩
  · intro p e s m args below meth c s₁ B hml hP _
    have hh0 : s₁.heap = s.heap := by rw [B.state]; rfl
    have ht : ∀ x ∈ c.exceptionTable.toList, False := by
      obtain ⟨meth9, c9, h1, h2, -, -, -, -, h7, -⟩ := Cond.code_spec B.named (atoms_spec (ws := ws) B.pre _ (by rw [hw]; exact List.mem_cons_self))
      cases Option.some.inj (h1.symm.trans B.method)
      cases Option.some.inj (h2.symm.trans (Stand.of_body B).code)
      intro x hx
      rw [Array.isEmpty_iff.mp h7] at hx
      cases hx
    obtain ⟨t, a1, o, b1, b2, b3⟩ := body p e s m args below meth c s₁ B hml ht hP s₁ hh0 (Stand.of_body B)
    exact ⟨t, o, a1, b1, b2, b3⟩
/-- the table of a body with handlers -/
theorem vx_table {p : Program} {x y : MethodName} {S : Spec} {cc bytes : ByteArray} {maxL maxL' : Nat} {ret ret' : Option FieldType} {e : Env} {s s₁ : State} {m : MethodId} {args : Array Value} {below : List Frame} {meth : Method} {c : Code} {hh : List (Nat × Nat × Nat × Nat)}
    (B : BodyLoose p l y S cc maxL ret e s m args below meth c s₁) (h : (Cond.codeWith y bytes maxL' ret' hh).before args s = true) : c.exceptionTable.toList = tableOf hh := by
  obtain ⟨m9, meth9, c9, hn9, h1, h2, -, -, h6, -⟩ := Cond.codeWith_spec h
  cases Option.some.inj (hn9.symm.trans B.named)
  cases Option.some.inj (h1.symm.trans B.method)
  cases Option.some.inj (h2.symm.trans (Stand.of_body B).code)
  rw [← h6, table_eq]
end Bodies
end VXA
/-! ===== END ===== -/
/-! ===== BEGIN a static call of a method with an exception table ===== -/
section VXS
variable {p : Program} {l : Launch} {e : Env} {R : Room} {s : State} {m : MethodId} {args : Array Value} {below : List Frame} {meth : Method} {c : Code} {T : State} {H : Heap} {locs : List Loc} {cells slots : Nat}
abbrev vx_CSW (R : Room) (s : State) (args : Array Value) (own : String) (index : Nat) (y : MethodName) (bytes : ByteArray) (maxL : Nat) (ret : Option FieldType) (hh : List (Nat × Nat × Nat × Nat)) (ws : List Cond) (rm : Room) (mc ms n : Nat) : Prop :=
  (rm.cells = mc ∧ rm.slots = ms ∧ rm.frames + 1 ≤ R.frames ∧ 8 + (maxL + 11) + rm.locals ≤ R.locals ∧ (∀ w ∈ ws, ∀ (a' : Array Value) (U : State), s.WarmedH U.vm → w.before a' U = true) ∧ Cond.codeWith y bytes maxL ret hh ∈ ws) ∧
  (Cond.codeWith y bytes maxL ret hh).before args s = true ∧ (Cond.initialized y.cls).before args s = true ∧ (y.cls ≠ "java/lang/invoke/MethodHandle" ∧ y.cls ≠ "java/lang/invoke/VarHandle") ∧
  (∀ sig, parseMethodDescriptor y.desc = some sig → n = sig.parameters.length) ∧ (Cond.methodLink own index y).before args s = true ∧ (Cond.static y).before args s = true
theorem vx_cwSW {own : String} {index maxL mc ms : Nat} {y : MethodName} {bytes : ByteArray} {ret : Option FieldType} {hh : List (Nat × Nat × Nat × Nat)} {Ts ws ws' : List Cond} {rm : Room} (n : Nat) (ht : ∀ w ∈ Ts, w.before args s = true) (hT : GoodIn Ts (va_wsS own index y ws)) (hw : ws = Cond.codeWith y bytes maxL ret hh :: ws') (hrc : rm.cells = mc) (hrs : rm.slots = ms)
    (hd : y.cls ≠ "java/lang/invoke/MethodHandle" ∧ y.cls ≠ "java/lang/invoke/VarHandle" ∧ (parseMethodDescriptor y.desc).map (fun d => d.parameters.length) = some n) (hR : rm.frames + 1 ≤ R.frames ∧ 8 + (maxL + 11) + rm.locals ≤ R.locals) :
    vx_CSW R s args own index y bytes maxL ret hh ws rm mc ms n := by
  have ok : ∀ w ∈ va_wsS own index y ws, w.before args s = true := fun w h => ht w (hT w h).1
  have hG : GoodIn Ts ws := fun w h => hT w (by unfold va_wsS; exact List.mem_append_right _ h)
  have hc : Cond.codeWith y bytes maxL ret hh ∈ ws := by rw [hw]; exact List.mem_cons_self
  refine ⟨⟨hrc, hrs, hR.1, hR.2, pay_in ht hG, hc⟩, ht _ (hG _ hc).1, ok _ (by simp [va_wsS]), ⟨hd.1, hd.2.1⟩, fun sig h => ?_, ok _ (by simp [va_wsS]), ok _ (by simp [va_wsS])⟩
  have h2 := hd.2.2
  rw [h] at h2
  exact (Option.some.inj h2).symm
theorem vx_callSW (X : Stand p l e R s m args below meth c T locs cells slots) (hexec : p.tables.exec = Jvm.exec) {own : String} {index : Nat} {y : MethodName} {bytes : ByteArray} {maxL : Nat} {ret : Option FieldType} {hh : List (Nat × Nat × Nat × Nat)}
    (hown : s.vm.findClass own = some m.cls) (hlink : (Cond.methodLink own index y).before args s = true) (hstat : (Cond.static y).before args s = true) (hinit : (Cond.initialized y.cls).before args s = true)
    (hcode : (Cond.codeWith y bytes maxL ret hh).before args s = true) (hy : y.cls ≠ "java/lang/invoke/MethodHandle" ∧ y.cls ≠ "java/lang/invoke/VarHandle")
    {W9 : Nat} {Pre : Pt → Array Value → Prop} {Post : Pt → Array Value → Option Value → Pt → Prop} (hK : Back l R p e below s args y 3 W9 Pre Post)
    {g : JFrame} (hg : g.method = m) (hsize : g.locals.size = c.maxLocals) {argsL rest : List Value} (hlen : ∀ sig, parseMethodDescriptor y.desc = some sig → argsL.length = sig.parameters.length)
    (hstack : g.stack = argsL.reverse ++ rest) (hW : 2 * g.monitorRoom + (rest.map fun v => v.category).sum ≤ W9) (hdg : decode c.code g.pc = .ok (.invokestatic index, 3))
    (hpre : ∀ vm₁, s.WarmedH vm₁ → Pre ⟨T.setVm vm₁, locs, cells, slots⟩ argsL.toArray) :
    ∃ (v : Option Value) (vm₁ : Vm) (B : Pt), s.WarmedH vm₁ ∧ Stand p l e R s m args below meth c B.U B.locs B.cells B.slots ∧ Post ⟨T.setVm vm₁, locs, cells, slots⟩ argsL.toArray v B ∧
      ∀ target, Steps p.tables e below (B.U.setTop { g with pc := g.pc + 3, stack := v.toList ++ rest }) target → Steps p.tables e below (T.setTop g) target := by
  obtain ⟨mk, methM, cM, hnamed, hmethM, -, -, -, -, -, -, hsigM⟩ := Cond.codeWith_spec hcode
  have hstatic : methM.isStatic = true := Cond.static_spec hnamed hmethM hstat
  obtain ⟨kP, hkP, -⟩ := className_of_methodNamed hnamed
  have hinitP : kP.init = .initialized := Cond.initialized_spec (findClass_of_methodNamed hnamed) hkP hinit
  obtain ⟨vm₁, X₁, hstep₁⟩ := X.invokestatic hexec hown hlink hnamed hmethM hstatic hkP hinitP hy (g := g) hg (argsL := argsL) (rest := rest) (hlen _ hsigM) hstack hdg
  obtain ⟨v, B, X', hpost, hsteps⟩ := hK m meth c ⟨T.setVm vm₁, locs, cells, slots⟩ { g with stack := rest } (.invokestatic index) mk argsL.toArray X₁ hg hsize hdg hW (X₁.named hnamed) (hpre vm₁ X₁.warmed)
  exact ⟨v, vm₁, B, X₁.warmed, X', hpost, fun target h => hstep₁ _ fun acts => by rw [doInvoke_state]; exact hsteps.trans h⟩
theorem vx_runSW {y : MethodName} {bytes cc : ByteArray} {maxL nL mc ms n index : Nat} {ret : Option FieldType} {hh : List (Nat × Nat × Nat × Nat)} {ws : List Cond} {rm : Room} {Pc : Array Value → State → Prop} {Qc : Array Value → State → Outcome → State → Prop} {free : Addr → Prop} {Ts : List Cond} {own : String} {As rest : List Value} {g : JFrame}
    (S : CallFix p m c cc nL s args Ts own) (hM : Met l y ws rm Pc Qc mc ms free) (cw : vx_CSW R s args own index y bytes maxL ret hh ws rm mc ms n) (hp : PreS s H Pc As)
    (hg : g.method = m) (hn : As.length = n) (hsize : g.locals.size = nL) (hstack : g.stack = As.reverse ++ rest) (hW : 2 * g.monitorRoom + (rest.map fun v => v.category).sum ≤ 8) (hdg : decode cc g.pc = .ok (.invokestatic index, 3)) (hf : cells + mc ≤ R.cells ∧ slots + ms ≤ R.slots) :
    va_Run p l e R s m args below meth c H locs cells slots mc ms g rest (Qc As.toArray) (free) := by
  obtain ⟨⟨hrc, hrs, hfr, hlo, hws, hcw⟩, hcode, hini, hy, hlen, hl, hstt⟩ := cw
  have hK : Back l R p e below s args y 3 8 (PreOf R mc ms Pc) (PostOf Qc mc ms free) := va_backW (hh := hh) (bytes := bytes) (maxL := maxL) (ret := ret) hM hp.1 hrc hrs hfr hlo hws hcw (fun a' U hW => word_at hW (Or.inl (by first | rfl | simp [Cond.onTables, Cond.keeps, Cond.steady])) hini)
  obtain ⟨hx, hb, hml, ho, -⟩ := S
  intro T hT X
  obtain ⟨v, vm₁, ⟨U', l2, c2, s2⟩, hW₁, X', ⟨g', mk, t, L, e1, e2, hq, h1, hL, h2, h3⟩, st⟩ := vx_callSW X hx (hh := hh) (bytes := bytes) (maxL := maxL) (ret := ret) ho hl hstt hini hcode hy hK hg (hsize.trans hml.symm) (argsL := As) (rest := rest) (fun sig h => hn.trans (hlen sig h)) hstack hW (by rw [hb]; exact hdg)
    (fun vm₁ hW₁ => ⟨hf.1, hf.2, hp.2 (T.setVm vm₁) hT hW₁⟩)
  dsimp only [Pt.U, Pt.locs, Pt.cells, Pt.slots] at X' e1 e2 h1 h2 h3 st
  subst h1; subst h2; subst h3
  exact ⟨v, (T.setVm vm₁).calling g' mk As.toArray, t, U', L, hT, X', hL, e1, e2, hq, st⟩
/-- not caught here, past rows that name other classes: it goes on to the caller -/
theorem vx_outP {p : Program} {l : Launch} {e : Env} {R : Room} {s : State} {m : MethodId} {args : Array Value} {below : List Frame} {meth : Method} {c : Code} {H : Heap} {locs : List Loc} {cells slots : Nat} {free : Addr → Prop} {ls : Array Slot} {rest : List Value} {Qc : Array Value → State → Outcome → State → Prop} {XC : String → State → State → Prop}
    {pc : Nat} {own E : String} {ce : Cell} {q : Addr} {mc ms : Nat} (hown : s.vm.findClass own = some m.cls) (hlocks : meth.locks = false)
    (hpass : ∀ z ∈ c.exceptionTable.toList, covers z pc = false ∨ (z.catchType ≠ 0 ∧ ∃ nm : String, (Cond.classLink own z.catchType nm).before args s = true ∧ va_Nc E nm s)) (hcell : H[q]? = some ce) (hv : ce.vm = .none) (hcl : s.vm.findClass E = some ce.cls)
    (hx : ∀ t : State, t.heap = H → s.vm.Alike t.vm → XC E s t) (hf : ∀ z ∈ locs, free z.base) (hc : cells ≤ mc) (hs : slots ≤ ms) :
    vx_W p l e R s m args below meth c H locs cells slots (vx_MQ below Qc XC args s mc ms free) (F0 m pc ls rest) q := by
  intro T hT X
  have hpl : e.platform.magicAccessors = ({} : Platform).magicAccessors := by rw [X.admits.platform]
  obtain ⟨vm', hW', X', st⟩ := X.outThrough hlocks q (g := F0 m pc ls rest) rfl rfl rfl (cell := ce) (by rw [hT]; exact hcell) (by rw [hv]; rfl)
    (by obtain ⟨k9, h9, -⟩ := Vm.findClass_spec hcl; exact ⟨k9, h9⟩) (fun z hz => by
      rcases hpass z hz with h | ⟨hz0, nm, hl1, hn1⟩
      · exact Or.inl h
      · obtain ⟨c6, hc6, hcl6⟩ := Cond.classLink_spec hown hl1 e.platform hpl
        obtain ⟨a8, b8, h1, h2, h3⟩ := hn1
        cases Option.some.inj (h1.symm.trans hcl)
        cases Option.some.inj (h2.symm.trans hc6)
        exact Or.inr ⟨hz0, _, hcl6, h3⟩)
  obtain ⟨g₀, hfr⟩ := X'.frames_eq
  have hcell9 : ((T.setVm vm').setFrames (.throwing q :: below)).heap[q]? = some ce := by
    show T.heap[q]? = some ce
    rw [hT]; exact hcell
  have hend : Ended ((T.setVm vm').setFrames (.throwing q :: below)) below (.threw q) := State.frames_setFrames _ (State.cur_lt_of_frames hfr)
  refine ⟨(T.setVm vm').setFrames (.throwing q :: below), ?_, .threw q, X'.here.running, hend, Or.inr ⟨q, rfl, E, ce, locs, hx _ hT (X'.ends _).1.alike, hcell9, hv, hcl, (X'.ends _).1, (X'.ends _).2.mono hc hs, hf⟩⟩
  rw [X.pushThrowing_eq]
  exact st
/-- a thing of a world lies in the heap -/
theorem vx_lt {D : va_G} {cl : List vw_C} {ws : va_W} {H1 : Heap} (h : va_P D cl ws H1) {k : Nat} {q : Nat × va_E} (hk : ws[k]? = some q) : q.1 < H1.size := (h k q hk).lt
end VXS
/-! ===== END ===== -/
/-! ===== BEGIN methods with a table of their own: called by a name, returning or throwing ===== -/
section VXH
/-! vx_backW, vx_callVX, vx_callSX, vx_callVW, vx_runVW, vx_runVX, vx_runSX, vx_ofWH follow the same proofs as their sisters above (Free/Laws.lean, Shelf42/LK1.lean); vx_outP calls Shelf42/NT130.lean (outThrough). -/
section
variable {l : Launch} {R : Room} {p : Program} {e : Env} {below : List Frame} {s : State} {sargs : Array Value} {y : MethodName} {len W9 : Nat}
theorem vx_backW {ws : List Cond} {rm : Room} {Pc : Array Value → State → Prop} {Qc : Array Value → State → Outcome → State → Prop} {XC : String → State → State → Prop} {mc ms : Nat} {free : Addr → Prop} {bytes : ByteArray} {maxL : Nat} {ret : Option FieldType} {hh : List (Nat × Nat × Nat × Nat)}
    (hM : vx_Met l y ws rm Pc Qc XC mc ms free) (hblind : FrameBlind Pc) (hrc : rm.cells = mc) (hrs : rm.slots = ms)
    (hframes : rm.frames + 1 ≤ R.frames) (hlocals : W9 + (maxL + 11) + rm.locals ≤ R.locals)
    (hws : ∀ w ∈ ws, ∀ a' U, s.WarmedH U.vm → w.before a' U = true) (hcode : Cond.codeWith y bytes maxL ret hh ∈ ws) (hinit : ∀ a' U, s.WarmedH U.vm → (Cond.initialized y.cls).before a' U = true) :
    vx_Back l R p e below s sargs y len W9 (PreOf R mc ms Pc) (PostOf Qc mc ms free) (vx_Post XC mc ms free) := by
  intro m meth c A g ig mk a X hg hsize hdg hW hn hp
  have h1 : (headSpec ws rm).pre.before a A.U = true := atoms_intro fun w hw => hws w hw _ _ X.warmed
  have h2 : (Cond.codeWith y bytes maxL ret hh).before a A.U = true := hws _ hcode _ _ X.warmed
  have h3 : (Cond.initialized y.cls).before a A.U = true := hinit _ _ X.warmed
  have h4 : A.cells + (headSpec ws rm).room.cells ≤ R.cells := by rw [show (headSpec ws rm).room.cells = mc from hrc]; exact hp.1
  have h5 : A.slots + (headSpec ws rm).room.slots ≤ R.slots := by rw [show (headSpec ws rm).room.slots = ms from hrs]; exact hp.2.1
  have hPc : Pc a (A.U.calling g mk a) := hblind _ _ _ _ hp.2.2
  obtain ⟨U, Ls, c0, s0⟩ := A
  dsimp only [Pt.U, Pt.locs, Pt.cells, Pt.slots] at h1 h2 h3 h4 h5 X hn hPc ⊢
  obtain ⟨m9, methY, cY, hn9, hmY, hcY, -, hlY, -⟩ := Cond.codeWith_spec h2
  cases Option.some.inj (hn9.symm.trans hn)
  obtain ⟨kY, hkY, -⟩ := className_of_methodNamed hn
  have hinitY : kY.init = .initialized := Cond.initialized_spec (findClass_of_methodNamed hn) hkY h3
  have h : At U g.method c below := by rw [hg]; exact X.here
  have hlocals9 : W9 + (maxL + 11) + (headSpec ws rm).room.locals ≤ R.locals := hlocals
  have happ : (headSpec ws rm).appliesLoose y e.platform (U.calling g mk a) = true :=
    Spec.appliesLoose_calling (g := g) h hdg hn hkY hinitY
      (X.room_calling (g := g) (R' := (headSpec ws rm).room) hsize hmY hcY hframes (by rw [hlY]; omega) h4 h5) h1
  obtain ⟨mid, hmid⟩ := h.above
  have hfr : (U.setTop g).frames = (.java g :: mid) ++ below := by rw [State.frames_setTop' g h.top, hmid]; rfl
  obtain ⟨o, s₂, hsteps, -, hend, hq⟩ := Steps.callFree hM p X.admits X.cas X.clock (acts := []) hfr happ hPc trivial
  have hq' : vx_Q Qc XC mc ms free a (U.calling g mk a) o s₂ := hq
  rw [State.frames_setTop' g h.top] at hend
  obtain ⟨g₀, hg0⟩ := Option.isSome_iff_exists.mp h.top
  obtain ⟨r, hr⟩ := State.topJava?_eq_some.mp hg0
  have hr' : (({ U with heap := s₂.heap, slotsUsed := s₂.slotsUsed } : State).setVm s₂.vm).frames = .java g₀ :: r := hr
  rcases hq' with ⟨hqc, L, hfe, hL⟩ | ⟨q, rfl, E, ce, L, hx, hce, hcv, hcl, hW₂, hsm, hL⟩
  · obtain ⟨⟨v, rfl⟩, hW₂, e2, q2, q3, q4, q5, q6⟩ := id hfe
    have e3 : s₂ = ({ (U.calling g mk a).setFrames s₂.frames with heap := s₂.heap, slotsUsed := s₂.slotsUsed } : State).setVm s₂.vm := by
      have : s₂ = ({ s₂ with vm := (U.calling g mk a).vm } : State).setVm s₂.vm := rfl
      rw [e2] at this
      exact this
    obtain ⟨c₂, i₂, len₂, hc₂, hd₂, hf₂⟩ := hend
    have hW' : U.WarmedH s₂.vm := hW₂
    have hcc : c₂ = c := by
      have h1 : s₂.code? g.method = U.code? g.method := by
        rw [State.code?_eq, State.code?_eq, hW'.alike.method?]
      exact Option.some.inj (hc₂.symm.trans (h1.trans h.code))
    subst hcc
    have hlen : len₂ = len := by rw [hdg] at hd₂; cases hd₂; rfl
    subst hlen
    have hs₂ : s₂ = (({ U with heap := s₂.heap, slotsUsed := s₂.slotsUsed } : State).setVm s₂.vm).setTop { g with pc := g.pc + len₂, stack := v.toList ++ g.stack } := by
      refine e3.trans ?_
      rw [hf₂, State.calling_eq h.top, State.setFrames_setFrames, State.setTop_of_frames _ hr', hr]
      rfl
    have hsame : U.sameButNew ({ U with heap := s₂.heap, slotsUsed := s₂.slotsUsed } : State) L mc ms := by
      refine ⟨?_, q2, q3, q4, q5, q6⟩
      obtain ⟨t, ht, -⟩ := State.frames_cons hr
      show ({ U with heap := s₂.heap, slotsUsed := s₂.slotsUsed } : State) = { U.setFrames U.frames with heap := s₂.heap, slotsUsed := s₂.slotsUsed }
      rw [State.setFrames_self ht]
    subst hg
    refine Or.inl ⟨v, ⟨(({ U with heap := s₂.heap, slotsUsed := s₂.slotsUsed } : State).setVm s₂.vm), Ls ++ L, c0 + mc, s0 + ms⟩,
      ⟨X.admits, X.cas, X.clock, X.frames, X.room, X.hears, X.method, X.code, (X.here.setHeapUsed s₂.heap s₂.slotsUsed).setVm hW'.alike, X.tail, State.WarmedH.trans X.warmed hW', X.limits, X.bytes, X.same.trans (hsame.setVm s.vm)⟩,
      ⟨g, mk, s₂, L, rfl, rfl, hqc, rfl, hL, rfl, rfl⟩, ?_⟩
    show Steps p.tables e below _ ((({ U with heap := s₂.heap, slotsUsed := s₂.slotsUsed } : State).setVm s₂.vm).setTop { g with pc := g.pc + len₂, stack := v.toList ++ g.stack })
    rw [← hs₂]
    exact hsteps
  · obtain ⟨e2, q2, q3, q4, q5, q6⟩ := id hsm
    have e3 : s₂ = ({ (U.calling g mk a).setFrames s₂.frames with heap := s₂.heap, slotsUsed := s₂.slotsUsed } : State).setVm s₂.vm := by
      have : s₂ = ({ s₂ with vm := (U.calling g mk a).vm } : State).setVm s₂.vm := rfl
      rw [e2] at this
      exact this
    have hf₂ : s₂.frames = .throwing q :: .java g :: U.frames.tail := hend
    have hW' : U.WarmedH s₂.vm := hW₂
    have hs₂ : s₂ = ((({ U with heap := s₂.heap, slotsUsed := s₂.slotsUsed } : State).setVm s₂.vm).setTop g).pushFrame (.throwing q) := by
      refine e3.trans ?_
      rw [hf₂, State.calling_eq h.top, State.setFrames_setFrames, State.pushFrame, State.frames_setTop _ hr', State.setTop_of_frames _ hr', State.setFrames_setFrames, hr]
      rfl
    have hsame : U.sameButNew ({ U with heap := s₂.heap, slotsUsed := s₂.slotsUsed } : State) L mc ms := by
      refine ⟨?_, q2, q3, q4, q5, q6⟩
      obtain ⟨t, ht, -⟩ := State.frames_cons hr
      show ({ U with heap := s₂.heap, slotsUsed := s₂.slotsUsed } : State) = { U.setFrames U.frames with heap := s₂.heap, slotsUsed := s₂.slotsUsed }
      rw [State.setFrames_self ht]
    subst hg
    refine Or.inr ⟨q, ⟨(({ U with heap := s₂.heap, slotsUsed := s₂.slotsUsed } : State).setVm s₂.vm), Ls ++ L, c0 + mc, s0 + ms⟩,
      ⟨X.admits, X.cas, X.clock, X.frames, X.room, X.hears, X.method, X.code, (X.here.setHeapUsed s₂.heap s₂.slotsUsed).setVm hW'.alike, X.tail, State.WarmedH.trans X.warmed hW', X.limits, X.bytes, X.same.trans (hsame.setVm s.vm)⟩,
      ⟨g, mk, s₂, L, E, ce, rfl, rfl, hx, hce, hcv, hcl, rfl, hL, rfl, rfl⟩, ?_⟩
    show Steps p.tables e below _ (((({ U with heap := s₂.heap, slotsUsed := s₂.slotsUsed } : State).setVm s₂.vm).setTop g).pushFrame (.throwing q))
    rw [← hs₂]
    exact hsteps
end
variable {p : Program} {l : Launch} {e : Env} {R : Room} {s : State} {m : MethodId} {args : Array Value} {below : List Frame} {meth : Method} {c : Code} {T : State} {H : Heap} {locs : List Loc} {cells slots : Nat}
theorem vx_callVX (X : Stand p l e R s m args below meth c T locs cells slots) (hexec : p.tables.exec = Jvm.exec) {own C : String} {index : Nat} {y : MethodName} {bytes : ByteArray} {maxL : Nat} {ret : Option FieldType} {hh : List (Nat × Nat × Nat × Nat)}
    (hown : s.vm.findClass own = some m.cls) (hlink : (Cond.methodLink own index y).before args s = true) (hinst : (Cond.instanceMethod y).before args s = true) (hsel : (Cond.selects C y y).before args s = true)
    (hcode : (Cond.codeWith y bytes maxL ret hh).before args s = true) (hy : y.cls ≠ "java/lang/invoke/MethodHandle" ∧ y.cls ≠ "java/lang/invoke/VarHandle")
    {W9 : Nat} {Pre : Pt → Array Value → Prop} {Post : Pt → Array Value → Option Value → Pt → Prop} {PostX : Pt → Array Value → Addr → Pt → Prop} (hK : vx_Back l R p e below s args y 3 W9 Pre Post PostX)
    {b : Addr} {cellB : Cell} (hcell : T.heap[b]? = some cellB) (hobj : cellB.vm.isStatics = false) (hcls : s.vm.findClass C = some cellB.cls)
    {g : JFrame} (hg : g.method = m) (hsize : g.locals.size = c.maxLocals) {argsL rest : List Value} (hlen : ∀ sig, parseMethodDescriptor y.desc = some sig → argsL.length = sig.parameters.length)
    (hstack : g.stack = argsL.reverse ++ .ref b :: rest) (hW : 2 * g.monitorRoom + (rest.map fun v => v.category).sum ≤ W9) (hdg : decode c.code g.pc = .ok (.invokevirtual index, 3))
    (hpre : ∀ vm₁, s.WarmedH vm₁ → Pre ⟨T.setVm vm₁, locs, cells, slots⟩ (Value.ref b :: argsL).toArray) :
    (∃ (v : Option Value) (vm₁ : Vm) (B : Pt), s.WarmedH vm₁ ∧ Stand p l e R s m args below meth c B.U B.locs B.cells B.slots ∧ Post ⟨T.setVm vm₁, locs, cells, slots⟩ (Value.ref b :: argsL).toArray v B ∧
      ∀ target, Steps p.tables e below (B.U.setTop { g with pc := g.pc + 3, stack := v.toList ++ rest }) target → Steps p.tables e below (T.setTop g) target) ∨
    (∃ (q : Addr) (vm₁ : Vm) (B : Pt), s.WarmedH vm₁ ∧ Stand p l e R s m args below meth c B.U B.locs B.cells B.slots ∧ PostX ⟨T.setVm vm₁, locs, cells, slots⟩ (Value.ref b :: argsL).toArray q B ∧
      Steps p.tables e below (T.setTop g) ((B.U.setTop { g with stack := rest }).pushFrame (.throwing q))) := by
  obtain ⟨mk, methM, hnamed, hmethM, hstM, habM⟩ := Cond.instanceMethod_spec hinst
  obtain ⟨m8, methM', cM, hn8, hmethM', -, -, -, -, -, -, hsigM⟩ := Cond.codeWith_spec hcode
  cases Option.some.inj (hn8.symm.trans hnamed)
  cases hmethM.symm.trans hmethM'
  obtain ⟨c2, r2, m2, q1, q2, q3, q4, kP, hkP, hkPi⟩ := Cond.selects_spec hsel
  cases hcls.symm.trans q1
  cases (State.methodFound?_of_named hnamed hy).symm.trans q2
  cases hnamed.symm.trans q3
  have hselP : selectMethod e.platform s.vm cellB.cls mk = .method mk := by rw [Launch.admits_selectMethod X.admits]; exact q4
  obtain ⟨vm₁, X₁, hstep₁⟩ := X.invokevirtual hexec hown hlink hnamed hmethM hstM hkP hkPi hy (a := b) (cell := cellB) hcell
    (fun z h => by rw [h] at hobj; cases hobj) hselP hmethM habM hkP hkPi (g := g) hg (argsL := argsL) (rest := rest) (hlen _ hsigM) hstack hdg
  rcases hK m meth c ⟨T.setVm vm₁, locs, cells, slots⟩ { g with stack := rest } (.invokevirtual index) mk (Value.ref b :: argsL).toArray X₁ hg hsize hdg hW (X₁.named hnamed) (hpre vm₁ X₁.warmed) with ⟨v, B, X', hpost, hsteps⟩ | ⟨q, B, X', hpost, hsteps⟩
  · exact Or.inl ⟨v, vm₁, B, X₁.warmed, X', hpost, fun target h => hstep₁ _ fun acts => by rw [doInvoke_state]; exact hsteps.trans h⟩
  · exact Or.inr ⟨q, vm₁, B, X₁.warmed, X', hpost, hstep₁ _ fun acts => by rw [doInvoke_state]; exact hsteps⟩
theorem vx_callSX (X : Stand p l e R s m args below meth c T locs cells slots) (hexec : p.tables.exec = Jvm.exec) {own : String} {index : Nat} {y : MethodName} {bytes : ByteArray} {maxL : Nat} {ret : Option FieldType} {hh : List (Nat × Nat × Nat × Nat)}
    (hown : s.vm.findClass own = some m.cls) (hlink : (Cond.methodLink own index y).before args s = true) (hstat : (Cond.static y).before args s = true) (hinit : (Cond.initialized y.cls).before args s = true)
    (hcode : (Cond.codeWith y bytes maxL ret hh).before args s = true) (hy : y.cls ≠ "java/lang/invoke/MethodHandle" ∧ y.cls ≠ "java/lang/invoke/VarHandle")
    {W9 : Nat} {Pre : Pt → Array Value → Prop} {Post : Pt → Array Value → Option Value → Pt → Prop} {PostX : Pt → Array Value → Addr → Pt → Prop} (hK : vx_Back l R p e below s args y 3 W9 Pre Post PostX)
    {g : JFrame} (hg : g.method = m) (hsize : g.locals.size = c.maxLocals) {argsL rest : List Value} (hlen : ∀ sig, parseMethodDescriptor y.desc = some sig → argsL.length = sig.parameters.length)
    (hstack : g.stack = argsL.reverse ++ rest) (hW : 2 * g.monitorRoom + (rest.map fun v => v.category).sum ≤ W9) (hdg : decode c.code g.pc = .ok (.invokestatic index, 3))
    (hpre : ∀ vm₁, s.WarmedH vm₁ → Pre ⟨T.setVm vm₁, locs, cells, slots⟩ argsL.toArray) :
    (∃ (v : Option Value) (vm₁ : Vm) (B : Pt), s.WarmedH vm₁ ∧ Stand p l e R s m args below meth c B.U B.locs B.cells B.slots ∧ Post ⟨T.setVm vm₁, locs, cells, slots⟩ argsL.toArray v B ∧
      ∀ target, Steps p.tables e below (B.U.setTop { g with pc := g.pc + 3, stack := v.toList ++ rest }) target → Steps p.tables e below (T.setTop g) target) ∨
    (∃ (q : Addr) (vm₁ : Vm) (B : Pt), s.WarmedH vm₁ ∧ Stand p l e R s m args below meth c B.U B.locs B.cells B.slots ∧ PostX ⟨T.setVm vm₁, locs, cells, slots⟩ argsL.toArray q B ∧
      Steps p.tables e below (T.setTop g) ((B.U.setTop { g with stack := rest }).pushFrame (.throwing q))) := by
  obtain ⟨mk, methM, cM, hnamed, hmethM, -, -, -, -, -, -, hsigM⟩ := Cond.codeWith_spec hcode
  have hstatic : methM.isStatic = true := Cond.static_spec hnamed hmethM hstat
  obtain ⟨kP, hkP, -⟩ := className_of_methodNamed hnamed
  have hinitP : kP.init = .initialized := Cond.initialized_spec (findClass_of_methodNamed hnamed) hkP hinit
  obtain ⟨vm₁, X₁, hstep₁⟩ := X.invokestatic hexec hown hlink hnamed hmethM hstatic hkP hinitP hy (g := g) hg (argsL := argsL) (rest := rest) (hlen _ hsigM) hstack hdg
  rcases hK m meth c ⟨T.setVm vm₁, locs, cells, slots⟩ { g with stack := rest } (.invokestatic index) mk argsL.toArray X₁ hg hsize hdg hW (X₁.named hnamed) (hpre vm₁ X₁.warmed) with ⟨v, B, X', hpost, hsteps⟩ | ⟨q, B, X', hpost, hsteps⟩
  · exact Or.inl ⟨v, vm₁, B, X₁.warmed, X', hpost, fun target h => hstep₁ _ fun acts => by rw [doInvoke_state]; exact hsteps.trans h⟩
  · exact Or.inr ⟨q, vm₁, B, X₁.warmed, X', hpost, hstep₁ _ fun acts => by rw [doInvoke_state]; exact hsteps⟩
theorem vx_callVW (X : Stand p l e R s m args below meth c T locs cells slots) (hexec : p.tables.exec = Jvm.exec) {own C : String} {index : Nat} {y : MethodName} {bytes : ByteArray} {maxL : Nat} {ret : Option FieldType} {hh : List (Nat × Nat × Nat × Nat)}
    (hown : s.vm.findClass own = some m.cls) (hlink : (Cond.methodLink own index y).before args s = true) (hinst : (Cond.instanceMethod y).before args s = true) (hsel : (Cond.selects C y y).before args s = true)
    (hcode : (Cond.codeWith y bytes maxL ret hh).before args s = true) (hy : y.cls ≠ "java/lang/invoke/MethodHandle" ∧ y.cls ≠ "java/lang/invoke/VarHandle")
    {W9 : Nat} {Pre : Pt → Array Value → Prop} {Post : Pt → Array Value → Option Value → Pt → Prop} (hK : Back l R p e below s args y 3 W9 Pre Post)
    {b : Addr} {cellB : Cell} (hcell : T.heap[b]? = some cellB) (hobj : cellB.vm.isStatics = false) (hcls : s.vm.findClass C = some cellB.cls)
    {g : JFrame} (hg : g.method = m) (hsize : g.locals.size = c.maxLocals) {argsL rest : List Value} (hlen : ∀ sig, parseMethodDescriptor y.desc = some sig → argsL.length = sig.parameters.length)
    (hstack : g.stack = argsL.reverse ++ .ref b :: rest) (hW : 2 * g.monitorRoom + (rest.map fun v => v.category).sum ≤ W9) (hdg : decode c.code g.pc = .ok (.invokevirtual index, 3))
    (hpre : ∀ vm₁, s.WarmedH vm₁ → Pre ⟨T.setVm vm₁, locs, cells, slots⟩ (Value.ref b :: argsL).toArray) :
    ∃ (v : Option Value) (vm₁ : Vm) (B : Pt), s.WarmedH vm₁ ∧ Stand p l e R s m args below meth c B.U B.locs B.cells B.slots ∧ Post ⟨T.setVm vm₁, locs, cells, slots⟩ (Value.ref b :: argsL).toArray v B ∧
      ∀ target, Steps p.tables e below (B.U.setTop { g with pc := g.pc + 3, stack := v.toList ++ rest }) target → Steps p.tables e below (T.setTop g) target := by
  obtain ⟨mk, methM, hnamed, hmethM, hstM, habM⟩ := Cond.instanceMethod_spec hinst
  obtain ⟨m8, methM', cM, hn8, hmethM', -, -, -, -, -, -, hsigM⟩ := Cond.codeWith_spec hcode
  cases Option.some.inj (hn8.symm.trans hnamed)
  cases hmethM.symm.trans hmethM'
  obtain ⟨c2, r2, m2, q1, q2, q3, q4, kP, hkP, hkPi⟩ := Cond.selects_spec hsel
  cases hcls.symm.trans q1
  cases (State.methodFound?_of_named hnamed hy).symm.trans q2
  cases hnamed.symm.trans q3
  have hselP : selectMethod e.platform s.vm cellB.cls mk = .method mk := by rw [Launch.admits_selectMethod X.admits]; exact q4
  obtain ⟨vm₁, X₁, hstep₁⟩ := X.invokevirtual hexec hown hlink hnamed hmethM hstM hkP hkPi hy (a := b) (cell := cellB) hcell
    (fun z h => by rw [h] at hobj; cases hobj) hselP hmethM habM hkP hkPi (g := g) hg (argsL := argsL) (rest := rest) (hlen _ hsigM) hstack hdg
  obtain ⟨v, B, X', hpost, hsteps⟩ := hK m meth c ⟨T.setVm vm₁, locs, cells, slots⟩ { g with stack := rest } (.invokevirtual index) mk (Value.ref b :: argsL).toArray X₁ hg hsize hdg hW (X₁.named hnamed) (hpre vm₁ X₁.warmed)
  exact ⟨v, vm₁, B, X₁.warmed, X', hpost, fun target h => hstep₁ _ fun acts => by rw [doInvoke_state]; exact hsteps.trans h⟩
abbrev vx_CVW (R : Room) (s : State) (args : Array Value) (own C : String) (index : Nat) (y : MethodName) (bytes : ByteArray) (maxL : Nat) (ret : Option FieldType) (hh : List (Nat × Nat × Nat × Nat)) (ws : List Cond) (rm : Room) (mc ms n : Nat) : Prop :=
  (rm.cells = mc ∧ rm.slots = ms ∧ rm.frames + 1 ≤ R.frames ∧ 8 + (maxL + 11) + rm.locals ≤ R.locals ∧ (∀ w ∈ ws, ∀ (a' : Array Value) (U : State), s.WarmedH U.vm → w.before a' U = true) ∧ Cond.codeWith y bytes maxL ret hh ∈ ws) ∧
  (Cond.codeWith y bytes maxL ret hh).before args s = true ∧ (Cond.initialized y.cls).before args s = true ∧ (y.cls ≠ "java/lang/invoke/MethodHandle" ∧ y.cls ≠ "java/lang/invoke/VarHandle") ∧
  (∀ sig, parseMethodDescriptor y.desc = some sig → n = sig.parameters.length) ∧ (Cond.methodLink own index y).before args s = true ∧ (Cond.instanceMethod y).before args s = true ∧ (Cond.selects C y y).before args s = true
theorem vx_cwVW {own C : String} {index maxL mc ms : Nat} {y : MethodName} {bytes : ByteArray} {ret : Option FieldType} {hh : List (Nat × Nat × Nat × Nat)} {Ts ws ws' : List Cond} {rm : Room} (n : Nat) (ht : ∀ w ∈ Ts, w.before args s = true) (hT : GoodIn Ts (wsV own index C y ws)) (hw : ws = Cond.codeWith y bytes maxL ret hh :: ws') (hrc : rm.cells = mc) (hrs : rm.slots = ms)
    (hd : y.cls = C ∧ y.cls ≠ "java/lang/invoke/MethodHandle" ∧ y.cls ≠ "java/lang/invoke/VarHandle" ∧ (parseMethodDescriptor y.desc).map (fun d => d.parameters.length) = some n) (hR : rm.frames + 1 ≤ R.frames ∧ 8 + (maxL + 11) + rm.locals ≤ R.locals) :
    vx_CVW R s args own C index y bytes maxL ret hh ws rm mc ms n := by
  obtain ⟨hC, hd⟩ := hd
  subst hC
  have ok : ∀ w ∈ wsV own index y.cls y ws, w.before args s = true := fun w h => ht w (hT w h).1
  have hG : GoodIn Ts ws := fun w h => hT w (by unfold wsV; exact List.mem_append_right _ h)
  have hc : Cond.codeWith y bytes maxL ret hh ∈ ws := by rw [hw]; exact List.mem_cons_self
  refine ⟨⟨hrc, hrs, hR.1, hR.2, pay_in ht hG, hc⟩, ht _ (hG _ hc).1, ok _ (by simp [wsV]), ⟨hd.1, hd.2.1⟩, fun sig h => ?_, ok _ (by simp [wsV]), ok _ (by simp [wsV]), ok _ (by simp [wsV])⟩
  have h2 := hd.2.2
  rw [h] at h2
  exact (Option.some.inj h2).symm
theorem vx_runVW {y : MethodName} {bytes cc : ByteArray} {maxL nL mc ms n index : Nat} {ret : Option FieldType} {hh : List (Nat × Nat × Nat × Nat)} {ws : List Cond} {rm : Room} {Pc : Array Value → State → Prop} {Qc : Array Value → State → Outcome → State → Prop} {free : Addr → Prop} {Ts : List Cond} {own C : String} {b : Addr} {As rest : List Value} {g : JFrame}
    (S : CallFix p m c cc nL s args Ts own) (hM : Met l y ws rm Pc Qc mc ms free) (cw : vx_CVW R s args own C index y bytes maxL ret hh ws rm mc ms n) (hp : PreV s H C b Pc As)
    (hg : g.method = m) (hn : As.length = n) (hsize : g.locals.size = nL) (hstack : g.stack = As.reverse ++ .ref b :: rest) (hW : 2 * g.monitorRoom + (rest.map fun v => v.category).sum ≤ 8) (hdg : decode cc g.pc = .ok (.invokevirtual index, 3)) (hf : cells + mc ≤ R.cells ∧ slots + ms ≤ R.slots) :
    va_Run p l e R s m args below meth c H locs cells slots mc ms g rest (Qc (Value.ref b :: As).toArray) free := by
  obtain ⟨⟨hrc, hrs, hfr, hlo, hws, hcw⟩, hcode, hini, hy, hlen, hl, hin, hse⟩ := cw
  have hK : Back l R p e below s args y 3 8 (PreOf R mc ms Pc) (PostOf Qc mc ms free) := va_backW (hh := hh) (bytes := bytes) (maxL := maxL) (ret := ret) hM hp.1 hrc hrs hfr hlo hws hcw (fun a' U hW => word_at hW (Or.inl (by first | rfl | simp [Cond.onTables, Cond.keeps, Cond.steady])) hini)
  obtain ⟨hx, hb, hml, ho, -⟩ := S
  obtain ⟨-, ⟨cellB, hcB, hoB, hclB⟩, hPc⟩ := hp
  intro T hT X
  obtain ⟨v, vm₁, ⟨U', l2, c2, s2⟩, hW₁, X', ⟨g', mk, t, L, e1, e2, hq, h1, hL, h2, h3⟩, st⟩ := vx_callVW X hx (C := C) (hh := hh) (bytes := bytes) (maxL := maxL) (ret := ret) ho hl hin hse hcode hy hK (by rw [hT]; exact hcB) hoB hclB hg (hsize.trans hml.symm) (argsL := As) (rest := rest) (fun sig h => hn.trans (hlen sig h)) hstack hW (by rw [hb]; exact hdg)
    (fun vm₁ hW₁ => ⟨hf.1, hf.2, hPc (T.setVm vm₁) hT hW₁⟩)
  dsimp only [Pt.U, Pt.locs, Pt.cells, Pt.slots] at X' e1 e2 h1 h2 h3 st
  subst h1; subst h2; subst h3
  exact ⟨v, (T.setVm vm₁).calling g' mk (Value.ref b :: As).toArray, t, U', L, hT, X', hL, e1, e2, hq, st⟩
section
variable {y : MethodName} {bytes cc : ByteArray} {maxL nL mc ms n index : Nat} {ret : Option FieldType} {ws : List Cond} {rm : Room} {Pc : Array Value → State → Prop} {Qc : Array Value → State → Outcome → State → Prop} {XC : String → State → State → Prop} {free : Addr → Prop} {Ts : List Cond} {own C : String} {b : Addr} {As rest : List Value} {g : JFrame}
theorem vx_runVX {hh : List (Nat × Nat × Nat × Nat)} (S : CallFix p m c cc nL s args Ts own) (hM : vx_Met l y ws rm Pc Qc XC mc ms free) (cw : vx_CVW R s args own C index y bytes maxL ret hh ws rm mc ms n) (hp : PreV s H C b Pc As)
    (hg : g.method = m) (hn : As.length = n) (hsize : g.locals.size = nL) (hstack : g.stack = As.reverse ++ .ref b :: rest) (hW : 2 * g.monitorRoom + (rest.map fun v => v.category).sum ≤ 8) (hdg : decode cc g.pc = .ok (.invokevirtual index, 3)) (hf : cells + mc ≤ R.cells ∧ slots + ms ≤ R.slots) :
    vx_Run p l e R s m args below meth c H locs cells slots mc ms g rest (Qc (Value.ref b :: As).toArray) XC free := by
  obtain ⟨⟨hrc, hrs, hfr, hlo, hws, hcw⟩, hcode, hini, hy, hlen, hl, hin, hse⟩ := cw
  have hK : vx_Back l R p e below s args y 3 8 (PreOf R mc ms Pc) (PostOf Qc mc ms free) (vx_Post XC mc ms free) := vx_backW (hh := hh) (bytes := bytes) (maxL := maxL) (ret := ret) hM hp.1 hrc hrs hfr hlo hws hcw (fun a' U hW => word_at hW (Or.inl (by first | rfl | simp [Cond.onTables, Cond.keeps, Cond.steady])) hini)
  obtain ⟨hx, hb, hml, ho, -⟩ := S
  obtain ⟨-, ⟨cellB, hcB, hoB, hclB⟩, hPc⟩ := hp
  intro T hT X
  rcases vx_callVX X hx (C := C) (hh := hh) (bytes := bytes) (maxL := maxL) (ret := ret) ho hl hin hse hcode hy hK (by rw [hT]; exact hcB) hoB hclB hg (hsize.trans hml.symm) (argsL := As) (rest := rest) (fun sig h => hn.trans (hlen sig h)) hstack hW (by rw [hb]; exact hdg)
    (fun vm₁ hW₁ => ⟨hf.1, hf.2, hPc (T.setVm vm₁) hT hW₁⟩) with ⟨v, vm₁, ⟨U', l2, c2, s2⟩, hW₁, X', ⟨g', mk, t, L, e1, e2, hq, h1, hL, h2, h3⟩, st⟩ | ⟨q, vm₁, ⟨U', l2, c2, s2⟩, hW₁, X', ⟨g', mk, t, L, E, ce, e1, e2, hq, hce, hcv, hcl, h1, hL, h2, h3⟩, st⟩
  · dsimp only [Pt.U, Pt.locs, Pt.cells, Pt.slots] at X' e1 e2 h1 h2 h3 st
    subst h1; subst h2; subst h3
    exact Or.inl ⟨v, (T.setVm vm₁).calling g' mk (Value.ref b :: As).toArray, t, U', L, hT, X', hL, e1, e2, hq, st⟩
  · dsimp only [Pt.U, Pt.locs, Pt.cells, Pt.slots] at X' e1 e2 h1 h2 h3 st hcl
    subst h1; subst h2; subst h3
    exact Or.inr ⟨q, (T.setVm vm₁).calling g' mk (Value.ref b :: As).toArray, t, U', L, E, ce, hT, X', hL, e1, e2, hq, hce, hcv, vx_cls hW₁ hcl, st⟩
theorem vx_runSX {hh : List (Nat × Nat × Nat × Nat)} (S : CallFix p m c cc nL s args Ts own) (hM : vx_Met l y ws rm Pc Qc XC mc ms free) (cw : vx_CSW R s args own index y bytes maxL ret hh ws rm mc ms n) (hp : PreS s H Pc As)
    (hg : g.method = m) (hn : As.length = n) (hsize : g.locals.size = nL) (hstack : g.stack = As.reverse ++ rest) (hW : 2 * g.monitorRoom + (rest.map fun v => v.category).sum ≤ 8) (hdg : decode cc g.pc = .ok (.invokestatic index, 3)) (hf : cells + mc ≤ R.cells ∧ slots + ms ≤ R.slots) :
    vx_Run p l e R s m args below meth c H locs cells slots mc ms g rest (Qc As.toArray) XC free := by
  obtain ⟨⟨hrc, hrs, hfr, hlo, hws, hcw⟩, hcode, hini, hy, hlen, hl, hstt⟩ := cw
  have hK : vx_Back l R p e below s args y 3 8 (PreOf R mc ms Pc) (PostOf Qc mc ms free) (vx_Post XC mc ms free) := vx_backW (hh := hh) (bytes := bytes) (maxL := maxL) (ret := ret) hM hp.1 hrc hrs hfr hlo hws hcw (fun a' U hW => word_at hW (Or.inl (by first | rfl | simp [Cond.onTables, Cond.keeps, Cond.steady])) hini)
  obtain ⟨hx, hb, hml, ho, -⟩ := S
  intro T hT X
  rcases vx_callSX X hx (hh := hh) (bytes := bytes) (maxL := maxL) (ret := ret) ho hl hstt hini hcode hy hK hg (hsize.trans hml.symm) (argsL := As) (rest := rest) (fun sig h => hn.trans (hlen sig h)) hstack hW (by rw [hb]; exact hdg)
    (fun vm₁ hW₁ => ⟨hf.1, hf.2, hp.2 (T.setVm vm₁) hT hW₁⟩) with ⟨v, vm₁, ⟨U', l2, c2, s2⟩, hW₁, X', ⟨g', mk, t, L, e1, e2, hq, h1, hL, h2, h3⟩, st⟩ | ⟨q, vm₁, ⟨U', l2, c2, s2⟩, hW₁, X', ⟨g', mk, t, L, E, ce, e1, e2, hq, hce, hcv, hcl, h1, hL, h2, h3⟩, st⟩
  · dsimp only [Pt.U, Pt.locs, Pt.cells, Pt.slots] at X' e1 e2 h1 h2 h3 st
    subst h1; subst h2; subst h3
    exact Or.inl ⟨v, (T.setVm vm₁).calling g' mk As.toArray, t, U', L, hT, X', hL, e1, e2, hq, st⟩
  · dsimp only [Pt.U, Pt.locs, Pt.cells, Pt.slots] at X' e1 e2 h1 h2 h3 st hcl
    subst h1; subst h2; subst h3
    exact Or.inr ⟨q, (T.setVm vm₁).calling g' mk As.toArray, t, U', L, E, ce, hT, X', hL, e1, e2, hq, hce, hcv, vx_cls hW₁ hcl, st⟩
end
end VXH
theorem vx_ofWH {l : Launch} {y : MethodName} {ws ws' : List Cond} {rm : Room} {Pc : Array Value → State → Prop} {Qc : Array Value → State → Outcome → State → Prop} {XC : String → State → State → Prop} {mc ms : Nat} {free : Addr → Prop} {cc : ByteArray} {maxL : Nat} {ret : Option FieldType} {hh : List (Nat × Nat × Nat × Nat)}
    (hy : plainName y.cls = true) (hw : ws = Cond.codeWith y cc maxL ret hh :: ws')
    (body : ∀ p e s m args below meth c s₁, BodyLoose p l y (headSpec ws rm) cc maxL ret e s m args below meth c s₁ → c.maxLocals = maxL → Pc args s →
      W p l e (headSpec ws rm).room s m args below meth c s.heap [] 0 0 (vx_MQ below Qc XC args s mc ms free) (entryFrame m args maxL)) : vx_Met l y ws rm Pc Qc XC mc ms free := by
  refine MetFree.of_bodyS (code := cc) (maxLocals := maxL) (ret := ret) hy ?_ ?_
  · intro args s m h hn
    obtain ⟨m9, meth, c, hn9, h1, h2, h3, h4, -, h5, h6, -⟩ := Cond.codeWith_spec (atoms_spec (ws := ws) h _ (by rw [hw]; exact List.mem_cons_self))
    cases hn.symm.trans hn9
    exact ⟨meth, c, h1, h2, h3, h4, h5, h6⟩
  · intro p e s m args below meth c s₁ B hml hP _
    have hh0 : s₁.heap = s.heap := by rw [B.state]; rfl
    obtain ⟨t, a1, o, b1, b2, b3⟩ := body p e s m args below meth c s₁ B hml hP s₁ hh0 (Stand.of_body B)
    exact ⟨t, o, a1, b1, b2, b3⟩
/-! ===== END ===== -/
end
section
def RX0 : String := "MakeupGas$Stock"
def TX0 : u_T := fun k => match k with
  | 0 => ("MakeupGas$Stock", "left", "[I", true)
  | 1 => ("MakeupGas$Stock", "yearsKept", "I", false)
  | _ => ("MakeupGas$Stock", "lapsedSum", "I", false)
def tyX0 : Nat → FieldType := fun k => match k with
  | 0 => .array .int
  | 1 => .int
  | _ => .int
abbrev wsX00 : List Cond := u_ws RX0 TX0 3
theorem nmX0 : ∀ a, a < 3 → ∀ b, b < 3 → a ≠ b → (TX0 a).2.1 ≠ (TX0 b).2.1 := by decide +kernel
theorem tyX0_ok : ∀ k, k < 3 → parseFieldDescriptor (TX0 k).2.2.1 = some (tyX0 k) := by decide +kernel
abbrev cX0_init : ByteArray := prog_2_method_1_code
def yX0_init : MethodName := ⟨RX0, "<init>", "(I)V"⟩
abbrev cX0_keepFor : ByteArray := prog_2_method_2_code
def yX0_keepFor : MethodName := ⟨RX0, "keepFor", "(I)V"⟩
abbrev cX0_empty : ByteArray := prog_2_method_3_code
def yX0_empty : MethodName := ⟨RX0, "empty", "()V"⟩
abbrev cX0_lapseBefore : ByteArray := prog_2_method_4_code
def yX0_lapseBefore : MethodName := ⟨RX0, "lapseBefore", "(I)V"⟩
abbrev cX0_put : ByteArray := prog_2_method_5_code
def yX0_put : MethodName := ⟨RX0, "put", "(II)V"⟩
abbrev cX0_drawFrom : ByteArray := prog_2_method_6_code
def yX0_drawFrom : MethodName := ⟨RX0, "drawFrom", "(II)I"⟩
abbrev cX0_leftFrom : ByteArray := prog_2_method_7_code
def yX0_leftFrom : MethodName := ⟨RX0, "leftFrom", "(I)I"⟩
abbrev cX0_lapsedInAll : ByteArray := prog_2_method_8_code
def yX0_lapsedInAll : MethodName := ⟨RX0, "lapsedInAll", "()I"⟩
def RX1 : String := "MakeupGas"
def TX1 : u_T := fun k => match k with
  | 0 => ("MakeupGas", "yearlyQuantity", "I", false)
  | 1 => ("MakeupGas", "leastPercent", "I", false)
  | 2 => ("MakeupGas", "shortfallPercent", "I", false)
  | 3 => ("MakeupGas", "pricePerYear", "[I", true)
  | 4 => ("MakeupGas", "excusedDays", "[I", true)
  | 5 => ("MakeupGas", "closedYears", "I", false)
  | 6 => ("MakeupGas", "takenPerDay", "[I", true)
  | 7 => ("MakeupGas", "takenPerYear", "[I", true)
  | 8 => ("MakeupGas", "makeUpStock", "LMakeupGas$Stock;", true)
  | 9 => ("MakeupGas", "surplusStock", "LMakeupGas$Stock;", true)
  | 10 => ("MakeupGas", "shortfallPerYear", "[I", true)
  | 11 => ("MakeupGas", "madeUpPerYear", "[I", true)
  | 12 => ("MakeupGas", "coveredPerYear", "[I", true)
  | 13 => ("MakeupGas", "surplusPerYear", "[I", true)
  | 14 => ("MakeupGas", "duePerYear", "[J", true)
  | 15 => ("MakeupGas", "billPerYear", "[J", true)
  | _ => ("MakeupGas", "billedInAll", "J", false)
def tyX1 : Nat → FieldType := fun k => match k with
  | 0 => .int
  | 1 => .int
  | 2 => .int
  | 3 => .array .int
  | 4 => .array .int
  | 5 => .int
  | 6 => .array .int
  | 7 => .array .int
  | 8 => .object "MakeupGas$Stock"
  | 9 => .object "MakeupGas$Stock"
  | 10 => .array .int
  | 11 => .array .int
  | 12 => .array .int
  | 13 => .array .int
  | 14 => .array .long
  | 15 => .array .long
  | _ => .long
abbrev wsX10 : List Cond := u_ws RX1 TX1 17
theorem nmX1 : ∀ a, a < 17 → ∀ b, b < 17 → a ≠ b → (TX1 a).2.1 ≠ (TX1 b).2.1 := by decide +kernel
theorem tyX1_ok : ∀ k, k < 17 → parseFieldDescriptor (TX1 k).2.2.1 = some (tyX1 k) := by decide +kernel
abbrev cX1_init : ByteArray := prog_1_method_1_code
def yX1_init : MethodName := ⟨RX1, "<init>", "()V"⟩
abbrev cX1_set : ByteArray := prog_1_method_2_code
def yX1_set : MethodName := ⟨RX1, "set", "(IIIII)V"⟩
abbrev cX1_review : ByteArray := prog_1_method_3_code
def yX1_review : MethodName := ⟨RX1, "review", "(II)I"⟩
abbrev cX1_excuse : ByteArray := prog_1_method_4_code
def yX1_excuse : MethodName := ⟨RX1, "excuse", "(II)I"⟩
abbrev cX1_take : ByteArray := prog_1_method_5_code
def yX1_take : MethodName := ⟨RX1, "take", "(II)I"⟩
abbrev cX1_takeDaily : ByteArray := prog_1_method_6_code
def yX1_takeDaily : MethodName := ⟨RX1, "takeDaily", "(III)I"⟩
abbrev cX1_close : ByteArray := prog_1_method_7_code
def yX1_close : MethodName := ⟨RX1, "close", "()J"⟩
abbrev cX1_closed : ByteArray := prog_1_method_8_code
def yX1_closed : MethodName := ⟨RX1, "closed", "()I"⟩
abbrev cX1_taken : ByteArray := prog_1_method_9_code
def yX1_taken : MethodName := ⟨RX1, "taken", "(I)I"⟩
abbrev cX1_takenFrom : ByteArray := prog_1_method_10_code
def yX1_takenFrom : MethodName := ⟨RX1, "takenFrom", "(II)I"⟩
abbrev cX1_price : ByteArray := prog_1_method_11_code
def yX1_price : MethodName := ⟨RX1, "price", "(I)I"⟩
abbrev cX1_least : ByteArray := prog_1_method_12_code
def yX1_least : MethodName := ⟨RX1, "least", "(I)I"⟩
abbrev cX1_shortfall : ByteArray := prog_1_method_13_code
def yX1_shortfall : MethodName := ⟨RX1, "shortfall", "(I)I"⟩
abbrev cX1_madeUp : ByteArray := prog_1_method_14_code
def yX1_madeUp : MethodName := ⟨RX1, "madeUp", "(I)I"⟩
abbrev cX1_covered : ByteArray := prog_1_method_15_code
def yX1_covered : MethodName := ⟨RX1, "covered", "(I)I"⟩
abbrev cX1_surplus : ByteArray := prog_1_method_16_code
def yX1_surplus : MethodName := ⟨RX1, "surplus", "(I)I"⟩
abbrev cX1_due : ByteArray := prog_1_method_17_code
def yX1_due : MethodName := ⟨RX1, "due", "(I)J"⟩
abbrev cX1_bill : ByteArray := prog_1_method_18_code
def yX1_bill : MethodName := ⟨RX1, "bill", "(I)J"⟩
abbrev cX1_makeUpLeft : ByteArray := prog_1_method_19_code
def yX1_makeUpLeft : MethodName := ⟨RX1, "makeUpLeft", "(I)I"⟩
abbrev cX1_surplusLeft : ByteArray := prog_1_method_20_code
def yX1_surplusLeft : MethodName := ⟨RX1, "surplusLeft", "(I)I"⟩
abbrev cX1_lapsed : ByteArray := prog_1_method_21_code
def yX1_lapsed : MethodName := ⟨RX1, "lapsed", "()I"⟩
abbrev cX1_open : ByteArray := prog_1_method_22_code
def yX1_open : MethodName := ⟨RX1, "open", "()J"⟩
abbrev cX1_requireRange : ByteArray := prog_1_method_23_code
def yX1_requireRange : MethodName := ⟨RX1, "requireRange", "(III)V"⟩
abbrev cX1_requireYear : ByteArray := prog_1_method_24_code
def yX1_requireYear : MethodName := ⟨RX1, "requireYear", "(I)V"⟩
abbrev cX1_requireDay : ByteArray := prog_1_method_25_code
def yX1_requireDay : MethodName := ⟨RX1, "requireDay", "(I)V"⟩
abbrev cX1_requireDays : ByteArray := prog_1_method_26_code
def yX1_requireDays : MethodName := ⟨RX1, "requireDays", "(II)V"⟩
abbrev cX1_requireClosedYear : ByteArray := prog_1_method_27_code
def yX1_requireClosedYear : MethodName := ⟨RX1, "requireClosedYear", "(I)V"⟩
abbrev cX1_requireYearGoingOn : ByteArray := prog_1_method_28_code
def yX1_requireYearGoingOn : MethodName := ⟨RX1, "requireYearGoingOn", "()V"⟩
abbrev cX1_requireUnused : ByteArray := prog_1_method_29_code
def yX1_requireUnused : MethodName := ⟨RX1, "requireUnused", "()V"⟩
abbrev cX1_requireRoom : ByteArray := prog_1_method_30_code
def yX1_requireRoom : MethodName := ⟨RX1, "requireRoom", "(III)V"⟩
abbrev cX1_addTakes : ByteArray := prog_1_method_31_code
def yX1_addTakes : MethodName := ⟨RX1, "addTakes", "(III)V"⟩
abbrev cX1_leastQuantity : ByteArray := prog_1_method_32_code
def yX1_leastQuantity : MethodName := ⟨RX1, "leastQuantity", "(I)I"⟩
abbrev cX1_shortfallPrice : ByteArray := prog_1_method_33_code
def yX1_shortfallPrice : MethodName := ⟨RX1, "shortfallPrice", "(I)I"⟩
abbrev cX1_settleClosedYears : ByteArray := prog_1_method_34_code
def yX1_settleClosedYears : MethodName := ⟨RX1, "settleClosedYears", "()V"⟩
abbrev cX1_settleGap : ByteArray := prog_1_method_35_code
def yX1_settleGap : MethodName := ⟨RX1, "settleGap", "(I)V"⟩
abbrev cX1_drawSurplus : ByteArray := prog_1_method_36_code
def yX1_drawSurplus : MethodName := ⟨RX1, "drawSurplus", "(II)I"⟩
abbrev cX1_settleEnough : ByteArray := prog_1_method_37_code
def yX1_settleEnough : MethodName := ⟨RX1, "settleEnough", "(I)V"⟩
abbrev cX1_dueInAll : ByteArray := prog_1_method_38_code
def yX1_dueInAll : MethodName := ⟨RX1, "dueInAll", "()J"⟩
def RX2 : String := "MakeupGasModel"
def TX2 : u_T := fun k => match k with
  | _ => ("", "", "", false)
def tyX2 : Nat → FieldType := fun k => match k with
  | _ => .int
abbrev wsX20 : List Cond := u_ws RX2 TX2 0
theorem nmX2 : ∀ a, a < 0 → ∀ b, b < 0 → a ≠ b → (TX2 a).2.1 ≠ (TX2 b).2.1 := by decide +kernel
theorem tyX2_ok : ∀ k, k < 0 → parseFieldDescriptor (TX2 k).2.2.1 = some (tyX2 k) := by decide +kernel
def RJx145de : String := "java/io/Serializable"
def TJx145de : u_T := fun k => match k with
  | _ => ("", "", "", false)
def tyJx145de : Nat → FieldType := fun k => match k with
  | _ => .int
abbrev wsJx145de0 : List Cond := u_ws RJx145de TJx145de 0
theorem nmJx145de : ∀ a, a < 0 → ∀ b, b < 0 → a ≠ b → (TJx145de a).2.1 ≠ (TJx145de b).2.1 := by decide +kernel
theorem tyJx145de_ok : ∀ k, k < 0 → parseFieldDescriptor (TJx145de k).2.2.1 = some (tyJx145de k) := by decide +kernel
def RJ9 : String := "java/lang/Math"
def TJ9 : u_T := fun k => match k with
  | _ => ("", "", "", false)
def tyJ9 : Nat → FieldType := fun k => match k with
  | _ => .int
abbrev wsJ90 : List Cond := u_ws RJ9 TJ9 0
theorem nmJ9 : ∀ a, a < 0 → ∀ b, b < 0 → a ≠ b → (TJ9 a).2.1 ≠ (TJ9 b).2.1 := by decide +kernel
theorem tyJ9_ok : ∀ k, k < 0 → parseFieldDescriptor (TJ9 k).2.2.1 = some (tyJ9 k) := by decide +kernel
abbrev cJ9_max_7cf53 : ByteArray := prog_8_method_65_code
def yJ9_max_7cf53 : MethodName := ⟨RJ9, "max", "(II)I"⟩
abbrev cJ9_min_7cf53 : ByteArray := prog_8_method_69_code
def yJ9_min_7cf53 : MethodName := ⟨RJ9, "min", "(II)I"⟩
def RJ0 : String := "java/lang/String"
def TJ0 : u_T := fun k => match k with
  | _ => ("", "", "", false)
def tyJ0 : Nat → FieldType := fun k => match k with
  | _ => .int
abbrev wsJ00 : List Cond := u_ws RJ0 TJ0 0
theorem nmJ0 : ∀ a, a < 0 → ∀ b, b < 0 → a ≠ b → (TJ0 a).2.1 ≠ (TJ0 b).2.1 := by decide +kernel
theorem tyJ0_ok : ∀ k, k < 0 → parseFieldDescriptor (TJ0 k).2.2.1 = some (tyJ0 k) := by decide +kernel
def RJ7 : String := "java/util/Arrays"
def TJ7 : u_T := fun k => match k with
  | _ => ("", "", "", false)
def tyJ7 : Nat → FieldType := fun k => match k with
  | _ => .int
abbrev wsJ70 : List Cond := u_ws RJ7 TJ7 0
theorem nmJ7 : ∀ a, a < 0 → ∀ b, b < 0 → a ≠ b → (TJ7 a).2.1 ≠ (TJ7 b).2.1 := by decide +kernel
theorem tyJ7_ok : ∀ k, k < 0 → parseFieldDescriptor (TJ7 k).2.2.1 = some (tyJ7 k) := by decide +kernel
abbrev cJ7_fill_53178 : ByteArray := prog_12_method_103_code
def yJ7_fill_53178 : MethodName := ⟨RJ7, "fill", "([II)V"⟩
def RL : String := "MakeupGasLaw"
abbrev cL_draw : ByteArray := method_2_code
def yL_draw : MethodName := ⟨RL, "draw", "([II)I"⟩
abbrev cL_step : ByteArray := method_3_code
def yL_step : MethodName := ⟨RL, "step", "(LMakeupGas;[IIII)Z"⟩
abbrev cL_takes : ByteArray := method_4_code
def yL_takes : MethodName := ⟨RL, "takes", "(LMakeupGas;[IIII)Z"⟩
abbrev cL_closes : ByteArray := method_5_code
def yL_closes : MethodName := ⟨RL, "closes", "(LMakeupGas;[I)Z"⟩
abbrev cL_isYear : ByteArray := method_6_code
def yL_isYear : MethodName := ⟨RL, "isYear", "(LMakeupGas;[II)Z"⟩
abbrev cL_areYears : ByteArray := method_7_code
def yL_areYears : MethodName := ⟨RL, "areYears", "(LMakeupGas;[I)Z"⟩
abbrev cL_law : ByteArray := code
def yL_law : MethodName := ⟨RL, "law", "([I)Z"⟩
def wsX0_init : List Cond := .code yX0_init cX0_init 2 none :: ([.methodLink RX0 3 objectInit, .instanceMethod objectInit, .code objectInit ⟨#[0xb1]⟩ 1 none, .arrayClass .int, .fieldLink RX0 9 "MakeupGas$Stock" "left" "[I", .fieldLink RX0 15 "MakeupGas$Stock" "yearsKept" "I"] ++ wsX00)
def wsX0_keepFor : List Cond := .code yX0_keepFor cX0_keepFor 2 none :: ([.fieldLink RX0 15 "MakeupGas$Stock" "yearsKept" "I"] ++ wsX00)
def wsJ7_fill_53178 : List Cond := .code yJ7_fill_53178 cJ7_fill_53178 4 none :: ([])
def wsX0_empty : List Cond := .code yX0_empty cX0_empty 1 none :: ([.fieldLink RX0 9 "MakeupGas$Stock" "left" "[I", .fieldLink RX0 25 "MakeupGas$Stock" "lapsedSum" "I", .methodLink RX0 19 yJ7_fill_53178, .static yJ7_fill_53178, .initialized RJ7, .code yJ7_fill_53178 cJ7_fill_53178 4 none] ++ wsX00)
def wsX0_lapseBefore : List Cond := .code yX0_lapseBefore cX0_lapseBefore 3 none :: ([.fieldLink RX0 15 "MakeupGas$Stock" "yearsKept" "I", .fieldLink RX0 25 "MakeupGas$Stock" "lapsedSum" "I", .fieldLink RX0 9 "MakeupGas$Stock" "left" "[I"] ++ wsX00)
def wsX0_put : List Cond := .code yX0_put cX0_put 3 none :: ([.fieldLink RX0 9 "MakeupGas$Stock" "left" "[I"] ++ wsX00)
def wsX0_drawFrom : List Cond := .code yX0_drawFrom cX0_drawFrom 4 (some .int) :: ([.fieldLink RX0 9 "MakeupGas$Stock" "left" "[I", .methodLink RX0 28 Lib.Math.min.name, .static Lib.Math.min.name, .initialized "java/lang/Math", .code Lib.Math.min.name Lib.Math.min.code 2 (some .int)] ++ wsX00)
def wsX0_leftFrom : List Cond := .code yX0_leftFrom cX0_leftFrom 2 (some .int) :: ([.fieldLink RX0 9 "MakeupGas$Stock" "left" "[I"] ++ wsX00)
def wsX0_lapsedInAll : List Cond := .code yX0_lapsedInAll cX0_lapsedInAll 1 (some .int) :: ([.fieldLink RX0 25 "MakeupGas$Stock" "lapsedSum" "I"] ++ wsX00)
def wsX1_init_r1 : List Cond := [Cond.methodLink RX1 1 objectInit, Cond.instanceMethod objectInit, Cond.code objectInit ⟨#[0xb1]⟩ 1 none, Cond.constant RX1 9 (36000), Cond.fieldLink RX1 10 "MakeupGas" "yearlyQuantity" "I", Cond.fieldLink RX1 14 "MakeupGas" "leastPercent" "I", Cond.fieldLink RX1 17 "MakeupGas" "shortfallPercent" "I", Cond.arrayClass .int, Cond.fieldLink RX1 20 "MakeupGas" "pricePerYear" "[I", Cond.fieldLink RX1 30 "MakeupGas" "excusedDays" "[I", Cond.fieldLink RX1 33 "MakeupGas" "takenPerDay" "[I", Cond.fieldLink RX1 36 "MakeupGas" "takenPerYear" "[I", Cond.classLink RX1 39 RX0, Cond.instantiable RX0 3, Cond.initialized RX0, Cond.fieldLink RX1 44 "MakeupGas" "makeUpStock" "LMakeupGas$Stock;", Cond.fieldLink RX1 48 "MakeupGas" "surplusStock" "LMakeupGas$Stock;", Cond.fieldLink RX1 51 "MakeupGas" "shortfallPerYear" "[I", Cond.fieldLink RX1 54 "MakeupGas" "madeUpPerYear" "[I", Cond.fieldLink RX1 57 "MakeupGas" "coveredPerYear" "[I", Cond.fieldLink RX1 60 "MakeupGas" "surplusPerYear" "[I", Cond.arrayClass .long, Cond.fieldLink RX1 63 "MakeupGas" "duePerYear" "[J", Cond.fieldLink RX1 67 "MakeupGas" "billPerYear" "[J"]
def wsX1_init_r2 : List Cond := [Cond.methodLink RX1 24 yJ7_fill_53178, Cond.static yJ7_fill_53178, Cond.initialized RJ7, Cond.code yJ7_fill_53178 cJ7_fill_53178 4 none, Cond.methodLink RX1 41 yX0_init, Cond.instanceMethod yX0_init, Cond.code yX0_init cX0_init 2 none, Cond.methodLink RX0 3 objectInit, Cond.fieldLink RX0 9 "MakeupGas$Stock" "left" "[I", Cond.fieldLink RX0 15 "MakeupGas$Stock" "yearsKept" "I"]
def wsX1_init : List Cond := .code yX1_init cX1_init 1 none :: ((wsX1_init_r1 ++ wsX1_init_r2) ++ wsX10 ++ wsX00)
def wsX1_requireRange : List Cond := .code yX1_requireRange cX1_requireRange 3 none :: ([.classLink RX1 128 "java/lang/IllegalArgumentException", .initialized "java/lang/IllegalArgumentException"] ++ (vx_atS RX1 132 "java/lang/IllegalArgumentException" ["java/lang/RuntimeException", "java/lang/Exception"]).filter goodWord)
def wsX1_requireUnused : List Cond := .code yX1_requireUnused cX1_requireUnused 1 none :: ([.classLink RX1 135 "java/lang/IllegalStateException", .initialized "java/lang/IllegalStateException", .fieldLink RX1 103 "MakeupGas" "closedYears" "I", .fieldLink RX1 36 "MakeupGas" "takenPerYear" "[I"] ++ wsX10 ++ (vx_atS RX1 139 "java/lang/IllegalStateException" ["java/lang/RuntimeException", "java/lang/Exception"]).filter goodWord)
def wsX1_set_r1 : List Cond := [Cond.constant RX1 70 (100000), Cond.fieldLink RX1 10 "MakeupGas" "yearlyQuantity" "I", Cond.fieldLink RX1 14 "MakeupGas" "leastPercent" "I", Cond.fieldLink RX1 17 "MakeupGas" "shortfallPercent" "I", Cond.fieldLink RX1 44 "MakeupGas" "makeUpStock" "LMakeupGas$Stock;", Cond.fieldLink RX1 48 "MakeupGas" "surplusStock" "LMakeupGas$Stock;", Cond.methodLink RX1 71 yX1_requireRange, Cond.static yX1_requireRange, Cond.initialized RX1, Cond.code yX1_requireRange cX1_requireRange 3 none, Cond.classLink RX1 128 "java/lang/IllegalArgumentException", Cond.initialized "java/lang/IllegalArgumentException", Cond.methodLink RX1 75 yX1_requireUnused, Cond.instanceMethod yX1_requireUnused, Cond.selects RX1 yX1_requireUnused yX1_requireUnused, Cond.code yX1_requireUnused cX1_requireUnused 1 none, Cond.classLink RX1 135 "java/lang/IllegalStateException", Cond.initialized "java/lang/IllegalStateException", Cond.fieldLink RX1 103 "MakeupGas" "closedYears" "I", Cond.fieldLink RX1 36 "MakeupGas" "takenPerYear" "[I", Cond.methodLink RX1 78 yX0_keepFor, Cond.instanceMethod yX0_keepFor, Cond.selects RX0 yX0_keepFor yX0_keepFor, Cond.initialized RX0]
def wsX1_set_r2 : List Cond := [Cond.code yX0_keepFor cX0_keepFor 2 none, Cond.fieldLink RX0 15 "MakeupGas$Stock" "yearsKept" "I"]
def wsX1_set : List Cond := .code yX1_set cX1_set 6 none :: ((wsX1_set_r1 ++ wsX1_set_r2) ++ wsX10 ++ wsX00 ++ (vx_atS RX1 132 "java/lang/IllegalArgumentException" ["java/lang/RuntimeException", "java/lang/Exception"]).filter goodWord ++ (vx_atS RX1 139 "java/lang/IllegalStateException" ["java/lang/RuntimeException", "java/lang/Exception"]).filter goodWord)
def wsX1_requireYear : List Cond := .code yX1_requireYear cX1_requireYear 1 none :: ([.methodLink RX1 71 yX1_requireRange, .static yX1_requireRange, .initialized RX1, .code yX1_requireRange cX1_requireRange 3 none, .classLink RX1 128 "java/lang/IllegalArgumentException", .initialized "java/lang/IllegalArgumentException"] ++ (vx_atS RX1 132 "java/lang/IllegalArgumentException" ["java/lang/RuntimeException", "java/lang/Exception"]).filter goodWord)
def wsX1_leastQuantity : List Cond := .code yX1_leastQuantity cX1_leastQuantity 4 (some .int) :: ([.fieldLink RX1 10 "MakeupGas" "yearlyQuantity" "I", .fieldLink RX1 14 "MakeupGas" "leastPercent" "I", .fieldLink RX1 30 "MakeupGas" "excusedDays" "[I", .constantLong RX1 146 (36000)] ++ wsX10)
def wsX1_drawSurplus : List Cond := .code yX1_drawSurplus cX1_drawSurplus 5 (some .int) :: ([.fieldLink RX1 48 "MakeupGas" "surplusStock" "LMakeupGas$Stock;", .methodLink RX1 170 yX0_drawFrom, .instanceMethod yX0_drawFrom, .selects RX0 yX0_drawFrom yX0_drawFrom, .initialized RX0, .code yX0_drawFrom cX0_drawFrom 4 (some .int), .fieldLink RX0 9 "MakeupGas$Stock" "left" "[I", .methodLink RX0 28 Lib.Math.min.name, .static Lib.Math.min.name, .initialized "java/lang/Math", .code Lib.Math.min.name Lib.Math.min.code 2 (some .int)] ++ wsX10 ++ wsX00)
def wsX1_shortfallPrice : List Cond := .code yX1_shortfallPrice cX1_shortfallPrice 2 (some .int) :: ([.fieldLink RX1 20 "MakeupGas" "pricePerYear" "[I", .fieldLink RX1 17 "MakeupGas" "shortfallPercent" "I"] ++ wsX10)
def wsX1_settleGap_r1 : List Cond := [Cond.fieldLink RX1 36 "MakeupGas" "takenPerYear" "[I", Cond.fieldLink RX1 44 "MakeupGas" "makeUpStock" "LMakeupGas$Stock;", Cond.fieldLink RX1 57 "MakeupGas" "coveredPerYear" "[I", Cond.fieldLink RX1 51 "MakeupGas" "shortfallPerYear" "[I", Cond.fieldLink RX1 54 "MakeupGas" "madeUpPerYear" "[I", Cond.fieldLink RX1 60 "MakeupGas" "surplusPerYear" "[I", Cond.fieldLink RX1 63 "MakeupGas" "duePerYear" "[J", Cond.fieldLink RX1 20 "MakeupGas" "pricePerYear" "[I", Cond.methodLink RX1 114 yX1_leastQuantity, Cond.instanceMethod yX1_leastQuantity, Cond.selects RX1 yX1_leastQuantity yX1_leastQuantity, Cond.initialized RX1, Cond.code yX1_leastQuantity cX1_leastQuantity 4 (some .int), Cond.fieldLink RX1 10 "MakeupGas" "yearlyQuantity" "I", Cond.fieldLink RX1 14 "MakeupGas" "leastPercent" "I", Cond.fieldLink RX1 30 "MakeupGas" "excusedDays" "[I", Cond.constantLong RX1 146 (36000), Cond.methodLink RX1 160 yX1_drawSurplus, Cond.instanceMethod yX1_drawSurplus, Cond.selects RX1 yX1_drawSurplus yX1_drawSurplus, Cond.code yX1_drawSurplus cX1_drawSurplus 5 (some .int), Cond.fieldLink RX1 48 "MakeupGas" "surplusStock" "LMakeupGas$Stock;", Cond.methodLink RX1 170 yX0_drawFrom, Cond.instanceMethod yX0_drawFrom]
def wsX1_settleGap_r2 : List Cond := [Cond.selects RX0 yX0_drawFrom yX0_drawFrom, Cond.initialized RX0, Cond.code yX0_drawFrom cX0_drawFrom 4 (some .int), Cond.fieldLink RX0 9 "MakeupGas$Stock" "left" "[I", Cond.methodLink RX0 28 Lib.Math.min.name, Cond.static Lib.Math.min.name, Cond.initialized "java/lang/Math", Cond.code Lib.Math.min.name Lib.Math.min.code 2 (some .int), Cond.methodLink RX1 164 yX0_put, Cond.instanceMethod yX0_put, Cond.selects RX0 yX0_put yX0_put, Cond.code yX0_put cX0_put 3 none, Cond.methodLink RX1 167 yX1_shortfallPrice, Cond.instanceMethod yX1_shortfallPrice, Cond.selects RX1 yX1_shortfallPrice yX1_shortfallPrice, Cond.code yX1_shortfallPrice cX1_shortfallPrice 2 (some .int), Cond.fieldLink RX1 17 "MakeupGas" "shortfallPercent" "I"]
def wsX1_settleGap : List Cond := .code yX1_settleGap cX1_settleGap 5 none :: ((wsX1_settleGap_r1 ++ wsX1_settleGap_r2) ++ wsX10 ++ wsX00)
def wsX1_settleEnough_r1 : List Cond := [Cond.fieldLink RX1 36 "MakeupGas" "takenPerYear" "[I", Cond.fieldLink RX1 44 "MakeupGas" "makeUpStock" "LMakeupGas$Stock;", Cond.fieldLink RX1 20 "MakeupGas" "pricePerYear" "[I", Cond.methodLink RX1 173 Lib.Math.max.name, Cond.static Lib.Math.max.name, Cond.initialized "java/lang/Math", Cond.code Lib.Math.max.name Lib.Math.max.code 2 (some .int), Cond.fieldLink RX1 10 "MakeupGas" "yearlyQuantity" "I", Cond.fieldLink RX1 48 "MakeupGas" "surplusStock" "LMakeupGas$Stock;", Cond.fieldLink RX1 57 "MakeupGas" "coveredPerYear" "[I", Cond.fieldLink RX1 51 "MakeupGas" "shortfallPerYear" "[I", Cond.fieldLink RX1 54 "MakeupGas" "madeUpPerYear" "[I", Cond.fieldLink RX1 60 "MakeupGas" "surplusPerYear" "[I", Cond.fieldLink RX1 63 "MakeupGas" "duePerYear" "[J", Cond.methodLink RX1 114 yX1_leastQuantity, Cond.instanceMethod yX1_leastQuantity, Cond.selects RX1 yX1_leastQuantity yX1_leastQuantity, Cond.initialized RX1, Cond.code yX1_leastQuantity cX1_leastQuantity 4 (some .int), Cond.fieldLink RX1 14 "MakeupGas" "leastPercent" "I", Cond.fieldLink RX1 30 "MakeupGas" "excusedDays" "[I", Cond.constantLong RX1 146 (36000), Cond.methodLink RX1 170 yX0_drawFrom, Cond.instanceMethod yX0_drawFrom]
def wsX1_settleEnough_r2 : List Cond := [Cond.selects RX0 yX0_drawFrom yX0_drawFrom, Cond.initialized RX0, Cond.code yX0_drawFrom cX0_drawFrom 4 (some .int), Cond.fieldLink RX0 9 "MakeupGas$Stock" "left" "[I", Cond.methodLink RX0 28 Lib.Math.min.name, Cond.static Lib.Math.min.name, Cond.code Lib.Math.min.name Lib.Math.min.code 2 (some .int), Cond.methodLink RX1 167 yX1_shortfallPrice, Cond.instanceMethod yX1_shortfallPrice, Cond.selects RX1 yX1_shortfallPrice yX1_shortfallPrice, Cond.code yX1_shortfallPrice cX1_shortfallPrice 2 (some .int), Cond.fieldLink RX1 17 "MakeupGas" "shortfallPercent" "I", Cond.methodLink RX1 164 yX0_put, Cond.instanceMethod yX0_put, Cond.selects RX0 yX0_put yX0_put, Cond.code yX0_put cX0_put 3 none]
def wsX1_settleEnough : List Cond := .code yX1_settleEnough cX1_settleEnough 8 none :: ((wsX1_settleEnough_r1 ++ wsX1_settleEnough_r2) ++ wsX10 ++ wsX00)
def wsX1_settleClosedYears_r1 : List Cond := [Cond.fieldLink RX1 44 "MakeupGas" "makeUpStock" "LMakeupGas$Stock;", Cond.fieldLink RX1 48 "MakeupGas" "surplusStock" "LMakeupGas$Stock;", Cond.fieldLink RX1 103 "MakeupGas" "closedYears" "I", Cond.fieldLink RX1 36 "MakeupGas" "takenPerYear" "[I", Cond.methodLink RX1 148 yX0_empty, Cond.instanceMethod yX0_empty, Cond.selects RX0 yX0_empty yX0_empty, Cond.initialized RX0, Cond.code yX0_empty cX0_empty 1 none, Cond.fieldLink RX0 9 "MakeupGas$Stock" "left" "[I", Cond.fieldLink RX0 25 "MakeupGas$Stock" "lapsedSum" "I", Cond.methodLink RX0 19 yJ7_fill_53178, Cond.static yJ7_fill_53178, Cond.initialized RJ7, Cond.code yJ7_fill_53178 cJ7_fill_53178 4 none, Cond.methodLink RX1 151 yX0_lapseBefore, Cond.instanceMethod yX0_lapseBefore, Cond.selects RX0 yX0_lapseBefore yX0_lapseBefore, Cond.code yX0_lapseBefore cX0_lapseBefore 3 none, Cond.fieldLink RX0 15 "MakeupGas$Stock" "yearsKept" "I", Cond.methodLink RX1 114 yX1_leastQuantity, Cond.instanceMethod yX1_leastQuantity, Cond.selects RX1 yX1_leastQuantity yX1_leastQuantity, Cond.initialized RX1]
def wsX1_settleClosedYears_r2 : List Cond := [Cond.code yX1_leastQuantity cX1_leastQuantity 4 (some .int), Cond.fieldLink RX1 10 "MakeupGas" "yearlyQuantity" "I", Cond.fieldLink RX1 14 "MakeupGas" "leastPercent" "I", Cond.fieldLink RX1 30 "MakeupGas" "excusedDays" "[I", Cond.constantLong RX1 146 (36000), Cond.methodLink RX1 154 yX1_settleGap, Cond.instanceMethod yX1_settleGap, Cond.selects RX1 yX1_settleGap yX1_settleGap, Cond.code yX1_settleGap cX1_settleGap 5 none, Cond.fieldLink RX1 57 "MakeupGas" "coveredPerYear" "[I", Cond.fieldLink RX1 51 "MakeupGas" "shortfallPerYear" "[I", Cond.fieldLink RX1 54 "MakeupGas" "madeUpPerYear" "[I", Cond.fieldLink RX1 60 "MakeupGas" "surplusPerYear" "[I", Cond.fieldLink RX1 63 "MakeupGas" "duePerYear" "[J", Cond.fieldLink RX1 20 "MakeupGas" "pricePerYear" "[I", Cond.methodLink RX1 160 yX1_drawSurplus, Cond.instanceMethod yX1_drawSurplus, Cond.selects RX1 yX1_drawSurplus yX1_drawSurplus, Cond.code yX1_drawSurplus cX1_drawSurplus 5 (some .int), Cond.methodLink RX1 170 yX0_drawFrom, Cond.instanceMethod yX0_drawFrom, Cond.selects RX0 yX0_drawFrom yX0_drawFrom, Cond.code yX0_drawFrom cX0_drawFrom 4 (some .int), Cond.methodLink RX0 28 Lib.Math.min.name]
def wsX1_settleClosedYears_r3 : List Cond := [Cond.static Lib.Math.min.name, Cond.initialized "java/lang/Math", Cond.code Lib.Math.min.name Lib.Math.min.code 2 (some .int), Cond.methodLink RX1 164 yX0_put, Cond.instanceMethod yX0_put, Cond.selects RX0 yX0_put yX0_put, Cond.code yX0_put cX0_put 3 none, Cond.methodLink RX1 167 yX1_shortfallPrice, Cond.instanceMethod yX1_shortfallPrice, Cond.selects RX1 yX1_shortfallPrice yX1_shortfallPrice, Cond.code yX1_shortfallPrice cX1_shortfallPrice 2 (some .int), Cond.fieldLink RX1 17 "MakeupGas" "shortfallPercent" "I", Cond.methodLink RX1 157 yX1_settleEnough, Cond.instanceMethod yX1_settleEnough, Cond.selects RX1 yX1_settleEnough yX1_settleEnough, Cond.code yX1_settleEnough cX1_settleEnough 8 none, Cond.methodLink RX1 173 Lib.Math.max.name, Cond.static Lib.Math.max.name, Cond.code Lib.Math.max.name Lib.Math.max.code 2 (some .int)]
def wsX1_settleClosedYears : List Cond := .code yX1_settleClosedYears cX1_settleClosedYears 2 none :: ((wsX1_settleClosedYears_r1 ++ (wsX1_settleClosedYears_r2 ++ wsX1_settleClosedYears_r3)) ++ wsX10 ++ wsX00)
def wsX1_review_r1 : List Cond := [Cond.fieldLink RX1 20 "MakeupGas" "pricePerYear" "[I", Cond.methodLink RX1 81 yX1_requireYear, Cond.static yX1_requireYear, Cond.initialized RX1, Cond.code yX1_requireYear cX1_requireYear 1 none, Cond.methodLink RX1 71 yX1_requireRange, Cond.static yX1_requireRange, Cond.code yX1_requireRange cX1_requireRange 3 none, Cond.classLink RX1 128 "java/lang/IllegalArgumentException", Cond.initialized "java/lang/IllegalArgumentException", Cond.methodLink RX1 84 yX1_settleClosedYears, Cond.instanceMethod yX1_settleClosedYears, Cond.selects RX1 yX1_settleClosedYears yX1_settleClosedYears, Cond.code yX1_settleClosedYears cX1_settleClosedYears 2 none, Cond.fieldLink RX1 44 "MakeupGas" "makeUpStock" "LMakeupGas$Stock;", Cond.fieldLink RX1 48 "MakeupGas" "surplusStock" "LMakeupGas$Stock;", Cond.fieldLink RX1 103 "MakeupGas" "closedYears" "I", Cond.fieldLink RX1 36 "MakeupGas" "takenPerYear" "[I", Cond.methodLink RX1 148 yX0_empty, Cond.instanceMethod yX0_empty, Cond.selects RX0 yX0_empty yX0_empty, Cond.initialized RX0, Cond.code yX0_empty cX0_empty 1 none, Cond.fieldLink RX0 9 "MakeupGas$Stock" "left" "[I"]
def wsX1_review_r2 : List Cond := [Cond.fieldLink RX0 25 "MakeupGas$Stock" "lapsedSum" "I", Cond.methodLink RX0 19 yJ7_fill_53178, Cond.static yJ7_fill_53178, Cond.initialized RJ7, Cond.code yJ7_fill_53178 cJ7_fill_53178 4 none, Cond.methodLink RX1 151 yX0_lapseBefore, Cond.instanceMethod yX0_lapseBefore, Cond.selects RX0 yX0_lapseBefore yX0_lapseBefore, Cond.code yX0_lapseBefore cX0_lapseBefore 3 none, Cond.fieldLink RX0 15 "MakeupGas$Stock" "yearsKept" "I", Cond.methodLink RX1 114 yX1_leastQuantity, Cond.instanceMethod yX1_leastQuantity, Cond.selects RX1 yX1_leastQuantity yX1_leastQuantity, Cond.code yX1_leastQuantity cX1_leastQuantity 4 (some .int), Cond.fieldLink RX1 10 "MakeupGas" "yearlyQuantity" "I", Cond.fieldLink RX1 14 "MakeupGas" "leastPercent" "I", Cond.fieldLink RX1 30 "MakeupGas" "excusedDays" "[I", Cond.constantLong RX1 146 (36000), Cond.methodLink RX1 154 yX1_settleGap, Cond.instanceMethod yX1_settleGap, Cond.selects RX1 yX1_settleGap yX1_settleGap, Cond.code yX1_settleGap cX1_settleGap 5 none, Cond.fieldLink RX1 57 "MakeupGas" "coveredPerYear" "[I", Cond.fieldLink RX1 51 "MakeupGas" "shortfallPerYear" "[I"]
def wsX1_review_r3 : List Cond := [Cond.fieldLink RX1 54 "MakeupGas" "madeUpPerYear" "[I", Cond.fieldLink RX1 60 "MakeupGas" "surplusPerYear" "[I", Cond.fieldLink RX1 63 "MakeupGas" "duePerYear" "[J", Cond.methodLink RX1 160 yX1_drawSurplus, Cond.instanceMethod yX1_drawSurplus, Cond.selects RX1 yX1_drawSurplus yX1_drawSurplus, Cond.code yX1_drawSurplus cX1_drawSurplus 5 (some .int), Cond.methodLink RX1 170 yX0_drawFrom, Cond.instanceMethod yX0_drawFrom, Cond.selects RX0 yX0_drawFrom yX0_drawFrom, Cond.code yX0_drawFrom cX0_drawFrom 4 (some .int), Cond.methodLink RX0 28 Lib.Math.min.name, Cond.static Lib.Math.min.name, Cond.initialized "java/lang/Math", Cond.code Lib.Math.min.name Lib.Math.min.code 2 (some .int), Cond.methodLink RX1 164 yX0_put, Cond.instanceMethod yX0_put, Cond.selects RX0 yX0_put yX0_put, Cond.code yX0_put cX0_put 3 none, Cond.methodLink RX1 167 yX1_shortfallPrice, Cond.instanceMethod yX1_shortfallPrice, Cond.selects RX1 yX1_shortfallPrice yX1_shortfallPrice, Cond.code yX1_shortfallPrice cX1_shortfallPrice 2 (some .int), Cond.fieldLink RX1 17 "MakeupGas" "shortfallPercent" "I"]
def wsX1_review_r4 : List Cond := [Cond.methodLink RX1 157 yX1_settleEnough, Cond.instanceMethod yX1_settleEnough, Cond.selects RX1 yX1_settleEnough yX1_settleEnough, Cond.code yX1_settleEnough cX1_settleEnough 8 none, Cond.methodLink RX1 173 Lib.Math.max.name, Cond.static Lib.Math.max.name, Cond.code Lib.Math.max.name Lib.Math.max.code 2 (some .int)]
def wsX1_review : List Cond := .code yX1_review cX1_review 5 (some .int) :: ((wsX1_review_r1 ++ (wsX1_review_r2 ++ (wsX1_review_r3 ++ wsX1_review_r4))) ++ wsX10 ++ wsX00 ++ (vx_atS RX1 132 "java/lang/IllegalArgumentException" ["java/lang/RuntimeException", "java/lang/Exception"]).filter goodWord)
def wsX1_excuse_r1 : List Cond := [Cond.fieldLink RX1 30 "MakeupGas" "excusedDays" "[I", Cond.methodLink RX1 81 yX1_requireYear, Cond.static yX1_requireYear, Cond.initialized RX1, Cond.code yX1_requireYear cX1_requireYear 1 none, Cond.methodLink RX1 71 yX1_requireRange, Cond.static yX1_requireRange, Cond.code yX1_requireRange cX1_requireRange 3 none, Cond.classLink RX1 128 "java/lang/IllegalArgumentException", Cond.initialized "java/lang/IllegalArgumentException", Cond.methodLink RX1 84 yX1_settleClosedYears, Cond.instanceMethod yX1_settleClosedYears, Cond.selects RX1 yX1_settleClosedYears yX1_settleClosedYears, Cond.code yX1_settleClosedYears cX1_settleClosedYears 2 none, Cond.fieldLink RX1 44 "MakeupGas" "makeUpStock" "LMakeupGas$Stock;", Cond.fieldLink RX1 48 "MakeupGas" "surplusStock" "LMakeupGas$Stock;", Cond.fieldLink RX1 103 "MakeupGas" "closedYears" "I", Cond.fieldLink RX1 36 "MakeupGas" "takenPerYear" "[I", Cond.methodLink RX1 148 yX0_empty, Cond.instanceMethod yX0_empty, Cond.selects RX0 yX0_empty yX0_empty, Cond.initialized RX0, Cond.code yX0_empty cX0_empty 1 none, Cond.fieldLink RX0 9 "MakeupGas$Stock" "left" "[I"]
def wsX1_excuse_r2 : List Cond := [Cond.fieldLink RX0 25 "MakeupGas$Stock" "lapsedSum" "I", Cond.methodLink RX0 19 yJ7_fill_53178, Cond.static yJ7_fill_53178, Cond.initialized RJ7, Cond.code yJ7_fill_53178 cJ7_fill_53178 4 none, Cond.methodLink RX1 151 yX0_lapseBefore, Cond.instanceMethod yX0_lapseBefore, Cond.selects RX0 yX0_lapseBefore yX0_lapseBefore, Cond.code yX0_lapseBefore cX0_lapseBefore 3 none, Cond.fieldLink RX0 15 "MakeupGas$Stock" "yearsKept" "I", Cond.methodLink RX1 114 yX1_leastQuantity, Cond.instanceMethod yX1_leastQuantity, Cond.selects RX1 yX1_leastQuantity yX1_leastQuantity, Cond.code yX1_leastQuantity cX1_leastQuantity 4 (some .int), Cond.fieldLink RX1 10 "MakeupGas" "yearlyQuantity" "I", Cond.fieldLink RX1 14 "MakeupGas" "leastPercent" "I", Cond.constantLong RX1 146 (36000), Cond.methodLink RX1 154 yX1_settleGap, Cond.instanceMethod yX1_settleGap, Cond.selects RX1 yX1_settleGap yX1_settleGap, Cond.code yX1_settleGap cX1_settleGap 5 none, Cond.fieldLink RX1 57 "MakeupGas" "coveredPerYear" "[I", Cond.fieldLink RX1 51 "MakeupGas" "shortfallPerYear" "[I", Cond.fieldLink RX1 54 "MakeupGas" "madeUpPerYear" "[I"]
def wsX1_excuse_r3 : List Cond := [Cond.fieldLink RX1 60 "MakeupGas" "surplusPerYear" "[I", Cond.fieldLink RX1 63 "MakeupGas" "duePerYear" "[J", Cond.fieldLink RX1 20 "MakeupGas" "pricePerYear" "[I", Cond.methodLink RX1 160 yX1_drawSurplus, Cond.instanceMethod yX1_drawSurplus, Cond.selects RX1 yX1_drawSurplus yX1_drawSurplus, Cond.code yX1_drawSurplus cX1_drawSurplus 5 (some .int), Cond.methodLink RX1 170 yX0_drawFrom, Cond.instanceMethod yX0_drawFrom, Cond.selects RX0 yX0_drawFrom yX0_drawFrom, Cond.code yX0_drawFrom cX0_drawFrom 4 (some .int), Cond.methodLink RX0 28 Lib.Math.min.name, Cond.static Lib.Math.min.name, Cond.initialized "java/lang/Math", Cond.code Lib.Math.min.name Lib.Math.min.code 2 (some .int), Cond.methodLink RX1 164 yX0_put, Cond.instanceMethod yX0_put, Cond.selects RX0 yX0_put yX0_put, Cond.code yX0_put cX0_put 3 none, Cond.methodLink RX1 167 yX1_shortfallPrice, Cond.instanceMethod yX1_shortfallPrice, Cond.selects RX1 yX1_shortfallPrice yX1_shortfallPrice, Cond.code yX1_shortfallPrice cX1_shortfallPrice 2 (some .int), Cond.fieldLink RX1 17 "MakeupGas" "shortfallPercent" "I"]
def wsX1_excuse_r4 : List Cond := [Cond.methodLink RX1 157 yX1_settleEnough, Cond.instanceMethod yX1_settleEnough, Cond.selects RX1 yX1_settleEnough yX1_settleEnough, Cond.code yX1_settleEnough cX1_settleEnough 8 none, Cond.methodLink RX1 173 Lib.Math.max.name, Cond.static Lib.Math.max.name, Cond.code Lib.Math.max.name Lib.Math.max.code 2 (some .int)]
def wsX1_excuse : List Cond := .code yX1_excuse cX1_excuse 4 (some .int) :: ((wsX1_excuse_r1 ++ (wsX1_excuse_r2 ++ (wsX1_excuse_r3 ++ wsX1_excuse_r4))) ++ wsX10 ++ wsX00 ++ (vx_atS RX1 132 "java/lang/IllegalArgumentException" ["java/lang/RuntimeException", "java/lang/Exception"]).filter goodWord)
def wsX1_requireDay : List Cond := .code yX1_requireDay cX1_requireDay 1 none :: ([.methodLink RX1 71 yX1_requireRange, .static yX1_requireRange, .initialized RX1, .code yX1_requireRange cX1_requireRange 3 none, .classLink RX1 128 "java/lang/IllegalArgumentException", .initialized "java/lang/IllegalArgumentException"] ++ (vx_atS RX1 132 "java/lang/IllegalArgumentException" ["java/lang/RuntimeException", "java/lang/Exception"]).filter goodWord)
def wsX1_requireYearGoingOn : List Cond := .code yX1_requireYearGoingOn cX1_requireYearGoingOn 1 none :: ([.classLink RX1 135 "java/lang/IllegalStateException", .initialized "java/lang/IllegalStateException", .fieldLink RX1 103 "MakeupGas" "closedYears" "I"] ++ wsX10 ++ (vx_atS RX1 139 "java/lang/IllegalStateException" ["java/lang/RuntimeException", "java/lang/Exception"]).filter goodWord)
def wsX1_requireRoom : List Cond := .code yX1_requireRoom cX1_requireRoom 5 none :: ([.classLink RX1 135 "java/lang/IllegalStateException", .initialized "java/lang/IllegalStateException", .fieldLink RX1 33 "MakeupGas" "takenPerDay" "[I"] ++ wsX10 ++ (vx_atS RX1 139 "java/lang/IllegalStateException" ["java/lang/RuntimeException", "java/lang/Exception"]).filter goodWord)
def wsX1_addTakes : List Cond := .code yX1_addTakes cX1_addTakes 5 none :: ([.fieldLink RX1 33 "MakeupGas" "takenPerDay" "[I", .fieldLink RX1 36 "MakeupGas" "takenPerYear" "[I", .fieldLink RX1 103 "MakeupGas" "closedYears" "I"] ++ wsX10)
def wsX1_take_r1 : List Cond := [Cond.fieldLink RX1 33 "MakeupGas" "takenPerDay" "[I", Cond.methodLink RX1 87 yX1_requireDay, Cond.static yX1_requireDay, Cond.initialized RX1, Cond.code yX1_requireDay cX1_requireDay 1 none, Cond.methodLink RX1 71 yX1_requireRange, Cond.static yX1_requireRange, Cond.code yX1_requireRange cX1_requireRange 3 none, Cond.classLink RX1 128 "java/lang/IllegalArgumentException", Cond.initialized "java/lang/IllegalArgumentException", Cond.methodLink RX1 90 yX1_requireYearGoingOn, Cond.instanceMethod yX1_requireYearGoingOn, Cond.selects RX1 yX1_requireYearGoingOn yX1_requireYearGoingOn, Cond.code yX1_requireYearGoingOn cX1_requireYearGoingOn 1 none, Cond.classLink RX1 135 "java/lang/IllegalStateException", Cond.initialized "java/lang/IllegalStateException", Cond.fieldLink RX1 103 "MakeupGas" "closedYears" "I", Cond.methodLink RX1 93 yX1_requireRoom, Cond.instanceMethod yX1_requireRoom, Cond.selects RX1 yX1_requireRoom yX1_requireRoom, Cond.code yX1_requireRoom cX1_requireRoom 5 none, Cond.methodLink RX1 96 yX1_addTakes, Cond.instanceMethod yX1_addTakes, Cond.selects RX1 yX1_addTakes yX1_addTakes]
def wsX1_take_r2 : List Cond := [Cond.code yX1_addTakes cX1_addTakes 5 none, Cond.fieldLink RX1 36 "MakeupGas" "takenPerYear" "[I"]
def wsX1_take : List Cond := .code yX1_take cX1_take 3 (some .int) :: ((wsX1_take_r1 ++ wsX1_take_r2) ++ wsX10 ++ (vx_atS RX1 132 "java/lang/IllegalArgumentException" ["java/lang/RuntimeException", "java/lang/Exception"]).filter goodWord ++ (vx_atS RX1 139 "java/lang/IllegalStateException" ["java/lang/RuntimeException", "java/lang/Exception"]).filter goodWord)
def wsX1_requireDays : List Cond := .code yX1_requireDays cX1_requireDays 2 none :: ([.methodLink RX1 87 yX1_requireDay, .static yX1_requireDay, .initialized RX1, .code yX1_requireDay cX1_requireDay 1 none, .methodLink RX1 71 yX1_requireRange, .static yX1_requireRange, .code yX1_requireRange cX1_requireRange 3 none, .classLink RX1 128 "java/lang/IllegalArgumentException", .initialized "java/lang/IllegalArgumentException"] ++ (vx_atS RX1 132 "java/lang/IllegalArgumentException" ["java/lang/RuntimeException", "java/lang/Exception"]).filter goodWord)
def wsX1_takeDaily_r1 : List Cond := [Cond.fieldLink RX1 36 "MakeupGas" "takenPerYear" "[I", Cond.fieldLink RX1 103 "MakeupGas" "closedYears" "I", Cond.methodLink RX1 99 yX1_requireDays, Cond.static yX1_requireDays, Cond.initialized RX1, Cond.code yX1_requireDays cX1_requireDays 2 none, Cond.methodLink RX1 87 yX1_requireDay, Cond.static yX1_requireDay, Cond.code yX1_requireDay cX1_requireDay 1 none, Cond.methodLink RX1 71 yX1_requireRange, Cond.static yX1_requireRange, Cond.code yX1_requireRange cX1_requireRange 3 none, Cond.classLink RX1 128 "java/lang/IllegalArgumentException", Cond.initialized "java/lang/IllegalArgumentException", Cond.methodLink RX1 90 yX1_requireYearGoingOn, Cond.instanceMethod yX1_requireYearGoingOn, Cond.selects RX1 yX1_requireYearGoingOn yX1_requireYearGoingOn, Cond.code yX1_requireYearGoingOn cX1_requireYearGoingOn 1 none, Cond.classLink RX1 135 "java/lang/IllegalStateException", Cond.initialized "java/lang/IllegalStateException", Cond.methodLink RX1 93 yX1_requireRoom, Cond.instanceMethod yX1_requireRoom, Cond.selects RX1 yX1_requireRoom yX1_requireRoom, Cond.code yX1_requireRoom cX1_requireRoom 5 none]
def wsX1_takeDaily_r2 : List Cond := [Cond.fieldLink RX1 33 "MakeupGas" "takenPerDay" "[I", Cond.methodLink RX1 96 yX1_addTakes, Cond.instanceMethod yX1_addTakes, Cond.selects RX1 yX1_addTakes yX1_addTakes, Cond.code yX1_addTakes cX1_addTakes 5 none]
def wsX1_takeDaily : List Cond := .code yX1_takeDaily cX1_takeDaily 4 (some .int) :: ((wsX1_takeDaily_r1 ++ wsX1_takeDaily_r2) ++ wsX10 ++ (vx_atS RX1 132 "java/lang/IllegalArgumentException" ["java/lang/RuntimeException", "java/lang/Exception"]).filter goodWord ++ (vx_atS RX1 139 "java/lang/IllegalStateException" ["java/lang/RuntimeException", "java/lang/Exception"]).filter goodWord)
def wsX1_dueInAll : List Cond := .code yX1_dueInAll cX1_dueInAll 4 (some .long) :: ([.fieldLink RX1 103 "MakeupGas" "closedYears" "I", .fieldLink RX1 63 "MakeupGas" "duePerYear" "[J"] ++ wsX10)
def wsX1_close_r1 : List Cond := [Cond.fieldLink RX1 103 "MakeupGas" "closedYears" "I", Cond.fieldLink RX1 33 "MakeupGas" "takenPerDay" "[I", Cond.fieldLink RX1 110 "MakeupGas" "billedInAll" "J", Cond.fieldLink RX1 67 "MakeupGas" "billPerYear" "[J", Cond.methodLink RX1 90 yX1_requireYearGoingOn, Cond.instanceMethod yX1_requireYearGoingOn, Cond.selects RX1 yX1_requireYearGoingOn yX1_requireYearGoingOn, Cond.initialized RX1, Cond.code yX1_requireYearGoingOn cX1_requireYearGoingOn 1 none, Cond.classLink RX1 135 "java/lang/IllegalStateException", Cond.initialized "java/lang/IllegalStateException", Cond.methodLink RX1 24 yJ7_fill_53178, Cond.static yJ7_fill_53178, Cond.initialized RJ7, Cond.code yJ7_fill_53178 cJ7_fill_53178 4 none, Cond.methodLink RX1 84 yX1_settleClosedYears, Cond.instanceMethod yX1_settleClosedYears, Cond.selects RX1 yX1_settleClosedYears yX1_settleClosedYears, Cond.code yX1_settleClosedYears cX1_settleClosedYears 2 none, Cond.fieldLink RX1 44 "MakeupGas" "makeUpStock" "LMakeupGas$Stock;", Cond.fieldLink RX1 48 "MakeupGas" "surplusStock" "LMakeupGas$Stock;", Cond.fieldLink RX1 36 "MakeupGas" "takenPerYear" "[I", Cond.methodLink RX1 148 yX0_empty, Cond.instanceMethod yX0_empty]
def wsX1_close_r2 : List Cond := [Cond.selects RX0 yX0_empty yX0_empty, Cond.initialized RX0, Cond.code yX0_empty cX0_empty 1 none, Cond.fieldLink RX0 9 "MakeupGas$Stock" "left" "[I", Cond.fieldLink RX0 25 "MakeupGas$Stock" "lapsedSum" "I", Cond.methodLink RX0 19 yJ7_fill_53178, Cond.methodLink RX1 151 yX0_lapseBefore, Cond.instanceMethod yX0_lapseBefore, Cond.selects RX0 yX0_lapseBefore yX0_lapseBefore, Cond.code yX0_lapseBefore cX0_lapseBefore 3 none, Cond.fieldLink RX0 15 "MakeupGas$Stock" "yearsKept" "I", Cond.methodLink RX1 114 yX1_leastQuantity, Cond.instanceMethod yX1_leastQuantity, Cond.selects RX1 yX1_leastQuantity yX1_leastQuantity, Cond.code yX1_leastQuantity cX1_leastQuantity 4 (some .int), Cond.fieldLink RX1 10 "MakeupGas" "yearlyQuantity" "I", Cond.fieldLink RX1 14 "MakeupGas" "leastPercent" "I", Cond.fieldLink RX1 30 "MakeupGas" "excusedDays" "[I", Cond.constantLong RX1 146 (36000), Cond.methodLink RX1 154 yX1_settleGap, Cond.instanceMethod yX1_settleGap, Cond.selects RX1 yX1_settleGap yX1_settleGap, Cond.code yX1_settleGap cX1_settleGap 5 none, Cond.fieldLink RX1 57 "MakeupGas" "coveredPerYear" "[I"]
def wsX1_close_r3 : List Cond := [Cond.fieldLink RX1 51 "MakeupGas" "shortfallPerYear" "[I", Cond.fieldLink RX1 54 "MakeupGas" "madeUpPerYear" "[I", Cond.fieldLink RX1 60 "MakeupGas" "surplusPerYear" "[I", Cond.fieldLink RX1 63 "MakeupGas" "duePerYear" "[J", Cond.fieldLink RX1 20 "MakeupGas" "pricePerYear" "[I", Cond.methodLink RX1 160 yX1_drawSurplus, Cond.instanceMethod yX1_drawSurplus, Cond.selects RX1 yX1_drawSurplus yX1_drawSurplus, Cond.code yX1_drawSurplus cX1_drawSurplus 5 (some .int), Cond.methodLink RX1 170 yX0_drawFrom, Cond.instanceMethod yX0_drawFrom, Cond.selects RX0 yX0_drawFrom yX0_drawFrom, Cond.code yX0_drawFrom cX0_drawFrom 4 (some .int), Cond.methodLink RX0 28 Lib.Math.min.name, Cond.static Lib.Math.min.name, Cond.initialized "java/lang/Math", Cond.code Lib.Math.min.name Lib.Math.min.code 2 (some .int), Cond.methodLink RX1 164 yX0_put, Cond.instanceMethod yX0_put, Cond.selects RX0 yX0_put yX0_put, Cond.code yX0_put cX0_put 3 none, Cond.methodLink RX1 167 yX1_shortfallPrice, Cond.instanceMethod yX1_shortfallPrice, Cond.selects RX1 yX1_shortfallPrice yX1_shortfallPrice]
def wsX1_close_r4 : List Cond := [Cond.code yX1_shortfallPrice cX1_shortfallPrice 2 (some .int), Cond.fieldLink RX1 17 "MakeupGas" "shortfallPercent" "I", Cond.methodLink RX1 157 yX1_settleEnough, Cond.instanceMethod yX1_settleEnough, Cond.selects RX1 yX1_settleEnough yX1_settleEnough, Cond.code yX1_settleEnough cX1_settleEnough 8 none, Cond.methodLink RX1 173 Lib.Math.max.name, Cond.static Lib.Math.max.name, Cond.code Lib.Math.max.name Lib.Math.max.code 2 (some .int), Cond.methodLink RX1 106 yX1_dueInAll, Cond.instanceMethod yX1_dueInAll, Cond.selects RX1 yX1_dueInAll yX1_dueInAll, Cond.code yX1_dueInAll cX1_dueInAll 4 (some .long)]
def wsX1_close : List Cond := .code yX1_close cX1_close 4 (some .long) :: ((wsX1_close_r1 ++ (wsX1_close_r2 ++ (wsX1_close_r3 ++ wsX1_close_r4))) ++ wsX10 ++ wsX00 ++ (vx_atS RX1 139 "java/lang/IllegalStateException" ["java/lang/RuntimeException", "java/lang/Exception"]).filter goodWord)
def wsX1_closed : List Cond := .code yX1_closed cX1_closed 1 (some .int) :: ([.fieldLink RX1 103 "MakeupGas" "closedYears" "I"] ++ wsX10)
def wsX1_taken : List Cond := .code yX1_taken cX1_taken 2 (some .int) :: ([.fieldLink RX1 36 "MakeupGas" "takenPerYear" "[I", .methodLink RX1 81 yX1_requireYear, .static yX1_requireYear, .initialized RX1, .code yX1_requireYear cX1_requireYear 1 none, .methodLink RX1 71 yX1_requireRange, .static yX1_requireRange, .code yX1_requireRange cX1_requireRange 3 none, .classLink RX1 128 "java/lang/IllegalArgumentException", .initialized "java/lang/IllegalArgumentException"] ++ wsX10 ++ (vx_atS RX1 132 "java/lang/IllegalArgumentException" ["java/lang/RuntimeException", "java/lang/Exception"]).filter goodWord)
def wsX1_takenFrom : List Cond := .code yX1_takenFrom cX1_takenFrom 5 (some .int) :: ([.fieldLink RX1 33 "MakeupGas" "takenPerDay" "[I", .methodLink RX1 99 yX1_requireDays, .static yX1_requireDays, .initialized RX1, .code yX1_requireDays cX1_requireDays 2 none, .methodLink RX1 87 yX1_requireDay, .static yX1_requireDay, .code yX1_requireDay cX1_requireDay 1 none, .methodLink RX1 71 yX1_requireRange, .static yX1_requireRange, .code yX1_requireRange cX1_requireRange 3 none, .classLink RX1 128 "java/lang/IllegalArgumentException", .initialized "java/lang/IllegalArgumentException"] ++ wsX10 ++ (vx_atS RX1 132 "java/lang/IllegalArgumentException" ["java/lang/RuntimeException", "java/lang/Exception"]).filter goodWord)
def wsX1_price : List Cond := .code yX1_price cX1_price 2 (some .int) :: ([.fieldLink RX1 20 "MakeupGas" "pricePerYear" "[I", .methodLink RX1 81 yX1_requireYear, .static yX1_requireYear, .initialized RX1, .code yX1_requireYear cX1_requireYear 1 none, .methodLink RX1 71 yX1_requireRange, .static yX1_requireRange, .code yX1_requireRange cX1_requireRange 3 none, .classLink RX1 128 "java/lang/IllegalArgumentException", .initialized "java/lang/IllegalArgumentException"] ++ wsX10 ++ (vx_atS RX1 132 "java/lang/IllegalArgumentException" ["java/lang/RuntimeException", "java/lang/Exception"]).filter goodWord)
def wsX1_least : List Cond := .code yX1_least cX1_least 2 (some .int) :: ([.methodLink RX1 81 yX1_requireYear, .static yX1_requireYear, .initialized RX1, .code yX1_requireYear cX1_requireYear 1 none, .methodLink RX1 71 yX1_requireRange, .static yX1_requireRange, .code yX1_requireRange cX1_requireRange 3 none, .classLink RX1 128 "java/lang/IllegalArgumentException", .initialized "java/lang/IllegalArgumentException", .methodLink RX1 114 yX1_leastQuantity, .instanceMethod yX1_leastQuantity, .selects RX1 yX1_leastQuantity yX1_leastQuantity, .code yX1_leastQuantity cX1_leastQuantity 4 (some .int), .fieldLink RX1 10 "MakeupGas" "yearlyQuantity" "I", .fieldLink RX1 14 "MakeupGas" "leastPercent" "I", .fieldLink RX1 30 "MakeupGas" "excusedDays" "[I", .constantLong RX1 146 (36000)] ++ wsX10 ++ (vx_atS RX1 132 "java/lang/IllegalArgumentException" ["java/lang/RuntimeException", "java/lang/Exception"]).filter goodWord)
def wsX1_requireClosedYear : List Cond := .code yX1_requireClosedYear cX1_requireClosedYear 2 none :: ([.classLink RX1 135 "java/lang/IllegalStateException", .initialized "java/lang/IllegalStateException", .fieldLink RX1 103 "MakeupGas" "closedYears" "I", .methodLink RX1 81 yX1_requireYear, .static yX1_requireYear, .initialized RX1, .code yX1_requireYear cX1_requireYear 1 none, .methodLink RX1 71 yX1_requireRange, .static yX1_requireRange, .code yX1_requireRange cX1_requireRange 3 none, .classLink RX1 128 "java/lang/IllegalArgumentException", .initialized "java/lang/IllegalArgumentException"] ++ wsX10 ++ (vx_atS RX1 139 "java/lang/IllegalStateException" ["java/lang/RuntimeException", "java/lang/Exception"]).filter goodWord ++ (vx_atS RX1 132 "java/lang/IllegalArgumentException" ["java/lang/RuntimeException", "java/lang/Exception"]).filter goodWord)
def wsX1_shortfall : List Cond := .code yX1_shortfall cX1_shortfall 2 (some .int) :: ([.fieldLink RX1 51 "MakeupGas" "shortfallPerYear" "[I", .methodLink RX1 118 yX1_requireClosedYear, .instanceMethod yX1_requireClosedYear, .selects RX1 yX1_requireClosedYear yX1_requireClosedYear, .initialized RX1, .code yX1_requireClosedYear cX1_requireClosedYear 2 none, .classLink RX1 135 "java/lang/IllegalStateException", .initialized "java/lang/IllegalStateException", .fieldLink RX1 103 "MakeupGas" "closedYears" "I", .methodLink RX1 81 yX1_requireYear, .static yX1_requireYear, .code yX1_requireYear cX1_requireYear 1 none, .methodLink RX1 71 yX1_requireRange, .static yX1_requireRange, .code yX1_requireRange cX1_requireRange 3 none, .classLink RX1 128 "java/lang/IllegalArgumentException", .initialized "java/lang/IllegalArgumentException"] ++ wsX10 ++ (vx_atS RX1 139 "java/lang/IllegalStateException" ["java/lang/RuntimeException", "java/lang/Exception"]).filter goodWord ++ (vx_atS RX1 132 "java/lang/IllegalArgumentException" ["java/lang/RuntimeException", "java/lang/Exception"]).filter goodWord)
def wsX1_madeUp : List Cond := .code yX1_madeUp cX1_madeUp 2 (some .int) :: ([.fieldLink RX1 54 "MakeupGas" "madeUpPerYear" "[I", .methodLink RX1 118 yX1_requireClosedYear, .instanceMethod yX1_requireClosedYear, .selects RX1 yX1_requireClosedYear yX1_requireClosedYear, .initialized RX1, .code yX1_requireClosedYear cX1_requireClosedYear 2 none, .classLink RX1 135 "java/lang/IllegalStateException", .initialized "java/lang/IllegalStateException", .fieldLink RX1 103 "MakeupGas" "closedYears" "I", .methodLink RX1 81 yX1_requireYear, .static yX1_requireYear, .code yX1_requireYear cX1_requireYear 1 none, .methodLink RX1 71 yX1_requireRange, .static yX1_requireRange, .code yX1_requireRange cX1_requireRange 3 none, .classLink RX1 128 "java/lang/IllegalArgumentException", .initialized "java/lang/IllegalArgumentException"] ++ wsX10 ++ (vx_atS RX1 139 "java/lang/IllegalStateException" ["java/lang/RuntimeException", "java/lang/Exception"]).filter goodWord ++ (vx_atS RX1 132 "java/lang/IllegalArgumentException" ["java/lang/RuntimeException", "java/lang/Exception"]).filter goodWord)
def wsX1_covered : List Cond := .code yX1_covered cX1_covered 2 (some .int) :: ([.fieldLink RX1 57 "MakeupGas" "coveredPerYear" "[I", .methodLink RX1 118 yX1_requireClosedYear, .instanceMethod yX1_requireClosedYear, .selects RX1 yX1_requireClosedYear yX1_requireClosedYear, .initialized RX1, .code yX1_requireClosedYear cX1_requireClosedYear 2 none, .classLink RX1 135 "java/lang/IllegalStateException", .initialized "java/lang/IllegalStateException", .fieldLink RX1 103 "MakeupGas" "closedYears" "I", .methodLink RX1 81 yX1_requireYear, .static yX1_requireYear, .code yX1_requireYear cX1_requireYear 1 none, .methodLink RX1 71 yX1_requireRange, .static yX1_requireRange, .code yX1_requireRange cX1_requireRange 3 none, .classLink RX1 128 "java/lang/IllegalArgumentException", .initialized "java/lang/IllegalArgumentException"] ++ wsX10 ++ (vx_atS RX1 139 "java/lang/IllegalStateException" ["java/lang/RuntimeException", "java/lang/Exception"]).filter goodWord ++ (vx_atS RX1 132 "java/lang/IllegalArgumentException" ["java/lang/RuntimeException", "java/lang/Exception"]).filter goodWord)
def wsX1_surplus : List Cond := .code yX1_surplus cX1_surplus 2 (some .int) :: ([.fieldLink RX1 60 "MakeupGas" "surplusPerYear" "[I", .methodLink RX1 118 yX1_requireClosedYear, .instanceMethod yX1_requireClosedYear, .selects RX1 yX1_requireClosedYear yX1_requireClosedYear, .initialized RX1, .code yX1_requireClosedYear cX1_requireClosedYear 2 none, .classLink RX1 135 "java/lang/IllegalStateException", .initialized "java/lang/IllegalStateException", .fieldLink RX1 103 "MakeupGas" "closedYears" "I", .methodLink RX1 81 yX1_requireYear, .static yX1_requireYear, .code yX1_requireYear cX1_requireYear 1 none, .methodLink RX1 71 yX1_requireRange, .static yX1_requireRange, .code yX1_requireRange cX1_requireRange 3 none, .classLink RX1 128 "java/lang/IllegalArgumentException", .initialized "java/lang/IllegalArgumentException"] ++ wsX10 ++ (vx_atS RX1 139 "java/lang/IllegalStateException" ["java/lang/RuntimeException", "java/lang/Exception"]).filter goodWord ++ (vx_atS RX1 132 "java/lang/IllegalArgumentException" ["java/lang/RuntimeException", "java/lang/Exception"]).filter goodWord)
def wsX1_due : List Cond := .code yX1_due cX1_due 2 (some .long) :: ([.fieldLink RX1 63 "MakeupGas" "duePerYear" "[J", .methodLink RX1 118 yX1_requireClosedYear, .instanceMethod yX1_requireClosedYear, .selects RX1 yX1_requireClosedYear yX1_requireClosedYear, .initialized RX1, .code yX1_requireClosedYear cX1_requireClosedYear 2 none, .classLink RX1 135 "java/lang/IllegalStateException", .initialized "java/lang/IllegalStateException", .fieldLink RX1 103 "MakeupGas" "closedYears" "I", .methodLink RX1 81 yX1_requireYear, .static yX1_requireYear, .code yX1_requireYear cX1_requireYear 1 none, .methodLink RX1 71 yX1_requireRange, .static yX1_requireRange, .code yX1_requireRange cX1_requireRange 3 none, .classLink RX1 128 "java/lang/IllegalArgumentException", .initialized "java/lang/IllegalArgumentException"] ++ wsX10 ++ (vx_atS RX1 139 "java/lang/IllegalStateException" ["java/lang/RuntimeException", "java/lang/Exception"]).filter goodWord ++ (vx_atS RX1 132 "java/lang/IllegalArgumentException" ["java/lang/RuntimeException", "java/lang/Exception"]).filter goodWord)
def wsX1_bill : List Cond := .code yX1_bill cX1_bill 2 (some .long) :: ([.fieldLink RX1 67 "MakeupGas" "billPerYear" "[J", .methodLink RX1 118 yX1_requireClosedYear, .instanceMethod yX1_requireClosedYear, .selects RX1 yX1_requireClosedYear yX1_requireClosedYear, .initialized RX1, .code yX1_requireClosedYear cX1_requireClosedYear 2 none, .classLink RX1 135 "java/lang/IllegalStateException", .initialized "java/lang/IllegalStateException", .fieldLink RX1 103 "MakeupGas" "closedYears" "I", .methodLink RX1 81 yX1_requireYear, .static yX1_requireYear, .code yX1_requireYear cX1_requireYear 1 none, .methodLink RX1 71 yX1_requireRange, .static yX1_requireRange, .code yX1_requireRange cX1_requireRange 3 none, .classLink RX1 128 "java/lang/IllegalArgumentException", .initialized "java/lang/IllegalArgumentException"] ++ wsX10 ++ (vx_atS RX1 139 "java/lang/IllegalStateException" ["java/lang/RuntimeException", "java/lang/Exception"]).filter goodWord ++ (vx_atS RX1 132 "java/lang/IllegalArgumentException" ["java/lang/RuntimeException", "java/lang/Exception"]).filter goodWord)
def wsX1_makeUpLeft : List Cond := .code yX1_makeUpLeft cX1_makeUpLeft 2 (some .int) :: ([.fieldLink RX1 44 "MakeupGas" "makeUpStock" "LMakeupGas$Stock;", .methodLink RX1 118 yX1_requireClosedYear, .instanceMethod yX1_requireClosedYear, .selects RX1 yX1_requireClosedYear yX1_requireClosedYear, .initialized RX1, .code yX1_requireClosedYear cX1_requireClosedYear 2 none, .classLink RX1 135 "java/lang/IllegalStateException", .initialized "java/lang/IllegalStateException", .fieldLink RX1 103 "MakeupGas" "closedYears" "I", .methodLink RX1 81 yX1_requireYear, .static yX1_requireYear, .code yX1_requireYear cX1_requireYear 1 none, .methodLink RX1 71 yX1_requireRange, .static yX1_requireRange, .code yX1_requireRange cX1_requireRange 3 none, .classLink RX1 128 "java/lang/IllegalArgumentException", .initialized "java/lang/IllegalArgumentException", .methodLink RX1 121 yX0_leftFrom, .instanceMethod yX0_leftFrom, .selects RX0 yX0_leftFrom yX0_leftFrom, .initialized RX0, .code yX0_leftFrom cX0_leftFrom 2 (some .int), .fieldLink RX0 9 "MakeupGas$Stock" "left" "[I"] ++ wsX10 ++ wsX00 ++ (vx_atS RX1 139 "java/lang/IllegalStateException" ["java/lang/RuntimeException", "java/lang/Exception"]).filter goodWord ++ (vx_atS RX1 132 "java/lang/IllegalArgumentException" ["java/lang/RuntimeException", "java/lang/Exception"]).filter goodWord)
def wsX1_surplusLeft : List Cond := .code yX1_surplusLeft cX1_surplusLeft 2 (some .int) :: ([.fieldLink RX1 48 "MakeupGas" "surplusStock" "LMakeupGas$Stock;", .methodLink RX1 118 yX1_requireClosedYear, .instanceMethod yX1_requireClosedYear, .selects RX1 yX1_requireClosedYear yX1_requireClosedYear, .initialized RX1, .code yX1_requireClosedYear cX1_requireClosedYear 2 none, .classLink RX1 135 "java/lang/IllegalStateException", .initialized "java/lang/IllegalStateException", .fieldLink RX1 103 "MakeupGas" "closedYears" "I", .methodLink RX1 81 yX1_requireYear, .static yX1_requireYear, .code yX1_requireYear cX1_requireYear 1 none, .methodLink RX1 71 yX1_requireRange, .static yX1_requireRange, .code yX1_requireRange cX1_requireRange 3 none, .classLink RX1 128 "java/lang/IllegalArgumentException", .initialized "java/lang/IllegalArgumentException", .methodLink RX1 121 yX0_leftFrom, .instanceMethod yX0_leftFrom, .selects RX0 yX0_leftFrom yX0_leftFrom, .initialized RX0, .code yX0_leftFrom cX0_leftFrom 2 (some .int), .fieldLink RX0 9 "MakeupGas$Stock" "left" "[I"] ++ wsX10 ++ wsX00 ++ (vx_atS RX1 139 "java/lang/IllegalStateException" ["java/lang/RuntimeException", "java/lang/Exception"]).filter goodWord ++ (vx_atS RX1 132 "java/lang/IllegalArgumentException" ["java/lang/RuntimeException", "java/lang/Exception"]).filter goodWord)
def wsX1_lapsed : List Cond := .code yX1_lapsed cX1_lapsed 1 (some .int) :: ([.fieldLink RX1 44 "MakeupGas" "makeUpStock" "LMakeupGas$Stock;", .methodLink RX1 124 yX0_lapsedInAll, .instanceMethod yX0_lapsedInAll, .selects RX0 yX0_lapsedInAll yX0_lapsedInAll, .initialized RX0, .code yX0_lapsedInAll cX0_lapsedInAll 1 (some .int), .fieldLink RX0 25 "MakeupGas$Stock" "lapsedSum" "I"] ++ wsX10 ++ wsX00)
def wsX1_open : List Cond := .code yX1_open cX1_open 1 (some .long) :: ([.fieldLink RX1 110 "MakeupGas" "billedInAll" "J", .methodLink RX1 106 yX1_dueInAll, .instanceMethod yX1_dueInAll, .selects RX1 yX1_dueInAll yX1_dueInAll, .initialized RX1, .code yX1_dueInAll cX1_dueInAll 4 (some .long), .fieldLink RX1 103 "MakeupGas" "closedYears" "I", .fieldLink RX1 63 "MakeupGas" "duePerYear" "[J"] ++ wsX10)
def wsJ9_max_7cf53 : List Cond := .code yJ9_max_7cf53 cJ9_max_7cf53 2 (some .int) :: ([])
def wsJ9_min_7cf53 : List Cond := .code yJ9_min_7cf53 cJ9_min_7cf53 2 (some .int) :: ([])
def wsL_draw : List Cond := .code yL_draw cL_draw 2 (some .int) :: ([.constant RL 7 (2147483647), .constant RL 8 (104729), .constant RL 9 (65521)])
def wsL_takes_r1 : List Cond := [Cond.methodLink RL 48 yX1_takenFrom, Cond.instanceMethod yX1_takenFrom, Cond.selects RX1 yX1_takenFrom yX1_takenFrom, Cond.initialized RX1, Cond.code yX1_takenFrom cX1_takenFrom 5 (some .int), Cond.fieldLink RX1 33 "MakeupGas" "takenPerDay" "[I", Cond.methodLink RX1 99 yX1_requireDays, Cond.static yX1_requireDays, Cond.code yX1_requireDays cX1_requireDays 2 none, Cond.methodLink RX1 87 yX1_requireDay, Cond.static yX1_requireDay, Cond.code yX1_requireDay cX1_requireDay 1 none, Cond.methodLink RX1 71 yX1_requireRange, Cond.static yX1_requireRange, Cond.code yX1_requireRange cX1_requireRange 3 none, Cond.classLink RX1 128 "java/lang/IllegalArgumentException", Cond.initialized "java/lang/IllegalArgumentException", Cond.methodLink RL 45 yX1_taken, Cond.instanceMethod yX1_taken, Cond.selects RX1 yX1_taken yX1_taken, Cond.code yX1_taken cX1_taken 2 (some .int), Cond.fieldLink RX1 36 "MakeupGas" "takenPerYear" "[I", Cond.methodLink RX1 81 yX1_requireYear, Cond.static yX1_requireYear]
def wsL_takes_r2 : List Cond := [Cond.code yX1_requireYear cX1_requireYear 1 none, Cond.methodLink RL 55 yX1_take, Cond.instanceMethod yX1_take, Cond.selects RX1 yX1_take yX1_take, Cond.code yX1_take cX1_take 3 (some .int), Cond.methodLink RX1 90 yX1_requireYearGoingOn, Cond.instanceMethod yX1_requireYearGoingOn, Cond.selects RX1 yX1_requireYearGoingOn yX1_requireYearGoingOn, Cond.code yX1_requireYearGoingOn cX1_requireYearGoingOn 1 none, Cond.classLink RX1 135 "java/lang/IllegalStateException", Cond.initialized "java/lang/IllegalStateException", Cond.fieldLink RX1 103 "MakeupGas" "closedYears" "I", Cond.methodLink RX1 93 yX1_requireRoom, Cond.instanceMethod yX1_requireRoom, Cond.selects RX1 yX1_requireRoom yX1_requireRoom, Cond.code yX1_requireRoom cX1_requireRoom 5 none, Cond.methodLink RX1 96 yX1_addTakes, Cond.instanceMethod yX1_addTakes, Cond.selects RX1 yX1_addTakes yX1_addTakes, Cond.code yX1_addTakes cX1_addTakes 5 none, Cond.methodLink RL 58 yX1_takeDaily, Cond.instanceMethod yX1_takeDaily, Cond.selects RX1 yX1_takeDaily yX1_takeDaily, Cond.code yX1_takeDaily cX1_takeDaily 4 (some .int)]
def wsL_takes : List Cond := .code yL_takes cL_takes 8 (some .boolean) :: ((wsL_takes_r1 ++ wsL_takes_r2) ++ wsX10 ++ (vx_atS RX1 132 "java/lang/IllegalArgumentException" ["java/lang/RuntimeException", "java/lang/Exception"]).filter goodWord ++ (vx_atS RX1 139 "java/lang/IllegalStateException" ["java/lang/RuntimeException", "java/lang/Exception"]).filter goodWord)
def wsL_closes_r1 : List Cond := [Cond.methodLink RL 62 yX1_open, Cond.instanceMethod yX1_open, Cond.selects RX1 yX1_open yX1_open, Cond.initialized RX1, Cond.code yX1_open cX1_open 1 (some .long), Cond.fieldLink RX1 110 "MakeupGas" "billedInAll" "J", Cond.methodLink RX1 106 yX1_dueInAll, Cond.instanceMethod yX1_dueInAll, Cond.selects RX1 yX1_dueInAll yX1_dueInAll, Cond.code yX1_dueInAll cX1_dueInAll 4 (some .long), Cond.fieldLink RX1 103 "MakeupGas" "closedYears" "I", Cond.fieldLink RX1 63 "MakeupGas" "duePerYear" "[J", Cond.methodLink RL 66 yX1_close, Cond.instanceMethod yX1_close, Cond.selects RX1 yX1_close yX1_close, Cond.code yX1_close cX1_close 4 (some .long), Cond.fieldLink RX1 33 "MakeupGas" "takenPerDay" "[I", Cond.fieldLink RX1 67 "MakeupGas" "billPerYear" "[J", Cond.methodLink RX1 90 yX1_requireYearGoingOn, Cond.instanceMethod yX1_requireYearGoingOn, Cond.selects RX1 yX1_requireYearGoingOn yX1_requireYearGoingOn, Cond.code yX1_requireYearGoingOn cX1_requireYearGoingOn 1 none, Cond.classLink RX1 135 "java/lang/IllegalStateException", Cond.initialized "java/lang/IllegalStateException"]
def wsL_closes_r2 : List Cond := [Cond.methodLink RX1 24 yJ7_fill_53178, Cond.static yJ7_fill_53178, Cond.initialized RJ7, Cond.code yJ7_fill_53178 cJ7_fill_53178 4 none, Cond.methodLink RX1 84 yX1_settleClosedYears, Cond.instanceMethod yX1_settleClosedYears, Cond.selects RX1 yX1_settleClosedYears yX1_settleClosedYears, Cond.code yX1_settleClosedYears cX1_settleClosedYears 2 none, Cond.fieldLink RX1 44 "MakeupGas" "makeUpStock" "LMakeupGas$Stock;", Cond.fieldLink RX1 48 "MakeupGas" "surplusStock" "LMakeupGas$Stock;", Cond.fieldLink RX1 36 "MakeupGas" "takenPerYear" "[I", Cond.methodLink RX1 148 yX0_empty, Cond.instanceMethod yX0_empty, Cond.selects RX0 yX0_empty yX0_empty, Cond.initialized RX0, Cond.code yX0_empty cX0_empty 1 none, Cond.fieldLink RX0 9 "MakeupGas$Stock" "left" "[I", Cond.fieldLink RX0 25 "MakeupGas$Stock" "lapsedSum" "I", Cond.methodLink RX0 19 yJ7_fill_53178, Cond.methodLink RX1 151 yX0_lapseBefore, Cond.instanceMethod yX0_lapseBefore, Cond.selects RX0 yX0_lapseBefore yX0_lapseBefore, Cond.code yX0_lapseBefore cX0_lapseBefore 3 none, Cond.fieldLink RX0 15 "MakeupGas$Stock" "yearsKept" "I"]
def wsL_closes_r3 : List Cond := [Cond.methodLink RX1 114 yX1_leastQuantity, Cond.instanceMethod yX1_leastQuantity, Cond.selects RX1 yX1_leastQuantity yX1_leastQuantity, Cond.code yX1_leastQuantity cX1_leastQuantity 4 (some .int), Cond.fieldLink RX1 10 "MakeupGas" "yearlyQuantity" "I", Cond.fieldLink RX1 14 "MakeupGas" "leastPercent" "I", Cond.fieldLink RX1 30 "MakeupGas" "excusedDays" "[I", Cond.constantLong RX1 146 (36000), Cond.methodLink RX1 154 yX1_settleGap, Cond.instanceMethod yX1_settleGap, Cond.selects RX1 yX1_settleGap yX1_settleGap, Cond.code yX1_settleGap cX1_settleGap 5 none, Cond.fieldLink RX1 57 "MakeupGas" "coveredPerYear" "[I", Cond.fieldLink RX1 51 "MakeupGas" "shortfallPerYear" "[I", Cond.fieldLink RX1 54 "MakeupGas" "madeUpPerYear" "[I", Cond.fieldLink RX1 60 "MakeupGas" "surplusPerYear" "[I", Cond.fieldLink RX1 20 "MakeupGas" "pricePerYear" "[I", Cond.methodLink RX1 160 yX1_drawSurplus, Cond.instanceMethod yX1_drawSurplus, Cond.selects RX1 yX1_drawSurplus yX1_drawSurplus, Cond.code yX1_drawSurplus cX1_drawSurplus 5 (some .int), Cond.methodLink RX1 170 yX0_drawFrom, Cond.instanceMethod yX0_drawFrom, Cond.selects RX0 yX0_drawFrom yX0_drawFrom]
def wsL_closes_r4 : List Cond := [Cond.code yX0_drawFrom cX0_drawFrom 4 (some .int), Cond.methodLink RX0 28 Lib.Math.min.name, Cond.static Lib.Math.min.name, Cond.initialized "java/lang/Math", Cond.code Lib.Math.min.name Lib.Math.min.code 2 (some .int), Cond.methodLink RX1 164 yX0_put, Cond.instanceMethod yX0_put, Cond.selects RX0 yX0_put yX0_put, Cond.code yX0_put cX0_put 3 none, Cond.methodLink RX1 167 yX1_shortfallPrice, Cond.instanceMethod yX1_shortfallPrice, Cond.selects RX1 yX1_shortfallPrice yX1_shortfallPrice, Cond.code yX1_shortfallPrice cX1_shortfallPrice 2 (some .int), Cond.fieldLink RX1 17 "MakeupGas" "shortfallPercent" "I", Cond.methodLink RX1 157 yX1_settleEnough, Cond.instanceMethod yX1_settleEnough, Cond.selects RX1 yX1_settleEnough yX1_settleEnough, Cond.code yX1_settleEnough cX1_settleEnough 8 none, Cond.methodLink RX1 173 Lib.Math.max.name, Cond.static Lib.Math.max.name, Cond.code Lib.Math.max.name Lib.Math.max.code 2 (some .int), Cond.methodLink RL 10 yX1_closed, Cond.instanceMethod yX1_closed, Cond.selects RX1 yX1_closed yX1_closed]
def wsL_closes_r5 : List Cond := [Cond.code yX1_closed cX1_closed 1 (some .int), Cond.methodLink RL 69 yX1_bill, Cond.instanceMethod yX1_bill, Cond.selects RX1 yX1_bill yX1_bill, Cond.code yX1_bill cX1_bill 2 (some .long), Cond.methodLink RX1 118 yX1_requireClosedYear, Cond.instanceMethod yX1_requireClosedYear, Cond.selects RX1 yX1_requireClosedYear yX1_requireClosedYear, Cond.code yX1_requireClosedYear cX1_requireClosedYear 2 none, Cond.methodLink RX1 81 yX1_requireYear, Cond.static yX1_requireYear, Cond.code yX1_requireYear cX1_requireYear 1 none, Cond.methodLink RX1 71 yX1_requireRange, Cond.static yX1_requireRange, Cond.code yX1_requireRange cX1_requireRange 3 none, Cond.classLink RX1 128 "java/lang/IllegalArgumentException", Cond.initialized "java/lang/IllegalArgumentException", Cond.methodLink RL 73 yX1_due, Cond.instanceMethod yX1_due, Cond.selects RX1 yX1_due yX1_due, Cond.code yX1_due cX1_due 2 (some .long), Cond.methodLink RL 48 yX1_takenFrom, Cond.instanceMethod yX1_takenFrom, Cond.selects RX1 yX1_takenFrom yX1_takenFrom]
def wsL_closes_r6 : List Cond := [Cond.code yX1_takenFrom cX1_takenFrom 5 (some .int), Cond.methodLink RX1 99 yX1_requireDays, Cond.static yX1_requireDays, Cond.code yX1_requireDays cX1_requireDays 2 none, Cond.methodLink RX1 87 yX1_requireDay, Cond.static yX1_requireDay, Cond.code yX1_requireDay cX1_requireDay 1 none]
def wsL_closes : List Cond := .code yL_closes cL_closes 7 (some .boolean) :: ((wsL_closes_r1 ++ (wsL_closes_r2 ++ (wsL_closes_r3 ++ (wsL_closes_r4 ++ (wsL_closes_r5 ++ wsL_closes_r6))))) ++ wsX10 ++ wsX00 ++ (vx_atS RX1 139 "java/lang/IllegalStateException" ["java/lang/RuntimeException", "java/lang/Exception"]).filter goodWord ++ (vx_atS RX1 132 "java/lang/IllegalArgumentException" ["java/lang/RuntimeException", "java/lang/Exception"]).filter goodWord)
def wsL_step_r1 : List Cond := [Cond.constant RL 16 (100000), Cond.constantLong RL 25 (100), Cond.constantLong RL 37 (36000), Cond.methodLink RL 10 yX1_closed, Cond.instanceMethod yX1_closed, Cond.selects RX1 yX1_closed yX1_closed, Cond.initialized RX1, Cond.code yX1_closed cX1_closed 1 (some .int), Cond.fieldLink RX1 103 "MakeupGas" "closedYears" "I", Cond.methodLink RL 17 yX1_set, Cond.instanceMethod yX1_set, Cond.selects RX1 yX1_set yX1_set, Cond.code yX1_set cX1_set 6 none, Cond.constant RX1 70 (100000), Cond.fieldLink RX1 10 "MakeupGas" "yearlyQuantity" "I", Cond.fieldLink RX1 14 "MakeupGas" "leastPercent" "I", Cond.fieldLink RX1 17 "MakeupGas" "shortfallPercent" "I", Cond.fieldLink RX1 44 "MakeupGas" "makeUpStock" "LMakeupGas$Stock;", Cond.fieldLink RX1 48 "MakeupGas" "surplusStock" "LMakeupGas$Stock;", Cond.methodLink RX1 71 yX1_requireRange, Cond.static yX1_requireRange, Cond.code yX1_requireRange cX1_requireRange 3 none, Cond.classLink RX1 128 "java/lang/IllegalArgumentException", Cond.initialized "java/lang/IllegalArgumentException"]
def wsL_step_r2 : List Cond := [Cond.methodLink RX1 75 yX1_requireUnused, Cond.instanceMethod yX1_requireUnused, Cond.selects RX1 yX1_requireUnused yX1_requireUnused, Cond.code yX1_requireUnused cX1_requireUnused 1 none, Cond.classLink RX1 135 "java/lang/IllegalStateException", Cond.initialized "java/lang/IllegalStateException", Cond.fieldLink RX1 36 "MakeupGas" "takenPerYear" "[I", Cond.methodLink RX1 78 yX0_keepFor, Cond.instanceMethod yX0_keepFor, Cond.selects RX0 yX0_keepFor yX0_keepFor, Cond.initialized RX0, Cond.code yX0_keepFor cX0_keepFor 2 none, Cond.fieldLink RX0 15 "MakeupGas$Stock" "yearsKept" "I", Cond.methodLink RL 21 yX1_least, Cond.instanceMethod yX1_least, Cond.selects RX1 yX1_least yX1_least, Cond.code yX1_least cX1_least 2 (some .int), Cond.methodLink RX1 81 yX1_requireYear, Cond.static yX1_requireYear, Cond.code yX1_requireYear cX1_requireYear 1 none, Cond.methodLink RX1 114 yX1_leastQuantity, Cond.instanceMethod yX1_leastQuantity, Cond.selects RX1 yX1_leastQuantity yX1_leastQuantity, Cond.code yX1_leastQuantity cX1_leastQuantity 4 (some .int)]
def wsL_step_r3 : List Cond := [Cond.fieldLink RX1 30 "MakeupGas" "excusedDays" "[I", Cond.constantLong RX1 146 (36000), Cond.methodLink RL 27 yX1_price, Cond.instanceMethod yX1_price, Cond.selects RX1 yX1_price yX1_price, Cond.code yX1_price cX1_price 2 (some .int), Cond.fieldLink RX1 20 "MakeupGas" "pricePerYear" "[I", Cond.methodLink RL 30 yX1_review, Cond.instanceMethod yX1_review, Cond.selects RX1 yX1_review yX1_review, Cond.code yX1_review cX1_review 5 (some .int), Cond.methodLink RX1 84 yX1_settleClosedYears, Cond.instanceMethod yX1_settleClosedYears, Cond.selects RX1 yX1_settleClosedYears yX1_settleClosedYears, Cond.code yX1_settleClosedYears cX1_settleClosedYears 2 none, Cond.methodLink RX1 148 yX0_empty, Cond.instanceMethod yX0_empty, Cond.selects RX0 yX0_empty yX0_empty, Cond.code yX0_empty cX0_empty 1 none, Cond.fieldLink RX0 9 "MakeupGas$Stock" "left" "[I", Cond.fieldLink RX0 25 "MakeupGas$Stock" "lapsedSum" "I", Cond.methodLink RX0 19 yJ7_fill_53178, Cond.static yJ7_fill_53178, Cond.initialized RJ7]
def wsL_step_r4 : List Cond := [Cond.code yJ7_fill_53178 cJ7_fill_53178 4 none, Cond.methodLink RX1 151 yX0_lapseBefore, Cond.instanceMethod yX0_lapseBefore, Cond.selects RX0 yX0_lapseBefore yX0_lapseBefore, Cond.code yX0_lapseBefore cX0_lapseBefore 3 none, Cond.methodLink RX1 154 yX1_settleGap, Cond.instanceMethod yX1_settleGap, Cond.selects RX1 yX1_settleGap yX1_settleGap, Cond.code yX1_settleGap cX1_settleGap 5 none, Cond.fieldLink RX1 57 "MakeupGas" "coveredPerYear" "[I", Cond.fieldLink RX1 51 "MakeupGas" "shortfallPerYear" "[I", Cond.fieldLink RX1 54 "MakeupGas" "madeUpPerYear" "[I", Cond.fieldLink RX1 60 "MakeupGas" "surplusPerYear" "[I", Cond.fieldLink RX1 63 "MakeupGas" "duePerYear" "[J", Cond.methodLink RX1 160 yX1_drawSurplus, Cond.instanceMethod yX1_drawSurplus, Cond.selects RX1 yX1_drawSurplus yX1_drawSurplus, Cond.code yX1_drawSurplus cX1_drawSurplus 5 (some .int), Cond.methodLink RX1 170 yX0_drawFrom, Cond.instanceMethod yX0_drawFrom, Cond.selects RX0 yX0_drawFrom yX0_drawFrom, Cond.code yX0_drawFrom cX0_drawFrom 4 (some .int), Cond.methodLink RX0 28 Lib.Math.min.name, Cond.static Lib.Math.min.name]
def wsL_step_r5 : List Cond := [Cond.initialized "java/lang/Math", Cond.code Lib.Math.min.name Lib.Math.min.code 2 (some .int), Cond.methodLink RX1 164 yX0_put, Cond.instanceMethod yX0_put, Cond.selects RX0 yX0_put yX0_put, Cond.code yX0_put cX0_put 3 none, Cond.methodLink RX1 167 yX1_shortfallPrice, Cond.instanceMethod yX1_shortfallPrice, Cond.selects RX1 yX1_shortfallPrice yX1_shortfallPrice, Cond.code yX1_shortfallPrice cX1_shortfallPrice 2 (some .int), Cond.methodLink RX1 157 yX1_settleEnough, Cond.instanceMethod yX1_settleEnough, Cond.selects RX1 yX1_settleEnough yX1_settleEnough, Cond.code yX1_settleEnough cX1_settleEnough 8 none, Cond.methodLink RX1 173 Lib.Math.max.name, Cond.static Lib.Math.max.name, Cond.code Lib.Math.max.name Lib.Math.max.code 2 (some .int), Cond.methodLink RL 34 yX1_excuse, Cond.instanceMethod yX1_excuse, Cond.selects RX1 yX1_excuse yX1_excuse, Cond.code yX1_excuse cX1_excuse 4 (some .int), Cond.methodLink RL 39 yL_takes, Cond.static yL_takes, Cond.initialized RL]
def wsL_step_r6 : List Cond := [Cond.code yL_takes cL_takes 8 (some .boolean), Cond.methodLink RL 48 yX1_takenFrom, Cond.instanceMethod yX1_takenFrom, Cond.selects RX1 yX1_takenFrom yX1_takenFrom, Cond.code yX1_takenFrom cX1_takenFrom 5 (some .int), Cond.fieldLink RX1 33 "MakeupGas" "takenPerDay" "[I", Cond.methodLink RX1 99 yX1_requireDays, Cond.static yX1_requireDays, Cond.code yX1_requireDays cX1_requireDays 2 none, Cond.methodLink RX1 87 yX1_requireDay, Cond.static yX1_requireDay, Cond.code yX1_requireDay cX1_requireDay 1 none, Cond.methodLink RL 45 yX1_taken, Cond.instanceMethod yX1_taken, Cond.selects RX1 yX1_taken yX1_taken, Cond.code yX1_taken cX1_taken 2 (some .int), Cond.methodLink RL 55 yX1_take, Cond.instanceMethod yX1_take, Cond.selects RX1 yX1_take yX1_take, Cond.code yX1_take cX1_take 3 (some .int), Cond.methodLink RX1 90 yX1_requireYearGoingOn, Cond.instanceMethod yX1_requireYearGoingOn, Cond.selects RX1 yX1_requireYearGoingOn yX1_requireYearGoingOn, Cond.code yX1_requireYearGoingOn cX1_requireYearGoingOn 1 none]
def wsL_step_r7 : List Cond := [Cond.methodLink RX1 93 yX1_requireRoom, Cond.instanceMethod yX1_requireRoom, Cond.selects RX1 yX1_requireRoom yX1_requireRoom, Cond.code yX1_requireRoom cX1_requireRoom 5 none, Cond.methodLink RX1 96 yX1_addTakes, Cond.instanceMethod yX1_addTakes, Cond.selects RX1 yX1_addTakes yX1_addTakes, Cond.code yX1_addTakes cX1_addTakes 5 none, Cond.methodLink RL 58 yX1_takeDaily, Cond.instanceMethod yX1_takeDaily, Cond.selects RX1 yX1_takeDaily yX1_takeDaily, Cond.code yX1_takeDaily cX1_takeDaily 4 (some .int), Cond.methodLink RL 51 yL_closes, Cond.static yL_closes, Cond.code yL_closes cL_closes 7 (some .boolean), Cond.methodLink RL 62 yX1_open, Cond.instanceMethod yX1_open, Cond.selects RX1 yX1_open yX1_open, Cond.code yX1_open cX1_open 1 (some .long), Cond.fieldLink RX1 110 "MakeupGas" "billedInAll" "J", Cond.methodLink RX1 106 yX1_dueInAll, Cond.instanceMethod yX1_dueInAll, Cond.selects RX1 yX1_dueInAll yX1_dueInAll, Cond.code yX1_dueInAll cX1_dueInAll 4 (some .long)]
def wsL_step_r8 : List Cond := [Cond.methodLink RL 66 yX1_close, Cond.instanceMethod yX1_close, Cond.selects RX1 yX1_close yX1_close, Cond.code yX1_close cX1_close 4 (some .long), Cond.fieldLink RX1 67 "MakeupGas" "billPerYear" "[J", Cond.methodLink RX1 24 yJ7_fill_53178, Cond.methodLink RL 69 yX1_bill, Cond.instanceMethod yX1_bill, Cond.selects RX1 yX1_bill yX1_bill, Cond.code yX1_bill cX1_bill 2 (some .long), Cond.methodLink RX1 118 yX1_requireClosedYear, Cond.instanceMethod yX1_requireClosedYear, Cond.selects RX1 yX1_requireClosedYear yX1_requireClosedYear, Cond.code yX1_requireClosedYear cX1_requireClosedYear 2 none, Cond.methodLink RL 73 yX1_due, Cond.instanceMethod yX1_due, Cond.selects RX1 yX1_due yX1_due, Cond.code yX1_due cX1_due 2 (some .long)]
def wsL_step : List Cond := .code yL_step cL_step 10 (some .boolean) :: ((wsL_step_r1 ++ (wsL_step_r2 ++ (wsL_step_r3 ++ (wsL_step_r4 ++ (wsL_step_r5 ++ (wsL_step_r6 ++ (wsL_step_r7 ++ wsL_step_r8))))))) ++ wsX10 ++ wsX00 ++ (vx_atS RX1 132 "java/lang/IllegalArgumentException" ["java/lang/RuntimeException", "java/lang/Exception"]).filter goodWord ++ (vx_atS RX1 139 "java/lang/IllegalStateException" ["java/lang/RuntimeException", "java/lang/Exception"]).filter goodWord)
def wsL_isYear_r1 : List Cond := [Cond.methodLink RL 45 yX1_taken, Cond.instanceMethod yX1_taken, Cond.selects RX1 yX1_taken yX1_taken, Cond.initialized RX1, Cond.code yX1_taken cX1_taken 2 (some .int), Cond.fieldLink RX1 36 "MakeupGas" "takenPerYear" "[I", Cond.methodLink RX1 81 yX1_requireYear, Cond.static yX1_requireYear, Cond.code yX1_requireYear cX1_requireYear 1 none, Cond.methodLink RX1 71 yX1_requireRange, Cond.static yX1_requireRange, Cond.code yX1_requireRange cX1_requireRange 3 none, Cond.classLink RX1 128 "java/lang/IllegalArgumentException", Cond.initialized "java/lang/IllegalArgumentException", Cond.methodLink RL 21 yX1_least, Cond.instanceMethod yX1_least, Cond.selects RX1 yX1_least yX1_least, Cond.code yX1_least cX1_least 2 (some .int), Cond.methodLink RX1 114 yX1_leastQuantity, Cond.instanceMethod yX1_leastQuantity, Cond.selects RX1 yX1_leastQuantity yX1_leastQuantity, Cond.code yX1_leastQuantity cX1_leastQuantity 4 (some .int), Cond.fieldLink RX1 10 "MakeupGas" "yearlyQuantity" "I", Cond.fieldLink RX1 14 "MakeupGas" "leastPercent" "I"]
def wsL_isYear_r2 : List Cond := [Cond.fieldLink RX1 30 "MakeupGas" "excusedDays" "[I", Cond.constantLong RX1 146 (36000), Cond.methodLink RL 27 yX1_price, Cond.instanceMethod yX1_price, Cond.selects RX1 yX1_price yX1_price, Cond.code yX1_price cX1_price 2 (some .int), Cond.fieldLink RX1 20 "MakeupGas" "pricePerYear" "[I", Cond.methodLink RL 76 yX1_makeUpLeft, Cond.instanceMethod yX1_makeUpLeft, Cond.selects RX1 yX1_makeUpLeft yX1_makeUpLeft, Cond.code yX1_makeUpLeft cX1_makeUpLeft 2 (some .int), Cond.fieldLink RX1 44 "MakeupGas" "makeUpStock" "LMakeupGas$Stock;", Cond.methodLink RX1 118 yX1_requireClosedYear, Cond.instanceMethod yX1_requireClosedYear, Cond.selects RX1 yX1_requireClosedYear yX1_requireClosedYear, Cond.code yX1_requireClosedYear cX1_requireClosedYear 2 none, Cond.classLink RX1 135 "java/lang/IllegalStateException", Cond.initialized "java/lang/IllegalStateException", Cond.fieldLink RX1 103 "MakeupGas" "closedYears" "I", Cond.methodLink RX1 121 yX0_leftFrom, Cond.instanceMethod yX0_leftFrom, Cond.selects RX0 yX0_leftFrom yX0_leftFrom, Cond.initialized RX0, Cond.code yX0_leftFrom cX0_leftFrom 2 (some .int)]
def wsL_isYear_r3 : List Cond := [Cond.fieldLink RX0 9 "MakeupGas$Stock" "left" "[I", Cond.methodLink RL 79 yX1_shortfall, Cond.instanceMethod yX1_shortfall, Cond.selects RX1 yX1_shortfall yX1_shortfall, Cond.code yX1_shortfall cX1_shortfall 2 (some .int), Cond.fieldLink RX1 51 "MakeupGas" "shortfallPerYear" "[I", Cond.methodLink RL 82 yX1_surplusLeft, Cond.instanceMethod yX1_surplusLeft, Cond.selects RX1 yX1_surplusLeft yX1_surplusLeft, Cond.code yX1_surplusLeft cX1_surplusLeft 2 (some .int), Cond.fieldLink RX1 48 "MakeupGas" "surplusStock" "LMakeupGas$Stock;", Cond.methodLink RL 85 yX1_surplus, Cond.instanceMethod yX1_surplus, Cond.selects RX1 yX1_surplus yX1_surplus, Cond.code yX1_surplus cX1_surplus 2 (some .int), Cond.fieldLink RX1 60 "MakeupGas" "surplusPerYear" "[I", Cond.methodLink RL 88 yX1_covered, Cond.instanceMethod yX1_covered, Cond.selects RX1 yX1_covered yX1_covered, Cond.code yX1_covered cX1_covered 2 (some .int), Cond.fieldLink RX1 57 "MakeupGas" "coveredPerYear" "[I", Cond.methodLink RL 91 yX1_madeUp, Cond.instanceMethod yX1_madeUp, Cond.selects RX1 yX1_madeUp yX1_madeUp]
def wsL_isYear_r4 : List Cond := [Cond.code yX1_madeUp cX1_madeUp 2 (some .int), Cond.fieldLink RX1 54 "MakeupGas" "madeUpPerYear" "[I", Cond.methodLink RL 73 yX1_due, Cond.instanceMethod yX1_due, Cond.selects RX1 yX1_due yX1_due, Cond.code yX1_due cX1_due 2 (some .long), Cond.fieldLink RX1 63 "MakeupGas" "duePerYear" "[J"]
def wsL_isYear : List Cond := .code yL_isYear cL_isYear 9 (some .boolean) :: ((wsL_isYear_r1 ++ (wsL_isYear_r2 ++ (wsL_isYear_r3 ++ wsL_isYear_r4))) ++ wsX10 ++ wsX00 ++ (vx_atS RX1 132 "java/lang/IllegalArgumentException" ["java/lang/RuntimeException", "java/lang/Exception"]).filter goodWord ++ (vx_atS RX1 139 "java/lang/IllegalStateException" ["java/lang/RuntimeException", "java/lang/Exception"]).filter goodWord)
def wsL_areYears_r1 : List Cond := [Cond.methodLink RL 10 yX1_closed, Cond.instanceMethod yX1_closed, Cond.selects RX1 yX1_closed yX1_closed, Cond.initialized RX1, Cond.code yX1_closed cX1_closed 1 (some .int), Cond.fieldLink RX1 103 "MakeupGas" "closedYears" "I", Cond.methodLink RL 94 yL_isYear, Cond.static yL_isYear, Cond.initialized RL, Cond.code yL_isYear cL_isYear 9 (some .boolean), Cond.methodLink RL 45 yX1_taken, Cond.instanceMethod yX1_taken, Cond.selects RX1 yX1_taken yX1_taken, Cond.code yX1_taken cX1_taken 2 (some .int), Cond.fieldLink RX1 36 "MakeupGas" "takenPerYear" "[I", Cond.methodLink RX1 81 yX1_requireYear, Cond.static yX1_requireYear, Cond.code yX1_requireYear cX1_requireYear 1 none, Cond.methodLink RX1 71 yX1_requireRange, Cond.static yX1_requireRange, Cond.code yX1_requireRange cX1_requireRange 3 none, Cond.classLink RX1 128 "java/lang/IllegalArgumentException", Cond.initialized "java/lang/IllegalArgumentException", Cond.methodLink RL 21 yX1_least]
def wsL_areYears_r2 : List Cond := [Cond.instanceMethod yX1_least, Cond.selects RX1 yX1_least yX1_least, Cond.code yX1_least cX1_least 2 (some .int), Cond.methodLink RX1 114 yX1_leastQuantity, Cond.instanceMethod yX1_leastQuantity, Cond.selects RX1 yX1_leastQuantity yX1_leastQuantity, Cond.code yX1_leastQuantity cX1_leastQuantity 4 (some .int), Cond.fieldLink RX1 10 "MakeupGas" "yearlyQuantity" "I", Cond.fieldLink RX1 14 "MakeupGas" "leastPercent" "I", Cond.fieldLink RX1 30 "MakeupGas" "excusedDays" "[I", Cond.constantLong RX1 146 (36000), Cond.methodLink RL 27 yX1_price, Cond.instanceMethod yX1_price, Cond.selects RX1 yX1_price yX1_price, Cond.code yX1_price cX1_price 2 (some .int), Cond.fieldLink RX1 20 "MakeupGas" "pricePerYear" "[I", Cond.methodLink RL 76 yX1_makeUpLeft, Cond.instanceMethod yX1_makeUpLeft, Cond.selects RX1 yX1_makeUpLeft yX1_makeUpLeft, Cond.code yX1_makeUpLeft cX1_makeUpLeft 2 (some .int), Cond.fieldLink RX1 44 "MakeupGas" "makeUpStock" "LMakeupGas$Stock;", Cond.methodLink RX1 118 yX1_requireClosedYear, Cond.instanceMethod yX1_requireClosedYear, Cond.selects RX1 yX1_requireClosedYear yX1_requireClosedYear]
def wsL_areYears_r3 : List Cond := [Cond.code yX1_requireClosedYear cX1_requireClosedYear 2 none, Cond.classLink RX1 135 "java/lang/IllegalStateException", Cond.initialized "java/lang/IllegalStateException", Cond.methodLink RX1 121 yX0_leftFrom, Cond.instanceMethod yX0_leftFrom, Cond.selects RX0 yX0_leftFrom yX0_leftFrom, Cond.initialized RX0, Cond.code yX0_leftFrom cX0_leftFrom 2 (some .int), Cond.fieldLink RX0 9 "MakeupGas$Stock" "left" "[I", Cond.methodLink RL 79 yX1_shortfall, Cond.instanceMethod yX1_shortfall, Cond.selects RX1 yX1_shortfall yX1_shortfall, Cond.code yX1_shortfall cX1_shortfall 2 (some .int), Cond.fieldLink RX1 51 "MakeupGas" "shortfallPerYear" "[I", Cond.methodLink RL 82 yX1_surplusLeft, Cond.instanceMethod yX1_surplusLeft, Cond.selects RX1 yX1_surplusLeft yX1_surplusLeft, Cond.code yX1_surplusLeft cX1_surplusLeft 2 (some .int), Cond.fieldLink RX1 48 "MakeupGas" "surplusStock" "LMakeupGas$Stock;", Cond.methodLink RL 85 yX1_surplus, Cond.instanceMethod yX1_surplus, Cond.selects RX1 yX1_surplus yX1_surplus, Cond.code yX1_surplus cX1_surplus 2 (some .int), Cond.fieldLink RX1 60 "MakeupGas" "surplusPerYear" "[I"]
def wsL_areYears_r4 : List Cond := [Cond.methodLink RL 88 yX1_covered, Cond.instanceMethod yX1_covered, Cond.selects RX1 yX1_covered yX1_covered, Cond.code yX1_covered cX1_covered 2 (some .int), Cond.fieldLink RX1 57 "MakeupGas" "coveredPerYear" "[I", Cond.methodLink RL 91 yX1_madeUp, Cond.instanceMethod yX1_madeUp, Cond.selects RX1 yX1_madeUp yX1_madeUp, Cond.code yX1_madeUp cX1_madeUp 2 (some .int), Cond.fieldLink RX1 54 "MakeupGas" "madeUpPerYear" "[I", Cond.methodLink RL 73 yX1_due, Cond.instanceMethod yX1_due, Cond.selects RX1 yX1_due yX1_due, Cond.code yX1_due cX1_due 2 (some .long), Cond.fieldLink RX1 63 "MakeupGas" "duePerYear" "[J", Cond.methodLink RL 69 yX1_bill, Cond.instanceMethod yX1_bill, Cond.selects RX1 yX1_bill yX1_bill, Cond.code yX1_bill cX1_bill 2 (some .long), Cond.fieldLink RX1 67 "MakeupGas" "billPerYear" "[J", Cond.methodLink RL 98 yX1_lapsed, Cond.instanceMethod yX1_lapsed, Cond.selects RX1 yX1_lapsed yX1_lapsed, Cond.code yX1_lapsed cX1_lapsed 1 (some .int)]
def wsL_areYears_r5 : List Cond := [Cond.methodLink RX1 124 yX0_lapsedInAll, Cond.instanceMethod yX0_lapsedInAll, Cond.selects RX0 yX0_lapsedInAll yX0_lapsedInAll, Cond.code yX0_lapsedInAll cX0_lapsedInAll 1 (some .int), Cond.fieldLink RX0 25 "MakeupGas$Stock" "lapsedSum" "I", Cond.methodLink RL 62 yX1_open, Cond.instanceMethod yX1_open, Cond.selects RX1 yX1_open yX1_open, Cond.code yX1_open cX1_open 1 (some .long), Cond.fieldLink RX1 110 "MakeupGas" "billedInAll" "J", Cond.methodLink RX1 106 yX1_dueInAll, Cond.instanceMethod yX1_dueInAll, Cond.selects RX1 yX1_dueInAll yX1_dueInAll, Cond.code yX1_dueInAll cX1_dueInAll 4 (some .long)]
def wsL_areYears : List Cond := .code yL_areYears cL_areYears 12 (some .boolean) :: ((wsL_areYears_r1 ++ (wsL_areYears_r2 ++ (wsL_areYears_r3 ++ (wsL_areYears_r4 ++ wsL_areYears_r5)))) ++ wsX10 ++ wsX00 ++ (vx_atS RX1 132 "java/lang/IllegalArgumentException" ["java/lang/RuntimeException", "java/lang/Exception"]).filter goodWord ++ (vx_atS RX1 139 "java/lang/IllegalStateException" ["java/lang/RuntimeException", "java/lang/Exception"]).filter goodWord)
def wsL_law0_r1 : List Cond := [Cond.classLink RL 11 RX1, Cond.instantiable RX1 17, Cond.initialized RX1, Cond.arrayClass .int, Cond.constant RL 102 (36000), Cond.methodLink RL 101 yX1_init, Cond.instanceMethod yX1_init, Cond.code yX1_init cX1_init 1 none, Cond.methodLink RX1 1 objectInit, Cond.instanceMethod objectInit, Cond.code objectInit ⟨#[0xb1]⟩ 1 none, Cond.constant RX1 9 (36000), Cond.fieldLink RX1 10 "MakeupGas" "yearlyQuantity" "I", Cond.fieldLink RX1 14 "MakeupGas" "leastPercent" "I", Cond.fieldLink RX1 17 "MakeupGas" "shortfallPercent" "I", Cond.fieldLink RX1 20 "MakeupGas" "pricePerYear" "[I", Cond.fieldLink RX1 30 "MakeupGas" "excusedDays" "[I", Cond.fieldLink RX1 33 "MakeupGas" "takenPerDay" "[I", Cond.fieldLink RX1 36 "MakeupGas" "takenPerYear" "[I", Cond.classLink RX1 39 RX0, Cond.instantiable RX0 3, Cond.initialized RX0, Cond.fieldLink RX1 44 "MakeupGas" "makeUpStock" "LMakeupGas$Stock;", Cond.fieldLink RX1 48 "MakeupGas" "surplusStock" "LMakeupGas$Stock;"]
def wsL_law0_r2 : List Cond := [Cond.fieldLink RX1 51 "MakeupGas" "shortfallPerYear" "[I", Cond.fieldLink RX1 54 "MakeupGas" "madeUpPerYear" "[I", Cond.fieldLink RX1 57 "MakeupGas" "coveredPerYear" "[I", Cond.fieldLink RX1 60 "MakeupGas" "surplusPerYear" "[I", Cond.arrayClass .long, Cond.fieldLink RX1 63 "MakeupGas" "duePerYear" "[J", Cond.fieldLink RX1 67 "MakeupGas" "billPerYear" "[J", Cond.methodLink RX1 24 yJ7_fill_53178, Cond.static yJ7_fill_53178, Cond.initialized RJ7, Cond.code yJ7_fill_53178 cJ7_fill_53178 4 none, Cond.methodLink RX1 41 yX0_init, Cond.instanceMethod yX0_init, Cond.code yX0_init cX0_init 2 none, Cond.methodLink RX0 3 objectInit, Cond.fieldLink RX0 9 "MakeupGas$Stock" "left" "[I", Cond.fieldLink RX0 15 "MakeupGas$Stock" "yearsKept" "I", Cond.methodLink RL 10 yX1_closed, Cond.instanceMethod yX1_closed, Cond.selects RX1 yX1_closed yX1_closed, Cond.code yX1_closed cX1_closed 1 (some .int), Cond.fieldLink RX1 103 "MakeupGas" "closedYears" "I", Cond.methodLink RL 62 yX1_open, Cond.instanceMethod yX1_open]
def wsL_law0_r3 : List Cond := [Cond.selects RX1 yX1_open yX1_open, Cond.code yX1_open cX1_open 1 (some .long), Cond.fieldLink RX1 110 "MakeupGas" "billedInAll" "J", Cond.methodLink RX1 106 yX1_dueInAll, Cond.instanceMethod yX1_dueInAll, Cond.selects RX1 yX1_dueInAll yX1_dueInAll, Cond.code yX1_dueInAll cX1_dueInAll 4 (some .long), Cond.methodLink RL 98 yX1_lapsed, Cond.instanceMethod yX1_lapsed, Cond.selects RX1 yX1_lapsed yX1_lapsed, Cond.code yX1_lapsed cX1_lapsed 1 (some .int), Cond.methodLink RX1 124 yX0_lapsedInAll, Cond.instanceMethod yX0_lapsedInAll, Cond.selects RX0 yX0_lapsedInAll yX0_lapsedInAll, Cond.code yX0_lapsedInAll cX0_lapsedInAll 1 (some .int), Cond.fieldLink RX0 25 "MakeupGas$Stock" "lapsedSum" "I", Cond.methodLink RL 21 yX1_least, Cond.instanceMethod yX1_least, Cond.selects RX1 yX1_least yX1_least, Cond.code yX1_least cX1_least 2 (some .int), Cond.methodLink RX1 81 yX1_requireYear, Cond.static yX1_requireYear, Cond.code yX1_requireYear cX1_requireYear 1 none, Cond.methodLink RX1 71 yX1_requireRange]
def wsL_law0_r4 : List Cond := [Cond.static yX1_requireRange, Cond.code yX1_requireRange cX1_requireRange 3 none, Cond.classLink RX1 128 "java/lang/IllegalArgumentException", Cond.initialized "java/lang/IllegalArgumentException", Cond.methodLink RX1 114 yX1_leastQuantity, Cond.instanceMethod yX1_leastQuantity, Cond.selects RX1 yX1_leastQuantity yX1_leastQuantity, Cond.code yX1_leastQuantity cX1_leastQuantity 4 (some .int), Cond.constantLong RX1 146 (36000), Cond.methodLink RL 27 yX1_price, Cond.instanceMethod yX1_price, Cond.selects RX1 yX1_price yX1_price, Cond.code yX1_price cX1_price 2 (some .int), Cond.methodLink RL 103 yL_draw, Cond.static yL_draw, Cond.initialized RL, Cond.code yL_draw cL_draw 2 (some .int), Cond.constant RL 7 (2147483647), Cond.constant RL 8 (104729), Cond.constant RL 9 (65521), Cond.methodLink RL 107 yL_step, Cond.static yL_step, Cond.code yL_step cL_step 10 (some .boolean), Cond.constant RL 16 (100000)]
def wsL_law0_r5 : List Cond := [Cond.constantLong RL 25 (100), Cond.constantLong RL 37 (36000), Cond.methodLink RL 17 yX1_set, Cond.instanceMethod yX1_set, Cond.selects RX1 yX1_set yX1_set, Cond.code yX1_set cX1_set 6 none, Cond.constant RX1 70 (100000), Cond.methodLink RX1 75 yX1_requireUnused, Cond.instanceMethod yX1_requireUnused, Cond.selects RX1 yX1_requireUnused yX1_requireUnused, Cond.code yX1_requireUnused cX1_requireUnused 1 none, Cond.classLink RX1 135 "java/lang/IllegalStateException", Cond.initialized "java/lang/IllegalStateException", Cond.methodLink RX1 78 yX0_keepFor, Cond.instanceMethod yX0_keepFor, Cond.selects RX0 yX0_keepFor yX0_keepFor, Cond.code yX0_keepFor cX0_keepFor 2 none, Cond.methodLink RL 30 yX1_review, Cond.instanceMethod yX1_review, Cond.selects RX1 yX1_review yX1_review, Cond.code yX1_review cX1_review 5 (some .int), Cond.methodLink RX1 84 yX1_settleClosedYears, Cond.instanceMethod yX1_settleClosedYears, Cond.selects RX1 yX1_settleClosedYears yX1_settleClosedYears]
def wsL_law0_r6 : List Cond := [Cond.code yX1_settleClosedYears cX1_settleClosedYears 2 none, Cond.methodLink RX1 148 yX0_empty, Cond.instanceMethod yX0_empty, Cond.selects RX0 yX0_empty yX0_empty, Cond.code yX0_empty cX0_empty 1 none, Cond.methodLink RX0 19 yJ7_fill_53178, Cond.methodLink RX1 151 yX0_lapseBefore, Cond.instanceMethod yX0_lapseBefore, Cond.selects RX0 yX0_lapseBefore yX0_lapseBefore, Cond.code yX0_lapseBefore cX0_lapseBefore 3 none, Cond.methodLink RX1 154 yX1_settleGap, Cond.instanceMethod yX1_settleGap, Cond.selects RX1 yX1_settleGap yX1_settleGap, Cond.code yX1_settleGap cX1_settleGap 5 none, Cond.methodLink RX1 160 yX1_drawSurplus, Cond.instanceMethod yX1_drawSurplus, Cond.selects RX1 yX1_drawSurplus yX1_drawSurplus, Cond.code yX1_drawSurplus cX1_drawSurplus 5 (some .int), Cond.methodLink RX1 170 yX0_drawFrom, Cond.instanceMethod yX0_drawFrom, Cond.selects RX0 yX0_drawFrom yX0_drawFrom, Cond.code yX0_drawFrom cX0_drawFrom 4 (some .int), Cond.methodLink RX0 28 Lib.Math.min.name, Cond.static Lib.Math.min.name]
def wsL_law0_r7 : List Cond := [Cond.initialized "java/lang/Math", Cond.code Lib.Math.min.name Lib.Math.min.code 2 (some .int), Cond.methodLink RX1 164 yX0_put, Cond.instanceMethod yX0_put, Cond.selects RX0 yX0_put yX0_put, Cond.code yX0_put cX0_put 3 none, Cond.methodLink RX1 167 yX1_shortfallPrice, Cond.instanceMethod yX1_shortfallPrice, Cond.selects RX1 yX1_shortfallPrice yX1_shortfallPrice, Cond.code yX1_shortfallPrice cX1_shortfallPrice 2 (some .int), Cond.methodLink RX1 157 yX1_settleEnough, Cond.instanceMethod yX1_settleEnough, Cond.selects RX1 yX1_settleEnough yX1_settleEnough, Cond.code yX1_settleEnough cX1_settleEnough 8 none, Cond.methodLink RX1 173 Lib.Math.max.name, Cond.static Lib.Math.max.name, Cond.code Lib.Math.max.name Lib.Math.max.code 2 (some .int), Cond.methodLink RL 34 yX1_excuse, Cond.instanceMethod yX1_excuse, Cond.selects RX1 yX1_excuse yX1_excuse, Cond.code yX1_excuse cX1_excuse 4 (some .int), Cond.methodLink RL 39 yL_takes, Cond.static yL_takes, Cond.code yL_takes cL_takes 8 (some .boolean)]
def wsL_law0_r8 : List Cond := [Cond.methodLink RL 48 yX1_takenFrom, Cond.instanceMethod yX1_takenFrom, Cond.selects RX1 yX1_takenFrom yX1_takenFrom, Cond.code yX1_takenFrom cX1_takenFrom 5 (some .int), Cond.methodLink RX1 99 yX1_requireDays, Cond.static yX1_requireDays, Cond.code yX1_requireDays cX1_requireDays 2 none, Cond.methodLink RX1 87 yX1_requireDay, Cond.static yX1_requireDay, Cond.code yX1_requireDay cX1_requireDay 1 none, Cond.methodLink RL 45 yX1_taken, Cond.instanceMethod yX1_taken, Cond.selects RX1 yX1_taken yX1_taken, Cond.code yX1_taken cX1_taken 2 (some .int), Cond.methodLink RL 55 yX1_take, Cond.instanceMethod yX1_take, Cond.selects RX1 yX1_take yX1_take, Cond.code yX1_take cX1_take 3 (some .int), Cond.methodLink RX1 90 yX1_requireYearGoingOn, Cond.instanceMethod yX1_requireYearGoingOn, Cond.selects RX1 yX1_requireYearGoingOn yX1_requireYearGoingOn, Cond.code yX1_requireYearGoingOn cX1_requireYearGoingOn 1 none, Cond.methodLink RX1 93 yX1_requireRoom, Cond.instanceMethod yX1_requireRoom]
def wsL_law0_r9 : List Cond := [Cond.selects RX1 yX1_requireRoom yX1_requireRoom, Cond.code yX1_requireRoom cX1_requireRoom 5 none, Cond.methodLink RX1 96 yX1_addTakes, Cond.instanceMethod yX1_addTakes, Cond.selects RX1 yX1_addTakes yX1_addTakes, Cond.code yX1_addTakes cX1_addTakes 5 none, Cond.methodLink RL 58 yX1_takeDaily, Cond.instanceMethod yX1_takeDaily, Cond.selects RX1 yX1_takeDaily yX1_takeDaily, Cond.code yX1_takeDaily cX1_takeDaily 4 (some .int), Cond.methodLink RL 51 yL_closes, Cond.static yL_closes, Cond.code yL_closes cL_closes 7 (some .boolean), Cond.methodLink RL 66 yX1_close, Cond.instanceMethod yX1_close, Cond.selects RX1 yX1_close yX1_close, Cond.code yX1_close cX1_close 4 (some .long), Cond.methodLink RL 69 yX1_bill, Cond.instanceMethod yX1_bill, Cond.selects RX1 yX1_bill yX1_bill, Cond.code yX1_bill cX1_bill 2 (some .long), Cond.methodLink RX1 118 yX1_requireClosedYear, Cond.instanceMethod yX1_requireClosedYear, Cond.selects RX1 yX1_requireClosedYear yX1_requireClosedYear]
def wsL_law0_r10 : List Cond := [Cond.code yX1_requireClosedYear cX1_requireClosedYear 2 none, Cond.methodLink RL 73 yX1_due, Cond.instanceMethod yX1_due, Cond.selects RX1 yX1_due yX1_due, Cond.code yX1_due cX1_due 2 (some .long), Cond.methodLink RL 110 yL_areYears, Cond.static yL_areYears, Cond.code yL_areYears cL_areYears 12 (some .boolean), Cond.methodLink RL 94 yL_isYear, Cond.static yL_isYear, Cond.code yL_isYear cL_isYear 9 (some .boolean), Cond.methodLink RL 76 yX1_makeUpLeft, Cond.instanceMethod yX1_makeUpLeft, Cond.selects RX1 yX1_makeUpLeft yX1_makeUpLeft, Cond.code yX1_makeUpLeft cX1_makeUpLeft 2 (some .int), Cond.methodLink RX1 121 yX0_leftFrom, Cond.instanceMethod yX0_leftFrom, Cond.selects RX0 yX0_leftFrom yX0_leftFrom, Cond.code yX0_leftFrom cX0_leftFrom 2 (some .int), Cond.methodLink RL 79 yX1_shortfall, Cond.instanceMethod yX1_shortfall, Cond.selects RX1 yX1_shortfall yX1_shortfall, Cond.code yX1_shortfall cX1_shortfall 2 (some .int), Cond.methodLink RL 82 yX1_surplusLeft]
def wsL_law0_r11 : List Cond := [Cond.instanceMethod yX1_surplusLeft, Cond.selects RX1 yX1_surplusLeft yX1_surplusLeft, Cond.code yX1_surplusLeft cX1_surplusLeft 2 (some .int), Cond.methodLink RL 85 yX1_surplus, Cond.instanceMethod yX1_surplus, Cond.selects RX1 yX1_surplus yX1_surplus, Cond.code yX1_surplus cX1_surplus 2 (some .int), Cond.methodLink RL 88 yX1_covered, Cond.instanceMethod yX1_covered, Cond.selects RX1 yX1_covered yX1_covered, Cond.code yX1_covered cX1_covered 2 (some .int), Cond.methodLink RL 91 yX1_madeUp, Cond.instanceMethod yX1_madeUp, Cond.selects RX1 yX1_madeUp yX1_madeUp, Cond.code yX1_madeUp cX1_madeUp 2 (some .int)]
def wsL_law0 : List Cond := (wsL_law0_r1 ++ (wsL_law0_r2 ++ (wsL_law0_r3 ++ (wsL_law0_r4 ++ (wsL_law0_r5 ++ (wsL_law0_r6 ++ (wsL_law0_r7 ++ (wsL_law0_r8 ++ (wsL_law0_r9 ++ (wsL_law0_r10 ++ wsL_law0_r11)))))))))) ++ wsX10 ++ wsX00 ++ ([] : List Cond)
def wsL_law : List Cond := wsL_law0 ++ (vx_atS RX1 132 "java/lang/IllegalArgumentException" ["java/lang/RuntimeException", "java/lang/Exception"]).filter goodWord ++ (vx_atS RX1 139 "java/lang/IllegalStateException" ["java/lang/RuntimeException", "java/lang/Exception"]).filter goodWord
abbrev vwCl : List vw_C := [(RX0, TX0, 3), (RX1, TX1, 17)]
end
section
set_option maxRecDepth 20000 in
theorem wsL_law0_r1_in : ∀ w ∈ wsL_law0_r1, w ∈ lw_tbl := fun w h => (goodIn_p wsL_law0_r1 [27, 30] (by decide +kernel) (by decide +kernel) w h).1
set_option maxRecDepth 20000 in
theorem wsL_law0_r2_in : ∀ w ∈ wsL_law0_r2, w ∈ lw_tbl := fun w h => (goodIn_p wsL_law0_r2 [34, 39, 108] (by decide +kernel) (by decide +kernel) w h).1
set_option maxRecDepth 20000 in
theorem wsL_law0_r3_in : ∀ w ∈ wsL_law0_r3, w ∈ lw_tbl := fun w h => (goodIn_p wsL_law0_r3 [206, 210, 198, 202, 189, 115] (by decide +kernel) (by decide +kernel) w h).1
set_option maxRecDepth 20000 in
theorem wsL_law0_r4_in : ∀ w ∈ wsL_law0_r4, w ∈ lw_tbl := fun w h => (goodIn_p wsL_law0_r4 [118, 193, 112, 213, 219] (by decide +kernel) (by decide +kernel) w h).1
set_option maxRecDepth 20000 in
theorem wsL_law0_r5_in : ∀ w ∈ wsL_law0_r5, w ∈ lw_tbl := fun w h => (goodIn_p wsL_law0_r5 [224, 229, 249, 254] (by decide +kernel) (by decide +kernel) w h).1
set_option maxRecDepth 20000 in
theorem wsL_law0_r6_in : ∀ w ∈ wsL_law0_r6, w ∈ lw_tbl := fun w h => (goodIn_p wsL_law0_r6 [258, 262, 267, 271, 275, 279] (by decide +kernel) (by decide +kernel) w h).1
set_option maxRecDepth 20000 in
theorem wsL_law0_r7_in : ∀ w ∈ wsL_law0_r7, w ∈ lw_tbl := fun w h => (goodIn_p wsL_law0_r7 [282, 286, 290, 294, 297, 301, 305] (by decide +kernel) (by decide +kernel) w h).1
set_option maxRecDepth 20000 in
theorem wsL_law0_r8_in : ∀ w ∈ wsL_law0_r8, w ∈ lw_tbl := fun w h => (goodIn_p wsL_law0_r8 [309, 312, 315, 319, 323, 327] (by decide +kernel) (by decide +kernel) w h).1
set_option maxRecDepth 20000 in
theorem wsL_law0_r9_in : ∀ w ∈ wsL_law0_r9, w ∈ lw_tbl := fun w h => (goodIn_p wsL_law0_r9 [332, 337, 341, 344, 348, 352] (by decide +kernel) (by decide +kernel) w h).1
set_option maxRecDepth 20000 in
theorem wsL_law0_r10_in : ∀ w ∈ wsL_law0_r10, w ∈ lw_tbl := fun w h => (goodIn_p wsL_law0_r10 [356, 361, 364, 367, 371, 375, 379] (by decide +kernel) (by decide +kernel) w h).1
set_option maxRecDepth 20000 in
theorem wsL_law0_r11_in : ∀ w ∈ wsL_law0_r11, w ∈ lw_tbl := fun w h => (goodIn_p wsL_law0_r11 [383, 387, 391, 395] (by decide +kernel) (by decide +kernel) w h).1
set_option maxRecDepth 20000 in
theorem wsX10_inT : ∀ w ∈ wsX10, w ∈ lw_tbl := by decide +kernel
set_option maxRecDepth 20000 in
theorem wsX00_inT : ∀ w ∈ wsX00, w ∈ lw_tbl := by decide +kernel
set_option maxRecDepth 20000 in
theorem wsL_law_in0 : ∀ w ∈ wsL_law0, w ∈ lw_tbl := fun w h => (List.mem_append.mp h).elim (fun h => (List.mem_append.mp h).elim (fun h => (List.mem_append.mp h).elim (fun h => (List.mem_append.mp h).elim (fun h => wsL_law0_r1_in w h) (fun h => (List.mem_append.mp h).elim (fun h => wsL_law0_r2_in w h) (fun h => (List.mem_append.mp h).elim (fun h => wsL_law0_r3_in w h) (fun h => (List.mem_append.mp h).elim (fun h => wsL_law0_r4_in w h) (fun h => (List.mem_append.mp h).elim (fun h => wsL_law0_r5_in w h) (fun h => (List.mem_append.mp h).elim (fun h => wsL_law0_r6_in w h) (fun h => (List.mem_append.mp h).elim (fun h => wsL_law0_r7_in w h) (fun h => (List.mem_append.mp h).elim (fun h => wsL_law0_r8_in w h) (fun h => (List.mem_append.mp h).elim (fun h => wsL_law0_r9_in w h) (fun h => (List.mem_append.mp h).elim (fun h => wsL_law0_r10_in w h) (fun h => wsL_law0_r11_in w h))))))))))) (fun h => wsX10_inT w h)) (fun h => wsX00_inT w h)) (fun h => absurd h List.not_mem_nil)
end
section
theorem wsL_law_x0 : ∀ w ∈ (vx_atS RX1 132 "java/lang/IllegalArgumentException" ["java/lang/RuntimeException", "java/lang/Exception"]).filter goodWord, w ∈ lw_tbl := by decide +kernel
theorem wsL_law_x1 : ∀ w ∈ (vx_atS RX1 139 "java/lang/IllegalStateException" ["java/lang/RuntimeException", "java/lang/Exception"]).filter goodWord, w ∈ lw_tbl := by decide +kernel
theorem wsL_law_in : ∀ w ∈ wsL_law, w ∈ lw_tbl := fun w h => (List.mem_append.mp h).elim (fun h => (List.mem_append.mp h).elim (fun h => wsL_law_in0 w h) (fun h => wsL_law_x0 w h)) (fun h => wsL_law_x1 w h)
theorem inlX0 : ∀ w ∈ wsX00, w ∈ wsL_law := fun _ h => List.mem_append_left _ (List.mem_append_left _ (List.mem_append_left _ (List.mem_append_right _ h)))
theorem inX0 : ∀ w ∈ wsX00, w ∈ lw_tbl := fun w h => wsL_law_in w (inlX0 w h)
theorem inlX1 : ∀ w ∈ wsX10, w ∈ wsL_law := fun _ h => List.mem_append_left _ (List.mem_append_left _ (List.mem_append_left _ (List.mem_append_left _ (List.mem_append_right _ h))))
theorem inX1 : ∀ w ∈ wsX10, w ∈ lw_tbl := fun w h => wsL_law_in w (inlX1 w h)
theorem inX2 : ∀ w ∈ wsX20, w ∈ lw_tbl := by decide +kernel
theorem inJx145de : ∀ w ∈ wsJx145de0, w ∈ lw_tbl := by decide +kernel
theorem inJ9 : ∀ w ∈ wsJ90, w ∈ lw_tbl := by decide +kernel
theorem inJ0 : ∀ w ∈ wsJ00, w ∈ lw_tbl := by decide +kernel
theorem inJ7 : ∀ w ∈ wsJ70, w ∈ lw_tbl := by decide +kernel
theorem dX0_init_0 : decode cX0_init 0 = .ok (.aload_n 0, 1) := by decide +kernel
theorem dX0_init_1 : decode cX0_init 1 = .ok (.invokespecial 3, 3) := by decide +kernel
theorem dX0_init_4 : decode cX0_init 4 = .ok (.aload_n 0, 1) := by decide +kernel
theorem dX0_init_5 : decode cX0_init 5 = .ok (.bipush 20, 2) := by decide +kernel
theorem dX0_init_7 : decode cX0_init 7 = .ok (.newarray .int, 2) := by decide +kernel
theorem dX0_init_9 : decode cX0_init 9 = .ok (.putfield 9, 3) := by decide +kernel
theorem dX0_init_12 : decode cX0_init 12 = .ok (.aload_n 0, 1) := by decide +kernel
theorem dX0_init_13 : decode cX0_init 13 = .ok (.iload_n 1, 1) := by decide +kernel
theorem dX0_init_14 : decode cX0_init 14 = .ok (.putfield 15, 3) := by decide +kernel
theorem dX0_init_17 : decode cX0_init 17 = .ok (.return_, 1) := by decide +kernel
theorem dX0_keepFor_0 : decode cX0_keepFor 0 = .ok (.aload_n 0, 1) := by decide +kernel
theorem dX0_keepFor_1 : decode cX0_keepFor 1 = .ok (.iload_n 1, 1) := by decide +kernel
theorem dX0_keepFor_2 : decode cX0_keepFor 2 = .ok (.putfield 15, 3) := by decide +kernel
theorem dX0_keepFor_5 : decode cX0_keepFor 5 = .ok (.return_, 1) := by decide +kernel
set_option maxRecDepth 20000 in
theorem ggX0_empty_J7_fill_53178 : GoodIn wsX0_empty wsJ7_fill_53178 := goodIn_r _ [6] (by decide +kernel) (by decide +kernel)
set_option maxRecDepth 20000 in
theorem gX0_empty_J7_fill_53178 : GoodIn wsX0_empty (va_wsS RX0 19 yJ7_fill_53178 wsJ7_fill_53178) := goodIn_app (goodIn_of _ (by decide +kernel)) ggX0_empty_J7_fill_53178
theorem dX0_empty_0 : decode cX0_empty 0 = .ok (.aload_n 0, 1) := by decide +kernel
theorem dX0_empty_1 : decode cX0_empty 1 = .ok (.getfield 9, 3) := by decide +kernel
theorem dX0_empty_4 : decode cX0_empty 4 = .ok (.iconst 0, 1) := by decide +kernel
theorem dX0_empty_5 : decode cX0_empty 5 = .ok (.invokestatic 19, 3) := by decide +kernel
theorem dX0_empty_8 : decode cX0_empty 8 = .ok (.aload_n 0, 1) := by decide +kernel
theorem dX0_empty_9 : decode cX0_empty 9 = .ok (.iconst 0, 1) := by decide +kernel
theorem dX0_empty_10 : decode cX0_empty 10 = .ok (.putfield 25, 3) := by decide +kernel
theorem dX0_empty_13 : decode cX0_empty 13 = .ok (.return_, 1) := by decide +kernel
theorem dX0_lapseBefore_0 : decode cX0_lapseBefore 0 = .ok (.iload_n 1, 1) := by decide +kernel
theorem dX0_lapseBefore_1 : decode cX0_lapseBefore 1 = .ok (.aload_n 0, 1) := by decide +kernel
theorem dX0_lapseBefore_2 : decode cX0_lapseBefore 2 = .ok (.getfield 15, 3) := by decide +kernel
theorem dX0_lapseBefore_5 : decode cX0_lapseBefore 5 = .ok (.isub, 1) := by decide +kernel
theorem dX0_lapseBefore_6 : decode cX0_lapseBefore 6 = .ok (.iconst 1, 1) := by decide +kernel
theorem dX0_lapseBefore_7 : decode cX0_lapseBefore 7 = .ok (.isub, 1) := by decide +kernel
theorem dX0_lapseBefore_8 : decode cX0_lapseBefore 8 = .ok (.istore_n 2, 1) := by decide +kernel
theorem dX0_lapseBefore_9 : decode cX0_lapseBefore 9 = .ok (.iload_n 2, 1) := by decide +kernel
theorem dX0_lapseBefore_10 : decode cX0_lapseBefore 10 = .ok (.ifCond .lt 31, 3) := by decide +kernel
theorem dX0_lapseBefore_13 : decode cX0_lapseBefore 13 = .ok (.iload_n 2, 1) := by decide +kernel
theorem dX0_lapseBefore_14 : decode cX0_lapseBefore 14 = .ok (.bipush 20, 2) := by decide +kernel
theorem dX0_lapseBefore_16 : decode cX0_lapseBefore 16 = .ok (.if_icmp .ge 25, 3) := by decide +kernel
theorem dX0_lapseBefore_19 : decode cX0_lapseBefore 19 = .ok (.aload_n 0, 1) := by decide +kernel
theorem dX0_lapseBefore_20 : decode cX0_lapseBefore 20 = .ok (.dup, 1) := by decide +kernel
theorem dX0_lapseBefore_21 : decode cX0_lapseBefore 21 = .ok (.getfield 25, 3) := by decide +kernel
theorem dX0_lapseBefore_24 : decode cX0_lapseBefore 24 = .ok (.aload_n 0, 1) := by decide +kernel
theorem dX0_lapseBefore_25 : decode cX0_lapseBefore 25 = .ok (.getfield 9, 3) := by decide +kernel
theorem dX0_lapseBefore_28 : decode cX0_lapseBefore 28 = .ok (.iload_n 2, 1) := by decide +kernel
theorem dX0_lapseBefore_29 : decode cX0_lapseBefore 29 = .ok (.iaload, 1) := by decide +kernel
theorem dX0_lapseBefore_30 : decode cX0_lapseBefore 30 = .ok (.iadd, 1) := by decide +kernel
theorem dX0_lapseBefore_31 : decode cX0_lapseBefore 31 = .ok (.putfield 25, 3) := by decide +kernel
theorem dX0_lapseBefore_34 : decode cX0_lapseBefore 34 = .ok (.aload_n 0, 1) := by decide +kernel
theorem dX0_lapseBefore_35 : decode cX0_lapseBefore 35 = .ok (.getfield 9, 3) := by decide +kernel
theorem dX0_lapseBefore_38 : decode cX0_lapseBefore 38 = .ok (.iload_n 2, 1) := by decide +kernel
theorem dX0_lapseBefore_39 : decode cX0_lapseBefore 39 = .ok (.iconst 0, 1) := by decide +kernel
theorem dX0_lapseBefore_40 : decode cX0_lapseBefore 40 = .ok (.iastore, 1) := by decide +kernel
theorem dX0_lapseBefore_41 : decode cX0_lapseBefore 41 = .ok (.return_, 1) := by decide +kernel
theorem dX0_put_0 : decode cX0_put 0 = .ok (.aload_n 0, 1) := by decide +kernel
theorem dX0_put_1 : decode cX0_put 1 = .ok (.getfield 9, 3) := by decide +kernel
theorem dX0_put_4 : decode cX0_put 4 = .ok (.iload_n 1, 1) := by decide +kernel
theorem dX0_put_5 : decode cX0_put 5 = .ok (.iload_n 2, 1) := by decide +kernel
theorem dX0_put_6 : decode cX0_put 6 = .ok (.iastore, 1) := by decide +kernel
theorem dX0_put_7 : decode cX0_put 7 = .ok (.return_, 1) := by decide +kernel
theorem dX0_drawFrom_0 : decode cX0_drawFrom 0 = .ok (.iload_n 2, 1) := by decide +kernel
theorem dX0_drawFrom_1 : decode cX0_drawFrom 1 = .ok (.aload_n 0, 1) := by decide +kernel
theorem dX0_drawFrom_2 : decode cX0_drawFrom 2 = .ok (.getfield 9, 3) := by decide +kernel
theorem dX0_drawFrom_5 : decode cX0_drawFrom 5 = .ok (.iload_n 1, 1) := by decide +kernel
theorem dX0_drawFrom_6 : decode cX0_drawFrom 6 = .ok (.iaload, 1) := by decide +kernel
theorem dX0_drawFrom_7 : decode cX0_drawFrom 7 = .ok (.invokestatic 28, 3) := by decide +kernel
theorem dX0_drawFrom_10 : decode cX0_drawFrom 10 = .ok (.istore_n 3, 1) := by decide +kernel
theorem dX0_drawFrom_11 : decode cX0_drawFrom 11 = .ok (.aload_n 0, 1) := by decide +kernel
theorem dX0_drawFrom_12 : decode cX0_drawFrom 12 = .ok (.getfield 9, 3) := by decide +kernel
theorem dX0_drawFrom_15 : decode cX0_drawFrom 15 = .ok (.iload_n 1, 1) := by decide +kernel
theorem dX0_drawFrom_16 : decode cX0_drawFrom 16 = .ok (.dup2, 1) := by decide +kernel
theorem dX0_drawFrom_17 : decode cX0_drawFrom 17 = .ok (.iaload, 1) := by decide +kernel
theorem dX0_drawFrom_18 : decode cX0_drawFrom 18 = .ok (.iload_n 3, 1) := by decide +kernel
theorem dX0_drawFrom_19 : decode cX0_drawFrom 19 = .ok (.isub, 1) := by decide +kernel
theorem dX0_drawFrom_20 : decode cX0_drawFrom 20 = .ok (.iastore, 1) := by decide +kernel
theorem dX0_drawFrom_21 : decode cX0_drawFrom 21 = .ok (.iload_n 3, 1) := by decide +kernel
theorem dX0_drawFrom_22 : decode cX0_drawFrom 22 = .ok (.ireturn, 1) := by decide +kernel
theorem dX0_leftFrom_0 : decode cX0_leftFrom 0 = .ok (.aload_n 0, 1) := by decide +kernel
theorem dX0_leftFrom_1 : decode cX0_leftFrom 1 = .ok (.getfield 9, 3) := by decide +kernel
theorem dX0_leftFrom_4 : decode cX0_leftFrom 4 = .ok (.iload_n 1, 1) := by decide +kernel
theorem dX0_leftFrom_5 : decode cX0_leftFrom 5 = .ok (.iaload, 1) := by decide +kernel
theorem dX0_leftFrom_6 : decode cX0_leftFrom 6 = .ok (.ireturn, 1) := by decide +kernel
theorem dX0_lapsedInAll_0 : decode cX0_lapsedInAll 0 = .ok (.aload_n 0, 1) := by decide +kernel
theorem dX0_lapsedInAll_1 : decode cX0_lapsedInAll 1 = .ok (.getfield 25, 3) := by decide +kernel
theorem dX0_lapsedInAll_4 : decode cX0_lapsedInAll 4 = .ok (.ireturn, 1) := by decide +kernel
set_option maxRecDepth 20000 in
theorem ggX1_init_J7_fill_53178 : GoodIn wsX1_init wsJ7_fill_53178 := goodIn_r _ [28] (by decide +kernel) (by decide +kernel)
set_option maxRecDepth 20000 in
theorem gX1_init_J7_fill_53178 : GoodIn wsX1_init (va_wsS RX1 24 yJ7_fill_53178 wsJ7_fill_53178) := goodIn_app (goodIn_of _ (by decide +kernel)) ggX1_init_J7_fill_53178
set_option maxRecDepth 20000 in
theorem ggX1_init_X0_init : GoodIn wsX1_init wsX0_init := goodIn_r _ [31, 32, 2, 3, 8, 33, 34, 52, 53, 54] (by decide +kernel) (by decide +kernel)
set_option maxRecDepth 20000 in
theorem gX1_init_X0_init : GoodIn wsX1_init (wsX0_init) := ggX1_init_X0_init
theorem dX1_init_0 : decode cX1_init 0 = .ok (.aload_n 0, 1) := by decide +kernel
theorem dX1_init_1 : decode cX1_init 1 = .ok (.invokespecial 1, 3) := by decide +kernel
theorem dX1_init_4 : decode cX1_init 4 = .ok (.aload_n 0, 1) := by decide +kernel
theorem dX1_init_5 : decode cX1_init 5 = .ok (.ldc 9, 2) := by decide +kernel
theorem dX1_init_7 : decode cX1_init 7 = .ok (.putfield 10, 3) := by decide +kernel
theorem dX1_init_10 : decode cX1_init 10 = .ok (.aload_n 0, 1) := by decide +kernel
theorem dX1_init_11 : decode cX1_init 11 = .ok (.bipush 80, 2) := by decide +kernel
theorem dX1_init_13 : decode cX1_init 13 = .ok (.putfield 14, 3) := by decide +kernel
theorem dX1_init_16 : decode cX1_init 16 = .ok (.aload_n 0, 1) := by decide +kernel
theorem dX1_init_17 : decode cX1_init 17 = .ok (.bipush 100, 2) := by decide +kernel
theorem dX1_init_19 : decode cX1_init 19 = .ok (.putfield 17, 3) := by decide +kernel
theorem dX1_init_22 : decode cX1_init 22 = .ok (.aload_n 0, 1) := by decide +kernel
theorem dX1_init_23 : decode cX1_init 23 = .ok (.bipush 20, 2) := by decide +kernel
theorem dX1_init_25 : decode cX1_init 25 = .ok (.newarray .int, 2) := by decide +kernel
theorem dX1_init_27 : decode cX1_init 27 = .ok (.putfield 20, 3) := by decide +kernel
theorem dX1_init_30 : decode cX1_init 30 = .ok (.aload_n 0, 1) := by decide +kernel
theorem dX1_init_31 : decode cX1_init 31 = .ok (.getfield 20, 3) := by decide +kernel
theorem dX1_init_34 : decode cX1_init 34 = .ok (.bipush 100, 2) := by decide +kernel
theorem dX1_init_36 : decode cX1_init 36 = .ok (.invokestatic 24, 3) := by decide +kernel
theorem dX1_init_39 : decode cX1_init 39 = .ok (.aload_n 0, 1) := by decide +kernel
theorem dX1_init_40 : decode cX1_init 40 = .ok (.bipush 20, 2) := by decide +kernel
theorem dX1_init_42 : decode cX1_init 42 = .ok (.newarray .int, 2) := by decide +kernel
theorem dX1_init_44 : decode cX1_init 44 = .ok (.putfield 30, 3) := by decide +kernel
theorem dX1_init_47 : decode cX1_init 47 = .ok (.aload_n 0, 1) := by decide +kernel
theorem dX1_init_48 : decode cX1_init 48 = .ok (.sipush 360, 3) := by decide +kernel
theorem dX1_init_51 : decode cX1_init 51 = .ok (.newarray .int, 2) := by decide +kernel
theorem dX1_init_53 : decode cX1_init 53 = .ok (.putfield 33, 3) := by decide +kernel
theorem dX1_init_56 : decode cX1_init 56 = .ok (.aload_n 0, 1) := by decide +kernel
theorem dX1_init_57 : decode cX1_init 57 = .ok (.bipush 20, 2) := by decide +kernel
theorem dX1_init_59 : decode cX1_init 59 = .ok (.newarray .int, 2) := by decide +kernel
theorem dX1_init_61 : decode cX1_init 61 = .ok (.putfield 36, 3) := by decide +kernel
theorem dX1_init_64 : decode cX1_init 64 = .ok (.aload_n 0, 1) := by decide +kernel
theorem dX1_init_65 : decode cX1_init 65 = .ok (.new 39, 3) := by decide +kernel
theorem dX1_init_68 : decode cX1_init 68 = .ok (.dup, 1) := by decide +kernel
theorem dX1_init_69 : decode cX1_init 69 = .ok (.iconst 3, 1) := by decide +kernel
theorem dX1_init_70 : decode cX1_init 70 = .ok (.invokespecial 41, 3) := by decide +kernel
theorem dX1_init_73 : decode cX1_init 73 = .ok (.putfield 44, 3) := by decide +kernel
theorem dX1_init_76 : decode cX1_init 76 = .ok (.aload_n 0, 1) := by decide +kernel
theorem dX1_init_77 : decode cX1_init 77 = .ok (.new 39, 3) := by decide +kernel
theorem dX1_init_80 : decode cX1_init 80 = .ok (.dup, 1) := by decide +kernel
theorem dX1_init_81 : decode cX1_init 81 = .ok (.iconst 2, 1) := by decide +kernel
theorem dX1_init_82 : decode cX1_init 82 = .ok (.invokespecial 41, 3) := by decide +kernel
theorem dX1_init_85 : decode cX1_init 85 = .ok (.putfield 48, 3) := by decide +kernel
theorem dX1_init_88 : decode cX1_init 88 = .ok (.aload_n 0, 1) := by decide +kernel
theorem dX1_init_89 : decode cX1_init 89 = .ok (.bipush 20, 2) := by decide +kernel
theorem dX1_init_91 : decode cX1_init 91 = .ok (.newarray .int, 2) := by decide +kernel
theorem dX1_init_93 : decode cX1_init 93 = .ok (.putfield 51, 3) := by decide +kernel
theorem dX1_init_96 : decode cX1_init 96 = .ok (.aload_n 0, 1) := by decide +kernel
theorem dX1_init_97 : decode cX1_init 97 = .ok (.bipush 20, 2) := by decide +kernel
theorem dX1_init_99 : decode cX1_init 99 = .ok (.newarray .int, 2) := by decide +kernel
theorem dX1_init_101 : decode cX1_init 101 = .ok (.putfield 54, 3) := by decide +kernel
theorem dX1_init_104 : decode cX1_init 104 = .ok (.aload_n 0, 1) := by decide +kernel
theorem dX1_init_105 : decode cX1_init 105 = .ok (.bipush 20, 2) := by decide +kernel
theorem dX1_init_107 : decode cX1_init 107 = .ok (.newarray .int, 2) := by decide +kernel
theorem dX1_init_109 : decode cX1_init 109 = .ok (.putfield 57, 3) := by decide +kernel
theorem dX1_init_112 : decode cX1_init 112 = .ok (.aload_n 0, 1) := by decide +kernel
theorem dX1_init_113 : decode cX1_init 113 = .ok (.bipush 20, 2) := by decide +kernel
theorem dX1_init_115 : decode cX1_init 115 = .ok (.newarray .int, 2) := by decide +kernel
theorem dX1_init_117 : decode cX1_init 117 = .ok (.putfield 60, 3) := by decide +kernel
theorem dX1_init_120 : decode cX1_init 120 = .ok (.aload_n 0, 1) := by decide +kernel
theorem dX1_init_121 : decode cX1_init 121 = .ok (.bipush 20, 2) := by decide +kernel
theorem dX1_init_123 : decode cX1_init 123 = .ok (.newarray .long, 2) := by decide +kernel
theorem dX1_init_125 : decode cX1_init 125 = .ok (.putfield 63, 3) := by decide +kernel
theorem dX1_init_128 : decode cX1_init 128 = .ok (.aload_n 0, 1) := by decide +kernel
theorem dX1_init_129 : decode cX1_init 129 = .ok (.bipush 20, 2) := by decide +kernel
theorem dX1_init_131 : decode cX1_init 131 = .ok (.newarray .long, 2) := by decide +kernel
theorem dX1_init_133 : decode cX1_init 133 = .ok (.putfield 67, 3) := by decide +kernel
theorem dX1_init_136 : decode cX1_init 136 = .ok (.return_, 1) := by decide +kernel
set_option maxRecDepth 20000 in
theorem ggX1_set_X1_requireRange : GoodIn wsX1_set wsX1_requireRange := goodIn_ca (goodIn_r _ [10, 11, 12] (by decide +kernel) (by decide +kernel)) (goodIn_sub (fun _ h => List.mem_cons_of_mem _ (List.mem_append_left _ (List.mem_append_right _ h))) (by decide +kernel))
set_option maxRecDepth 20000 in
theorem gX1_set_X1_requireRange : GoodIn wsX1_set (va_wsS RX1 71 yX1_requireRange wsX1_requireRange) := goodIn_app (goodIn_of _ (by decide +kernel)) ggX1_set_X1_requireRange
set_option maxRecDepth 20000 in
theorem ggX1_set_X1_requireUnused : GoodIn wsX1_set wsX1_requireUnused := goodIn_ca (goodIn_r _ [16, 17, 18, 19, 20, 27, 28, 29, 30, 31, 32, 33, 34, 35, 36, 37, 38, 39, 40, 41, 42, 43] (by decide +kernel) (by decide +kernel)) (goodIn_sub (fun _ h => List.mem_cons_of_mem _ (List.mem_append_right _ h)) (by decide +kernel))
set_option maxRecDepth 20000 in
theorem gX1_set_X1_requireUnused : GoodIn wsX1_set (wsV RX1 75 RX1 yX1_requireUnused wsX1_requireUnused) := goodIn_app (goodIn_of _ (by decide +kernel)) ggX1_set_X1_requireUnused
set_option maxRecDepth 20000 in
theorem ggX1_set_X0_keepFor : GoodIn wsX1_set wsX0_keepFor := goodIn_r _ [25, 26, 44, 45, 46] (by decide +kernel) (by decide +kernel)
set_option maxRecDepth 20000 in
theorem gX1_set_X0_keepFor : GoodIn wsX1_set (wsV RX1 78 RX0 yX0_keepFor wsX0_keepFor) := goodIn_app (goodIn_of _ (by decide +kernel)) ggX1_set_X0_keepFor
theorem dX1_set_0 : decode cX1_set 0 = .ok (.iload_n 1, 1) := by decide +kernel
theorem dX1_set_1 : decode cX1_set 1 = .ok (.iconst 1, 1) := by decide +kernel
theorem dX1_set_2 : decode cX1_set 2 = .ok (.ldc 70, 2) := by decide +kernel
theorem dX1_set_4 : decode cX1_set 4 = .ok (.invokestatic 71, 3) := by decide +kernel
theorem dX1_set_7 : decode cX1_set 7 = .ok (.iload_n 2, 1) := by decide +kernel
theorem dX1_set_8 : decode cX1_set 8 = .ok (.iconst 0, 1) := by decide +kernel
theorem dX1_set_9 : decode cX1_set 9 = .ok (.bipush 100, 2) := by decide +kernel
theorem dX1_set_11 : decode cX1_set 11 = .ok (.invokestatic 71, 3) := by decide +kernel
theorem dX1_set_14 : decode cX1_set 14 = .ok (.iload_n 3, 1) := by decide +kernel
theorem dX1_set_15 : decode cX1_set 15 = .ok (.iconst 0, 1) := by decide +kernel
theorem dX1_set_16 : decode cX1_set 16 = .ok (.bipush 100, 2) := by decide +kernel
theorem dX1_set_18 : decode cX1_set 18 = .ok (.invokestatic 71, 3) := by decide +kernel
theorem dX1_set_21 : decode cX1_set 21 = .ok (.iload 4, 2) := by decide +kernel
theorem dX1_set_23 : decode cX1_set 23 = .ok (.iconst 1, 1) := by decide +kernel
theorem dX1_set_24 : decode cX1_set 24 = .ok (.iconst 5, 1) := by decide +kernel
theorem dX1_set_25 : decode cX1_set 25 = .ok (.invokestatic 71, 3) := by decide +kernel
theorem dX1_set_28 : decode cX1_set 28 = .ok (.iload 5, 2) := by decide +kernel
theorem dX1_set_30 : decode cX1_set 30 = .ok (.iconst 1, 1) := by decide +kernel
theorem dX1_set_31 : decode cX1_set 31 = .ok (.iconst 5, 1) := by decide +kernel
theorem dX1_set_32 : decode cX1_set 32 = .ok (.invokestatic 71, 3) := by decide +kernel
theorem dX1_set_35 : decode cX1_set 35 = .ok (.aload_n 0, 1) := by decide +kernel
theorem dX1_set_36 : decode cX1_set 36 = .ok (.invokevirtual 75, 3) := by decide +kernel
theorem dX1_set_39 : decode cX1_set 39 = .ok (.aload_n 0, 1) := by decide +kernel
theorem dX1_set_40 : decode cX1_set 40 = .ok (.iload_n 1, 1) := by decide +kernel
theorem dX1_set_41 : decode cX1_set 41 = .ok (.putfield 10, 3) := by decide +kernel
theorem dX1_set_44 : decode cX1_set 44 = .ok (.aload_n 0, 1) := by decide +kernel
theorem dX1_set_45 : decode cX1_set 45 = .ok (.iload_n 2, 1) := by decide +kernel
theorem dX1_set_46 : decode cX1_set 46 = .ok (.putfield 14, 3) := by decide +kernel
theorem dX1_set_49 : decode cX1_set 49 = .ok (.aload_n 0, 1) := by decide +kernel
theorem dX1_set_50 : decode cX1_set 50 = .ok (.iload_n 3, 1) := by decide +kernel
theorem dX1_set_51 : decode cX1_set 51 = .ok (.putfield 17, 3) := by decide +kernel
theorem dX1_set_54 : decode cX1_set 54 = .ok (.aload_n 0, 1) := by decide +kernel
theorem dX1_set_55 : decode cX1_set 55 = .ok (.getfield 44, 3) := by decide +kernel
theorem dX1_set_58 : decode cX1_set 58 = .ok (.iload 4, 2) := by decide +kernel
theorem dX1_set_60 : decode cX1_set 60 = .ok (.invokevirtual 78, 3) := by decide +kernel
theorem dX1_set_63 : decode cX1_set 63 = .ok (.aload_n 0, 1) := by decide +kernel
theorem dX1_set_64 : decode cX1_set 64 = .ok (.getfield 48, 3) := by decide +kernel
theorem dX1_set_67 : decode cX1_set 67 = .ok (.iload 5, 2) := by decide +kernel
theorem dX1_set_69 : decode cX1_set 69 = .ok (.invokevirtual 78, 3) := by decide +kernel
theorem dX1_set_72 : decode cX1_set 72 = .ok (.return_, 1) := by decide +kernel
set_option maxRecDepth 20000 in
theorem ggX1_review_X1_requireYear : GoodIn wsX1_review wsX1_requireYear := goodIn_ca (goodIn_r _ [5, 6, 7, 4, 8, 9, 10] (by decide +kernel) (by decide +kernel)) (goodIn_sub (fun _ h => List.mem_cons_of_mem _ (List.mem_append_right _ h)) (by decide +kernel))
set_option maxRecDepth 20000 in
theorem gX1_review_X1_requireYear : GoodIn wsX1_review (va_wsS RX1 81 yX1_requireYear wsX1_requireYear) := goodIn_app (goodIn_of _ (by decide +kernel)) ggX1_review_X1_requireYear
set_option maxRecDepth 20000 in
theorem ggX1_review_X1_requireRange : GoodIn wsX1_review wsX1_requireRange := goodIn_ca (goodIn_r _ [8, 9, 10] (by decide +kernel) (by decide +kernel)) (goodIn_sub (fun _ h => List.mem_cons_of_mem _ (List.mem_append_right _ h)) (by decide +kernel))
set_option maxRecDepth 20000 in
theorem gX1_review_X1_requireRange : GoodIn wsX1_review (va_wsS RX1 71 yX1_requireRange wsX1_requireRange) := goodIn_app (goodIn_of _ (by decide +kernel)) ggX1_review_X1_requireRange
set_option maxRecDepth 20000 in
theorem ggX1_review_X1_settleClosedYears : GoodIn wsX1_review wsX1_settleClosedYears := goodIn_r _ [14, 15, 16, 17, 18, 19, 20, 21, 22, 23, 24, 25, 26, 27, 28, 29, 30, 31, 32, 33, 34, 35, 36, 37, 4, 38, 39, 40, 41, 42, 43, 44, 45, 46, 47, 48, 49, 50, 51, 1, 52, 53, 54, 55, 56, 57, 58, 59, 60, 61, 62, 63, 64, 65, 66, 67, 68, 69, 70, 71, 72, 73, 74, 75, 76, 77, 78, 79, 80, 81, 82, 83, 84, 85, 86, 87, 88, 89, 90, 91, 92, 93, 94, 95, 96, 97, 98, 99] (by decide +kernel) (by decide +kernel)
set_option maxRecDepth 20000 in
theorem gX1_review_X1_settleClosedYears : GoodIn wsX1_review (wsV RX1 84 RX1 yX1_settleClosedYears wsX1_settleClosedYears) := goodIn_app (goodIn_of _ (by decide +kernel)) ggX1_review_X1_settleClosedYears
theorem dX1_review_0 : decode cX1_review 0 = .ok (.iload_n 1, 1) := by decide +kernel
theorem dX1_review_1 : decode cX1_review 1 = .ok (.invokestatic 81, 3) := by decide +kernel
theorem dX1_review_4 : decode cX1_review 4 = .ok (.iload_n 2, 1) := by decide +kernel
theorem dX1_review_5 : decode cX1_review 5 = .ok (.iconst 1, 1) := by decide +kernel
theorem dX1_review_6 : decode cX1_review 6 = .ok (.sipush 1000, 3) := by decide +kernel
theorem dX1_review_9 : decode cX1_review 9 = .ok (.invokestatic 71, 3) := by decide +kernel
theorem dX1_review_12 : decode cX1_review 12 = .ok (.aload_n 0, 1) := by decide +kernel
theorem dX1_review_13 : decode cX1_review 13 = .ok (.getfield 20, 3) := by decide +kernel
theorem dX1_review_16 : decode cX1_review 16 = .ok (.iload_n 1, 1) := by decide +kernel
theorem dX1_review_17 : decode cX1_review 17 = .ok (.iaload, 1) := by decide +kernel
theorem dX1_review_18 : decode cX1_review 18 = .ok (.istore_n 3, 1) := by decide +kernel
theorem dX1_review_19 : decode cX1_review 19 = .ok (.iload_n 1, 1) := by decide +kernel
theorem dX1_review_20 : decode cX1_review 20 = .ok (.istore 4, 2) := by decide +kernel
theorem dX1_review_22 : decode cX1_review 22 = .ok (.iload 4, 2) := by decide +kernel
theorem dX1_review_24 : decode cX1_review 24 = .ok (.bipush 20, 2) := by decide +kernel
theorem dX1_review_26 : decode cX1_review 26 = .ok (.if_icmp .ge 17, 3) := by decide +kernel
theorem dX1_review_29 : decode cX1_review 29 = .ok (.aload_n 0, 1) := by decide +kernel
theorem dX1_review_30 : decode cX1_review 30 = .ok (.getfield 20, 3) := by decide +kernel
theorem dX1_review_33 : decode cX1_review 33 = .ok (.iload 4, 2) := by decide +kernel
theorem dX1_review_35 : decode cX1_review 35 = .ok (.iload_n 2, 1) := by decide +kernel
theorem dX1_review_36 : decode cX1_review 36 = .ok (.iastore, 1) := by decide +kernel
theorem dX1_review_37 : decode cX1_review 37 = .ok (.iinc 4 1, 3) := by decide +kernel
theorem dX1_review_40 : decode cX1_review 40 = .ok (.goto (-18), 3) := by decide +kernel
theorem dX1_review_43 : decode cX1_review 43 = .ok (.aload_n 0, 1) := by decide +kernel
theorem dX1_review_44 : decode cX1_review 44 = .ok (.invokevirtual 84, 3) := by decide +kernel
theorem dX1_review_47 : decode cX1_review 47 = .ok (.iload_n 3, 1) := by decide +kernel
theorem dX1_review_48 : decode cX1_review 48 = .ok (.ireturn, 1) := by decide +kernel
set_option maxRecDepth 20000 in
theorem ggX1_excuse_X1_requireYear : GoodIn wsX1_excuse wsX1_requireYear := goodIn_ca (goodIn_r _ [5, 6, 7, 4, 8, 9, 10] (by decide +kernel) (by decide +kernel)) (goodIn_sub (fun _ h => List.mem_cons_of_mem _ (List.mem_append_right _ h)) (by decide +kernel))
set_option maxRecDepth 20000 in
theorem gX1_excuse_X1_requireYear : GoodIn wsX1_excuse (va_wsS RX1 81 yX1_requireYear wsX1_requireYear) := goodIn_app (goodIn_of _ (by decide +kernel)) ggX1_excuse_X1_requireYear
set_option maxRecDepth 20000 in
theorem ggX1_excuse_X1_requireRange : GoodIn wsX1_excuse wsX1_requireRange := goodIn_ca (goodIn_r _ [8, 9, 10] (by decide +kernel) (by decide +kernel)) (goodIn_sub (fun _ h => List.mem_cons_of_mem _ (List.mem_append_right _ h)) (by decide +kernel))
set_option maxRecDepth 20000 in
theorem gX1_excuse_X1_requireRange : GoodIn wsX1_excuse (va_wsS RX1 71 yX1_requireRange wsX1_requireRange) := goodIn_app (goodIn_of _ (by decide +kernel)) ggX1_excuse_X1_requireRange
set_option maxRecDepth 20000 in
theorem ggX1_excuse_X1_settleClosedYears : GoodIn wsX1_excuse wsX1_settleClosedYears := goodIn_r _ [14, 15, 16, 17, 18, 19, 20, 21, 22, 23, 24, 25, 26, 27, 28, 29, 30, 31, 32, 33, 34, 35, 36, 37, 4, 38, 39, 40, 1, 41, 42, 43, 44, 45, 46, 47, 48, 49, 50, 51, 52, 53, 54, 55, 56, 57, 58, 59, 60, 61, 62, 63, 64, 65, 66, 67, 68, 69, 70, 71, 72, 73, 74, 75, 76, 77, 78, 79, 80, 81, 82, 83, 84, 85, 86, 87, 88, 89, 90, 91, 92, 93, 94, 95, 96, 97, 98, 99] (by decide +kernel) (by decide +kernel)
set_option maxRecDepth 20000 in
theorem gX1_excuse_X1_settleClosedYears : GoodIn wsX1_excuse (wsV RX1 84 RX1 yX1_settleClosedYears wsX1_settleClosedYears) := goodIn_app (goodIn_of _ (by decide +kernel)) ggX1_excuse_X1_settleClosedYears
theorem dX1_excuse_0 : decode cX1_excuse 0 = .ok (.iload_n 1, 1) := by decide +kernel
theorem dX1_excuse_1 : decode cX1_excuse 1 = .ok (.invokestatic 81, 3) := by decide +kernel
theorem dX1_excuse_4 : decode cX1_excuse 4 = .ok (.iload_n 2, 1) := by decide +kernel
theorem dX1_excuse_5 : decode cX1_excuse 5 = .ok (.iconst 0, 1) := by decide +kernel
theorem dX1_excuse_6 : decode cX1_excuse 6 = .ok (.sipush 360, 3) := by decide +kernel
theorem dX1_excuse_9 : decode cX1_excuse 9 = .ok (.invokestatic 71, 3) := by decide +kernel
theorem dX1_excuse_12 : decode cX1_excuse 12 = .ok (.aload_n 0, 1) := by decide +kernel
theorem dX1_excuse_13 : decode cX1_excuse 13 = .ok (.getfield 30, 3) := by decide +kernel
theorem dX1_excuse_16 : decode cX1_excuse 16 = .ok (.iload_n 1, 1) := by decide +kernel
theorem dX1_excuse_17 : decode cX1_excuse 17 = .ok (.iaload, 1) := by decide +kernel
theorem dX1_excuse_18 : decode cX1_excuse 18 = .ok (.istore_n 3, 1) := by decide +kernel
theorem dX1_excuse_19 : decode cX1_excuse 19 = .ok (.aload_n 0, 1) := by decide +kernel
theorem dX1_excuse_20 : decode cX1_excuse 20 = .ok (.getfield 30, 3) := by decide +kernel
theorem dX1_excuse_23 : decode cX1_excuse 23 = .ok (.iload_n 1, 1) := by decide +kernel
theorem dX1_excuse_24 : decode cX1_excuse 24 = .ok (.iload_n 2, 1) := by decide +kernel
theorem dX1_excuse_25 : decode cX1_excuse 25 = .ok (.iastore, 1) := by decide +kernel
theorem dX1_excuse_26 : decode cX1_excuse 26 = .ok (.aload_n 0, 1) := by decide +kernel
theorem dX1_excuse_27 : decode cX1_excuse 27 = .ok (.invokevirtual 84, 3) := by decide +kernel
theorem dX1_excuse_30 : decode cX1_excuse 30 = .ok (.iload_n 3, 1) := by decide +kernel
theorem dX1_excuse_31 : decode cX1_excuse 31 = .ok (.ireturn, 1) := by decide +kernel
set_option maxRecDepth 20000 in
theorem ggX1_take_X1_requireDay : GoodIn wsX1_take wsX1_requireDay := goodIn_ca (goodIn_r _ [5, 6, 7, 4, 8, 9, 10] (by decide +kernel) (by decide +kernel)) (goodIn_sub (fun _ h => List.mem_cons_of_mem _ (List.mem_append_left _ (List.mem_append_right _ h))) (by decide +kernel))
set_option maxRecDepth 20000 in
theorem gX1_take_X1_requireDay : GoodIn wsX1_take (va_wsS RX1 87 yX1_requireDay wsX1_requireDay) := goodIn_app (goodIn_of _ (by decide +kernel)) ggX1_take_X1_requireDay
set_option maxRecDepth 20000 in
theorem ggX1_take_X1_requireRange : GoodIn wsX1_take wsX1_requireRange := goodIn_ca (goodIn_r _ [8, 9, 10] (by decide +kernel) (by decide +kernel)) (goodIn_sub (fun _ h => List.mem_cons_of_mem _ (List.mem_append_left _ (List.mem_append_right _ h))) (by decide +kernel))
set_option maxRecDepth 20000 in
theorem gX1_take_X1_requireRange : GoodIn wsX1_take (va_wsS RX1 71 yX1_requireRange wsX1_requireRange) := goodIn_app (goodIn_of _ (by decide +kernel)) ggX1_take_X1_requireRange
set_option maxRecDepth 20000 in
theorem ggX1_take_X1_requireYearGoingOn : GoodIn wsX1_take wsX1_requireYearGoingOn := goodIn_ca (goodIn_r _ [14, 15, 16, 17, 27, 28, 29, 30, 31, 32, 33, 34, 35, 36, 37, 38, 39, 40, 41, 42, 43] (by decide +kernel) (by decide +kernel)) (goodIn_sub (fun _ h => List.mem_cons_of_mem _ (List.mem_append_right _ h)) (by decide +kernel))
set_option maxRecDepth 20000 in
theorem gX1_take_X1_requireYearGoingOn : GoodIn wsX1_take (wsV RX1 90 RX1 yX1_requireYearGoingOn wsX1_requireYearGoingOn) := goodIn_app (goodIn_of _ (by decide +kernel)) ggX1_take_X1_requireYearGoingOn
set_option maxRecDepth 20000 in
theorem ggX1_take_X1_requireRoom : GoodIn wsX1_take wsX1_requireRoom := goodIn_ca (goodIn_r _ [21, 15, 16, 1, 27, 28, 29, 30, 31, 32, 33, 34, 35, 36, 37, 38, 39, 40, 41, 42, 43] (by decide +kernel) (by decide +kernel)) (goodIn_sub (fun _ h => List.mem_cons_of_mem _ (List.mem_append_right _ h)) (by decide +kernel))
set_option maxRecDepth 20000 in
theorem gX1_take_X1_requireRoom : GoodIn wsX1_take (wsV RX1 93 RX1 yX1_requireRoom wsX1_requireRoom) := goodIn_app (goodIn_of _ (by decide +kernel)) ggX1_take_X1_requireRoom
set_option maxRecDepth 20000 in
theorem ggX1_take_X1_addTakes : GoodIn wsX1_take wsX1_addTakes := goodIn_r _ [25, 1, 26, 17, 27, 28, 29, 30, 31, 32, 33, 34, 35, 36, 37, 38, 39, 40, 41, 42, 43] (by decide +kernel) (by decide +kernel)
set_option maxRecDepth 20000 in
theorem gX1_take_X1_addTakes : GoodIn wsX1_take (wsV RX1 96 RX1 yX1_addTakes wsX1_addTakes) := goodIn_app (goodIn_of _ (by decide +kernel)) ggX1_take_X1_addTakes
theorem dX1_take_0 : decode cX1_take 0 = .ok (.iload_n 1, 1) := by decide +kernel
theorem dX1_take_1 : decode cX1_take 1 = .ok (.invokestatic 87, 3) := by decide +kernel
theorem dX1_take_4 : decode cX1_take 4 = .ok (.iload_n 2, 1) := by decide +kernel
theorem dX1_take_5 : decode cX1_take 5 = .ok (.iconst 1, 1) := by decide +kernel
theorem dX1_take_6 : decode cX1_take 6 = .ok (.sipush 500, 3) := by decide +kernel
theorem dX1_take_9 : decode cX1_take 9 = .ok (.invokestatic 71, 3) := by decide +kernel
theorem dX1_take_12 : decode cX1_take 12 = .ok (.aload_n 0, 1) := by decide +kernel
theorem dX1_take_13 : decode cX1_take 13 = .ok (.invokevirtual 90, 3) := by decide +kernel
theorem dX1_take_16 : decode cX1_take 16 = .ok (.aload_n 0, 1) := by decide +kernel
theorem dX1_take_17 : decode cX1_take 17 = .ok (.iload_n 1, 1) := by decide +kernel
theorem dX1_take_18 : decode cX1_take 18 = .ok (.iload_n 1, 1) := by decide +kernel
theorem dX1_take_19 : decode cX1_take 19 = .ok (.iload_n 2, 1) := by decide +kernel
theorem dX1_take_20 : decode cX1_take 20 = .ok (.invokevirtual 93, 3) := by decide +kernel
theorem dX1_take_23 : decode cX1_take 23 = .ok (.aload_n 0, 1) := by decide +kernel
theorem dX1_take_24 : decode cX1_take 24 = .ok (.iload_n 1, 1) := by decide +kernel
theorem dX1_take_25 : decode cX1_take 25 = .ok (.iload_n 1, 1) := by decide +kernel
theorem dX1_take_26 : decode cX1_take 26 = .ok (.iload_n 2, 1) := by decide +kernel
theorem dX1_take_27 : decode cX1_take 27 = .ok (.invokevirtual 96, 3) := by decide +kernel
theorem dX1_take_30 : decode cX1_take 30 = .ok (.aload_n 0, 1) := by decide +kernel
theorem dX1_take_31 : decode cX1_take 31 = .ok (.getfield 33, 3) := by decide +kernel
theorem dX1_take_34 : decode cX1_take 34 = .ok (.iload_n 1, 1) := by decide +kernel
theorem dX1_take_35 : decode cX1_take 35 = .ok (.iaload, 1) := by decide +kernel
theorem dX1_take_36 : decode cX1_take 36 = .ok (.ireturn, 1) := by decide +kernel
set_option maxRecDepth 20000 in
theorem ggX1_takeDaily_X1_requireDays : GoodIn wsX1_takeDaily wsX1_requireDays := goodIn_ca (goodIn_r _ [6, 7, 8, 5, 9, 10, 11, 12, 13, 14] (by decide +kernel) (by decide +kernel)) (goodIn_sub (fun _ h => List.mem_cons_of_mem _ (List.mem_append_left _ (List.mem_append_right _ h))) (by decide +kernel))
set_option maxRecDepth 20000 in
theorem gX1_takeDaily_X1_requireDays : GoodIn wsX1_takeDaily (va_wsS RX1 99 yX1_requireDays wsX1_requireDays) := goodIn_app (goodIn_of _ (by decide +kernel)) ggX1_takeDaily_X1_requireDays
set_option maxRecDepth 20000 in
theorem ggX1_takeDaily_X1_requireRange : GoodIn wsX1_takeDaily wsX1_requireRange := goodIn_ca (goodIn_r _ [12, 13, 14] (by decide +kernel) (by decide +kernel)) (goodIn_sub (fun _ h => List.mem_cons_of_mem _ (List.mem_append_left _ (List.mem_append_right _ h))) (by decide +kernel))
set_option maxRecDepth 20000 in
theorem gX1_takeDaily_X1_requireRange : GoodIn wsX1_takeDaily (va_wsS RX1 71 yX1_requireRange wsX1_requireRange) := goodIn_app (goodIn_of _ (by decide +kernel)) ggX1_takeDaily_X1_requireRange
set_option maxRecDepth 20000 in
theorem ggX1_takeDaily_X1_requireYearGoingOn : GoodIn wsX1_takeDaily wsX1_requireYearGoingOn := goodIn_ca (goodIn_r _ [18, 19, 20, 2, 30, 31, 32, 33, 34, 35, 36, 37, 38, 39, 40, 41, 42, 43, 44, 45, 46] (by decide +kernel) (by decide +kernel)) (goodIn_sub (fun _ h => List.mem_cons_of_mem _ (List.mem_append_right _ h)) (by decide +kernel))
set_option maxRecDepth 20000 in
theorem gX1_takeDaily_X1_requireYearGoingOn : GoodIn wsX1_takeDaily (wsV RX1 90 RX1 yX1_requireYearGoingOn wsX1_requireYearGoingOn) := goodIn_app (goodIn_of _ (by decide +kernel)) ggX1_takeDaily_X1_requireYearGoingOn
set_option maxRecDepth 20000 in
theorem ggX1_takeDaily_X1_requireRoom : GoodIn wsX1_takeDaily wsX1_requireRoom := goodIn_ca (goodIn_r _ [24, 19, 20, 25, 30, 31, 32, 33, 34, 35, 36, 37, 38, 39, 40, 41, 42, 43, 44, 45, 46] (by decide +kernel) (by decide +kernel)) (goodIn_sub (fun _ h => List.mem_cons_of_mem _ (List.mem_append_right _ h)) (by decide +kernel))
set_option maxRecDepth 20000 in
theorem gX1_takeDaily_X1_requireRoom : GoodIn wsX1_takeDaily (wsV RX1 93 RX1 yX1_requireRoom wsX1_requireRoom) := goodIn_app (goodIn_of _ (by decide +kernel)) ggX1_takeDaily_X1_requireRoom
set_option maxRecDepth 20000 in
theorem ggX1_takeDaily_X1_addTakes : GoodIn wsX1_takeDaily wsX1_addTakes := goodIn_r _ [29, 25, 1, 2, 30, 31, 32, 33, 34, 35, 36, 37, 38, 39, 40, 41, 42, 43, 44, 45, 46] (by decide +kernel) (by decide +kernel)
set_option maxRecDepth 20000 in
theorem gX1_takeDaily_X1_addTakes : GoodIn wsX1_takeDaily (wsV RX1 96 RX1 yX1_addTakes wsX1_addTakes) := goodIn_app (goodIn_of _ (by decide +kernel)) ggX1_takeDaily_X1_addTakes
theorem dX1_takeDaily_0 : decode cX1_takeDaily 0 = .ok (.iload_n 1, 1) := by decide +kernel
theorem dX1_takeDaily_1 : decode cX1_takeDaily 1 = .ok (.iload_n 2, 1) := by decide +kernel
theorem dX1_takeDaily_2 : decode cX1_takeDaily 2 = .ok (.invokestatic 99, 3) := by decide +kernel
theorem dX1_takeDaily_5 : decode cX1_takeDaily 5 = .ok (.iload_n 3, 1) := by decide +kernel
theorem dX1_takeDaily_6 : decode cX1_takeDaily 6 = .ok (.iconst 1, 1) := by decide +kernel
theorem dX1_takeDaily_7 : decode cX1_takeDaily 7 = .ok (.sipush 500, 3) := by decide +kernel
theorem dX1_takeDaily_10 : decode cX1_takeDaily 10 = .ok (.invokestatic 71, 3) := by decide +kernel
theorem dX1_takeDaily_13 : decode cX1_takeDaily 13 = .ok (.aload_n 0, 1) := by decide +kernel
theorem dX1_takeDaily_14 : decode cX1_takeDaily 14 = .ok (.invokevirtual 90, 3) := by decide +kernel
theorem dX1_takeDaily_17 : decode cX1_takeDaily 17 = .ok (.aload_n 0, 1) := by decide +kernel
theorem dX1_takeDaily_18 : decode cX1_takeDaily 18 = .ok (.iload_n 1, 1) := by decide +kernel
theorem dX1_takeDaily_19 : decode cX1_takeDaily 19 = .ok (.iload_n 2, 1) := by decide +kernel
theorem dX1_takeDaily_20 : decode cX1_takeDaily 20 = .ok (.iload_n 3, 1) := by decide +kernel
theorem dX1_takeDaily_21 : decode cX1_takeDaily 21 = .ok (.invokevirtual 93, 3) := by decide +kernel
theorem dX1_takeDaily_24 : decode cX1_takeDaily 24 = .ok (.aload_n 0, 1) := by decide +kernel
theorem dX1_takeDaily_25 : decode cX1_takeDaily 25 = .ok (.iload_n 1, 1) := by decide +kernel
theorem dX1_takeDaily_26 : decode cX1_takeDaily 26 = .ok (.iload_n 2, 1) := by decide +kernel
theorem dX1_takeDaily_27 : decode cX1_takeDaily 27 = .ok (.iload_n 3, 1) := by decide +kernel
theorem dX1_takeDaily_28 : decode cX1_takeDaily 28 = .ok (.invokevirtual 96, 3) := by decide +kernel
theorem dX1_takeDaily_31 : decode cX1_takeDaily 31 = .ok (.aload_n 0, 1) := by decide +kernel
theorem dX1_takeDaily_32 : decode cX1_takeDaily 32 = .ok (.getfield 36, 3) := by decide +kernel
theorem dX1_takeDaily_35 : decode cX1_takeDaily 35 = .ok (.aload_n 0, 1) := by decide +kernel
theorem dX1_takeDaily_36 : decode cX1_takeDaily 36 = .ok (.getfield 103, 3) := by decide +kernel
theorem dX1_takeDaily_39 : decode cX1_takeDaily 39 = .ok (.iaload, 1) := by decide +kernel
theorem dX1_takeDaily_40 : decode cX1_takeDaily 40 = .ok (.ireturn, 1) := by decide +kernel
set_option maxRecDepth 20000 in
theorem ggX1_close_X1_requireYearGoingOn : GoodIn wsX1_close wsX1_requireYearGoingOn := goodIn_ca (goodIn_r _ [9, 10, 11, 1, 86, 87, 88, 89, 90, 91, 92, 93, 94, 95, 96, 97, 98, 99, 100, 101, 102] (by decide +kernel) (by decide +kernel)) (goodIn_sub (fun _ h => List.mem_cons_of_mem _ (List.mem_append_right _ h)) (by decide +kernel))
set_option maxRecDepth 20000 in
theorem gX1_close_X1_requireYearGoingOn : GoodIn wsX1_close (wsV RX1 90 RX1 yX1_requireYearGoingOn wsX1_requireYearGoingOn) := goodIn_app (goodIn_of _ (by decide +kernel)) ggX1_close_X1_requireYearGoingOn
set_option maxRecDepth 20000 in
theorem ggX1_close_J7_fill_53178 : GoodIn wsX1_close wsJ7_fill_53178 := goodIn_r _ [15] (by decide +kernel) (by decide +kernel)
set_option maxRecDepth 20000 in
theorem gX1_close_J7_fill_53178 : GoodIn wsX1_close (va_wsS RX1 24 yJ7_fill_53178 wsJ7_fill_53178) := goodIn_app (goodIn_of _ (by decide +kernel)) ggX1_close_J7_fill_53178
set_option maxRecDepth 20000 in
theorem ggX1_close_X1_settleClosedYears : GoodIn wsX1_close wsX1_settleClosedYears := goodIn_r _ [19, 20, 21, 1, 22, 23, 24, 25, 26, 27, 28, 29, 30, 13, 14, 15, 31, 32, 33, 34, 35, 36, 37, 38, 8, 39, 40, 41, 42, 43, 44, 45, 46, 47, 48, 49, 50, 51, 52, 53, 54, 55, 56, 57, 58, 59, 60, 61, 62, 63, 64, 65, 66, 67, 68, 69, 70, 71, 72, 73, 74, 75, 76, 77, 78, 79, 80, 81, 86, 87, 88, 89, 90, 91, 92, 93, 94, 95, 96, 97, 98, 99, 100, 101, 102, 103, 104, 105] (by decide +kernel) (by decide +kernel)
set_option maxRecDepth 20000 in
theorem gX1_close_X1_settleClosedYears : GoodIn wsX1_close (wsV RX1 84 RX1 yX1_settleClosedYears wsX1_settleClosedYears) := goodIn_app (goodIn_of _ (by decide +kernel)) ggX1_close_X1_settleClosedYears
set_option maxRecDepth 20000 in
theorem ggX1_close_X1_dueInAll : GoodIn wsX1_close wsX1_dueInAll := goodIn_r _ [85, 1, 52, 86, 87, 88, 89, 90, 91, 92, 93, 94, 95, 96, 97, 98, 99, 100, 101, 102] (by decide +kernel) (by decide +kernel)
set_option maxRecDepth 20000 in
theorem gX1_close_X1_dueInAll : GoodIn wsX1_close (wsV RX1 106 RX1 yX1_dueInAll wsX1_dueInAll) := goodIn_app (goodIn_of _ (by decide +kernel)) ggX1_close_X1_dueInAll
theorem dX1_close_0 : decode cX1_close 0 = .ok (.aload_n 0, 1) := by decide +kernel
theorem dX1_close_1 : decode cX1_close 1 = .ok (.invokevirtual 90, 3) := by decide +kernel
theorem dX1_close_4 : decode cX1_close 4 = .ok (.aload_n 0, 1) := by decide +kernel
theorem dX1_close_5 : decode cX1_close 5 = .ok (.getfield 103, 3) := by decide +kernel
theorem dX1_close_8 : decode cX1_close 8 = .ok (.istore_n 1, 1) := by decide +kernel
theorem dX1_close_9 : decode cX1_close 9 = .ok (.aload_n 0, 1) := by decide +kernel
theorem dX1_close_10 : decode cX1_close 10 = .ok (.iload_n 1, 1) := by decide +kernel
theorem dX1_close_11 : decode cX1_close 11 = .ok (.iconst 1, 1) := by decide +kernel
theorem dX1_close_12 : decode cX1_close 12 = .ok (.iadd, 1) := by decide +kernel
theorem dX1_close_13 : decode cX1_close 13 = .ok (.putfield 103, 3) := by decide +kernel
theorem dX1_close_16 : decode cX1_close 16 = .ok (.aload_n 0, 1) := by decide +kernel
theorem dX1_close_17 : decode cX1_close 17 = .ok (.getfield 33, 3) := by decide +kernel
theorem dX1_close_20 : decode cX1_close 20 = .ok (.iconst 0, 1) := by decide +kernel
theorem dX1_close_21 : decode cX1_close 21 = .ok (.invokestatic 24, 3) := by decide +kernel
theorem dX1_close_24 : decode cX1_close 24 = .ok (.aload_n 0, 1) := by decide +kernel
theorem dX1_close_25 : decode cX1_close 25 = .ok (.invokevirtual 84, 3) := by decide +kernel
theorem dX1_close_28 : decode cX1_close 28 = .ok (.aload_n 0, 1) := by decide +kernel
theorem dX1_close_29 : decode cX1_close 29 = .ok (.invokevirtual 106, 3) := by decide +kernel
theorem dX1_close_32 : decode cX1_close 32 = .ok (.aload_n 0, 1) := by decide +kernel
theorem dX1_close_33 : decode cX1_close 33 = .ok (.getfield 110, 3) := by decide +kernel
theorem dX1_close_36 : decode cX1_close 36 = .ok (.lsub, 1) := by decide +kernel
theorem dX1_close_37 : decode cX1_close 37 = .ok (.lstore_n 2, 1) := by decide +kernel
theorem dX1_close_38 : decode cX1_close 38 = .ok (.aload_n 0, 1) := by decide +kernel
theorem dX1_close_39 : decode cX1_close 39 = .ok (.getfield 67, 3) := by decide +kernel
theorem dX1_close_42 : decode cX1_close 42 = .ok (.iload_n 1, 1) := by decide +kernel
theorem dX1_close_43 : decode cX1_close 43 = .ok (.lload_n 2, 1) := by decide +kernel
theorem dX1_close_44 : decode cX1_close 44 = .ok (.lastore, 1) := by decide +kernel
theorem dX1_close_45 : decode cX1_close 45 = .ok (.aload_n 0, 1) := by decide +kernel
theorem dX1_close_46 : decode cX1_close 46 = .ok (.dup, 1) := by decide +kernel
theorem dX1_close_47 : decode cX1_close 47 = .ok (.getfield 110, 3) := by decide +kernel
theorem dX1_close_50 : decode cX1_close 50 = .ok (.lload_n 2, 1) := by decide +kernel
theorem dX1_close_51 : decode cX1_close 51 = .ok (.ladd, 1) := by decide +kernel
theorem dX1_close_52 : decode cX1_close 52 = .ok (.putfield 110, 3) := by decide +kernel
theorem dX1_close_55 : decode cX1_close 55 = .ok (.lload_n 2, 1) := by decide +kernel
theorem dX1_close_56 : decode cX1_close 56 = .ok (.lreturn, 1) := by decide +kernel
theorem dX1_closed_0 : decode cX1_closed 0 = .ok (.aload_n 0, 1) := by decide +kernel
theorem dX1_closed_1 : decode cX1_closed 1 = .ok (.getfield 103, 3) := by decide +kernel
theorem dX1_closed_4 : decode cX1_closed 4 = .ok (.ireturn, 1) := by decide +kernel
set_option maxRecDepth 20000 in
theorem ggX1_taken_X1_requireYear : GoodIn wsX1_taken wsX1_requireYear := goodIn_ca (goodIn_r _ [5, 6, 7, 4, 8, 9, 10] (by decide +kernel) (by decide +kernel)) (goodIn_sub (fun _ h => List.mem_cons_of_mem _ (List.mem_append_right _ h)) (by decide +kernel))
set_option maxRecDepth 20000 in
theorem gX1_taken_X1_requireYear : GoodIn wsX1_taken (va_wsS RX1 81 yX1_requireYear wsX1_requireYear) := goodIn_app (goodIn_of _ (by decide +kernel)) ggX1_taken_X1_requireYear
theorem dX1_taken_0 : decode cX1_taken 0 = .ok (.iload_n 1, 1) := by decide +kernel
theorem dX1_taken_1 : decode cX1_taken 1 = .ok (.invokestatic 81, 3) := by decide +kernel
theorem dX1_taken_4 : decode cX1_taken 4 = .ok (.aload_n 0, 1) := by decide +kernel
theorem dX1_taken_5 : decode cX1_taken 5 = .ok (.getfield 36, 3) := by decide +kernel
theorem dX1_taken_8 : decode cX1_taken 8 = .ok (.iload_n 1, 1) := by decide +kernel
theorem dX1_taken_9 : decode cX1_taken 9 = .ok (.iaload, 1) := by decide +kernel
theorem dX1_taken_10 : decode cX1_taken 10 = .ok (.ireturn, 1) := by decide +kernel
set_option maxRecDepth 20000 in
theorem ggX1_takenFrom_X1_requireDays : GoodIn wsX1_takenFrom wsX1_requireDays := goodIn_ca (goodIn_r _ [5, 6, 7, 4, 8, 9, 10, 11, 12, 13] (by decide +kernel) (by decide +kernel)) (goodIn_sub (fun _ h => List.mem_cons_of_mem _ (List.mem_append_right _ h)) (by decide +kernel))
set_option maxRecDepth 20000 in
theorem gX1_takenFrom_X1_requireDays : GoodIn wsX1_takenFrom (va_wsS RX1 99 yX1_requireDays wsX1_requireDays) := goodIn_app (goodIn_of _ (by decide +kernel)) ggX1_takenFrom_X1_requireDays
theorem dX1_takenFrom_0 : decode cX1_takenFrom 0 = .ok (.iload_n 1, 1) := by decide +kernel
theorem dX1_takenFrom_1 : decode cX1_takenFrom 1 = .ok (.iload_n 2, 1) := by decide +kernel
theorem dX1_takenFrom_2 : decode cX1_takenFrom 2 = .ok (.invokestatic 99, 3) := by decide +kernel
theorem dX1_takenFrom_5 : decode cX1_takenFrom 5 = .ok (.iconst 0, 1) := by decide +kernel
theorem dX1_takenFrom_6 : decode cX1_takenFrom 6 = .ok (.istore_n 3, 1) := by decide +kernel
theorem dX1_takenFrom_7 : decode cX1_takenFrom 7 = .ok (.iload_n 1, 1) := by decide +kernel
theorem dX1_takenFrom_8 : decode cX1_takenFrom 8 = .ok (.istore 4, 2) := by decide +kernel
theorem dX1_takenFrom_10 : decode cX1_takenFrom 10 = .ok (.iload 4, 2) := by decide +kernel
theorem dX1_takenFrom_12 : decode cX1_takenFrom 12 = .ok (.iload_n 2, 1) := by decide +kernel
theorem dX1_takenFrom_13 : decode cX1_takenFrom 13 = .ok (.if_icmp .gt 19, 3) := by decide +kernel
theorem dX1_takenFrom_16 : decode cX1_takenFrom 16 = .ok (.iload_n 3, 1) := by decide +kernel
theorem dX1_takenFrom_17 : decode cX1_takenFrom 17 = .ok (.aload_n 0, 1) := by decide +kernel
theorem dX1_takenFrom_18 : decode cX1_takenFrom 18 = .ok (.getfield 33, 3) := by decide +kernel
theorem dX1_takenFrom_21 : decode cX1_takenFrom 21 = .ok (.iload 4, 2) := by decide +kernel
theorem dX1_takenFrom_23 : decode cX1_takenFrom 23 = .ok (.iaload, 1) := by decide +kernel
theorem dX1_takenFrom_24 : decode cX1_takenFrom 24 = .ok (.iadd, 1) := by decide +kernel
theorem dX1_takenFrom_25 : decode cX1_takenFrom 25 = .ok (.istore_n 3, 1) := by decide +kernel
theorem dX1_takenFrom_26 : decode cX1_takenFrom 26 = .ok (.iinc 4 1, 3) := by decide +kernel
theorem dX1_takenFrom_29 : decode cX1_takenFrom 29 = .ok (.goto (-19), 3) := by decide +kernel
theorem dX1_takenFrom_32 : decode cX1_takenFrom 32 = .ok (.iload_n 3, 1) := by decide +kernel
theorem dX1_takenFrom_33 : decode cX1_takenFrom 33 = .ok (.ireturn, 1) := by decide +kernel
set_option maxRecDepth 20000 in
theorem ggX1_price_X1_requireYear : GoodIn wsX1_price wsX1_requireYear := goodIn_ca (goodIn_r _ [5, 6, 7, 4, 8, 9, 10] (by decide +kernel) (by decide +kernel)) (goodIn_sub (fun _ h => List.mem_cons_of_mem _ (List.mem_append_right _ h)) (by decide +kernel))
set_option maxRecDepth 20000 in
theorem gX1_price_X1_requireYear : GoodIn wsX1_price (va_wsS RX1 81 yX1_requireYear wsX1_requireYear) := goodIn_app (goodIn_of _ (by decide +kernel)) ggX1_price_X1_requireYear
theorem dX1_price_0 : decode cX1_price 0 = .ok (.iload_n 1, 1) := by decide +kernel
theorem dX1_price_1 : decode cX1_price 1 = .ok (.invokestatic 81, 3) := by decide +kernel
theorem dX1_price_4 : decode cX1_price 4 = .ok (.aload_n 0, 1) := by decide +kernel
theorem dX1_price_5 : decode cX1_price 5 = .ok (.getfield 20, 3) := by decide +kernel
theorem dX1_price_8 : decode cX1_price 8 = .ok (.iload_n 1, 1) := by decide +kernel
theorem dX1_price_9 : decode cX1_price 9 = .ok (.iaload, 1) := by decide +kernel
theorem dX1_price_10 : decode cX1_price 10 = .ok (.ireturn, 1) := by decide +kernel
set_option maxRecDepth 20000 in
theorem ggX1_least_X1_requireYear : GoodIn wsX1_least wsX1_requireYear := goodIn_ca (goodIn_r _ [4, 5, 6, 3, 7, 8, 9] (by decide +kernel) (by decide +kernel)) (goodIn_sub (fun _ h => List.mem_cons_of_mem _ (List.mem_append_right _ h)) (by decide +kernel))
set_option maxRecDepth 20000 in
theorem gX1_least_X1_requireYear : GoodIn wsX1_least (va_wsS RX1 81 yX1_requireYear wsX1_requireYear) := goodIn_app (goodIn_of _ (by decide +kernel)) ggX1_least_X1_requireYear
set_option maxRecDepth 20000 in
theorem ggX1_least_X1_leastQuantity : GoodIn wsX1_least wsX1_leastQuantity := goodIn_r _ [13, 14, 15, 16, 17, 18, 19, 20, 21, 22, 23, 24, 25, 26, 27, 28, 29, 30, 31, 32, 33, 34] (by decide +kernel) (by decide +kernel)
set_option maxRecDepth 20000 in
theorem gX1_least_X1_leastQuantity : GoodIn wsX1_least (wsV RX1 114 RX1 yX1_leastQuantity wsX1_leastQuantity) := goodIn_app (goodIn_of _ (by decide +kernel)) ggX1_least_X1_leastQuantity
theorem dX1_least_0 : decode cX1_least 0 = .ok (.iload_n 1, 1) := by decide +kernel
theorem dX1_least_1 : decode cX1_least 1 = .ok (.invokestatic 81, 3) := by decide +kernel
theorem dX1_least_4 : decode cX1_least 4 = .ok (.aload_n 0, 1) := by decide +kernel
theorem dX1_least_5 : decode cX1_least 5 = .ok (.iload_n 1, 1) := by decide +kernel
theorem dX1_least_6 : decode cX1_least 6 = .ok (.invokevirtual 114, 3) := by decide +kernel
theorem dX1_least_9 : decode cX1_least 9 = .ok (.ireturn, 1) := by decide +kernel
set_option maxRecDepth 20000 in
theorem ggX1_shortfall_X1_requireClosedYear : GoodIn wsX1_shortfall wsX1_requireClosedYear := goodIn_ca (goodIn_ca (goodIn_r _ [6, 7, 8, 9, 10, 11, 5, 12, 13, 14, 15, 16, 17, 18, 19, 20, 21, 22, 23, 24, 25, 26, 27, 28, 29, 30, 31, 32, 33, 34] (by decide +kernel) (by decide +kernel)) (goodIn_sub (fun _ h => List.mem_cons_of_mem _ (List.mem_append_left _ (List.mem_append_right _ h))) (by decide +kernel))) (goodIn_sub (fun _ h => List.mem_cons_of_mem _ (List.mem_append_right _ h)) (by decide +kernel))
set_option maxRecDepth 20000 in
theorem gX1_shortfall_X1_requireClosedYear : GoodIn wsX1_shortfall (wsV RX1 118 RX1 yX1_requireClosedYear wsX1_requireClosedYear) := goodIn_app (goodIn_of _ (by decide +kernel)) ggX1_shortfall_X1_requireClosedYear
theorem dX1_shortfall_0 : decode cX1_shortfall 0 = .ok (.aload_n 0, 1) := by decide +kernel
theorem dX1_shortfall_1 : decode cX1_shortfall 1 = .ok (.iload_n 1, 1) := by decide +kernel
theorem dX1_shortfall_2 : decode cX1_shortfall 2 = .ok (.invokevirtual 118, 3) := by decide +kernel
theorem dX1_shortfall_5 : decode cX1_shortfall 5 = .ok (.aload_n 0, 1) := by decide +kernel
theorem dX1_shortfall_6 : decode cX1_shortfall 6 = .ok (.getfield 51, 3) := by decide +kernel
theorem dX1_shortfall_9 : decode cX1_shortfall 9 = .ok (.iload_n 1, 1) := by decide +kernel
theorem dX1_shortfall_10 : decode cX1_shortfall 10 = .ok (.iaload, 1) := by decide +kernel
theorem dX1_shortfall_11 : decode cX1_shortfall 11 = .ok (.ireturn, 1) := by decide +kernel
set_option maxRecDepth 20000 in
theorem ggX1_madeUp_X1_requireClosedYear : GoodIn wsX1_madeUp wsX1_requireClosedYear := goodIn_ca (goodIn_ca (goodIn_r _ [6, 7, 8, 9, 10, 11, 5, 12, 13, 14, 15, 16, 17, 18, 19, 20, 21, 22, 23, 24, 25, 26, 27, 28, 29, 30, 31, 32, 33, 34] (by decide +kernel) (by decide +kernel)) (goodIn_sub (fun _ h => List.mem_cons_of_mem _ (List.mem_append_left _ (List.mem_append_right _ h))) (by decide +kernel))) (goodIn_sub (fun _ h => List.mem_cons_of_mem _ (List.mem_append_right _ h)) (by decide +kernel))
set_option maxRecDepth 20000 in
theorem gX1_madeUp_X1_requireClosedYear : GoodIn wsX1_madeUp (wsV RX1 118 RX1 yX1_requireClosedYear wsX1_requireClosedYear) := goodIn_app (goodIn_of _ (by decide +kernel)) ggX1_madeUp_X1_requireClosedYear
theorem dX1_madeUp_0 : decode cX1_madeUp 0 = .ok (.aload_n 0, 1) := by decide +kernel
theorem dX1_madeUp_1 : decode cX1_madeUp 1 = .ok (.iload_n 1, 1) := by decide +kernel
theorem dX1_madeUp_2 : decode cX1_madeUp 2 = .ok (.invokevirtual 118, 3) := by decide +kernel
theorem dX1_madeUp_5 : decode cX1_madeUp 5 = .ok (.aload_n 0, 1) := by decide +kernel
theorem dX1_madeUp_6 : decode cX1_madeUp 6 = .ok (.getfield 54, 3) := by decide +kernel
theorem dX1_madeUp_9 : decode cX1_madeUp 9 = .ok (.iload_n 1, 1) := by decide +kernel
theorem dX1_madeUp_10 : decode cX1_madeUp 10 = .ok (.iaload, 1) := by decide +kernel
theorem dX1_madeUp_11 : decode cX1_madeUp 11 = .ok (.ireturn, 1) := by decide +kernel
set_option maxRecDepth 20000 in
theorem ggX1_covered_X1_requireClosedYear : GoodIn wsX1_covered wsX1_requireClosedYear := goodIn_ca (goodIn_ca (goodIn_r _ [6, 7, 8, 9, 10, 11, 5, 12, 13, 14, 15, 16, 17, 18, 19, 20, 21, 22, 23, 24, 25, 26, 27, 28, 29, 30, 31, 32, 33, 34] (by decide +kernel) (by decide +kernel)) (goodIn_sub (fun _ h => List.mem_cons_of_mem _ (List.mem_append_left _ (List.mem_append_right _ h))) (by decide +kernel))) (goodIn_sub (fun _ h => List.mem_cons_of_mem _ (List.mem_append_right _ h)) (by decide +kernel))
set_option maxRecDepth 20000 in
theorem gX1_covered_X1_requireClosedYear : GoodIn wsX1_covered (wsV RX1 118 RX1 yX1_requireClosedYear wsX1_requireClosedYear) := goodIn_app (goodIn_of _ (by decide +kernel)) ggX1_covered_X1_requireClosedYear
theorem dX1_covered_0 : decode cX1_covered 0 = .ok (.aload_n 0, 1) := by decide +kernel
theorem dX1_covered_1 : decode cX1_covered 1 = .ok (.iload_n 1, 1) := by decide +kernel
theorem dX1_covered_2 : decode cX1_covered 2 = .ok (.invokevirtual 118, 3) := by decide +kernel
theorem dX1_covered_5 : decode cX1_covered 5 = .ok (.aload_n 0, 1) := by decide +kernel
theorem dX1_covered_6 : decode cX1_covered 6 = .ok (.getfield 57, 3) := by decide +kernel
theorem dX1_covered_9 : decode cX1_covered 9 = .ok (.iload_n 1, 1) := by decide +kernel
theorem dX1_covered_10 : decode cX1_covered 10 = .ok (.iaload, 1) := by decide +kernel
theorem dX1_covered_11 : decode cX1_covered 11 = .ok (.ireturn, 1) := by decide +kernel
set_option maxRecDepth 20000 in
theorem ggX1_surplus_X1_requireClosedYear : GoodIn wsX1_surplus wsX1_requireClosedYear := goodIn_ca (goodIn_ca (goodIn_r _ [6, 7, 8, 9, 10, 11, 5, 12, 13, 14, 15, 16, 17, 18, 19, 20, 21, 22, 23, 24, 25, 26, 27, 28, 29, 30, 31, 32, 33, 34] (by decide +kernel) (by decide +kernel)) (goodIn_sub (fun _ h => List.mem_cons_of_mem _ (List.mem_append_left _ (List.mem_append_right _ h))) (by decide +kernel))) (goodIn_sub (fun _ h => List.mem_cons_of_mem _ (List.mem_append_right _ h)) (by decide +kernel))
set_option maxRecDepth 20000 in
theorem gX1_surplus_X1_requireClosedYear : GoodIn wsX1_surplus (wsV RX1 118 RX1 yX1_requireClosedYear wsX1_requireClosedYear) := goodIn_app (goodIn_of _ (by decide +kernel)) ggX1_surplus_X1_requireClosedYear
theorem dX1_surplus_0 : decode cX1_surplus 0 = .ok (.aload_n 0, 1) := by decide +kernel
theorem dX1_surplus_1 : decode cX1_surplus 1 = .ok (.iload_n 1, 1) := by decide +kernel
theorem dX1_surplus_2 : decode cX1_surplus 2 = .ok (.invokevirtual 118, 3) := by decide +kernel
theorem dX1_surplus_5 : decode cX1_surplus 5 = .ok (.aload_n 0, 1) := by decide +kernel
theorem dX1_surplus_6 : decode cX1_surplus 6 = .ok (.getfield 60, 3) := by decide +kernel
theorem dX1_surplus_9 : decode cX1_surplus 9 = .ok (.iload_n 1, 1) := by decide +kernel
theorem dX1_surplus_10 : decode cX1_surplus 10 = .ok (.iaload, 1) := by decide +kernel
theorem dX1_surplus_11 : decode cX1_surplus 11 = .ok (.ireturn, 1) := by decide +kernel
set_option maxRecDepth 20000 in
theorem ggX1_due_X1_requireClosedYear : GoodIn wsX1_due wsX1_requireClosedYear := goodIn_ca (goodIn_ca (goodIn_r _ [6, 7, 8, 9, 10, 11, 5, 12, 13, 14, 15, 16, 17, 18, 19, 20, 21, 22, 23, 24, 25, 26, 27, 28, 29, 30, 31, 32, 33, 34] (by decide +kernel) (by decide +kernel)) (goodIn_sub (fun _ h => List.mem_cons_of_mem _ (List.mem_append_left _ (List.mem_append_right _ h))) (by decide +kernel))) (goodIn_sub (fun _ h => List.mem_cons_of_mem _ (List.mem_append_right _ h)) (by decide +kernel))
set_option maxRecDepth 20000 in
theorem gX1_due_X1_requireClosedYear : GoodIn wsX1_due (wsV RX1 118 RX1 yX1_requireClosedYear wsX1_requireClosedYear) := goodIn_app (goodIn_of _ (by decide +kernel)) ggX1_due_X1_requireClosedYear
theorem dX1_due_0 : decode cX1_due 0 = .ok (.aload_n 0, 1) := by decide +kernel
theorem dX1_due_1 : decode cX1_due 1 = .ok (.iload_n 1, 1) := by decide +kernel
theorem dX1_due_2 : decode cX1_due 2 = .ok (.invokevirtual 118, 3) := by decide +kernel
theorem dX1_due_5 : decode cX1_due 5 = .ok (.aload_n 0, 1) := by decide +kernel
theorem dX1_due_6 : decode cX1_due 6 = .ok (.getfield 63, 3) := by decide +kernel
theorem dX1_due_9 : decode cX1_due 9 = .ok (.iload_n 1, 1) := by decide +kernel
theorem dX1_due_10 : decode cX1_due 10 = .ok (.laload, 1) := by decide +kernel
theorem dX1_due_11 : decode cX1_due 11 = .ok (.lreturn, 1) := by decide +kernel
set_option maxRecDepth 20000 in
theorem ggX1_bill_X1_requireClosedYear : GoodIn wsX1_bill wsX1_requireClosedYear := goodIn_ca (goodIn_ca (goodIn_r _ [6, 7, 8, 9, 10, 11, 5, 12, 13, 14, 15, 16, 17, 18, 19, 20, 21, 22, 23, 24, 25, 26, 27, 28, 29, 30, 31, 32, 33, 34] (by decide +kernel) (by decide +kernel)) (goodIn_sub (fun _ h => List.mem_cons_of_mem _ (List.mem_append_left _ (List.mem_append_right _ h))) (by decide +kernel))) (goodIn_sub (fun _ h => List.mem_cons_of_mem _ (List.mem_append_right _ h)) (by decide +kernel))
set_option maxRecDepth 20000 in
theorem gX1_bill_X1_requireClosedYear : GoodIn wsX1_bill (wsV RX1 118 RX1 yX1_requireClosedYear wsX1_requireClosedYear) := goodIn_app (goodIn_of _ (by decide +kernel)) ggX1_bill_X1_requireClosedYear
theorem dX1_bill_0 : decode cX1_bill 0 = .ok (.aload_n 0, 1) := by decide +kernel
theorem dX1_bill_1 : decode cX1_bill 1 = .ok (.iload_n 1, 1) := by decide +kernel
theorem dX1_bill_2 : decode cX1_bill 2 = .ok (.invokevirtual 118, 3) := by decide +kernel
theorem dX1_bill_5 : decode cX1_bill 5 = .ok (.aload_n 0, 1) := by decide +kernel
theorem dX1_bill_6 : decode cX1_bill 6 = .ok (.getfield 67, 3) := by decide +kernel
theorem dX1_bill_9 : decode cX1_bill 9 = .ok (.iload_n 1, 1) := by decide +kernel
theorem dX1_bill_10 : decode cX1_bill 10 = .ok (.laload, 1) := by decide +kernel
theorem dX1_bill_11 : decode cX1_bill 11 = .ok (.lreturn, 1) := by decide +kernel
set_option maxRecDepth 20000 in
theorem ggX1_makeUpLeft_X1_requireClosedYear : GoodIn wsX1_makeUpLeft wsX1_requireClosedYear := goodIn_ca (goodIn_ca (goodIn_r _ [6, 7, 8, 9, 10, 11, 5, 12, 13, 14, 15, 16, 17, 24, 25, 26, 27, 28, 29, 30, 31, 32, 33, 34, 35, 36, 37, 38, 39, 40] (by decide +kernel) (by decide +kernel)) (goodIn_sub (fun _ h => List.mem_cons_of_mem _ (List.mem_append_left _ (List.mem_append_right _ h))) (by decide +kernel))) (goodIn_sub (fun _ h => List.mem_cons_of_mem _ (List.mem_append_right _ h)) (by decide +kernel))
set_option maxRecDepth 20000 in
theorem gX1_makeUpLeft_X1_requireClosedYear : GoodIn wsX1_makeUpLeft (wsV RX1 118 RX1 yX1_requireClosedYear wsX1_requireClosedYear) := goodIn_app (goodIn_of _ (by decide +kernel)) ggX1_makeUpLeft_X1_requireClosedYear
set_option maxRecDepth 20000 in
theorem ggX1_makeUpLeft_X0_leftFrom : GoodIn wsX1_makeUpLeft wsX0_leftFrom := goodIn_r _ [22, 23, 41, 42, 43] (by decide +kernel) (by decide +kernel)
set_option maxRecDepth 20000 in
theorem gX1_makeUpLeft_X0_leftFrom : GoodIn wsX1_makeUpLeft (wsV RX1 121 RX0 yX0_leftFrom wsX0_leftFrom) := goodIn_app (goodIn_of _ (by decide +kernel)) ggX1_makeUpLeft_X0_leftFrom
theorem dX1_makeUpLeft_0 : decode cX1_makeUpLeft 0 = .ok (.aload_n 0, 1) := by decide +kernel
theorem dX1_makeUpLeft_1 : decode cX1_makeUpLeft 1 = .ok (.iload_n 1, 1) := by decide +kernel
theorem dX1_makeUpLeft_2 : decode cX1_makeUpLeft 2 = .ok (.invokevirtual 118, 3) := by decide +kernel
theorem dX1_makeUpLeft_5 : decode cX1_makeUpLeft 5 = .ok (.aload_n 0, 1) := by decide +kernel
theorem dX1_makeUpLeft_6 : decode cX1_makeUpLeft 6 = .ok (.getfield 44, 3) := by decide +kernel
theorem dX1_makeUpLeft_9 : decode cX1_makeUpLeft 9 = .ok (.iload_n 1, 1) := by decide +kernel
theorem dX1_makeUpLeft_10 : decode cX1_makeUpLeft 10 = .ok (.invokevirtual 121, 3) := by decide +kernel
theorem dX1_makeUpLeft_13 : decode cX1_makeUpLeft 13 = .ok (.ireturn, 1) := by decide +kernel
set_option maxRecDepth 20000 in
theorem ggX1_surplusLeft_X1_requireClosedYear : GoodIn wsX1_surplusLeft wsX1_requireClosedYear := goodIn_ca (goodIn_ca (goodIn_r _ [6, 7, 8, 9, 10, 11, 5, 12, 13, 14, 15, 16, 17, 24, 25, 26, 27, 28, 29, 30, 31, 32, 33, 34, 35, 36, 37, 38, 39, 40] (by decide +kernel) (by decide +kernel)) (goodIn_sub (fun _ h => List.mem_cons_of_mem _ (List.mem_append_left _ (List.mem_append_right _ h))) (by decide +kernel))) (goodIn_sub (fun _ h => List.mem_cons_of_mem _ (List.mem_append_right _ h)) (by decide +kernel))
set_option maxRecDepth 20000 in
theorem gX1_surplusLeft_X1_requireClosedYear : GoodIn wsX1_surplusLeft (wsV RX1 118 RX1 yX1_requireClosedYear wsX1_requireClosedYear) := goodIn_app (goodIn_of _ (by decide +kernel)) ggX1_surplusLeft_X1_requireClosedYear
set_option maxRecDepth 20000 in
theorem ggX1_surplusLeft_X0_leftFrom : GoodIn wsX1_surplusLeft wsX0_leftFrom := goodIn_r _ [22, 23, 41, 42, 43] (by decide +kernel) (by decide +kernel)
set_option maxRecDepth 20000 in
theorem gX1_surplusLeft_X0_leftFrom : GoodIn wsX1_surplusLeft (wsV RX1 121 RX0 yX0_leftFrom wsX0_leftFrom) := goodIn_app (goodIn_of _ (by decide +kernel)) ggX1_surplusLeft_X0_leftFrom
theorem dX1_surplusLeft_0 : decode cX1_surplusLeft 0 = .ok (.aload_n 0, 1) := by decide +kernel
theorem dX1_surplusLeft_1 : decode cX1_surplusLeft 1 = .ok (.iload_n 1, 1) := by decide +kernel
theorem dX1_surplusLeft_2 : decode cX1_surplusLeft 2 = .ok (.invokevirtual 118, 3) := by decide +kernel
theorem dX1_surplusLeft_5 : decode cX1_surplusLeft 5 = .ok (.aload_n 0, 1) := by decide +kernel
theorem dX1_surplusLeft_6 : decode cX1_surplusLeft 6 = .ok (.getfield 48, 3) := by decide +kernel
theorem dX1_surplusLeft_9 : decode cX1_surplusLeft 9 = .ok (.iload_n 1, 1) := by decide +kernel
theorem dX1_surplusLeft_10 : decode cX1_surplusLeft 10 = .ok (.invokevirtual 121, 3) := by decide +kernel
theorem dX1_surplusLeft_13 : decode cX1_surplusLeft 13 = .ok (.ireturn, 1) := by decide +kernel
set_option maxRecDepth 20000 in
theorem ggX1_lapsed_X0_lapsedInAll : GoodIn wsX1_lapsed wsX0_lapsedInAll := goodIn_r _ [6, 7, 25, 26, 27] (by decide +kernel) (by decide +kernel)
set_option maxRecDepth 20000 in
theorem gX1_lapsed_X0_lapsedInAll : GoodIn wsX1_lapsed (wsV RX1 124 RX0 yX0_lapsedInAll wsX0_lapsedInAll) := goodIn_app (goodIn_of _ (by decide +kernel)) ggX1_lapsed_X0_lapsedInAll
theorem dX1_lapsed_0 : decode cX1_lapsed 0 = .ok (.aload_n 0, 1) := by decide +kernel
theorem dX1_lapsed_1 : decode cX1_lapsed 1 = .ok (.getfield 44, 3) := by decide +kernel
theorem dX1_lapsed_4 : decode cX1_lapsed 4 = .ok (.invokevirtual 124, 3) := by decide +kernel
theorem dX1_lapsed_7 : decode cX1_lapsed 7 = .ok (.ireturn, 1) := by decide +kernel
set_option maxRecDepth 20000 in
theorem ggX1_open_X1_dueInAll : GoodIn wsX1_open wsX1_dueInAll := goodIn_r _ [6, 7, 8, 9, 10, 11, 12, 13, 14, 15, 16, 17, 18, 19, 20, 21, 22, 23, 24, 25] (by decide +kernel) (by decide +kernel)
set_option maxRecDepth 20000 in
theorem gX1_open_X1_dueInAll : GoodIn wsX1_open (wsV RX1 106 RX1 yX1_dueInAll wsX1_dueInAll) := goodIn_app (goodIn_of _ (by decide +kernel)) ggX1_open_X1_dueInAll
theorem dX1_open_0 : decode cX1_open 0 = .ok (.aload_n 0, 1) := by decide +kernel
theorem dX1_open_1 : decode cX1_open 1 = .ok (.invokevirtual 106, 3) := by decide +kernel
theorem dX1_open_4 : decode cX1_open 4 = .ok (.aload_n 0, 1) := by decide +kernel
theorem dX1_open_5 : decode cX1_open 5 = .ok (.getfield 110, 3) := by decide +kernel
theorem dX1_open_8 : decode cX1_open 8 = .ok (.lsub, 1) := by decide +kernel
theorem dX1_open_9 : decode cX1_open 9 = .ok (.lreturn, 1) := by decide +kernel
theorem dX1_requireRange_0 : decode cX1_requireRange 0 = .ok (.iload_n 0, 1) := by decide +kernel
theorem dX1_requireRange_1 : decode cX1_requireRange 1 = .ok (.iload_n 1, 1) := by decide +kernel
theorem dX1_requireRange_2 : decode cX1_requireRange 2 = .ok (.if_icmp .lt 8, 3) := by decide +kernel
theorem dX1_requireRange_5 : decode cX1_requireRange 5 = .ok (.iload_n 0, 1) := by decide +kernel
theorem dX1_requireRange_6 : decode cX1_requireRange 6 = .ok (.iload_n 2, 1) := by decide +kernel
theorem dX1_requireRange_7 : decode cX1_requireRange 7 = .ok (.if_icmp .le 13, 3) := by decide +kernel
theorem dX1_requireRange_10 : decode cX1_requireRange 10 = .ok (.new 128, 3) := by decide +kernel
theorem dX1_requireRange_13 : decode cX1_requireRange 13 = .ok (.dup, 1) := by decide +kernel
theorem dX1_requireRange_14 : decode cX1_requireRange 14 = .ok (.ldc 130, 2) := by decide +kernel
theorem dX1_requireRange_16 : decode cX1_requireRange 16 = .ok (.invokespecial 132, 3) := by decide +kernel
theorem dX1_requireRange_19 : decode cX1_requireRange 19 = .ok (.athrow, 1) := by decide +kernel
theorem dX1_requireRange_20 : decode cX1_requireRange 20 = .ok (.return_, 1) := by decide +kernel
set_option maxRecDepth 20000 in
theorem ggX1_requireYear_X1_requireRange : GoodIn wsX1_requireYear wsX1_requireRange := goodIn_ca (goodIn_r _ [4, 5, 6] (by decide +kernel) (by decide +kernel)) (goodIn_sub (fun _ h => List.mem_cons_of_mem _ (List.mem_append_right _ h)) (by decide +kernel))
set_option maxRecDepth 20000 in
theorem gX1_requireYear_X1_requireRange : GoodIn wsX1_requireYear (va_wsS RX1 71 yX1_requireRange wsX1_requireRange) := goodIn_app (goodIn_of _ (by decide +kernel)) ggX1_requireYear_X1_requireRange
theorem dX1_requireYear_0 : decode cX1_requireYear 0 = .ok (.iload_n 0, 1) := by decide +kernel
theorem dX1_requireYear_1 : decode cX1_requireYear 1 = .ok (.iconst 0, 1) := by decide +kernel
theorem dX1_requireYear_2 : decode cX1_requireYear 2 = .ok (.bipush 19, 2) := by decide +kernel
theorem dX1_requireYear_4 : decode cX1_requireYear 4 = .ok (.invokestatic 71, 3) := by decide +kernel
theorem dX1_requireYear_7 : decode cX1_requireYear 7 = .ok (.return_, 1) := by decide +kernel
set_option maxRecDepth 20000 in
theorem ggX1_requireDay_X1_requireRange : GoodIn wsX1_requireDay wsX1_requireRange := goodIn_ca (goodIn_r _ [4, 5, 6] (by decide +kernel) (by decide +kernel)) (goodIn_sub (fun _ h => List.mem_cons_of_mem _ (List.mem_append_right _ h)) (by decide +kernel))
set_option maxRecDepth 20000 in
theorem gX1_requireDay_X1_requireRange : GoodIn wsX1_requireDay (va_wsS RX1 71 yX1_requireRange wsX1_requireRange) := goodIn_app (goodIn_of _ (by decide +kernel)) ggX1_requireDay_X1_requireRange
theorem dX1_requireDay_0 : decode cX1_requireDay 0 = .ok (.iload_n 0, 1) := by decide +kernel
theorem dX1_requireDay_1 : decode cX1_requireDay 1 = .ok (.iconst 0, 1) := by decide +kernel
theorem dX1_requireDay_2 : decode cX1_requireDay 2 = .ok (.sipush 359, 3) := by decide +kernel
theorem dX1_requireDay_5 : decode cX1_requireDay 5 = .ok (.invokestatic 71, 3) := by decide +kernel
theorem dX1_requireDay_8 : decode cX1_requireDay 8 = .ok (.return_, 1) := by decide +kernel
set_option maxRecDepth 20000 in
theorem ggX1_requireDays_X1_requireDay : GoodIn wsX1_requireDays wsX1_requireDay := goodIn_ca (goodIn_r _ [4, 5, 6, 3, 7, 8, 9] (by decide +kernel) (by decide +kernel)) (goodIn_sub (fun _ h => List.mem_cons_of_mem _ (List.mem_append_right _ h)) (by decide +kernel))
set_option maxRecDepth 20000 in
theorem gX1_requireDays_X1_requireDay : GoodIn wsX1_requireDays (va_wsS RX1 87 yX1_requireDay wsX1_requireDay) := goodIn_app (goodIn_of _ (by decide +kernel)) ggX1_requireDays_X1_requireDay
set_option maxRecDepth 20000 in
theorem ggX1_requireDays_X1_requireRange : GoodIn wsX1_requireDays wsX1_requireRange := goodIn_ca (goodIn_r _ [7, 8, 9] (by decide +kernel) (by decide +kernel)) (goodIn_sub (fun _ h => List.mem_cons_of_mem _ (List.mem_append_right _ h)) (by decide +kernel))
set_option maxRecDepth 20000 in
theorem gX1_requireDays_X1_requireRange : GoodIn wsX1_requireDays (va_wsS RX1 71 yX1_requireRange wsX1_requireRange) := goodIn_app (goodIn_of _ (by decide +kernel)) ggX1_requireDays_X1_requireRange
theorem dX1_requireDays_0 : decode cX1_requireDays 0 = .ok (.iload_n 0, 1) := by decide +kernel
theorem dX1_requireDays_1 : decode cX1_requireDays 1 = .ok (.invokestatic 87, 3) := by decide +kernel
theorem dX1_requireDays_4 : decode cX1_requireDays 4 = .ok (.iload_n 1, 1) := by decide +kernel
theorem dX1_requireDays_5 : decode cX1_requireDays 5 = .ok (.iload_n 0, 1) := by decide +kernel
theorem dX1_requireDays_6 : decode cX1_requireDays 6 = .ok (.sipush 359, 3) := by decide +kernel
theorem dX1_requireDays_9 : decode cX1_requireDays 9 = .ok (.invokestatic 71, 3) := by decide +kernel
theorem dX1_requireDays_12 : decode cX1_requireDays 12 = .ok (.return_, 1) := by decide +kernel
set_option maxRecDepth 20000 in
theorem ggX1_requireClosedYear_X1_requireYear : GoodIn wsX1_requireClosedYear wsX1_requireYear := goodIn_ca (goodIn_r _ [7, 8, 9, 6, 10, 11, 12] (by decide +kernel) (by decide +kernel)) (goodIn_sub (fun _ h => List.mem_cons_of_mem _ (List.mem_append_right _ h)) (by decide +kernel))
set_option maxRecDepth 20000 in
theorem gX1_requireClosedYear_X1_requireYear : GoodIn wsX1_requireClosedYear (va_wsS RX1 81 yX1_requireYear wsX1_requireYear) := goodIn_app (goodIn_of _ (by decide +kernel)) ggX1_requireClosedYear_X1_requireYear
theorem dX1_requireClosedYear_0 : decode cX1_requireClosedYear 0 = .ok (.iload_n 1, 1) := by decide +kernel
theorem dX1_requireClosedYear_1 : decode cX1_requireClosedYear 1 = .ok (.invokestatic 81, 3) := by decide +kernel
theorem dX1_requireClosedYear_4 : decode cX1_requireClosedYear 4 = .ok (.iload_n 1, 1) := by decide +kernel
theorem dX1_requireClosedYear_5 : decode cX1_requireClosedYear 5 = .ok (.aload_n 0, 1) := by decide +kernel
theorem dX1_requireClosedYear_6 : decode cX1_requireClosedYear 6 = .ok (.getfield 103, 3) := by decide +kernel
theorem dX1_requireClosedYear_9 : decode cX1_requireClosedYear 9 = .ok (.if_icmp .lt 13, 3) := by decide +kernel
theorem dX1_requireClosedYear_12 : decode cX1_requireClosedYear 12 = .ok (.new 135, 3) := by decide +kernel
theorem dX1_requireClosedYear_15 : decode cX1_requireClosedYear 15 = .ok (.dup, 1) := by decide +kernel
theorem dX1_requireClosedYear_16 : decode cX1_requireClosedYear 16 = .ok (.ldc 137, 2) := by decide +kernel
theorem dX1_requireClosedYear_18 : decode cX1_requireClosedYear 18 = .ok (.invokespecial 139, 3) := by decide +kernel
theorem dX1_requireClosedYear_21 : decode cX1_requireClosedYear 21 = .ok (.athrow, 1) := by decide +kernel
theorem dX1_requireClosedYear_22 : decode cX1_requireClosedYear 22 = .ok (.return_, 1) := by decide +kernel
theorem dX1_requireYearGoingOn_0 : decode cX1_requireYearGoingOn 0 = .ok (.aload_n 0, 1) := by decide +kernel
theorem dX1_requireYearGoingOn_1 : decode cX1_requireYearGoingOn 1 = .ok (.getfield 103, 3) := by decide +kernel
theorem dX1_requireYearGoingOn_4 : decode cX1_requireYearGoingOn 4 = .ok (.bipush 20, 2) := by decide +kernel
theorem dX1_requireYearGoingOn_6 : decode cX1_requireYearGoingOn 6 = .ok (.if_icmp .lt 13, 3) := by decide +kernel
theorem dX1_requireYearGoingOn_9 : decode cX1_requireYearGoingOn 9 = .ok (.new 135, 3) := by decide +kernel
theorem dX1_requireYearGoingOn_12 : decode cX1_requireYearGoingOn 12 = .ok (.dup, 1) := by decide +kernel
theorem dX1_requireYearGoingOn_13 : decode cX1_requireYearGoingOn 13 = .ok (.ldc 140, 2) := by decide +kernel
theorem dX1_requireYearGoingOn_15 : decode cX1_requireYearGoingOn 15 = .ok (.invokespecial 139, 3) := by decide +kernel
theorem dX1_requireYearGoingOn_18 : decode cX1_requireYearGoingOn 18 = .ok (.athrow, 1) := by decide +kernel
theorem dX1_requireYearGoingOn_19 : decode cX1_requireYearGoingOn 19 = .ok (.return_, 1) := by decide +kernel
theorem dX1_requireUnused_0 : decode cX1_requireUnused 0 = .ok (.aload_n 0, 1) := by decide +kernel
theorem dX1_requireUnused_1 : decode cX1_requireUnused 1 = .ok (.getfield 103, 3) := by decide +kernel
theorem dX1_requireUnused_4 : decode cX1_requireUnused 4 = .ok (.ifCond .gt 12, 3) := by decide +kernel
theorem dX1_requireUnused_7 : decode cX1_requireUnused 7 = .ok (.aload_n 0, 1) := by decide +kernel
theorem dX1_requireUnused_8 : decode cX1_requireUnused 8 = .ok (.getfield 36, 3) := by decide +kernel
theorem dX1_requireUnused_11 : decode cX1_requireUnused 11 = .ok (.iconst 0, 1) := by decide +kernel
theorem dX1_requireUnused_12 : decode cX1_requireUnused 12 = .ok (.iaload, 1) := by decide +kernel
theorem dX1_requireUnused_13 : decode cX1_requireUnused 13 = .ok (.ifCond .le 13, 3) := by decide +kernel
theorem dX1_requireUnused_16 : decode cX1_requireUnused 16 = .ok (.new 135, 3) := by decide +kernel
theorem dX1_requireUnused_19 : decode cX1_requireUnused 19 = .ok (.dup, 1) := by decide +kernel
theorem dX1_requireUnused_20 : decode cX1_requireUnused 20 = .ok (.ldc 142, 2) := by decide +kernel
theorem dX1_requireUnused_22 : decode cX1_requireUnused 22 = .ok (.invokespecial 139, 3) := by decide +kernel
theorem dX1_requireUnused_25 : decode cX1_requireUnused 25 = .ok (.athrow, 1) := by decide +kernel
theorem dX1_requireUnused_26 : decode cX1_requireUnused 26 = .ok (.return_, 1) := by decide +kernel
theorem dX1_requireRoom_0 : decode cX1_requireRoom 0 = .ok (.iload_n 1, 1) := by decide +kernel
theorem dX1_requireRoom_1 : decode cX1_requireRoom 1 = .ok (.istore 4, 2) := by decide +kernel
theorem dX1_requireRoom_3 : decode cX1_requireRoom 3 = .ok (.iload 4, 2) := by decide +kernel
theorem dX1_requireRoom_5 : decode cX1_requireRoom 5 = .ok (.iload_n 2, 1) := by decide +kernel
theorem dX1_requireRoom_6 : decode cX1_requireRoom 6 = .ok (.if_icmp .gt 34, 3) := by decide +kernel
theorem dX1_requireRoom_9 : decode cX1_requireRoom 9 = .ok (.aload_n 0, 1) := by decide +kernel
theorem dX1_requireRoom_10 : decode cX1_requireRoom 10 = .ok (.getfield 33, 3) := by decide +kernel
theorem dX1_requireRoom_13 : decode cX1_requireRoom 13 = .ok (.iload 4, 2) := by decide +kernel
theorem dX1_requireRoom_15 : decode cX1_requireRoom 15 = .ok (.iaload, 1) := by decide +kernel
theorem dX1_requireRoom_16 : decode cX1_requireRoom 16 = .ok (.iload_n 3, 1) := by decide +kernel
theorem dX1_requireRoom_17 : decode cX1_requireRoom 17 = .ok (.iadd, 1) := by decide +kernel
theorem dX1_requireRoom_18 : decode cX1_requireRoom 18 = .ok (.sipush 500, 3) := by decide +kernel
theorem dX1_requireRoom_21 : decode cX1_requireRoom 21 = .ok (.if_icmp .le 13, 3) := by decide +kernel
theorem dX1_requireRoom_24 : decode cX1_requireRoom 24 = .ok (.new 135, 3) := by decide +kernel
theorem dX1_requireRoom_27 : decode cX1_requireRoom 27 = .ok (.dup, 1) := by decide +kernel
theorem dX1_requireRoom_28 : decode cX1_requireRoom 28 = .ok (.ldc 144, 2) := by decide +kernel
theorem dX1_requireRoom_30 : decode cX1_requireRoom 30 = .ok (.invokespecial 139, 3) := by decide +kernel
theorem dX1_requireRoom_33 : decode cX1_requireRoom 33 = .ok (.athrow, 1) := by decide +kernel
theorem dX1_requireRoom_34 : decode cX1_requireRoom 34 = .ok (.iinc 4 1, 3) := by decide +kernel
theorem dX1_requireRoom_37 : decode cX1_requireRoom 37 = .ok (.goto (-34), 3) := by decide +kernel
theorem dX1_requireRoom_40 : decode cX1_requireRoom 40 = .ok (.return_, 1) := by decide +kernel
theorem dX1_addTakes_0 : decode cX1_addTakes 0 = .ok (.iload_n 1, 1) := by decide +kernel
theorem dX1_addTakes_1 : decode cX1_addTakes 1 = .ok (.istore 4, 2) := by decide +kernel
theorem dX1_addTakes_3 : decode cX1_addTakes 3 = .ok (.iload 4, 2) := by decide +kernel
theorem dX1_addTakes_5 : decode cX1_addTakes 5 = .ok (.iload_n 2, 1) := by decide +kernel
theorem dX1_addTakes_6 : decode cX1_addTakes 6 = .ok (.if_icmp .gt 20, 3) := by decide +kernel
theorem dX1_addTakes_9 : decode cX1_addTakes 9 = .ok (.aload_n 0, 1) := by decide +kernel
theorem dX1_addTakes_10 : decode cX1_addTakes 10 = .ok (.getfield 33, 3) := by decide +kernel
theorem dX1_addTakes_13 : decode cX1_addTakes 13 = .ok (.iload 4, 2) := by decide +kernel
theorem dX1_addTakes_15 : decode cX1_addTakes 15 = .ok (.dup2, 1) := by decide +kernel
theorem dX1_addTakes_16 : decode cX1_addTakes 16 = .ok (.iaload, 1) := by decide +kernel
end
section
theorem dX1_addTakes_17 : decode cX1_addTakes 17 = .ok (.iload_n 3, 1) := by decide +kernel
theorem dX1_addTakes_18 : decode cX1_addTakes 18 = .ok (.iadd, 1) := by decide +kernel
theorem dX1_addTakes_19 : decode cX1_addTakes 19 = .ok (.iastore, 1) := by decide +kernel
theorem dX1_addTakes_20 : decode cX1_addTakes 20 = .ok (.iinc 4 1, 3) := by decide +kernel
theorem dX1_addTakes_23 : decode cX1_addTakes 23 = .ok (.goto (-20), 3) := by decide +kernel
theorem dX1_addTakes_26 : decode cX1_addTakes 26 = .ok (.aload_n 0, 1) := by decide +kernel
theorem dX1_addTakes_27 : decode cX1_addTakes 27 = .ok (.getfield 36, 3) := by decide +kernel
theorem dX1_addTakes_30 : decode cX1_addTakes 30 = .ok (.aload_n 0, 1) := by decide +kernel
theorem dX1_addTakes_31 : decode cX1_addTakes 31 = .ok (.getfield 103, 3) := by decide +kernel
theorem dX1_addTakes_34 : decode cX1_addTakes 34 = .ok (.dup2, 1) := by decide +kernel
theorem dX1_addTakes_35 : decode cX1_addTakes 35 = .ok (.iaload, 1) := by decide +kernel
theorem dX1_addTakes_36 : decode cX1_addTakes 36 = .ok (.iload_n 3, 1) := by decide +kernel
theorem dX1_addTakes_37 : decode cX1_addTakes 37 = .ok (.iload_n 2, 1) := by decide +kernel
theorem dX1_addTakes_38 : decode cX1_addTakes 38 = .ok (.iload_n 1, 1) := by decide +kernel
theorem dX1_addTakes_39 : decode cX1_addTakes 39 = .ok (.isub, 1) := by decide +kernel
theorem dX1_addTakes_40 : decode cX1_addTakes 40 = .ok (.iconst 1, 1) := by decide +kernel
theorem dX1_addTakes_41 : decode cX1_addTakes 41 = .ok (.iadd, 1) := by decide +kernel
theorem dX1_addTakes_42 : decode cX1_addTakes 42 = .ok (.imul, 1) := by decide +kernel
theorem dX1_addTakes_43 : decode cX1_addTakes 43 = .ok (.iadd, 1) := by decide +kernel
theorem dX1_addTakes_44 : decode cX1_addTakes 44 = .ok (.iastore, 1) := by decide +kernel
theorem dX1_addTakes_45 : decode cX1_addTakes 45 = .ok (.return_, 1) := by decide +kernel
theorem dX1_leastQuantity_0 : decode cX1_leastQuantity 0 = .ok (.aload_n 0, 1) := by decide +kernel
theorem dX1_leastQuantity_1 : decode cX1_leastQuantity 1 = .ok (.getfield 10, 3) := by decide +kernel
theorem dX1_leastQuantity_4 : decode cX1_leastQuantity 4 = .ok (.i2l, 1) := by decide +kernel
theorem dX1_leastQuantity_5 : decode cX1_leastQuantity 5 = .ok (.aload_n 0, 1) := by decide +kernel
theorem dX1_leastQuantity_6 : decode cX1_leastQuantity 6 = .ok (.getfield 14, 3) := by decide +kernel
theorem dX1_leastQuantity_9 : decode cX1_leastQuantity 9 = .ok (.i2l, 1) := by decide +kernel
theorem dX1_leastQuantity_10 : decode cX1_leastQuantity 10 = .ok (.lmul, 1) := by decide +kernel
theorem dX1_leastQuantity_11 : decode cX1_leastQuantity 11 = .ok (.sipush 360, 3) := by decide +kernel
theorem dX1_leastQuantity_14 : decode cX1_leastQuantity 14 = .ok (.aload_n 0, 1) := by decide +kernel
theorem dX1_leastQuantity_15 : decode cX1_leastQuantity 15 = .ok (.getfield 30, 3) := by decide +kernel
theorem dX1_leastQuantity_18 : decode cX1_leastQuantity 18 = .ok (.iload_n 1, 1) := by decide +kernel
theorem dX1_leastQuantity_19 : decode cX1_leastQuantity 19 = .ok (.iaload, 1) := by decide +kernel
theorem dX1_leastQuantity_20 : decode cX1_leastQuantity 20 = .ok (.isub, 1) := by decide +kernel
theorem dX1_leastQuantity_21 : decode cX1_leastQuantity 21 = .ok (.i2l, 1) := by decide +kernel
theorem dX1_leastQuantity_22 : decode cX1_leastQuantity 22 = .ok (.lmul, 1) := by decide +kernel
theorem dX1_leastQuantity_23 : decode cX1_leastQuantity 23 = .ok (.lstore_n 2, 1) := by decide +kernel
theorem dX1_leastQuantity_24 : decode cX1_leastQuantity 24 = .ok (.lload_n 2, 1) := by decide +kernel
theorem dX1_leastQuantity_25 : decode cX1_leastQuantity 25 = .ok (.ldc2_w 146, 3) := by decide +kernel
theorem dX1_leastQuantity_28 : decode cX1_leastQuantity 28 = .ok (.ldiv, 1) := by decide +kernel
theorem dX1_leastQuantity_29 : decode cX1_leastQuantity 29 = .ok (.l2i, 1) := by decide +kernel
theorem dX1_leastQuantity_30 : decode cX1_leastQuantity 30 = .ok (.ireturn, 1) := by decide +kernel
theorem dX1_shortfallPrice_0 : decode cX1_shortfallPrice 0 = .ok (.aload_n 0, 1) := by decide +kernel
theorem dX1_shortfallPrice_1 : decode cX1_shortfallPrice 1 = .ok (.getfield 20, 3) := by decide +kernel
theorem dX1_shortfallPrice_4 : decode cX1_shortfallPrice 4 = .ok (.iload_n 1, 1) := by decide +kernel
theorem dX1_shortfallPrice_5 : decode cX1_shortfallPrice 5 = .ok (.iaload, 1) := by decide +kernel
theorem dX1_shortfallPrice_6 : decode cX1_shortfallPrice 6 = .ok (.aload_n 0, 1) := by decide +kernel
theorem dX1_shortfallPrice_7 : decode cX1_shortfallPrice 7 = .ok (.getfield 17, 3) := by decide +kernel
theorem dX1_shortfallPrice_10 : decode cX1_shortfallPrice 10 = .ok (.imul, 1) := by decide +kernel
theorem dX1_shortfallPrice_11 : decode cX1_shortfallPrice 11 = .ok (.bipush 100, 2) := by decide +kernel
theorem dX1_shortfallPrice_13 : decode cX1_shortfallPrice 13 = .ok (.idiv, 1) := by decide +kernel
theorem dX1_shortfallPrice_14 : decode cX1_shortfallPrice 14 = .ok (.ireturn, 1) := by decide +kernel
set_option maxRecDepth 20000 in
theorem ggX1_settleClosedYears_X0_empty : GoodIn wsX1_settleClosedYears wsX0_empty := goodIn_r _ [9, 10, 11, 12, 13, 14, 15, 85, 86, 87] (by decide +kernel) (by decide +kernel)
set_option maxRecDepth 20000 in
theorem gX1_settleClosedYears_X0_empty : GoodIn wsX1_settleClosedYears (wsV RX1 148 RX0 yX0_empty wsX0_empty) := goodIn_app (goodIn_of _ (by decide +kernel)) ggX1_settleClosedYears_X0_empty
set_option maxRecDepth 20000 in
theorem ggX1_settleClosedYears_X0_lapseBefore : GoodIn wsX1_settleClosedYears wsX0_lapseBefore := goodIn_r _ [19, 20, 11, 10, 85, 86, 87] (by decide +kernel) (by decide +kernel)
set_option maxRecDepth 20000 in
theorem gX1_settleClosedYears_X0_lapseBefore : GoodIn wsX1_settleClosedYears (wsV RX1 151 RX0 yX0_lapseBefore wsX0_lapseBefore) := goodIn_app (goodIn_of _ (by decide +kernel)) ggX1_settleClosedYears_X0_lapseBefore
set_option maxRecDepth 20000 in
theorem ggX1_settleClosedYears_X1_leastQuantity : GoodIn wsX1_settleClosedYears wsX1_leastQuantity := goodIn_r _ [25, 26, 27, 28, 29, 68, 69, 70, 71, 72, 73, 74, 75, 76, 77, 78, 79, 80, 81, 82, 83, 84] (by decide +kernel) (by decide +kernel)
set_option maxRecDepth 20000 in
theorem gX1_settleClosedYears_X1_leastQuantity : GoodIn wsX1_settleClosedYears (wsV RX1 114 RX1 yX1_leastQuantity wsX1_leastQuantity) := goodIn_app (goodIn_of _ (by decide +kernel)) ggX1_settleClosedYears_X1_leastQuantity
set_option maxRecDepth 20000 in
theorem ggX1_settleClosedYears_X1_settleGap : GoodIn wsX1_settleClosedYears wsX1_settleGap := goodIn_r _ [33, 4, 1, 34, 35, 36, 37, 38, 39, 21, 22, 23, 24, 25, 26, 27, 28, 29, 40, 41, 42, 43, 2, 44, 45, 46, 8, 47, 10, 48, 49, 50, 51, 52, 53, 54, 55, 56, 57, 58, 59, 60, 68, 69, 70, 71, 72, 73, 74, 75, 76, 77, 78, 79, 80, 81, 82, 83, 84, 85, 86, 87] (by decide +kernel) (by decide +kernel)
set_option maxRecDepth 20000 in
theorem gX1_settleClosedYears_X1_settleGap : GoodIn wsX1_settleClosedYears (wsV RX1 154 RX1 yX1_settleGap wsX1_settleGap) := goodIn_app (goodIn_of _ (by decide +kernel)) ggX1_settleClosedYears_X1_settleGap
set_option maxRecDepth 20000 in
theorem ggX1_settleClosedYears_X1_settleEnough : GoodIn wsX1_settleClosedYears wsX1_settleEnough := goodIn_r _ [64, 4, 1, 39, 65, 66, 50, 67, 26, 2, 34, 35, 36, 37, 38, 21, 22, 23, 24, 25, 27, 28, 29, 44, 45, 46, 8, 47, 10, 48, 49, 51, 56, 57, 58, 59, 60, 52, 53, 54, 55, 68, 69, 70, 71, 72, 73, 74, 75, 76, 77, 78, 79, 80, 81, 82, 83, 84, 85, 86, 87] (by decide +kernel) (by decide +kernel)
set_option maxRecDepth 20000 in
theorem gX1_settleClosedYears_X1_settleEnough : GoodIn wsX1_settleClosedYears (wsV RX1 157 RX1 yX1_settleEnough wsX1_settleEnough) := goodIn_app (goodIn_of _ (by decide +kernel)) ggX1_settleClosedYears_X1_settleEnough
theorem dX1_settleClosedYears_0 : decode cX1_settleClosedYears 0 = .ok (.aload_n 0, 1) := by decide +kernel
theorem dX1_settleClosedYears_1 : decode cX1_settleClosedYears 1 = .ok (.getfield 44, 3) := by decide +kernel
theorem dX1_settleClosedYears_4 : decode cX1_settleClosedYears 4 = .ok (.invokevirtual 148, 3) := by decide +kernel
theorem dX1_settleClosedYears_7 : decode cX1_settleClosedYears 7 = .ok (.aload_n 0, 1) := by decide +kernel
theorem dX1_settleClosedYears_8 : decode cX1_settleClosedYears 8 = .ok (.getfield 48, 3) := by decide +kernel
theorem dX1_settleClosedYears_11 : decode cX1_settleClosedYears 11 = .ok (.invokevirtual 148, 3) := by decide +kernel
theorem dX1_settleClosedYears_14 : decode cX1_settleClosedYears 14 = .ok (.iconst 0, 1) := by decide +kernel
theorem dX1_settleClosedYears_15 : decode cX1_settleClosedYears 15 = .ok (.istore_n 1, 1) := by decide +kernel
theorem dX1_settleClosedYears_16 : decode cX1_settleClosedYears 16 = .ok (.iload_n 1, 1) := by decide +kernel
theorem dX1_settleClosedYears_17 : decode cX1_settleClosedYears 17 = .ok (.aload_n 0, 1) := by decide +kernel
theorem dX1_settleClosedYears_18 : decode cX1_settleClosedYears 18 = .ok (.getfield 103, 3) := by decide +kernel
theorem dX1_settleClosedYears_21 : decode cX1_settleClosedYears 21 = .ok (.if_icmp .ge 52, 3) := by decide +kernel
theorem dX1_settleClosedYears_24 : decode cX1_settleClosedYears 24 = .ok (.aload_n 0, 1) := by decide +kernel
theorem dX1_settleClosedYears_25 : decode cX1_settleClosedYears 25 = .ok (.getfield 44, 3) := by decide +kernel
theorem dX1_settleClosedYears_28 : decode cX1_settleClosedYears 28 = .ok (.iload_n 1, 1) := by decide +kernel
theorem dX1_settleClosedYears_29 : decode cX1_settleClosedYears 29 = .ok (.invokevirtual 151, 3) := by decide +kernel
theorem dX1_settleClosedYears_32 : decode cX1_settleClosedYears 32 = .ok (.aload_n 0, 1) := by decide +kernel
theorem dX1_settleClosedYears_33 : decode cX1_settleClosedYears 33 = .ok (.getfield 48, 3) := by decide +kernel
theorem dX1_settleClosedYears_36 : decode cX1_settleClosedYears 36 = .ok (.iload_n 1, 1) := by decide +kernel
theorem dX1_settleClosedYears_37 : decode cX1_settleClosedYears 37 = .ok (.invokevirtual 151, 3) := by decide +kernel
theorem dX1_settleClosedYears_40 : decode cX1_settleClosedYears 40 = .ok (.aload_n 0, 1) := by decide +kernel
theorem dX1_settleClosedYears_41 : decode cX1_settleClosedYears 41 = .ok (.getfield 36, 3) := by decide +kernel
theorem dX1_settleClosedYears_44 : decode cX1_settleClosedYears 44 = .ok (.iload_n 1, 1) := by decide +kernel
theorem dX1_settleClosedYears_45 : decode cX1_settleClosedYears 45 = .ok (.iaload, 1) := by decide +kernel
theorem dX1_settleClosedYears_46 : decode cX1_settleClosedYears 46 = .ok (.aload_n 0, 1) := by decide +kernel
theorem dX1_settleClosedYears_47 : decode cX1_settleClosedYears 47 = .ok (.iload_n 1, 1) := by decide +kernel
theorem dX1_settleClosedYears_48 : decode cX1_settleClosedYears 48 = .ok (.invokevirtual 114, 3) := by decide +kernel
theorem dX1_settleClosedYears_51 : decode cX1_settleClosedYears 51 = .ok (.if_icmp .ge 11, 3) := by decide +kernel
theorem dX1_settleClosedYears_54 : decode cX1_settleClosedYears 54 = .ok (.aload_n 0, 1) := by decide +kernel
theorem dX1_settleClosedYears_55 : decode cX1_settleClosedYears 55 = .ok (.iload_n 1, 1) := by decide +kernel
theorem dX1_settleClosedYears_56 : decode cX1_settleClosedYears 56 = .ok (.invokevirtual 154, 3) := by decide +kernel
theorem dX1_settleClosedYears_59 : decode cX1_settleClosedYears 59 = .ok (.goto 8, 3) := by decide +kernel
theorem dX1_settleClosedYears_62 : decode cX1_settleClosedYears 62 = .ok (.aload_n 0, 1) := by decide +kernel
theorem dX1_settleClosedYears_63 : decode cX1_settleClosedYears 63 = .ok (.iload_n 1, 1) := by decide +kernel
theorem dX1_settleClosedYears_64 : decode cX1_settleClosedYears 64 = .ok (.invokevirtual 157, 3) := by decide +kernel
theorem dX1_settleClosedYears_67 : decode cX1_settleClosedYears 67 = .ok (.iinc 1 1, 3) := by decide +kernel
theorem dX1_settleClosedYears_70 : decode cX1_settleClosedYears 70 = .ok (.goto (-54), 3) := by decide +kernel
theorem dX1_settleClosedYears_73 : decode cX1_settleClosedYears 73 = .ok (.return_, 1) := by decide +kernel
set_option maxRecDepth 20000 in
theorem ggX1_settleGap_X1_leastQuantity : GoodIn wsX1_settleGap wsX1_leastQuantity := goodIn_r _ [13, 14, 15, 16, 17, 42, 43, 44, 45, 46, 47, 48, 49, 50, 51, 52, 53, 54, 55, 56, 57, 58] (by decide +kernel) (by decide +kernel)
set_option maxRecDepth 20000 in
theorem gX1_settleGap_X1_leastQuantity : GoodIn wsX1_settleGap (wsV RX1 114 RX1 yX1_leastQuantity wsX1_leastQuantity) := goodIn_app (goodIn_of _ (by decide +kernel)) ggX1_settleGap_X1_leastQuantity
set_option maxRecDepth 20000 in
theorem ggX1_settleGap_X1_drawSurplus : GoodIn wsX1_settleGap wsX1_drawSurplus := goodIn_r _ [21, 22, 23, 24, 25, 26, 27, 28, 29, 30, 31, 32, 42, 43, 44, 45, 46, 47, 48, 49, 50, 51, 52, 53, 54, 55, 56, 57, 58, 59, 60, 61] (by decide +kernel) (by decide +kernel)
set_option maxRecDepth 20000 in
theorem gX1_settleGap_X1_drawSurplus : GoodIn wsX1_settleGap (wsV RX1 160 RX1 yX1_drawSurplus wsX1_drawSurplus) := goodIn_app (goodIn_of _ (by decide +kernel)) ggX1_settleGap_X1_drawSurplus
set_option maxRecDepth 20000 in
theorem ggX1_settleGap_X0_put : GoodIn wsX1_settleGap wsX0_put := goodIn_r _ [36, 28, 59, 60, 61] (by decide +kernel) (by decide +kernel)
set_option maxRecDepth 20000 in
theorem gX1_settleGap_X0_put : GoodIn wsX1_settleGap (wsV RX1 164 RX0 yX0_put wsX0_put) := goodIn_app (goodIn_of _ (by decide +kernel)) ggX1_settleGap_X0_put
set_option maxRecDepth 20000 in
theorem ggX1_settleGap_X1_shortfallPrice : GoodIn wsX1_settleGap wsX1_shortfallPrice := goodIn_r _ [40, 8, 41, 42, 43, 44, 45, 46, 47, 48, 49, 50, 51, 52, 53, 54, 55, 56, 57, 58] (by decide +kernel) (by decide +kernel)
set_option maxRecDepth 20000 in
theorem gX1_settleGap_X1_shortfallPrice : GoodIn wsX1_settleGap (wsV RX1 167 RX1 yX1_shortfallPrice wsX1_shortfallPrice) := goodIn_app (goodIn_of _ (by decide +kernel)) ggX1_settleGap_X1_shortfallPrice
theorem dX1_settleGap_0 : decode cX1_settleGap 0 = .ok (.aload_n 0, 1) := by decide +kernel
theorem dX1_settleGap_1 : decode cX1_settleGap 1 = .ok (.iload_n 1, 1) := by decide +kernel
theorem dX1_settleGap_2 : decode cX1_settleGap 2 = .ok (.invokevirtual 114, 3) := by decide +kernel
theorem dX1_settleGap_5 : decode cX1_settleGap 5 = .ok (.aload_n 0, 1) := by decide +kernel
theorem dX1_settleGap_6 : decode cX1_settleGap 6 = .ok (.getfield 36, 3) := by decide +kernel
theorem dX1_settleGap_9 : decode cX1_settleGap 9 = .ok (.iload_n 1, 1) := by decide +kernel
theorem dX1_settleGap_10 : decode cX1_settleGap 10 = .ok (.iaload, 1) := by decide +kernel
theorem dX1_settleGap_11 : decode cX1_settleGap 11 = .ok (.isub, 1) := by decide +kernel
theorem dX1_settleGap_12 : decode cX1_settleGap 12 = .ok (.istore_n 2, 1) := by decide +kernel
theorem dX1_settleGap_13 : decode cX1_settleGap 13 = .ok (.aload_n 0, 1) := by decide +kernel
theorem dX1_settleGap_14 : decode cX1_settleGap 14 = .ok (.iload_n 1, 1) := by decide +kernel
theorem dX1_settleGap_15 : decode cX1_settleGap 15 = .ok (.iload_n 2, 1) := by decide +kernel
theorem dX1_settleGap_16 : decode cX1_settleGap 16 = .ok (.invokevirtual 160, 3) := by decide +kernel
theorem dX1_settleGap_19 : decode cX1_settleGap 19 = .ok (.istore_n 3, 1) := by decide +kernel
theorem dX1_settleGap_20 : decode cX1_settleGap 20 = .ok (.iload_n 2, 1) := by decide +kernel
theorem dX1_settleGap_21 : decode cX1_settleGap 21 = .ok (.iload_n 3, 1) := by decide +kernel
theorem dX1_settleGap_22 : decode cX1_settleGap 22 = .ok (.isub, 1) := by decide +kernel
theorem dX1_settleGap_23 : decode cX1_settleGap 23 = .ok (.istore 4, 2) := by decide +kernel
theorem dX1_settleGap_25 : decode cX1_settleGap 25 = .ok (.aload_n 0, 1) := by decide +kernel
theorem dX1_settleGap_26 : decode cX1_settleGap 26 = .ok (.getfield 44, 3) := by decide +kernel
theorem dX1_settleGap_29 : decode cX1_settleGap 29 = .ok (.iload_n 1, 1) := by decide +kernel
theorem dX1_settleGap_30 : decode cX1_settleGap 30 = .ok (.iload 4, 2) := by decide +kernel
theorem dX1_settleGap_32 : decode cX1_settleGap 32 = .ok (.invokevirtual 164, 3) := by decide +kernel
theorem dX1_settleGap_35 : decode cX1_settleGap 35 = .ok (.aload_n 0, 1) := by decide +kernel
theorem dX1_settleGap_36 : decode cX1_settleGap 36 = .ok (.getfield 57, 3) := by decide +kernel
theorem dX1_settleGap_39 : decode cX1_settleGap 39 = .ok (.iload_n 1, 1) := by decide +kernel
theorem dX1_settleGap_40 : decode cX1_settleGap 40 = .ok (.iload_n 3, 1) := by decide +kernel
theorem dX1_settleGap_41 : decode cX1_settleGap 41 = .ok (.iastore, 1) := by decide +kernel
theorem dX1_settleGap_42 : decode cX1_settleGap 42 = .ok (.aload_n 0, 1) := by decide +kernel
theorem dX1_settleGap_43 : decode cX1_settleGap 43 = .ok (.getfield 51, 3) := by decide +kernel
theorem dX1_settleGap_46 : decode cX1_settleGap 46 = .ok (.iload_n 1, 1) := by decide +kernel
theorem dX1_settleGap_47 : decode cX1_settleGap 47 = .ok (.iload 4, 2) := by decide +kernel
theorem dX1_settleGap_49 : decode cX1_settleGap 49 = .ok (.iastore, 1) := by decide +kernel
theorem dX1_settleGap_50 : decode cX1_settleGap 50 = .ok (.aload_n 0, 1) := by decide +kernel
theorem dX1_settleGap_51 : decode cX1_settleGap 51 = .ok (.getfield 54, 3) := by decide +kernel
theorem dX1_settleGap_54 : decode cX1_settleGap 54 = .ok (.iload_n 1, 1) := by decide +kernel
theorem dX1_settleGap_55 : decode cX1_settleGap 55 = .ok (.iconst 0, 1) := by decide +kernel
theorem dX1_settleGap_56 : decode cX1_settleGap 56 = .ok (.iastore, 1) := by decide +kernel
theorem dX1_settleGap_57 : decode cX1_settleGap 57 = .ok (.aload_n 0, 1) := by decide +kernel
theorem dX1_settleGap_58 : decode cX1_settleGap 58 = .ok (.getfield 60, 3) := by decide +kernel
theorem dX1_settleGap_61 : decode cX1_settleGap 61 = .ok (.iload_n 1, 1) := by decide +kernel
theorem dX1_settleGap_62 : decode cX1_settleGap 62 = .ok (.iconst 0, 1) := by decide +kernel
theorem dX1_settleGap_63 : decode cX1_settleGap 63 = .ok (.iastore, 1) := by decide +kernel
theorem dX1_settleGap_64 : decode cX1_settleGap 64 = .ok (.aload_n 0, 1) := by decide +kernel
theorem dX1_settleGap_65 : decode cX1_settleGap 65 = .ok (.getfield 63, 3) := by decide +kernel
theorem dX1_settleGap_68 : decode cX1_settleGap 68 = .ok (.iload_n 1, 1) := by decide +kernel
theorem dX1_settleGap_69 : decode cX1_settleGap 69 = .ok (.aload_n 0, 1) := by decide +kernel
theorem dX1_settleGap_70 : decode cX1_settleGap 70 = .ok (.getfield 36, 3) := by decide +kernel
theorem dX1_settleGap_73 : decode cX1_settleGap 73 = .ok (.iload_n 1, 1) := by decide +kernel
theorem dX1_settleGap_74 : decode cX1_settleGap 74 = .ok (.iaload, 1) := by decide +kernel
theorem dX1_settleGap_75 : decode cX1_settleGap 75 = .ok (.i2l, 1) := by decide +kernel
theorem dX1_settleGap_76 : decode cX1_settleGap 76 = .ok (.aload_n 0, 1) := by decide +kernel
theorem dX1_settleGap_77 : decode cX1_settleGap 77 = .ok (.getfield 20, 3) := by decide +kernel
theorem dX1_settleGap_80 : decode cX1_settleGap 80 = .ok (.iload_n 1, 1) := by decide +kernel
theorem dX1_settleGap_81 : decode cX1_settleGap 81 = .ok (.iaload, 1) := by decide +kernel
theorem dX1_settleGap_82 : decode cX1_settleGap 82 = .ok (.i2l, 1) := by decide +kernel
theorem dX1_settleGap_83 : decode cX1_settleGap 83 = .ok (.lmul, 1) := by decide +kernel
theorem dX1_settleGap_84 : decode cX1_settleGap 84 = .ok (.iload 4, 2) := by decide +kernel
theorem dX1_settleGap_86 : decode cX1_settleGap 86 = .ok (.i2l, 1) := by decide +kernel
theorem dX1_settleGap_87 : decode cX1_settleGap 87 = .ok (.aload_n 0, 1) := by decide +kernel
theorem dX1_settleGap_88 : decode cX1_settleGap 88 = .ok (.iload_n 1, 1) := by decide +kernel
theorem dX1_settleGap_89 : decode cX1_settleGap 89 = .ok (.invokevirtual 167, 3) := by decide +kernel
theorem dX1_settleGap_92 : decode cX1_settleGap 92 = .ok (.i2l, 1) := by decide +kernel
theorem dX1_settleGap_93 : decode cX1_settleGap 93 = .ok (.lmul, 1) := by decide +kernel
theorem dX1_settleGap_94 : decode cX1_settleGap 94 = .ok (.ladd, 1) := by decide +kernel
theorem dX1_settleGap_95 : decode cX1_settleGap 95 = .ok (.lastore, 1) := by decide +kernel
theorem dX1_settleGap_96 : decode cX1_settleGap 96 = .ok (.return_, 1) := by decide +kernel
set_option maxRecDepth 20000 in
theorem ggX1_drawSurplus_X0_drawFrom : GoodIn wsX1_drawSurplus wsX0_drawFrom := goodIn_r _ [6, 7, 8, 9, 10, 11, 29, 30, 31] (by decide +kernel) (by decide +kernel)
set_option maxRecDepth 20000 in
theorem gX1_drawSurplus_X0_drawFrom : GoodIn wsX1_drawSurplus (wsV RX1 170 RX0 yX0_drawFrom wsX0_drawFrom) := goodIn_app (goodIn_of _ (by decide +kernel)) ggX1_drawSurplus_X0_drawFrom
theorem dX1_drawSurplus_0 : decode cX1_drawSurplus 0 = .ok (.iconst 0, 1) := by decide +kernel
theorem dX1_drawSurplus_1 : decode cX1_drawSurplus 1 = .ok (.istore_n 3, 1) := by decide +kernel
theorem dX1_drawSurplus_2 : decode cX1_drawSurplus 2 = .ok (.iconst 0, 1) := by decide +kernel
theorem dX1_drawSurplus_3 : decode cX1_drawSurplus 3 = .ok (.istore 4, 2) := by decide +kernel
theorem dX1_drawSurplus_5 : decode cX1_drawSurplus 5 = .ok (.iload 4, 2) := by decide +kernel
theorem dX1_drawSurplus_7 : decode cX1_drawSurplus 7 = .ok (.iload_n 1, 1) := by decide +kernel
theorem dX1_drawSurplus_8 : decode cX1_drawSurplus 8 = .ok (.if_icmp .ge 24, 3) := by decide +kernel
theorem dX1_drawSurplus_11 : decode cX1_drawSurplus 11 = .ok (.iload_n 3, 1) := by decide +kernel
theorem dX1_drawSurplus_12 : decode cX1_drawSurplus 12 = .ok (.aload_n 0, 1) := by decide +kernel
theorem dX1_drawSurplus_13 : decode cX1_drawSurplus 13 = .ok (.getfield 48, 3) := by decide +kernel
theorem dX1_drawSurplus_16 : decode cX1_drawSurplus 16 = .ok (.iload 4, 2) := by decide +kernel
theorem dX1_drawSurplus_18 : decode cX1_drawSurplus 18 = .ok (.iload_n 2, 1) := by decide +kernel
theorem dX1_drawSurplus_19 : decode cX1_drawSurplus 19 = .ok (.iload_n 3, 1) := by decide +kernel
theorem dX1_drawSurplus_20 : decode cX1_drawSurplus 20 = .ok (.isub, 1) := by decide +kernel
theorem dX1_drawSurplus_21 : decode cX1_drawSurplus 21 = .ok (.invokevirtual 170, 3) := by decide +kernel
theorem dX1_drawSurplus_24 : decode cX1_drawSurplus 24 = .ok (.iadd, 1) := by decide +kernel
theorem dX1_drawSurplus_25 : decode cX1_drawSurplus 25 = .ok (.istore_n 3, 1) := by decide +kernel
theorem dX1_drawSurplus_26 : decode cX1_drawSurplus 26 = .ok (.iinc 4 1, 3) := by decide +kernel
theorem dX1_drawSurplus_29 : decode cX1_drawSurplus 29 = .ok (.goto (-24), 3) := by decide +kernel
theorem dX1_drawSurplus_32 : decode cX1_drawSurplus 32 = .ok (.iload_n 3, 1) := by decide +kernel
theorem dX1_drawSurplus_33 : decode cX1_drawSurplus 33 = .ok (.ireturn, 1) := by decide +kernel
set_option maxRecDepth 20000 in
theorem ggX1_settleEnough_X1_leastQuantity : GoodIn wsX1_settleEnough wsX1_leastQuantity := goodIn_r _ [19, 8, 20, 21, 22, 41, 42, 43, 44, 45, 46, 47, 48, 49, 50, 51, 52, 53, 54, 55, 56, 57] (by decide +kernel) (by decide +kernel)
set_option maxRecDepth 20000 in
theorem gX1_settleEnough_X1_leastQuantity : GoodIn wsX1_settleEnough (wsV RX1 114 RX1 yX1_leastQuantity wsX1_leastQuantity) := goodIn_app (goodIn_of _ (by decide +kernel)) ggX1_settleEnough_X1_leastQuantity
set_option maxRecDepth 20000 in
theorem ggX1_settleEnough_X0_drawFrom : GoodIn wsX1_settleEnough wsX0_drawFrom := goodIn_r _ [27, 28, 29, 30, 6, 31, 58, 59, 60] (by decide +kernel) (by decide +kernel)
set_option maxRecDepth 20000 in
theorem gX1_settleEnough_X0_drawFrom : GoodIn wsX1_settleEnough (wsV RX1 170 RX0 yX0_drawFrom wsX0_drawFrom) := goodIn_app (goodIn_of _ (by decide +kernel)) ggX1_settleEnough_X0_drawFrom
set_option maxRecDepth 20000 in
theorem ggX1_settleEnough_X1_shortfallPrice : GoodIn wsX1_settleEnough wsX1_shortfallPrice := goodIn_r _ [35, 3, 36, 41, 42, 43, 44, 45, 46, 47, 48, 49, 50, 51, 52, 53, 54, 55, 56, 57] (by decide +kernel) (by decide +kernel)
set_option maxRecDepth 20000 in
theorem gX1_settleEnough_X1_shortfallPrice : GoodIn wsX1_settleEnough (wsV RX1 167 RX1 yX1_shortfallPrice wsX1_shortfallPrice) := goodIn_app (goodIn_of _ (by decide +kernel)) ggX1_settleEnough_X1_shortfallPrice
set_option maxRecDepth 20000 in
theorem ggX1_settleEnough_X0_put : GoodIn wsX1_settleEnough wsX0_put := goodIn_r _ [40, 28, 58, 59, 60] (by decide +kernel) (by decide +kernel)
set_option maxRecDepth 20000 in
theorem gX1_settleEnough_X0_put : GoodIn wsX1_settleEnough (wsV RX1 164 RX0 yX0_put wsX0_put) := goodIn_app (goodIn_of _ (by decide +kernel)) ggX1_settleEnough_X0_put
theorem dX1_settleEnough_0 : decode cX1_settleEnough 0 = .ok (.aload_n 0, 1) := by decide +kernel
theorem dX1_settleEnough_1 : decode cX1_settleEnough 1 = .ok (.getfield 36, 3) := by decide +kernel
theorem dX1_settleEnough_4 : decode cX1_settleEnough 4 = .ok (.iload_n 1, 1) := by decide +kernel
theorem dX1_settleEnough_5 : decode cX1_settleEnough 5 = .ok (.iaload, 1) := by decide +kernel
theorem dX1_settleEnough_6 : decode cX1_settleEnough 6 = .ok (.aload_n 0, 1) := by decide +kernel
theorem dX1_settleEnough_7 : decode cX1_settleEnough 7 = .ok (.iload_n 1, 1) := by decide +kernel
theorem dX1_settleEnough_8 : decode cX1_settleEnough 8 = .ok (.invokevirtual 114, 3) := by decide +kernel
theorem dX1_settleEnough_11 : decode cX1_settleEnough 11 = .ok (.isub, 1) := by decide +kernel
theorem dX1_settleEnough_12 : decode cX1_settleEnough 12 = .ok (.istore_n 2, 1) := by decide +kernel
theorem dX1_settleEnough_13 : decode cX1_settleEnough 13 = .ok (.iconst 0, 1) := by decide +kernel
theorem dX1_settleEnough_14 : decode cX1_settleEnough 14 = .ok (.istore_n 3, 1) := by decide +kernel
theorem dX1_settleEnough_15 : decode cX1_settleEnough 15 = .ok (.lconst 0, 1) := by decide +kernel
theorem dX1_settleEnough_16 : decode cX1_settleEnough 16 = .ok (.lstore 4, 2) := by decide +kernel
theorem dX1_settleEnough_18 : decode cX1_settleEnough 18 = .ok (.iconst 0, 1) := by decide +kernel
theorem dX1_settleEnough_19 : decode cX1_settleEnough 19 = .ok (.istore 6, 2) := by decide +kernel
theorem dX1_settleEnough_21 : decode cX1_settleEnough 21 = .ok (.iload 6, 2) := by decide +kernel
theorem dX1_settleEnough_23 : decode cX1_settleEnough 23 = .ok (.iload_n 1, 1) := by decide +kernel
theorem dX1_settleEnough_24 : decode cX1_settleEnough 24 = .ok (.if_icmp .ge 55, 3) := by decide +kernel
theorem dX1_settleEnough_27 : decode cX1_settleEnough 27 = .ok (.aload_n 0, 1) := by decide +kernel
theorem dX1_settleEnough_28 : decode cX1_settleEnough 28 = .ok (.getfield 44, 3) := by decide +kernel
theorem dX1_settleEnough_31 : decode cX1_settleEnough 31 = .ok (.iload 6, 2) := by decide +kernel
theorem dX1_settleEnough_33 : decode cX1_settleEnough 33 = .ok (.iload_n 2, 1) := by decide +kernel
theorem dX1_settleEnough_34 : decode cX1_settleEnough 34 = .ok (.iload_n 3, 1) := by decide +kernel
theorem dX1_settleEnough_35 : decode cX1_settleEnough 35 = .ok (.isub, 1) := by decide +kernel
theorem dX1_settleEnough_36 : decode cX1_settleEnough 36 = .ok (.invokevirtual 170, 3) := by decide +kernel
theorem dX1_settleEnough_39 : decode cX1_settleEnough 39 = .ok (.istore 7, 2) := by decide +kernel
theorem dX1_settleEnough_41 : decode cX1_settleEnough 41 = .ok (.iload_n 3, 1) := by decide +kernel
theorem dX1_settleEnough_42 : decode cX1_settleEnough 42 = .ok (.iload 7, 2) := by decide +kernel
theorem dX1_settleEnough_44 : decode cX1_settleEnough 44 = .ok (.iadd, 1) := by decide +kernel
theorem dX1_settleEnough_45 : decode cX1_settleEnough 45 = .ok (.istore_n 3, 1) := by decide +kernel
theorem dX1_settleEnough_46 : decode cX1_settleEnough 46 = .ok (.lload 4, 2) := by decide +kernel
theorem dX1_settleEnough_48 : decode cX1_settleEnough 48 = .ok (.iload 7, 2) := by decide +kernel
theorem dX1_settleEnough_50 : decode cX1_settleEnough 50 = .ok (.i2l, 1) := by decide +kernel
theorem dX1_settleEnough_51 : decode cX1_settleEnough 51 = .ok (.iconst 0, 1) := by decide +kernel
theorem dX1_settleEnough_52 : decode cX1_settleEnough 52 = .ok (.aload_n 0, 1) := by decide +kernel
theorem dX1_settleEnough_53 : decode cX1_settleEnough 53 = .ok (.getfield 20, 3) := by decide +kernel
theorem dX1_settleEnough_56 : decode cX1_settleEnough 56 = .ok (.iload_n 1, 1) := by decide +kernel
theorem dX1_settleEnough_57 : decode cX1_settleEnough 57 = .ok (.iaload, 1) := by decide +kernel
theorem dX1_settleEnough_58 : decode cX1_settleEnough 58 = .ok (.aload_n 0, 1) := by decide +kernel
theorem dX1_settleEnough_59 : decode cX1_settleEnough 59 = .ok (.iload 6, 2) := by decide +kernel
theorem dX1_settleEnough_61 : decode cX1_settleEnough 61 = .ok (.invokevirtual 167, 3) := by decide +kernel
theorem dX1_settleEnough_64 : decode cX1_settleEnough 64 = .ok (.isub, 1) := by decide +kernel
theorem dX1_settleEnough_65 : decode cX1_settleEnough 65 = .ok (.invokestatic 173, 3) := by decide +kernel
theorem dX1_settleEnough_68 : decode cX1_settleEnough 68 = .ok (.i2l, 1) := by decide +kernel
theorem dX1_settleEnough_69 : decode cX1_settleEnough 69 = .ok (.lmul, 1) := by decide +kernel
theorem dX1_settleEnough_70 : decode cX1_settleEnough 70 = .ok (.ladd, 1) := by decide +kernel
theorem dX1_settleEnough_71 : decode cX1_settleEnough 71 = .ok (.lstore 4, 2) := by decide +kernel
theorem dX1_settleEnough_73 : decode cX1_settleEnough 73 = .ok (.iinc 6 1, 3) := by decide +kernel
theorem dX1_settleEnough_76 : decode cX1_settleEnough 76 = .ok (.goto (-55), 3) := by decide +kernel
theorem dX1_settleEnough_79 : decode cX1_settleEnough 79 = .ok (.aload_n 0, 1) := by decide +kernel
theorem dX1_settleEnough_80 : decode cX1_settleEnough 80 = .ok (.getfield 36, 3) := by decide +kernel
theorem dX1_settleEnough_83 : decode cX1_settleEnough 83 = .ok (.iload_n 1, 1) := by decide +kernel
theorem dX1_settleEnough_84 : decode cX1_settleEnough 84 = .ok (.iaload, 1) := by decide +kernel
theorem dX1_settleEnough_85 : decode cX1_settleEnough 85 = .ok (.iload_n 3, 1) := by decide +kernel
theorem dX1_settleEnough_86 : decode cX1_settleEnough 86 = .ok (.isub, 1) := by decide +kernel
theorem dX1_settleEnough_87 : decode cX1_settleEnough 87 = .ok (.istore 6, 2) := by decide +kernel
theorem dX1_settleEnough_89 : decode cX1_settleEnough 89 = .ok (.iconst 0, 1) := by decide +kernel
theorem dX1_settleEnough_90 : decode cX1_settleEnough 90 = .ok (.iload 6, 2) := by decide +kernel
theorem dX1_settleEnough_92 : decode cX1_settleEnough 92 = .ok (.aload_n 0, 1) := by decide +kernel
theorem dX1_settleEnough_93 : decode cX1_settleEnough 93 = .ok (.getfield 10, 3) := by decide +kernel
theorem dX1_settleEnough_96 : decode cX1_settleEnough 96 = .ok (.isub, 1) := by decide +kernel
theorem dX1_settleEnough_97 : decode cX1_settleEnough 97 = .ok (.invokestatic 173, 3) := by decide +kernel
theorem dX1_settleEnough_100 : decode cX1_settleEnough 100 = .ok (.istore 7, 2) := by decide +kernel
theorem dX1_settleEnough_102 : decode cX1_settleEnough 102 = .ok (.aload_n 0, 1) := by decide +kernel
theorem dX1_settleEnough_103 : decode cX1_settleEnough 103 = .ok (.getfield 48, 3) := by decide +kernel
theorem dX1_settleEnough_106 : decode cX1_settleEnough 106 = .ok (.iload_n 1, 1) := by decide +kernel
theorem dX1_settleEnough_107 : decode cX1_settleEnough 107 = .ok (.iload 7, 2) := by decide +kernel
theorem dX1_settleEnough_109 : decode cX1_settleEnough 109 = .ok (.invokevirtual 164, 3) := by decide +kernel
theorem dX1_settleEnough_112 : decode cX1_settleEnough 112 = .ok (.aload_n 0, 1) := by decide +kernel
theorem dX1_settleEnough_113 : decode cX1_settleEnough 113 = .ok (.getfield 57, 3) := by decide +kernel
theorem dX1_settleEnough_116 : decode cX1_settleEnough 116 = .ok (.iload_n 1, 1) := by decide +kernel
theorem dX1_settleEnough_117 : decode cX1_settleEnough 117 = .ok (.iconst 0, 1) := by decide +kernel
theorem dX1_settleEnough_118 : decode cX1_settleEnough 118 = .ok (.iastore, 1) := by decide +kernel
theorem dX1_settleEnough_119 : decode cX1_settleEnough 119 = .ok (.aload_n 0, 1) := by decide +kernel
theorem dX1_settleEnough_120 : decode cX1_settleEnough 120 = .ok (.getfield 51, 3) := by decide +kernel
theorem dX1_settleEnough_123 : decode cX1_settleEnough 123 = .ok (.iload_n 1, 1) := by decide +kernel
theorem dX1_settleEnough_124 : decode cX1_settleEnough 124 = .ok (.iconst 0, 1) := by decide +kernel
theorem dX1_settleEnough_125 : decode cX1_settleEnough 125 = .ok (.iastore, 1) := by decide +kernel
theorem dX1_settleEnough_126 : decode cX1_settleEnough 126 = .ok (.aload_n 0, 1) := by decide +kernel
theorem dX1_settleEnough_127 : decode cX1_settleEnough 127 = .ok (.getfield 54, 3) := by decide +kernel
theorem dX1_settleEnough_130 : decode cX1_settleEnough 130 = .ok (.iload_n 1, 1) := by decide +kernel
theorem dX1_settleEnough_131 : decode cX1_settleEnough 131 = .ok (.iload_n 3, 1) := by decide +kernel
theorem dX1_settleEnough_132 : decode cX1_settleEnough 132 = .ok (.iastore, 1) := by decide +kernel
theorem dX1_settleEnough_133 : decode cX1_settleEnough 133 = .ok (.aload_n 0, 1) := by decide +kernel
theorem dX1_settleEnough_134 : decode cX1_settleEnough 134 = .ok (.getfield 60, 3) := by decide +kernel
theorem dX1_settleEnough_137 : decode cX1_settleEnough 137 = .ok (.iload_n 1, 1) := by decide +kernel
theorem dX1_settleEnough_138 : decode cX1_settleEnough 138 = .ok (.iload 7, 2) := by decide +kernel
theorem dX1_settleEnough_140 : decode cX1_settleEnough 140 = .ok (.iastore, 1) := by decide +kernel
theorem dX1_settleEnough_141 : decode cX1_settleEnough 141 = .ok (.aload_n 0, 1) := by decide +kernel
theorem dX1_settleEnough_142 : decode cX1_settleEnough 142 = .ok (.getfield 63, 3) := by decide +kernel
theorem dX1_settleEnough_145 : decode cX1_settleEnough 145 = .ok (.iload_n 1, 1) := by decide +kernel
theorem dX1_settleEnough_146 : decode cX1_settleEnough 146 = .ok (.iload 6, 2) := by decide +kernel
theorem dX1_settleEnough_148 : decode cX1_settleEnough 148 = .ok (.i2l, 1) := by decide +kernel
theorem dX1_settleEnough_149 : decode cX1_settleEnough 149 = .ok (.aload_n 0, 1) := by decide +kernel
theorem dX1_settleEnough_150 : decode cX1_settleEnough 150 = .ok (.getfield 20, 3) := by decide +kernel
theorem dX1_settleEnough_153 : decode cX1_settleEnough 153 = .ok (.iload_n 1, 1) := by decide +kernel
theorem dX1_settleEnough_154 : decode cX1_settleEnough 154 = .ok (.iaload, 1) := by decide +kernel
theorem dX1_settleEnough_155 : decode cX1_settleEnough 155 = .ok (.i2l, 1) := by decide +kernel
theorem dX1_settleEnough_156 : decode cX1_settleEnough 156 = .ok (.lmul, 1) := by decide +kernel
theorem dX1_settleEnough_157 : decode cX1_settleEnough 157 = .ok (.lload 4, 2) := by decide +kernel
theorem dX1_settleEnough_159 : decode cX1_settleEnough 159 = .ok (.ladd, 1) := by decide +kernel
theorem dX1_settleEnough_160 : decode cX1_settleEnough 160 = .ok (.lastore, 1) := by decide +kernel
theorem dX1_settleEnough_161 : decode cX1_settleEnough 161 = .ok (.return_, 1) := by decide +kernel
theorem dX1_dueInAll_0 : decode cX1_dueInAll 0 = .ok (.lconst 0, 1) := by decide +kernel
theorem dX1_dueInAll_1 : decode cX1_dueInAll 1 = .ok (.lstore_n 1, 1) := by decide +kernel
theorem dX1_dueInAll_2 : decode cX1_dueInAll 2 = .ok (.iconst 0, 1) := by decide +kernel
theorem dX1_dueInAll_3 : decode cX1_dueInAll 3 = .ok (.istore_n 3, 1) := by decide +kernel
theorem dX1_dueInAll_4 : decode cX1_dueInAll 4 = .ok (.iload_n 3, 1) := by decide +kernel
theorem dX1_dueInAll_5 : decode cX1_dueInAll 5 = .ok (.aload_n 0, 1) := by decide +kernel
theorem dX1_dueInAll_6 : decode cX1_dueInAll 6 = .ok (.getfield 103, 3) := by decide +kernel
theorem dX1_dueInAll_9 : decode cX1_dueInAll 9 = .ok (.if_icmp .ge 18, 3) := by decide +kernel
theorem dX1_dueInAll_12 : decode cX1_dueInAll 12 = .ok (.lload_n 1, 1) := by decide +kernel
theorem dX1_dueInAll_13 : decode cX1_dueInAll 13 = .ok (.aload_n 0, 1) := by decide +kernel
theorem dX1_dueInAll_14 : decode cX1_dueInAll 14 = .ok (.getfield 63, 3) := by decide +kernel
theorem dX1_dueInAll_17 : decode cX1_dueInAll 17 = .ok (.iload_n 3, 1) := by decide +kernel
theorem dX1_dueInAll_18 : decode cX1_dueInAll 18 = .ok (.laload, 1) := by decide +kernel
theorem dX1_dueInAll_19 : decode cX1_dueInAll 19 = .ok (.ladd, 1) := by decide +kernel
theorem dX1_dueInAll_20 : decode cX1_dueInAll 20 = .ok (.lstore_n 1, 1) := by decide +kernel
theorem dX1_dueInAll_21 : decode cX1_dueInAll 21 = .ok (.iinc 3 1, 3) := by decide +kernel
theorem dX1_dueInAll_24 : decode cX1_dueInAll 24 = .ok (.goto (-20), 3) := by decide +kernel
theorem dX1_dueInAll_27 : decode cX1_dueInAll 27 = .ok (.lload_n 1, 1) := by decide +kernel
theorem dX1_dueInAll_28 : decode cX1_dueInAll 28 = .ok (.lreturn, 1) := by decide +kernel
theorem dJ9_max_7cf53_0 : decode cJ9_max_7cf53 0 = .ok (.iload_n 0, 1) := by decide +kernel
theorem dJ9_max_7cf53_1 : decode cJ9_max_7cf53 1 = .ok (.iload_n 1, 1) := by decide +kernel
theorem dJ9_max_7cf53_2 : decode cJ9_max_7cf53 2 = .ok (.if_icmp .lt 7, 3) := by decide +kernel
theorem dJ9_max_7cf53_5 : decode cJ9_max_7cf53 5 = .ok (.iload_n 0, 1) := by decide +kernel
theorem dJ9_max_7cf53_6 : decode cJ9_max_7cf53 6 = .ok (.goto 4, 3) := by decide +kernel
theorem dJ9_max_7cf53_9 : decode cJ9_max_7cf53 9 = .ok (.iload_n 1, 1) := by decide +kernel
theorem dJ9_max_7cf53_10 : decode cJ9_max_7cf53 10 = .ok (.ireturn, 1) := by decide +kernel
theorem dJ9_min_7cf53_0 : decode cJ9_min_7cf53 0 = .ok (.iload_n 0, 1) := by decide +kernel
theorem dJ9_min_7cf53_1 : decode cJ9_min_7cf53 1 = .ok (.iload_n 1, 1) := by decide +kernel
theorem dJ9_min_7cf53_2 : decode cJ9_min_7cf53 2 = .ok (.if_icmp .gt 7, 3) := by decide +kernel
theorem dJ9_min_7cf53_5 : decode cJ9_min_7cf53 5 = .ok (.iload_n 0, 1) := by decide +kernel
theorem dJ9_min_7cf53_6 : decode cJ9_min_7cf53 6 = .ok (.goto 4, 3) := by decide +kernel
theorem dJ9_min_7cf53_9 : decode cJ9_min_7cf53 9 = .ok (.iload_n 1, 1) := by decide +kernel
theorem dJ9_min_7cf53_10 : decode cJ9_min_7cf53 10 = .ok (.ireturn, 1) := by decide +kernel
theorem dJ7_fill_53178_0 : decode cJ7_fill_53178 0 = .ok (.iconst 0, 1) := by decide +kernel
theorem dJ7_fill_53178_1 : decode cJ7_fill_53178 1 = .ok (.istore_n 2, 1) := by decide +kernel
theorem dJ7_fill_53178_2 : decode cJ7_fill_53178 2 = .ok (.aload_n 0, 1) := by decide +kernel
theorem dJ7_fill_53178_3 : decode cJ7_fill_53178 3 = .ok (.arraylength, 1) := by decide +kernel
theorem dJ7_fill_53178_4 : decode cJ7_fill_53178 4 = .ok (.istore_n 3, 1) := by decide +kernel
theorem dJ7_fill_53178_5 : decode cJ7_fill_53178 5 = .ok (.iload_n 2, 1) := by decide +kernel
theorem dJ7_fill_53178_6 : decode cJ7_fill_53178 6 = .ok (.iload_n 3, 1) := by decide +kernel
theorem dJ7_fill_53178_7 : decode cJ7_fill_53178 7 = .ok (.if_icmp .ge 13, 3) := by decide +kernel
theorem dJ7_fill_53178_10 : decode cJ7_fill_53178 10 = .ok (.aload_n 0, 1) := by decide +kernel
theorem dJ7_fill_53178_11 : decode cJ7_fill_53178 11 = .ok (.iload_n 2, 1) := by decide +kernel
theorem dJ7_fill_53178_12 : decode cJ7_fill_53178 12 = .ok (.iload_n 1, 1) := by decide +kernel
theorem dJ7_fill_53178_13 : decode cJ7_fill_53178 13 = .ok (.iastore, 1) := by decide +kernel
theorem dJ7_fill_53178_14 : decode cJ7_fill_53178 14 = .ok (.iinc 2 1, 3) := by decide +kernel
theorem dJ7_fill_53178_17 : decode cJ7_fill_53178 17 = .ok (.goto (-12), 3) := by decide +kernel
theorem dJ7_fill_53178_20 : decode cJ7_fill_53178 20 = .ok (.return_, 1) := by decide +kernel
theorem dL_draw_0 : decode cL_draw 0 = .ok (.iload_n 1, 1) := by decide +kernel
theorem dL_draw_1 : decode cL_draw 1 = .ok (.aload_n 0, 1) := by decide +kernel
theorem dL_draw_2 : decode cL_draw 2 = .ok (.arraylength, 1) := by decide +kernel
theorem dL_draw_3 : decode cL_draw 3 = .ok (.if_icmp .ge 12, 3) := by decide +kernel
theorem dL_draw_6 : decode cL_draw 6 = .ok (.aload_n 0, 1) := by decide +kernel
theorem dL_draw_7 : decode cL_draw 7 = .ok (.iload_n 1, 1) := by decide +kernel
theorem dL_draw_8 : decode cL_draw 8 = .ok (.iaload, 1) := by decide +kernel
theorem dL_draw_9 : decode cL_draw 9 = .ok (.ldc 7, 2) := by decide +kernel
theorem dL_draw_11 : decode cL_draw 11 = .ok (.iand, 1) := by decide +kernel
theorem dL_draw_12 : decode cL_draw 12 = .ok (.goto 12, 3) := by decide +kernel
theorem dL_draw_15 : decode cL_draw 15 = .ok (.ldc 8, 2) := by decide +kernel
theorem dL_draw_17 : decode cL_draw 17 = .ok (.iload_n 1, 1) := by decide +kernel
theorem dL_draw_18 : decode cL_draw 18 = .ok (.iconst 2, 1) := by decide +kernel
theorem dL_draw_19 : decode cL_draw 19 = .ok (.iadd, 1) := by decide +kernel
theorem dL_draw_20 : decode cL_draw 20 = .ok (.imul, 1) := by decide +kernel
theorem dL_draw_21 : decode cL_draw 21 = .ok (.ldc 9, 2) := by decide +kernel
theorem dL_draw_23 : decode cL_draw 23 = .ok (.irem, 1) := by decide +kernel
theorem dL_draw_24 : decode cL_draw 24 = .ok (.ireturn, 1) := by decide +kernel
set_option maxRecDepth 20000 in
theorem ggL_step_X1_closed : GoodIn wsL_step wsX1_closed := goodIn_r _ [8, 9, 187, 188, 189, 190, 191, 192, 193, 194, 195, 196, 197, 198, 199, 200, 201, 202, 203] (by decide +kernel) (by decide +kernel)
set_option maxRecDepth 20000 in
theorem gL_step_X1_closed : GoodIn wsL_step (wsV RL 10 RX1 yX1_closed wsX1_closed) := goodIn_app (goodIn_of _ (by decide +kernel)) ggL_step_X1_closed
set_option maxRecDepth 20000 in
theorem ggL_step_X1_set : GoodIn wsL_step wsX1_set := goodIn_ca (goodIn_ca (goodIn_r _ [13, 14, 15, 16, 17, 18, 19, 20, 21, 7, 22, 23, 24, 25, 26, 27, 28, 29, 30, 9, 31, 32, 33, 34, 35, 36, 37, 187, 188, 189, 190, 191, 192, 193, 194, 195, 196, 197, 198, 199, 200, 201, 202, 203, 204, 205, 206] (by decide +kernel) (by decide +kernel)) (goodIn_sub (fun _ h => List.mem_cons_of_mem _ (List.mem_append_left _ (List.mem_append_right _ h))) (by decide +kernel))) (goodIn_sub (fun _ h => List.mem_cons_of_mem _ (List.mem_append_right _ h)) (by decide +kernel))
set_option maxRecDepth 20000 in
theorem gL_step_X1_set : GoodIn wsL_step (wsV RL 17 RX1 yX1_set wsX1_set) := goodIn_app (goodIn_of _ (by decide +kernel)) ggL_step_X1_set
set_option maxRecDepth 20000 in
theorem ggL_step_X1_least : GoodIn wsL_step wsX1_least := goodIn_ca (goodIn_r _ [41, 42, 43, 7, 44, 20, 21, 22, 23, 24, 45, 46, 47, 48, 15, 16, 49, 50, 187, 188, 189, 190, 191, 192, 193, 194, 195, 196, 197, 198, 199, 200, 201, 202, 203] (by decide +kernel) (by decide +kernel)) (goodIn_sub (fun _ h => List.mem_cons_of_mem _ (List.mem_append_left _ (List.mem_append_right _ h))) (by decide +kernel))
set_option maxRecDepth 20000 in
theorem gL_step_X1_least : GoodIn wsL_step (wsV RL 21 RX1 yX1_least wsX1_least) := goodIn_app (goodIn_of _ (by decide +kernel)) ggL_step_X1_least
set_option maxRecDepth 20000 in
theorem ggL_step_X1_price : GoodIn wsL_step wsX1_price := goodIn_ca (goodIn_r _ [54, 55, 42, 43, 7, 44, 20, 21, 22, 23, 24, 187, 188, 189, 190, 191, 192, 193, 194, 195, 196, 197, 198, 199, 200, 201, 202, 203] (by decide +kernel) (by decide +kernel)) (goodIn_sub (fun _ h => List.mem_cons_of_mem _ (List.mem_append_left _ (List.mem_append_right _ h))) (by decide +kernel))
set_option maxRecDepth 20000 in
theorem gL_step_X1_price : GoodIn wsL_step (wsV RL 27 RX1 yX1_price wsX1_price) := goodIn_app (goodIn_of _ (by decide +kernel)) ggL_step_X1_price
set_option maxRecDepth 20000 in
theorem ggL_step_X1_review : GoodIn wsL_step wsX1_review := goodIn_ca (goodIn_r _ [59, 55, 42, 43, 7, 44, 20, 21, 22, 23, 24, 60, 61, 62, 63, 18, 19, 9, 31, 64, 65, 66, 35, 67, 68, 69, 70, 71, 72, 73, 74, 75, 76, 77, 37, 45, 46, 47, 48, 15, 16, 49, 50, 78, 79, 80, 81, 82, 83, 84, 85, 86, 87, 88, 89, 90, 91, 92, 93, 94, 95, 96, 97, 98, 99, 100, 101, 102, 103, 104, 105, 106, 17, 107, 108, 109, 110, 111, 112, 113, 187, 188, 189, 190, 191, 192, 193, 194, 195, 196, 197, 198, 199, 200, 201, 202, 203, 204, 205, 206] (by decide +kernel) (by decide +kernel)) (goodIn_sub (fun _ h => List.mem_cons_of_mem _ (List.mem_append_left _ (List.mem_append_right _ h))) (by decide +kernel))
set_option maxRecDepth 20000 in
theorem gL_step_X1_review : GoodIn wsL_step (wsV RL 30 RX1 yX1_review wsX1_review) := goodIn_app (goodIn_of _ (by decide +kernel)) ggL_step_X1_review
set_option maxRecDepth 20000 in
theorem ggL_step_X1_excuse : GoodIn wsL_step wsX1_excuse := goodIn_ca (goodIn_r _ [117, 49, 42, 43, 7, 44, 20, 21, 22, 23, 24, 60, 61, 62, 63, 18, 19, 9, 31, 64, 65, 66, 35, 67, 68, 69, 70, 71, 72, 73, 74, 75, 76, 77, 37, 45, 46, 47, 48, 15, 16, 50, 78, 79, 80, 81, 82, 83, 84, 85, 86, 55, 87, 88, 89, 90, 91, 92, 93, 94, 95, 96, 97, 98, 99, 100, 101, 102, 103, 104, 105, 106, 17, 107, 108, 109, 110, 111, 112, 113, 187, 188, 189, 190, 191, 192, 193, 194, 195, 196, 197, 198, 199, 200, 201, 202, 203, 204, 205, 206] (by decide +kernel) (by decide +kernel)) (goodIn_sub (fun _ h => List.mem_cons_of_mem _ (List.mem_append_left _ (List.mem_append_right _ h))) (by decide +kernel))
set_option maxRecDepth 20000 in
theorem gL_step_X1_excuse : GoodIn wsL_step (wsV RL 34 RX1 yX1_excuse wsX1_excuse) := goodIn_app (goodIn_of _ (by decide +kernel)) ggL_step_X1_excuse
set_option maxRecDepth 20000 in
theorem ggL_step_L_takes : GoodIn wsL_step wsL_takes := goodIn_ca (goodIn_ca (goodIn_r _ [121, 122, 123, 124, 7, 125, 126, 127, 128, 129, 130, 131, 132, 20, 21, 22, 23, 24, 133, 134, 135, 136, 31, 42, 43, 44, 137, 138, 139, 140, 141, 142, 143, 144, 29, 30, 9, 145, 146, 147, 148, 149, 150, 151, 152, 153, 154, 155, 156, 187, 188, 189, 190, 191, 192, 193, 194, 195, 196, 197, 198, 199, 200, 201, 202, 203] (by decide +kernel) (by decide +kernel)) (goodIn_sub (fun _ h => List.mem_cons_of_mem _ (List.mem_append_left _ (List.mem_append_right _ h))) (by decide +kernel))) (goodIn_sub (fun _ h => List.mem_cons_of_mem _ (List.mem_append_right _ h)) (by decide +kernel))
set_option maxRecDepth 20000 in
theorem gL_step_L_takes : GoodIn wsL_step (va_wsS RL 39 yL_takes wsL_takes) := goodIn_app (goodIn_of _ (by decide +kernel)) ggL_step_L_takes
set_option maxRecDepth 20000 in
theorem ggL_step_X1_taken : GoodIn wsL_step wsX1_taken := goodIn_ca (goodIn_r _ [136, 31, 42, 43, 7, 44, 20, 21, 22, 23, 24, 187, 188, 189, 190, 191, 192, 193, 194, 195, 196, 197, 198, 199, 200, 201, 202, 203] (by decide +kernel) (by decide +kernel)) (goodIn_sub (fun _ h => List.mem_cons_of_mem _ (List.mem_append_left _ (List.mem_append_right _ h))) (by decide +kernel))
set_option maxRecDepth 20000 in
theorem gL_step_X1_taken : GoodIn wsL_step (wsV RL 45 RX1 yX1_taken wsX1_taken) := goodIn_app (goodIn_of _ (by decide +kernel)) ggL_step_X1_taken
set_option maxRecDepth 20000 in
theorem ggL_step_X1_takenFrom : GoodIn wsL_step wsX1_takenFrom := goodIn_ca (goodIn_r _ [125, 126, 127, 128, 7, 129, 130, 131, 132, 20, 21, 22, 23, 24, 187, 188, 189, 190, 191, 192, 193, 194, 195, 196, 197, 198, 199, 200, 201, 202, 203] (by decide +kernel) (by decide +kernel)) (goodIn_sub (fun _ h => List.mem_cons_of_mem _ (List.mem_append_left _ (List.mem_append_right _ h))) (by decide +kernel))
set_option maxRecDepth 20000 in
theorem gL_step_X1_takenFrom : GoodIn wsL_step (wsV RL 48 RX1 yX1_takenFrom wsX1_takenFrom) := goodIn_app (goodIn_of _ (by decide +kernel)) ggL_step_X1_takenFrom
set_option maxRecDepth 20000 in
theorem ggL_step_L_closes : GoodIn wsL_step wsL_closes := goodIn_ca (goodIn_ca (goodIn_r _ [159, 160, 161, 162, 7, 163, 164, 165, 166, 167, 168, 9, 86, 169, 170, 171, 172, 126, 173, 141, 142, 143, 144, 29, 30, 174, 71, 72, 73, 60, 61, 62, 63, 18, 19, 31, 64, 65, 66, 35, 67, 68, 69, 70, 74, 75, 76, 77, 37, 45, 46, 47, 48, 15, 16, 49, 50, 78, 79, 80, 81, 82, 83, 84, 85, 55, 87, 88, 89, 90, 91, 92, 93, 94, 95, 96, 97, 98, 99, 100, 101, 102, 103, 104, 105, 106, 17, 107, 108, 109, 110, 111, 112, 113, 4, 5, 6, 8, 175, 176, 177, 178, 179, 180, 181, 182, 42, 43, 44, 20, 21, 22, 23, 24, 183, 184, 185, 186, 122, 123, 124, 125, 127, 128, 129, 130, 131, 132, 187, 188, 189, 190, 191, 192, 193, 194, 195, 196, 197, 198, 199, 200, 201, 202, 203, 204, 205, 206] (by decide +kernel) (by decide +kernel)) (goodIn_sub (fun _ h => List.mem_cons_of_mem _ (List.mem_append_right _ h)) (by decide +kernel))) (goodIn_sub (fun _ h => List.mem_cons_of_mem _ (List.mem_append_left _ (List.mem_append_right _ h))) (by decide +kernel))
set_option maxRecDepth 20000 in
theorem gL_step_L_closes : GoodIn wsL_step (va_wsS RL 51 yL_closes wsL_closes) := goodIn_app (goodIn_of _ (by decide +kernel)) ggL_step_L_closes
theorem dL_step_0 : decode cL_step 0 = .ok (.iload_n 3, 1) := by decide +kernel
theorem dL_step_1 : decode cL_step 1 = .ok (.bipush 20, 2) := by decide +kernel
theorem dL_step_3 : decode cL_step 3 = .ok (.irem, 1) := by decide +kernel
theorem dL_step_4 : decode cL_step 4 = .ok (.istore 5, 2) := by decide +kernel
theorem dL_step_6 : decode cL_step 6 = .ok (.iload_n 2, 1) := by decide +kernel
theorem dL_step_7 : decode cL_step 7 = .ok (.bipush 12, 2) := by decide +kernel
theorem dL_step_9 : decode cL_step 9 = .ok (.irem, 1) := by decide +kernel
theorem dL_step_10 : decode cL_step 10 = .ok (.tableswitch 478 0 7 #[46, 193, 280, 349, 349, 349, 389, 409], 46) := by decide +kernel
theorem dL_step_56 : decode cL_step 56 = .ok (.aload_n 1, 1) := by decide +kernel
theorem dL_step_57 : decode cL_step 57 = .ok (.iconst 5, 1) := by decide +kernel
theorem dL_step_58 : decode cL_step 58 = .ok (.iaload, 1) := by decide +kernel
theorem dL_step_59 : decode cL_step 59 = .ok (.ifCond .gt 10, 3) := by decide +kernel
theorem dL_step_62 : decode cL_step 62 = .ok (.aload_n 1, 1) := by decide +kernel
theorem dL_step_63 : decode cL_step 63 = .ok (.bipush 6, 2) := by decide +kernel
theorem dL_step_65 : decode cL_step 65 = .ok (.iaload, 1) := by decide +kernel
theorem dL_step_66 : decode cL_step 66 = .ok (.ifCond .le 19, 3) := by decide +kernel
theorem dL_step_69 : decode cL_step 69 = .ok (.aload_n 0, 1) := by decide +kernel
theorem dL_step_70 : decode cL_step 70 = .ok (.invokevirtual 10, 3) := by decide +kernel
theorem dL_step_73 : decode cL_step 73 = .ok (.aload_n 1, 1) := by decide +kernel
theorem dL_step_74 : decode cL_step 74 = .ok (.iconst 5, 1) := by decide +kernel
theorem dL_step_75 : decode cL_step 75 = .ok (.iaload, 1) := by decide +kernel
theorem dL_step_76 : decode cL_step 76 = .ok (.if_icmp .ne 7, 3) := by decide +kernel
theorem dL_step_79 : decode cL_step 79 = .ok (.iconst 1, 1) := by decide +kernel
theorem dL_step_80 : decode cL_step 80 = .ok (.goto 4, 3) := by decide +kernel
theorem dL_step_83 : decode cL_step 83 = .ok (.iconst 0, 1) := by decide +kernel
theorem dL_step_84 : decode cL_step 84 = .ok (.ireturn, 1) := by decide +kernel
theorem dL_step_85 : decode cL_step 85 = .ok (.aload_n 1, 1) := by decide +kernel
theorem dL_step_86 : decode cL_step 86 = .ok (.iconst 0, 1) := by decide +kernel
theorem dL_step_87 : decode cL_step 87 = .ok (.iconst 1, 1) := by decide +kernel
theorem dL_step_88 : decode cL_step 88 = .ok (.iload_n 3, 1) := by decide +kernel
theorem dL_step_89 : decode cL_step 89 = .ok (.iload 4, 2) := by decide +kernel
theorem dL_step_91 : decode cL_step 91 = .ok (.iconst 2, 1) := by decide +kernel
theorem dL_step_92 : decode cL_step 92 = .ok (.irem, 1) := by decide +kernel
theorem dL_step_93 : decode cL_step 93 = .ok (.ifCond .ne 8, 3) := by decide +kernel
theorem dL_step_96 : decode cL_step 96 = .ok (.ldc 16, 2) := by decide +kernel
theorem dL_step_98 : decode cL_step 98 = .ok (.goto 6, 3) := by decide +kernel
theorem dL_step_101 : decode cL_step 101 = .ok (.sipush 4000, 3) := by decide +kernel
theorem dL_step_104 : decode cL_step 104 = .ok (.irem, 1) := by decide +kernel
theorem dL_step_105 : decode cL_step 105 = .ok (.iadd, 1) := by decide +kernel
theorem dL_step_106 : decode cL_step 106 = .ok (.iastore, 1) := by decide +kernel
theorem dL_step_107 : decode cL_step 107 = .ok (.aload_n 1, 1) := by decide +kernel
theorem dL_step_108 : decode cL_step 108 = .ok (.iconst 1, 1) := by decide +kernel
theorem dL_step_109 : decode cL_step 109 = .ok (.iload 4, 2) := by decide +kernel
theorem dL_step_111 : decode cL_step 111 = .ok (.iconst 2, 1) := by decide +kernel
theorem dL_step_112 : decode cL_step 112 = .ok (.idiv, 1) := by decide +kernel
theorem dL_step_113 : decode cL_step 113 = .ok (.bipush 101, 2) := by decide +kernel
theorem dL_step_115 : decode cL_step 115 = .ok (.irem, 1) := by decide +kernel
theorem dL_step_116 : decode cL_step 116 = .ok (.iastore, 1) := by decide +kernel
theorem dL_step_117 : decode cL_step 117 = .ok (.aload_n 1, 1) := by decide +kernel
theorem dL_step_118 : decode cL_step 118 = .ok (.iconst 2, 1) := by decide +kernel
theorem dL_step_119 : decode cL_step 119 = .ok (.iload 4, 2) := by decide +kernel
theorem dL_step_121 : decode cL_step 121 = .ok (.sipush 202, 3) := by decide +kernel
theorem dL_step_124 : decode cL_step 124 = .ok (.idiv, 1) := by decide +kernel
theorem dL_step_125 : decode cL_step 125 = .ok (.bipush 101, 2) := by decide +kernel
theorem dL_step_127 : decode cL_step 127 = .ok (.irem, 1) := by decide +kernel
theorem dL_step_128 : decode cL_step 128 = .ok (.iastore, 1) := by decide +kernel
theorem dL_step_129 : decode cL_step 129 = .ok (.aload_n 1, 1) := by decide +kernel
theorem dL_step_130 : decode cL_step 130 = .ok (.iconst 3, 1) := by decide +kernel
theorem dL_step_131 : decode cL_step 131 = .ok (.iconst 1, 1) := by decide +kernel
theorem dL_step_132 : decode cL_step 132 = .ok (.iload_n 3, 1) := by decide +kernel
theorem dL_step_133 : decode cL_step 133 = .ok (.iconst 5, 1) := by decide +kernel
theorem dL_step_134 : decode cL_step 134 = .ok (.irem, 1) := by decide +kernel
theorem dL_step_135 : decode cL_step 135 = .ok (.iadd, 1) := by decide +kernel
theorem dL_step_136 : decode cL_step 136 = .ok (.iastore, 1) := by decide +kernel
theorem dL_step_137 : decode cL_step 137 = .ok (.aload_n 1, 1) := by decide +kernel
theorem dL_step_138 : decode cL_step 138 = .ok (.iconst 4, 1) := by decide +kernel
theorem dL_step_139 : decode cL_step 139 = .ok (.iconst 1, 1) := by decide +kernel
theorem dL_step_140 : decode cL_step 140 = .ok (.iload 4, 2) := by decide +kernel
theorem dL_step_142 : decode cL_step 142 = .ok (.iconst 5, 1) := by decide +kernel
theorem dL_step_143 : decode cL_step 143 = .ok (.irem, 1) := by decide +kernel
theorem dL_step_144 : decode cL_step 144 = .ok (.iadd, 1) := by decide +kernel
theorem dL_step_145 : decode cL_step 145 = .ok (.iastore, 1) := by decide +kernel
theorem dL_step_146 : decode cL_step 146 = .ok (.aload_n 0, 1) := by decide +kernel
theorem dL_step_147 : decode cL_step 147 = .ok (.aload_n 1, 1) := by decide +kernel
theorem dL_step_148 : decode cL_step 148 = .ok (.iconst 0, 1) := by decide +kernel
theorem dL_step_149 : decode cL_step 149 = .ok (.iaload, 1) := by decide +kernel
theorem dL_step_150 : decode cL_step 150 = .ok (.aload_n 1, 1) := by decide +kernel
theorem dL_step_151 : decode cL_step 151 = .ok (.iconst 1, 1) := by decide +kernel
theorem dL_step_152 : decode cL_step 152 = .ok (.iaload, 1) := by decide +kernel
theorem dL_step_153 : decode cL_step 153 = .ok (.aload_n 1, 1) := by decide +kernel
theorem dL_step_154 : decode cL_step 154 = .ok (.iconst 2, 1) := by decide +kernel
theorem dL_step_155 : decode cL_step 155 = .ok (.iaload, 1) := by decide +kernel
theorem dL_step_156 : decode cL_step 156 = .ok (.aload_n 1, 1) := by decide +kernel
theorem dL_step_157 : decode cL_step 157 = .ok (.iconst 3, 1) := by decide +kernel
theorem dL_step_158 : decode cL_step 158 = .ok (.iaload, 1) := by decide +kernel
theorem dL_step_159 : decode cL_step 159 = .ok (.aload_n 1, 1) := by decide +kernel
theorem dL_step_160 : decode cL_step 160 = .ok (.iconst 4, 1) := by decide +kernel
theorem dL_step_161 : decode cL_step 161 = .ok (.iaload, 1) := by decide +kernel
theorem dL_step_162 : decode cL_step 162 = .ok (.invokevirtual 17, 3) := by decide +kernel
theorem dL_step_165 : decode cL_step 165 = .ok (.aload_n 0, 1) := by decide +kernel
theorem dL_step_166 : decode cL_step 166 = .ok (.iload 5, 2) := by decide +kernel
theorem dL_step_168 : decode cL_step 168 = .ok (.invokevirtual 21, 3) := by decide +kernel
theorem dL_step_171 : decode cL_step 171 = .ok (.ifCond .lt 30, 3) := by decide +kernel
theorem dL_step_174 : decode cL_step 174 = .ok (.aload_n 0, 1) := by decide +kernel
theorem dL_step_175 : decode cL_step 175 = .ok (.iload 5, 2) := by decide +kernel
theorem dL_step_177 : decode cL_step 177 = .ok (.invokevirtual 21, 3) := by decide +kernel
theorem dL_step_180 : decode cL_step 180 = .ok (.aload_n 1, 1) := by decide +kernel
theorem dL_step_181 : decode cL_step 181 = .ok (.iconst 0, 1) := by decide +kernel
theorem dL_step_182 : decode cL_step 182 = .ok (.iaload, 1) := by decide +kernel
theorem dL_step_183 : decode cL_step 183 = .ok (.i2l, 1) := by decide +kernel
theorem dL_step_184 : decode cL_step 184 = .ok (.aload_n 1, 1) := by decide +kernel
theorem dL_step_185 : decode cL_step 185 = .ok (.iconst 1, 1) := by decide +kernel
theorem dL_step_186 : decode cL_step 186 = .ok (.iaload, 1) := by decide +kernel
theorem dL_step_187 : decode cL_step 187 = .ok (.i2l, 1) := by decide +kernel
theorem dL_step_188 : decode cL_step 188 = .ok (.lmul, 1) := by decide +kernel
theorem dL_step_189 : decode cL_step 189 = .ok (.ldc2_w 25, 3) := by decide +kernel
theorem dL_step_192 : decode cL_step 192 = .ok (.ldiv, 1) := by decide +kernel
theorem dL_step_193 : decode cL_step 193 = .ok (.l2i, 1) := by decide +kernel
theorem dL_step_194 : decode cL_step 194 = .ok (.if_icmp .gt 7, 3) := by decide +kernel
theorem dL_step_197 : decode cL_step 197 = .ok (.iconst 1, 1) := by decide +kernel
theorem dL_step_198 : decode cL_step 198 = .ok (.goto 4, 3) := by decide +kernel
theorem dL_step_201 : decode cL_step 201 = .ok (.iconst 0, 1) := by decide +kernel
theorem dL_step_202 : decode cL_step 202 = .ok (.ireturn, 1) := by decide +kernel
theorem dL_step_203 : decode cL_step 203 = .ok (.iconst 1, 1) := by decide +kernel
theorem dL_step_204 : decode cL_step 204 = .ok (.iload 4, 2) := by decide +kernel
theorem dL_step_206 : decode cL_step 206 = .ok (.sipush 1000, 3) := by decide +kernel
theorem dL_step_209 : decode cL_step 209 = .ok (.irem, 1) := by decide +kernel
theorem dL_step_210 : decode cL_step 210 = .ok (.iadd, 1) := by decide +kernel
theorem dL_step_211 : decode cL_step 211 = .ok (.istore 6, 2) := by decide +kernel
theorem dL_step_213 : decode cL_step 213 = .ok (.aload_n 0, 1) := by decide +kernel
theorem dL_step_214 : decode cL_step 214 = .ok (.iload 5, 2) := by decide +kernel
theorem dL_step_216 : decode cL_step 216 = .ok (.invokevirtual 27, 3) := by decide +kernel
theorem dL_step_219 : decode cL_step 219 = .ok (.istore 7, 2) := by decide +kernel
theorem dL_step_221 : decode cL_step 221 = .ok (.aload_n 0, 1) := by decide +kernel
theorem dL_step_222 : decode cL_step 222 = .ok (.iload 5, 2) := by decide +kernel
theorem dL_step_224 : decode cL_step 224 = .ok (.iload 6, 2) := by decide +kernel
theorem dL_step_226 : decode cL_step 226 = .ok (.invokevirtual 30, 3) := by decide +kernel
theorem dL_step_229 : decode cL_step 229 = .ok (.iload 7, 2) := by decide +kernel
theorem dL_step_231 : decode cL_step 231 = .ok (.if_icmp .ne 7, 3) := by decide +kernel
theorem dL_step_234 : decode cL_step 234 = .ok (.iconst 1, 1) := by decide +kernel
theorem dL_step_235 : decode cL_step 235 = .ok (.goto 4, 3) := by decide +kernel
theorem dL_step_238 : decode cL_step 238 = .ok (.iconst 0, 1) := by decide +kernel
theorem dL_step_239 : decode cL_step 239 = .ok (.istore 8, 2) := by decide +kernel
theorem dL_step_241 : decode cL_step 241 = .ok (.iconst 0, 1) := by decide +kernel
theorem dL_step_242 : decode cL_step 242 = .ok (.istore 9, 2) := by decide +kernel
theorem dL_step_244 : decode cL_step 244 = .ok (.iload 9, 2) := by decide +kernel
theorem dL_step_246 : decode cL_step 246 = .ok (.bipush 20, 2) := by decide +kernel
theorem dL_step_248 : decode cL_step 248 = .ok (.if_icmp .ge 39, 3) := by decide +kernel
theorem dL_step_251 : decode cL_step 251 = .ok (.iload 8, 2) := by decide +kernel
theorem dL_step_253 : decode cL_step 253 = .ok (.ifCond .eq 25, 3) := by decide +kernel
theorem dL_step_256 : decode cL_step 256 = .ok (.iload 9, 2) := by decide +kernel
theorem dL_step_258 : decode cL_step 258 = .ok (.iload 5, 2) := by decide +kernel
theorem dL_step_260 : decode cL_step 260 = .ok (.if_icmp .lt 14, 3) := by decide +kernel
theorem dL_step_263 : decode cL_step 263 = .ok (.aload_n 0, 1) := by decide +kernel
theorem dL_step_264 : decode cL_step 264 = .ok (.iload 9, 2) := by decide +kernel
theorem dL_step_266 : decode cL_step 266 = .ok (.invokevirtual 27, 3) := by decide +kernel
theorem dL_step_269 : decode cL_step 269 = .ok (.iload 6, 2) := by decide +kernel
theorem dL_step_271 : decode cL_step 271 = .ok (.if_icmp .ne 7, 3) := by decide +kernel
theorem dL_step_274 : decode cL_step 274 = .ok (.iconst 1, 1) := by decide +kernel
theorem dL_step_275 : decode cL_step 275 = .ok (.goto 4, 3) := by decide +kernel
theorem dL_step_278 : decode cL_step 278 = .ok (.iconst 0, 1) := by decide +kernel
theorem dL_step_279 : decode cL_step 279 = .ok (.istore 8, 2) := by decide +kernel
theorem dL_step_281 : decode cL_step 281 = .ok (.iinc 9 1, 3) := by decide +kernel
theorem dL_step_284 : decode cL_step 284 = .ok (.goto (-40), 3) := by decide +kernel
theorem dL_step_287 : decode cL_step 287 = .ok (.iload 8, 2) := by decide +kernel
theorem dL_step_289 : decode cL_step 289 = .ok (.ireturn, 1) := by decide +kernel
theorem dL_step_290 : decode cL_step 290 = .ok (.iload 4, 2) := by decide +kernel
theorem dL_step_292 : decode cL_step 292 = .ok (.sipush 361, 3) := by decide +kernel
theorem dL_step_295 : decode cL_step 295 = .ok (.irem, 1) := by decide +kernel
theorem dL_step_296 : decode cL_step 296 = .ok (.istore 9, 2) := by decide +kernel
theorem dL_step_298 : decode cL_step 298 = .ok (.aload_n 0, 1) := by decide +kernel
theorem dL_step_299 : decode cL_step 299 = .ok (.iload 5, 2) := by decide +kernel
theorem dL_step_301 : decode cL_step 301 = .ok (.iload 9, 2) := by decide +kernel
theorem dL_step_303 : decode cL_step 303 = .ok (.invokevirtual 34, 3) := by decide +kernel
theorem dL_step_306 : decode cL_step 306 = .ok (.ifCond .lt 51, 3) := by decide +kernel
theorem dL_step_309 : decode cL_step 309 = .ok (.aload_n 0, 1) := by decide +kernel
theorem dL_step_310 : decode cL_step 310 = .ok (.iload 5, 2) := by decide +kernel
theorem dL_step_312 : decode cL_step 312 = .ok (.iload 9, 2) := by decide +kernel
theorem dL_step_314 : decode cL_step 314 = .ok (.invokevirtual 34, 3) := by decide +kernel
theorem dL_step_317 : decode cL_step 317 = .ok (.iload 9, 2) := by decide +kernel
theorem dL_step_319 : decode cL_step 319 = .ok (.if_icmp .ne 38, 3) := by decide +kernel
theorem dL_step_322 : decode cL_step 322 = .ok (.aload_n 0, 1) := by decide +kernel
theorem dL_step_323 : decode cL_step 323 = .ok (.iload 5, 2) := by decide +kernel
theorem dL_step_325 : decode cL_step 325 = .ok (.invokevirtual 21, 3) := by decide +kernel
theorem dL_step_328 : decode cL_step 328 = .ok (.aload_n 1, 1) := by decide +kernel
theorem dL_step_329 : decode cL_step 329 = .ok (.iconst 0, 1) := by decide +kernel
theorem dL_step_330 : decode cL_step 330 = .ok (.iaload, 1) := by decide +kernel
theorem dL_step_331 : decode cL_step 331 = .ok (.i2l, 1) := by decide +kernel
theorem dL_step_332 : decode cL_step 332 = .ok (.aload_n 1, 1) := by decide +kernel
theorem dL_step_333 : decode cL_step 333 = .ok (.iconst 1, 1) := by decide +kernel
theorem dL_step_334 : decode cL_step 334 = .ok (.iaload, 1) := by decide +kernel
theorem dL_step_335 : decode cL_step 335 = .ok (.i2l, 1) := by decide +kernel
theorem dL_step_336 : decode cL_step 336 = .ok (.lmul, 1) := by decide +kernel
theorem dL_step_337 : decode cL_step 337 = .ok (.sipush 360, 3) := by decide +kernel
theorem dL_step_340 : decode cL_step 340 = .ok (.iload 9, 2) := by decide +kernel
theorem dL_step_342 : decode cL_step 342 = .ok (.isub, 1) := by decide +kernel
theorem dL_step_343 : decode cL_step 343 = .ok (.i2l, 1) := by decide +kernel
theorem dL_step_344 : decode cL_step 344 = .ok (.lmul, 1) := by decide +kernel
theorem dL_step_345 : decode cL_step 345 = .ok (.ldc2_w 37, 3) := by decide +kernel
theorem dL_step_348 : decode cL_step 348 = .ok (.ldiv, 1) := by decide +kernel
theorem dL_step_349 : decode cL_step 349 = .ok (.l2i, 1) := by decide +kernel
theorem dL_step_350 : decode cL_step 350 = .ok (.if_icmp .ne 7, 3) := by decide +kernel
theorem dL_step_353 : decode cL_step 353 = .ok (.iconst 1, 1) := by decide +kernel
theorem dL_step_354 : decode cL_step 354 = .ok (.goto 4, 3) := by decide +kernel
theorem dL_step_357 : decode cL_step 357 = .ok (.iconst 0, 1) := by decide +kernel
theorem dL_step_358 : decode cL_step 358 = .ok (.ireturn, 1) := by decide +kernel
theorem dL_step_359 : decode cL_step 359 = .ok (.aload_n 0, 1) := by decide +kernel
theorem dL_step_360 : decode cL_step 360 = .ok (.aload_n 1, 1) := by decide +kernel
theorem dL_step_361 : decode cL_step 361 = .ok (.iload_n 3, 1) := by decide +kernel
theorem dL_step_362 : decode cL_step 362 = .ok (.sipush 360, 3) := by decide +kernel
theorem dL_step_365 : decode cL_step 365 = .ok (.irem, 1) := by decide +kernel
theorem dL_step_366 : decode cL_step 366 = .ok (.iload_n 3, 1) := by decide +kernel
theorem dL_step_367 : decode cL_step 367 = .ok (.sipush 360, 3) := by decide +kernel
theorem dL_step_370 : decode cL_step 370 = .ok (.idiv, 1) := by decide +kernel
theorem dL_step_371 : decode cL_step 371 = .ok (.sipush 360, 3) := by decide +kernel
theorem dL_step_374 : decode cL_step 374 = .ok (.irem, 1) := by decide +kernel
theorem dL_step_375 : decode cL_step 375 = .ok (.iconst 1, 1) := by decide +kernel
theorem dL_step_376 : decode cL_step 376 = .ok (.iload 4, 2) := by decide +kernel
theorem dL_step_378 : decode cL_step 378 = .ok (.iload 4, 2) := by decide +kernel
theorem dL_step_380 : decode cL_step 380 = .ok (.iconst 3, 1) := by decide +kernel
theorem dL_step_381 : decode cL_step 381 = .ok (.irem, 1) := by decide +kernel
theorem dL_step_382 : decode cL_step 382 = .ok (.ifCond .ne 9, 3) := by decide +kernel
theorem dL_step_385 : decode cL_step 385 = .ok (.sipush 500, 3) := by decide +kernel
theorem dL_step_388 : decode cL_step 388 = .ok (.goto 5, 3) := by decide +kernel
theorem dL_step_391 : decode cL_step 391 = .ok (.bipush 120, 2) := by decide +kernel
theorem dL_step_393 : decode cL_step 393 = .ok (.irem, 1) := by decide +kernel
theorem dL_step_394 : decode cL_step 394 = .ok (.iadd, 1) := by decide +kernel
theorem dL_step_395 : decode cL_step 395 = .ok (.invokestatic 39, 3) := by decide +kernel
theorem dL_step_398 : decode cL_step 398 = .ok (.ireturn, 1) := by decide +kernel
theorem dL_step_399 : decode cL_step 399 = .ok (.aload_n 0, 1) := by decide +kernel
theorem dL_step_400 : decode cL_step 400 = .ok (.aload_n 1, 1) := by decide +kernel
theorem dL_step_401 : decode cL_step 401 = .ok (.iload_n 3, 1) := by decide +kernel
theorem dL_step_402 : decode cL_step 402 = .ok (.sipush 360, 3) := by decide +kernel
theorem dL_step_405 : decode cL_step 405 = .ok (.irem, 1) := by decide +kernel
theorem dL_step_406 : decode cL_step 406 = .ok (.iconst 0, 1) := by decide +kernel
theorem dL_step_407 : decode cL_step 407 = .ok (.iconst 1, 1) := by decide +kernel
theorem dL_step_408 : decode cL_step 408 = .ok (.iload 4, 2) := by decide +kernel
theorem dL_step_410 : decode cL_step 410 = .ok (.sipush 500, 3) := by decide +kernel
theorem dL_step_413 : decode cL_step 413 = .ok (.irem, 1) := by decide +kernel
theorem dL_step_414 : decode cL_step 414 = .ok (.iadd, 1) := by decide +kernel
theorem dL_step_415 : decode cL_step 415 = .ok (.invokestatic 39, 3) := by decide +kernel
theorem dL_step_418 : decode cL_step 418 = .ok (.ireturn, 1) := by decide +kernel
theorem dL_step_419 : decode cL_step 419 = .ok (.aload_n 1, 1) := by decide +kernel
theorem dL_step_420 : decode cL_step 420 = .ok (.iconst 5, 1) := by decide +kernel
theorem dL_step_421 : decode cL_step 421 = .ok (.iaload, 1) := by decide +kernel
theorem dL_step_422 : decode cL_step 422 = .ok (.bipush 20, 2) := by decide +kernel
theorem dL_step_424 : decode cL_step 424 = .ok (.if_icmp .eq 58, 3) := by decide +kernel
theorem dL_step_427 : decode cL_step 427 = .ok (.aload_n 0, 1) := by decide +kernel
theorem dL_step_428 : decode cL_step 428 = .ok (.aload_n 1, 1) := by decide +kernel
theorem dL_step_429 : decode cL_step 429 = .ok (.iconst 5, 1) := by decide +kernel
theorem dL_step_430 : decode cL_step 430 = .ok (.iaload, 1) := by decide +kernel
theorem dL_step_431 : decode cL_step 431 = .ok (.invokevirtual 45, 3) := by decide +kernel
theorem dL_step_434 : decode cL_step 434 = .ok (.aload_n 1, 1) := by decide +kernel
theorem dL_step_435 : decode cL_step 435 = .ok (.bipush 6, 2) := by decide +kernel
theorem dL_step_437 : decode cL_step 437 = .ok (.iaload, 1) := by decide +kernel
end
section
theorem dL_step_438 : decode cL_step 438 = .ok (.if_icmp .ne 48, 3) := by decide +kernel
theorem dL_step_441 : decode cL_step 441 = .ok (.aload_n 0, 1) := by decide +kernel
theorem dL_step_442 : decode cL_step 442 = .ok (.iconst 0, 1) := by decide +kernel
theorem dL_step_443 : decode cL_step 443 = .ok (.sipush 359, 3) := by decide +kernel
theorem dL_step_446 : decode cL_step 446 = .ok (.invokevirtual 48, 3) := by decide +kernel
theorem dL_step_449 : decode cL_step 449 = .ok (.aload_n 1, 1) := by decide +kernel
theorem dL_step_450 : decode cL_step 450 = .ok (.bipush 6, 2) := by decide +kernel
theorem dL_step_452 : decode cL_step 452 = .ok (.iaload, 1) := by decide +kernel
theorem dL_step_453 : decode cL_step 453 = .ok (.if_icmp .ne 33, 3) := by decide +kernel
theorem dL_step_456 : decode cL_step 456 = .ok (.aload_n 0, 1) := by decide +kernel
theorem dL_step_457 : decode cL_step 457 = .ok (.iconst 0, 1) := by decide +kernel
theorem dL_step_458 : decode cL_step 458 = .ok (.iload 5, 2) := by decide +kernel
theorem dL_step_460 : decode cL_step 460 = .ok (.invokevirtual 48, 3) := by decide +kernel
theorem dL_step_463 : decode cL_step 463 = .ok (.aload_n 0, 1) := by decide +kernel
theorem dL_step_464 : decode cL_step 464 = .ok (.iload 5, 2) := by decide +kernel
theorem dL_step_466 : decode cL_step 466 = .ok (.iconst 1, 1) := by decide +kernel
theorem dL_step_467 : decode cL_step 467 = .ok (.iadd, 1) := by decide +kernel
theorem dL_step_468 : decode cL_step 468 = .ok (.sipush 359, 3) := by decide +kernel
theorem dL_step_471 : decode cL_step 471 = .ok (.invokevirtual 48, 3) := by decide +kernel
theorem dL_step_474 : decode cL_step 474 = .ok (.iadd, 1) := by decide +kernel
theorem dL_step_475 : decode cL_step 475 = .ok (.aload_n 1, 1) := by decide +kernel
theorem dL_step_476 : decode cL_step 476 = .ok (.bipush 6, 2) := by decide +kernel
theorem dL_step_478 : decode cL_step 478 = .ok (.iaload, 1) := by decide +kernel
theorem dL_step_479 : decode cL_step 479 = .ok (.if_icmp .ne 7, 3) := by decide +kernel
theorem dL_step_482 : decode cL_step 482 = .ok (.iconst 1, 1) := by decide +kernel
theorem dL_step_483 : decode cL_step 483 = .ok (.goto 4, 3) := by decide +kernel
theorem dL_step_486 : decode cL_step 486 = .ok (.iconst 0, 1) := by decide +kernel
theorem dL_step_487 : decode cL_step 487 = .ok (.ireturn, 1) := by decide +kernel
theorem dL_step_488 : decode cL_step 488 = .ok (.aload_n 1, 1) := by decide +kernel
theorem dL_step_489 : decode cL_step 489 = .ok (.iconst 5, 1) := by decide +kernel
theorem dL_step_490 : decode cL_step 490 = .ok (.iaload, 1) := by decide +kernel
theorem dL_step_491 : decode cL_step 491 = .ok (.bipush 20, 2) := by decide +kernel
theorem dL_step_493 : decode cL_step 493 = .ok (.if_icmp .eq 11, 3) := by decide +kernel
theorem dL_step_496 : decode cL_step 496 = .ok (.aload_n 0, 1) := by decide +kernel
theorem dL_step_497 : decode cL_step 497 = .ok (.aload_n 1, 1) := by decide +kernel
theorem dL_step_498 : decode cL_step 498 = .ok (.invokestatic 51, 3) := by decide +kernel
theorem dL_step_501 : decode cL_step 501 = .ok (.ifCond .eq 7, 3) := by decide +kernel
theorem dL_step_504 : decode cL_step 504 = .ok (.iconst 1, 1) := by decide +kernel
theorem dL_step_505 : decode cL_step 505 = .ok (.goto 4, 3) := by decide +kernel
theorem dL_step_508 : decode cL_step 508 = .ok (.iconst 0, 1) := by decide +kernel
theorem dL_step_509 : decode cL_step 509 = .ok (.ireturn, 1) := by decide +kernel
set_option maxRecDepth 20000 in
theorem ggL_takes_X1_takenFrom : GoodIn wsL_takes wsX1_takenFrom := goodIn_ca (goodIn_r _ [5, 6, 7, 8, 4, 9, 10, 11, 12, 13, 14, 15, 16, 17, 49, 50, 51, 52, 53, 54, 55, 56, 57, 58, 59, 60, 61, 62, 63, 64, 65] (by decide +kernel) (by decide +kernel)) (goodIn_sub (fun _ h => List.mem_cons_of_mem _ (List.mem_append_left _ (List.mem_append_right _ h))) (by decide +kernel))
set_option maxRecDepth 20000 in
theorem gL_takes_X1_takenFrom : GoodIn wsL_takes (wsV RL 48 RX1 yX1_takenFrom wsX1_takenFrom) := goodIn_app (goodIn_of _ (by decide +kernel)) ggL_takes_X1_takenFrom
set_option maxRecDepth 20000 in
theorem ggL_takes_X1_taken : GoodIn wsL_takes wsX1_taken := goodIn_ca (goodIn_r _ [21, 22, 23, 24, 4, 25, 13, 14, 15, 16, 17, 49, 50, 51, 52, 53, 54, 55, 56, 57, 58, 59, 60, 61, 62, 63, 64, 65] (by decide +kernel) (by decide +kernel)) (goodIn_sub (fun _ h => List.mem_cons_of_mem _ (List.mem_append_left _ (List.mem_append_right _ h))) (by decide +kernel))
set_option maxRecDepth 20000 in
theorem gL_takes_X1_taken : GoodIn wsL_takes (wsV RL 45 RX1 yX1_taken wsX1_taken) := goodIn_app (goodIn_of _ (by decide +kernel)) ggL_takes_X1_taken
set_option maxRecDepth 20000 in
theorem ggL_takes_X1_take : GoodIn wsL_takes wsX1_take := goodIn_ca (goodIn_ca (goodIn_r _ [29, 6, 10, 11, 4, 12, 13, 14, 15, 16, 17, 30, 31, 32, 33, 34, 35, 36, 37, 38, 39, 40, 41, 42, 43, 44, 22, 49, 50, 51, 52, 53, 54, 55, 56, 57, 58, 59, 60, 61, 62, 63, 64, 65] (by decide +kernel) (by decide +kernel)) (goodIn_sub (fun _ h => List.mem_cons_of_mem _ (List.mem_append_left _ (List.mem_append_right _ h))) (by decide +kernel))) (goodIn_sub (fun _ h => List.mem_cons_of_mem _ (List.mem_append_right _ h)) (by decide +kernel))
set_option maxRecDepth 20000 in
theorem gL_takes_X1_take : GoodIn wsL_takes (wsV RL 55 RX1 yX1_take wsX1_take) := goodIn_app (goodIn_of _ (by decide +kernel)) ggL_takes_X1_take
set_option maxRecDepth 20000 in
theorem ggL_takes_X1_takeDaily : GoodIn wsL_takes wsX1_takeDaily := goodIn_ca (goodIn_ca (goodIn_r _ [48, 22, 36, 7, 8, 4, 9, 10, 11, 12, 13, 14, 15, 16, 17, 30, 31, 32, 33, 34, 35, 37, 38, 39, 40, 6, 41, 42, 43, 44, 49, 50, 51, 52, 53, 54, 55, 56, 57, 58, 59, 60, 61, 62, 63, 64, 65] (by decide +kernel) (by decide +kernel)) (goodIn_sub (fun _ h => List.mem_cons_of_mem _ (List.mem_append_left _ (List.mem_append_right _ h))) (by decide +kernel))) (goodIn_sub (fun _ h => List.mem_cons_of_mem _ (List.mem_append_right _ h)) (by decide +kernel))
set_option maxRecDepth 20000 in
theorem gL_takes_X1_takeDaily : GoodIn wsL_takes (wsV RL 58 RX1 yX1_takeDaily wsX1_takeDaily) := goodIn_app (goodIn_of _ (by decide +kernel)) ggL_takes_X1_takeDaily
theorem dL_takes_0 : decode cL_takes 0 = .ok (.iload_n 2, 1) := by decide +kernel
theorem dL_takes_1 : decode cL_takes 1 = .ok (.iload_n 3, 1) := by decide +kernel
theorem dL_takes_2 : decode cL_takes 2 = .ok (.iadd, 1) := by decide +kernel
theorem dL_takes_3 : decode cL_takes 3 = .ok (.sipush 359, 3) := by decide +kernel
theorem dL_takes_6 : decode cL_takes 6 = .ok (.if_icmp .le 9, 3) := by decide +kernel
theorem dL_takes_9 : decode cL_takes 9 = .ok (.sipush 359, 3) := by decide +kernel
theorem dL_takes_12 : decode cL_takes 12 = .ok (.goto 6, 3) := by decide +kernel
theorem dL_takes_15 : decode cL_takes 15 = .ok (.iload_n 2, 1) := by decide +kernel
theorem dL_takes_16 : decode cL_takes 16 = .ok (.iload_n 3, 1) := by decide +kernel
theorem dL_takes_17 : decode cL_takes 17 = .ok (.iadd, 1) := by decide +kernel
theorem dL_takes_18 : decode cL_takes 18 = .ok (.istore 5, 2) := by decide +kernel
theorem dL_takes_20 : decode cL_takes 20 = .ok (.aload_n 1, 1) := by decide +kernel
theorem dL_takes_21 : decode cL_takes 21 = .ok (.iconst 5, 1) := by decide +kernel
theorem dL_takes_22 : decode cL_takes 22 = .ok (.iaload, 1) := by decide +kernel
theorem dL_takes_23 : decode cL_takes 23 = .ok (.bipush 20, 2) := by decide +kernel
theorem dL_takes_25 : decode cL_takes 25 = .ok (.if_icmp .ne 19, 3) := by decide +kernel
theorem dL_takes_28 : decode cL_takes 28 = .ok (.aload_n 0, 1) := by decide +kernel
theorem dL_takes_29 : decode cL_takes 29 = .ok (.iload_n 2, 1) := by decide +kernel
theorem dL_takes_30 : decode cL_takes 30 = .ok (.iload 5, 2) := by decide +kernel
theorem dL_takes_32 : decode cL_takes 32 = .ok (.invokevirtual 48, 3) := by decide +kernel
theorem dL_takes_35 : decode cL_takes 35 = .ok (.ifCond .ne 7, 3) := by decide +kernel
theorem dL_takes_38 : decode cL_takes 38 = .ok (.iconst 1, 1) := by decide +kernel
theorem dL_takes_39 : decode cL_takes 39 = .ok (.goto 4, 3) := by decide +kernel
theorem dL_takes_42 : decode cL_takes 42 = .ok (.iconst 0, 1) := by decide +kernel
theorem dL_takes_43 : decode cL_takes 43 = .ok (.ireturn, 1) := by decide +kernel
theorem dL_takes_44 : decode cL_takes 44 = .ok (.iload_n 2, 1) := by decide +kernel
theorem dL_takes_45 : decode cL_takes 45 = .ok (.istore 6, 2) := by decide +kernel
theorem dL_takes_47 : decode cL_takes 47 = .ok (.iload 6, 2) := by decide +kernel
theorem dL_takes_49 : decode cL_takes 49 = .ok (.iload 5, 2) := by decide +kernel
theorem dL_takes_51 : decode cL_takes 51 = .ok (.if_icmp .gt 46, 3) := by decide +kernel
theorem dL_takes_54 : decode cL_takes 54 = .ok (.aload_n 0, 1) := by decide +kernel
theorem dL_takes_55 : decode cL_takes 55 = .ok (.iload 6, 2) := by decide +kernel
theorem dL_takes_57 : decode cL_takes 57 = .ok (.iload 6, 2) := by decide +kernel
theorem dL_takes_59 : decode cL_takes 59 = .ok (.invokevirtual 48, 3) := by decide +kernel
theorem dL_takes_62 : decode cL_takes 62 = .ok (.iload 4, 2) := by decide +kernel
theorem dL_takes_64 : decode cL_takes 64 = .ok (.iadd, 1) := by decide +kernel
theorem dL_takes_65 : decode cL_takes 65 = .ok (.sipush 500, 3) := by decide +kernel
theorem dL_takes_68 : decode cL_takes 68 = .ok (.if_icmp .le 23, 3) := by decide +kernel
theorem dL_takes_71 : decode cL_takes 71 = .ok (.aload_n 0, 1) := by decide +kernel
theorem dL_takes_72 : decode cL_takes 72 = .ok (.aload_n 1, 1) := by decide +kernel
theorem dL_takes_73 : decode cL_takes 73 = .ok (.iconst 5, 1) := by decide +kernel
theorem dL_takes_74 : decode cL_takes 74 = .ok (.iaload, 1) := by decide +kernel
theorem dL_takes_75 : decode cL_takes 75 = .ok (.invokevirtual 45, 3) := by decide +kernel
theorem dL_takes_78 : decode cL_takes 78 = .ok (.aload_n 1, 1) := by decide +kernel
theorem dL_takes_79 : decode cL_takes 79 = .ok (.bipush 6, 2) := by decide +kernel
theorem dL_takes_81 : decode cL_takes 81 = .ok (.iaload, 1) := by decide +kernel
theorem dL_takes_82 : decode cL_takes 82 = .ok (.if_icmp .ne 7, 3) := by decide +kernel
theorem dL_takes_85 : decode cL_takes 85 = .ok (.iconst 1, 1) := by decide +kernel
theorem dL_takes_86 : decode cL_takes 86 = .ok (.goto 4, 3) := by decide +kernel
theorem dL_takes_89 : decode cL_takes 89 = .ok (.iconst 0, 1) := by decide +kernel
theorem dL_takes_90 : decode cL_takes 90 = .ok (.ireturn, 1) := by decide +kernel
theorem dL_takes_91 : decode cL_takes 91 = .ok (.iinc 6 1, 3) := by decide +kernel
theorem dL_takes_94 : decode cL_takes 94 = .ok (.goto (-47), 3) := by decide +kernel
theorem dL_takes_97 : decode cL_takes 97 = .ok (.aload_n 0, 1) := by decide +kernel
theorem dL_takes_98 : decode cL_takes 98 = .ok (.iload_n 2, 1) := by decide +kernel
theorem dL_takes_99 : decode cL_takes 99 = .ok (.iload 5, 2) := by decide +kernel
theorem dL_takes_101 : decode cL_takes 101 = .ok (.invokevirtual 48, 3) := by decide +kernel
theorem dL_takes_104 : decode cL_takes 104 = .ok (.istore 6, 2) := by decide +kernel
theorem dL_takes_106 : decode cL_takes 106 = .ok (.aload_n 1, 1) := by decide +kernel
theorem dL_takes_107 : decode cL_takes 107 = .ok (.bipush 6, 2) := by decide +kernel
theorem dL_takes_109 : decode cL_takes 109 = .ok (.dup2, 1) := by decide +kernel
theorem dL_takes_110 : decode cL_takes 110 = .ok (.iaload, 1) := by decide +kernel
theorem dL_takes_111 : decode cL_takes 111 = .ok (.iload 5, 2) := by decide +kernel
theorem dL_takes_113 : decode cL_takes 113 = .ok (.iload_n 2, 1) := by decide +kernel
theorem dL_takes_114 : decode cL_takes 114 = .ok (.isub, 1) := by decide +kernel
theorem dL_takes_115 : decode cL_takes 115 = .ok (.iconst 1, 1) := by decide +kernel
theorem dL_takes_116 : decode cL_takes 116 = .ok (.iadd, 1) := by decide +kernel
theorem dL_takes_117 : decode cL_takes 117 = .ok (.iload 4, 2) := by decide +kernel
theorem dL_takes_119 : decode cL_takes 119 = .ok (.imul, 1) := by decide +kernel
theorem dL_takes_120 : decode cL_takes 120 = .ok (.iadd, 1) := by decide +kernel
theorem dL_takes_121 : decode cL_takes 121 = .ok (.iastore, 1) := by decide +kernel
theorem dL_takes_122 : decode cL_takes 122 = .ok (.iload 5, 2) := by decide +kernel
theorem dL_takes_124 : decode cL_takes 124 = .ok (.iload_n 2, 1) := by decide +kernel
theorem dL_takes_125 : decode cL_takes 125 = .ok (.if_icmp .ne 26, 3) := by decide +kernel
theorem dL_takes_128 : decode cL_takes 128 = .ok (.aload_n 0, 1) := by decide +kernel
theorem dL_takes_129 : decode cL_takes 129 = .ok (.iload_n 2, 1) := by decide +kernel
theorem dL_takes_130 : decode cL_takes 130 = .ok (.iload 4, 2) := by decide +kernel
theorem dL_takes_132 : decode cL_takes 132 = .ok (.invokevirtual 55, 3) := by decide +kernel
theorem dL_takes_135 : decode cL_takes 135 = .ok (.iload 6, 2) := by decide +kernel
theorem dL_takes_137 : decode cL_takes 137 = .ok (.iload 4, 2) := by decide +kernel
theorem dL_takes_139 : decode cL_takes 139 = .ok (.iadd, 1) := by decide +kernel
theorem dL_takes_140 : decode cL_takes 140 = .ok (.if_icmp .ne 7, 3) := by decide +kernel
theorem dL_takes_143 : decode cL_takes 143 = .ok (.iconst 1, 1) := by decide +kernel
theorem dL_takes_144 : decode cL_takes 144 = .ok (.goto 28, 3) := by decide +kernel
theorem dL_takes_147 : decode cL_takes 147 = .ok (.iconst 0, 1) := by decide +kernel
theorem dL_takes_148 : decode cL_takes 148 = .ok (.goto 24, 3) := by decide +kernel
theorem dL_takes_151 : decode cL_takes 151 = .ok (.aload_n 0, 1) := by decide +kernel
theorem dL_takes_152 : decode cL_takes 152 = .ok (.iload_n 2, 1) := by decide +kernel
theorem dL_takes_153 : decode cL_takes 153 = .ok (.iload 5, 2) := by decide +kernel
theorem dL_takes_155 : decode cL_takes 155 = .ok (.iload 4, 2) := by decide +kernel
theorem dL_takes_157 : decode cL_takes 157 = .ok (.invokevirtual 58, 3) := by decide +kernel
theorem dL_takes_160 : decode cL_takes 160 = .ok (.aload_n 1, 1) := by decide +kernel
theorem dL_takes_161 : decode cL_takes 161 = .ok (.bipush 6, 2) := by decide +kernel
theorem dL_takes_163 : decode cL_takes 163 = .ok (.iaload, 1) := by decide +kernel
theorem dL_takes_164 : decode cL_takes 164 = .ok (.if_icmp .ne 7, 3) := by decide +kernel
theorem dL_takes_167 : decode cL_takes 167 = .ok (.iconst 1, 1) := by decide +kernel
theorem dL_takes_168 : decode cL_takes 168 = .ok (.goto 4, 3) := by decide +kernel
theorem dL_takes_171 : decode cL_takes 171 = .ok (.iconst 0, 1) := by decide +kernel
theorem dL_takes_172 : decode cL_takes 172 = .ok (.istore 7, 2) := by decide +kernel
theorem dL_takes_174 : decode cL_takes 174 = .ok (.iload 7, 2) := by decide +kernel
theorem dL_takes_176 : decode cL_takes 176 = .ok (.ifCond .eq 43, 3) := by decide +kernel
theorem dL_takes_179 : decode cL_takes 179 = .ok (.aload_n 0, 1) := by decide +kernel
theorem dL_takes_180 : decode cL_takes 180 = .ok (.aload_n 1, 1) := by decide +kernel
theorem dL_takes_181 : decode cL_takes 181 = .ok (.iconst 5, 1) := by decide +kernel
theorem dL_takes_182 : decode cL_takes 182 = .ok (.iaload, 1) := by decide +kernel
theorem dL_takes_183 : decode cL_takes 183 = .ok (.invokevirtual 45, 3) := by decide +kernel
theorem dL_takes_186 : decode cL_takes 186 = .ok (.aload_n 1, 1) := by decide +kernel
theorem dL_takes_187 : decode cL_takes 187 = .ok (.bipush 6, 2) := by decide +kernel
theorem dL_takes_189 : decode cL_takes 189 = .ok (.iaload, 1) := by decide +kernel
theorem dL_takes_190 : decode cL_takes 190 = .ok (.if_icmp .ne 29, 3) := by decide +kernel
theorem dL_takes_193 : decode cL_takes 193 = .ok (.aload_n 0, 1) := by decide +kernel
theorem dL_takes_194 : decode cL_takes 194 = .ok (.iload_n 2, 1) := by decide +kernel
theorem dL_takes_195 : decode cL_takes 195 = .ok (.iload 5, 2) := by decide +kernel
theorem dL_takes_197 : decode cL_takes 197 = .ok (.invokevirtual 48, 3) := by decide +kernel
theorem dL_takes_200 : decode cL_takes 200 = .ok (.iload 6, 2) := by decide +kernel
theorem dL_takes_202 : decode cL_takes 202 = .ok (.iload 5, 2) := by decide +kernel
theorem dL_takes_204 : decode cL_takes 204 = .ok (.iload_n 2, 1) := by decide +kernel
theorem dL_takes_205 : decode cL_takes 205 = .ok (.isub, 1) := by decide +kernel
theorem dL_takes_206 : decode cL_takes 206 = .ok (.iconst 1, 1) := by decide +kernel
theorem dL_takes_207 : decode cL_takes 207 = .ok (.iadd, 1) := by decide +kernel
theorem dL_takes_208 : decode cL_takes 208 = .ok (.iload 4, 2) := by decide +kernel
theorem dL_takes_210 : decode cL_takes 210 = .ok (.imul, 1) := by decide +kernel
theorem dL_takes_211 : decode cL_takes 211 = .ok (.iadd, 1) := by decide +kernel
theorem dL_takes_212 : decode cL_takes 212 = .ok (.if_icmp .ne 7, 3) := by decide +kernel
theorem dL_takes_215 : decode cL_takes 215 = .ok (.iconst 1, 1) := by decide +kernel
theorem dL_takes_216 : decode cL_takes 216 = .ok (.goto 4, 3) := by decide +kernel
theorem dL_takes_219 : decode cL_takes 219 = .ok (.iconst 0, 1) := by decide +kernel
theorem dL_takes_220 : decode cL_takes 220 = .ok (.ireturn, 1) := by decide +kernel
set_option maxRecDepth 20000 in
theorem ggL_closes_X1_open : GoodIn wsL_closes wsX1_open := goodIn_r _ [5, 6, 7, 8, 9, 4, 10, 11, 12, 128, 129, 130, 131, 132, 133, 134, 135, 136, 137, 138, 139, 140, 141, 142, 143, 144] (by decide +kernel) (by decide +kernel)
set_option maxRecDepth 20000 in
theorem gL_closes_X1_open : GoodIn wsL_closes (wsV RL 62 RX1 yX1_open wsX1_open) := goodIn_app (goodIn_of _ (by decide +kernel)) ggL_closes_X1_open
set_option maxRecDepth 20000 in
theorem ggL_closes_X1_close : GoodIn wsL_closes wsX1_close := goodIn_ca (goodIn_r _ [16, 11, 17, 6, 18, 19, 20, 21, 4, 22, 23, 24, 25, 26, 27, 28, 29, 30, 31, 32, 33, 34, 35, 36, 37, 38, 39, 40, 41, 42, 43, 44, 45, 46, 47, 48, 49, 50, 51, 52, 53, 54, 55, 56, 57, 58, 59, 60, 61, 62, 63, 64, 12, 65, 66, 67, 68, 69, 70, 71, 72, 73, 74, 75, 76, 77, 78, 79, 80, 81, 82, 83, 84, 85, 86, 87, 88, 89, 90, 91, 92, 93, 7, 8, 9, 10, 128, 129, 130, 131, 132, 133, 134, 135, 136, 137, 138, 139, 140, 141, 142, 143, 144, 145, 146, 147] (by decide +kernel) (by decide +kernel)) (goodIn_sub (fun _ h => List.mem_cons_of_mem _ (List.mem_append_left _ (List.mem_append_right _ h))) (by decide +kernel))
set_option maxRecDepth 20000 in
theorem gL_closes_X1_close : GoodIn wsL_closes (wsV RL 66 RX1 yX1_close wsX1_close) := goodIn_app (goodIn_of _ (by decide +kernel)) ggL_closes_X1_close
set_option maxRecDepth 20000 in
theorem ggL_closes_X1_closed : GoodIn wsL_closes wsX1_closed := goodIn_r _ [97, 11, 128, 129, 130, 131, 132, 133, 134, 135, 136, 137, 138, 139, 140, 141, 142, 143, 144] (by decide +kernel) (by decide +kernel)
set_option maxRecDepth 20000 in
theorem gL_closes_X1_closed : GoodIn wsL_closes (wsV RL 10 RX1 yX1_closed wsX1_closed) := goodIn_app (goodIn_of _ (by decide +kernel)) ggL_closes_X1_closed
set_option maxRecDepth 20000 in
theorem ggL_closes_X1_bill : GoodIn wsL_closes wsX1_bill := goodIn_ca (goodIn_ca (goodIn_r _ [101, 18, 102, 103, 104, 4, 105, 23, 24, 11, 106, 107, 108, 109, 110, 111, 112, 113, 128, 129, 130, 131, 132, 133, 134, 135, 136, 137, 138, 139, 140, 141, 142, 143, 144] (by decide +kernel) (by decide +kernel)) (goodIn_sub (fun _ h => List.mem_cons_of_mem _ (List.mem_append_left _ (List.mem_append_right _ h))) (by decide +kernel))) (goodIn_sub (fun _ h => List.mem_cons_of_mem _ (List.mem_append_right _ h)) (by decide +kernel))
set_option maxRecDepth 20000 in
theorem gL_closes_X1_bill : GoodIn wsL_closes (wsV RL 69 RX1 yX1_bill wsX1_bill) := goodIn_app (goodIn_of _ (by decide +kernel)) ggL_closes_X1_bill
set_option maxRecDepth 20000 in
theorem ggL_closes_X1_due : GoodIn wsL_closes wsX1_due := goodIn_ca (goodIn_ca (goodIn_r _ [117, 12, 102, 103, 104, 4, 105, 23, 24, 11, 106, 107, 108, 109, 110, 111, 112, 113, 128, 129, 130, 131, 132, 133, 134, 135, 136, 137, 138, 139, 140, 141, 142, 143, 144] (by decide +kernel) (by decide +kernel)) (goodIn_sub (fun _ h => List.mem_cons_of_mem _ (List.mem_append_left _ (List.mem_append_right _ h))) (by decide +kernel))) (goodIn_sub (fun _ h => List.mem_cons_of_mem _ (List.mem_append_right _ h)) (by decide +kernel))
set_option maxRecDepth 20000 in
theorem gL_closes_X1_due : GoodIn wsL_closes (wsV RL 73 RX1 yX1_due wsX1_due) := goodIn_app (goodIn_of _ (by decide +kernel)) ggL_closes_X1_due
set_option maxRecDepth 20000 in
theorem ggL_closes_X1_takenFrom : GoodIn wsL_closes wsX1_takenFrom := goodIn_ca (goodIn_r _ [121, 17, 122, 123, 4, 124, 125, 126, 127, 109, 110, 111, 112, 113, 128, 129, 130, 131, 132, 133, 134, 135, 136, 137, 138, 139, 140, 141, 142, 143, 144] (by decide +kernel) (by decide +kernel)) (goodIn_sub (fun _ h => List.mem_cons_of_mem _ (List.mem_append_right _ h)) (by decide +kernel))
set_option maxRecDepth 20000 in
theorem gL_closes_X1_takenFrom : GoodIn wsL_closes (wsV RL 48 RX1 yX1_takenFrom wsX1_takenFrom) := goodIn_app (goodIn_of _ (by decide +kernel)) ggL_closes_X1_takenFrom
theorem dL_closes_0 : decode cL_closes 0 = .ok (.aload_n 0, 1) := by decide +kernel
theorem dL_closes_1 : decode cL_closes 1 = .ok (.invokevirtual 62, 3) := by decide +kernel
theorem dL_closes_4 : decode cL_closes 4 = .ok (.lstore_n 2, 1) := by decide +kernel
theorem dL_closes_5 : decode cL_closes 5 = .ok (.aload_n 1, 1) := by decide +kernel
theorem dL_closes_6 : decode cL_closes 6 = .ok (.iconst 5, 1) := by decide +kernel
theorem dL_closes_7 : decode cL_closes 7 = .ok (.iaload, 1) := by decide +kernel
theorem dL_closes_8 : decode cL_closes 8 = .ok (.istore 4, 2) := by decide +kernel
theorem dL_closes_10 : decode cL_closes 10 = .ok (.aload_n 1, 1) := by decide +kernel
theorem dL_closes_11 : decode cL_closes 11 = .ok (.iconst 5, 1) := by decide +kernel
theorem dL_closes_12 : decode cL_closes 12 = .ok (.dup2, 1) := by decide +kernel
theorem dL_closes_13 : decode cL_closes 13 = .ok (.iaload, 1) := by decide +kernel
theorem dL_closes_14 : decode cL_closes 14 = .ok (.iconst 1, 1) := by decide +kernel
theorem dL_closes_15 : decode cL_closes 15 = .ok (.iadd, 1) := by decide +kernel
theorem dL_closes_16 : decode cL_closes 16 = .ok (.iastore, 1) := by decide +kernel
theorem dL_closes_17 : decode cL_closes 17 = .ok (.aload_n 1, 1) := by decide +kernel
theorem dL_closes_18 : decode cL_closes 18 = .ok (.bipush 6, 2) := by decide +kernel
theorem dL_closes_20 : decode cL_closes 20 = .ok (.iconst 0, 1) := by decide +kernel
theorem dL_closes_21 : decode cL_closes 21 = .ok (.iastore, 1) := by decide +kernel
theorem dL_closes_22 : decode cL_closes 22 = .ok (.aload_n 0, 1) := by decide +kernel
theorem dL_closes_23 : decode cL_closes 23 = .ok (.invokevirtual 66, 3) := by decide +kernel
theorem dL_closes_26 : decode cL_closes 26 = .ok (.lstore 5, 2) := by decide +kernel
theorem dL_closes_28 : decode cL_closes 28 = .ok (.aload_n 0, 1) := by decide +kernel
theorem dL_closes_29 : decode cL_closes 29 = .ok (.invokevirtual 10, 3) := by decide +kernel
theorem dL_closes_32 : decode cL_closes 32 = .ok (.aload_n 1, 1) := by decide +kernel
theorem dL_closes_33 : decode cL_closes 33 = .ok (.iconst 5, 1) := by decide +kernel
theorem dL_closes_34 : decode cL_closes 34 = .ok (.iaload, 1) := by decide +kernel
theorem dL_closes_35 : decode cL_closes 35 = .ok (.if_icmp .ne 53, 3) := by decide +kernel
theorem dL_closes_38 : decode cL_closes 38 = .ok (.aload_n 0, 1) := by decide +kernel
theorem dL_closes_39 : decode cL_closes 39 = .ok (.iload 4, 2) := by decide +kernel
theorem dL_closes_41 : decode cL_closes 41 = .ok (.invokevirtual 69, 3) := by decide +kernel
theorem dL_closes_44 : decode cL_closes 44 = .ok (.lload 5, 2) := by decide +kernel
theorem dL_closes_46 : decode cL_closes 46 = .ok (.lcmp, 1) := by decide +kernel
theorem dL_closes_47 : decode cL_closes 47 = .ok (.ifCond .ne 41, 3) := by decide +kernel
theorem dL_closes_50 : decode cL_closes 50 = .ok (.aload_n 0, 1) := by decide +kernel
theorem dL_closes_51 : decode cL_closes 51 = .ok (.invokevirtual 62, 3) := by decide +kernel
theorem dL_closes_54 : decode cL_closes 54 = .ok (.lconst 0, 1) := by decide +kernel
theorem dL_closes_55 : decode cL_closes 55 = .ok (.lcmp, 1) := by decide +kernel
theorem dL_closes_56 : decode cL_closes 56 = .ok (.ifCond .ne 32, 3) := by decide +kernel
theorem dL_closes_59 : decode cL_closes 59 = .ok (.lload 5, 2) := by decide +kernel
theorem dL_closes_61 : decode cL_closes 61 = .ok (.lload_n 2, 1) := by decide +kernel
theorem dL_closes_62 : decode cL_closes 62 = .ok (.aload_n 0, 1) := by decide +kernel
theorem dL_closes_63 : decode cL_closes 63 = .ok (.iload 4, 2) := by decide +kernel
theorem dL_closes_65 : decode cL_closes 65 = .ok (.invokevirtual 73, 3) := by decide +kernel
theorem dL_closes_68 : decode cL_closes 68 = .ok (.ladd, 1) := by decide +kernel
theorem dL_closes_69 : decode cL_closes 69 = .ok (.lcmp, 1) := by decide +kernel
theorem dL_closes_70 : decode cL_closes 70 = .ok (.ifCond .ne 18, 3) := by decide +kernel
theorem dL_closes_73 : decode cL_closes 73 = .ok (.aload_n 0, 1) := by decide +kernel
theorem dL_closes_74 : decode cL_closes 74 = .ok (.iconst 0, 1) := by decide +kernel
theorem dL_closes_75 : decode cL_closes 75 = .ok (.sipush 359, 3) := by decide +kernel
theorem dL_closes_78 : decode cL_closes 78 = .ok (.invokevirtual 48, 3) := by decide +kernel
theorem dL_closes_81 : decode cL_closes 81 = .ok (.ifCond .ne 7, 3) := by decide +kernel
theorem dL_closes_84 : decode cL_closes 84 = .ok (.iconst 1, 1) := by decide +kernel
theorem dL_closes_85 : decode cL_closes 85 = .ok (.goto 4, 3) := by decide +kernel
theorem dL_closes_88 : decode cL_closes 88 = .ok (.iconst 0, 1) := by decide +kernel
theorem dL_closes_89 : decode cL_closes 89 = .ok (.ireturn, 1) := by decide +kernel
set_option maxRecDepth 20000 in
theorem ggL_isYear_X1_taken : GoodIn wsL_isYear wsX1_taken := goodIn_ca (goodIn_r _ [5, 6, 7, 8, 4, 9, 10, 11, 12, 13, 14, 80, 81, 82, 83, 84, 85, 86, 87, 88, 89, 90, 91, 92, 93, 94, 95, 96] (by decide +kernel) (by decide +kernel)) (goodIn_sub (fun _ h => List.mem_cons_of_mem _ (List.mem_append_left _ (List.mem_append_right _ h))) (by decide +kernel))
set_option maxRecDepth 20000 in
theorem gL_isYear_X1_taken : GoodIn wsL_isYear (wsV RL 45 RX1 yX1_taken wsX1_taken) := goodIn_app (goodIn_of _ (by decide +kernel)) ggL_isYear_X1_taken
set_option maxRecDepth 20000 in
theorem ggL_isYear_X1_least : GoodIn wsL_isYear wsX1_least := goodIn_ca (goodIn_r _ [18, 7, 8, 4, 9, 10, 11, 12, 13, 14, 19, 20, 21, 22, 23, 24, 25, 26, 80, 81, 82, 83, 84, 85, 86, 87, 88, 89, 90, 91, 92, 93, 94, 95, 96] (by decide +kernel) (by decide +kernel)) (goodIn_sub (fun _ h => List.mem_cons_of_mem _ (List.mem_append_left _ (List.mem_append_right _ h))) (by decide +kernel))
set_option maxRecDepth 20000 in
theorem gL_isYear_X1_least : GoodIn wsL_isYear (wsV RL 21 RX1 yX1_least wsX1_least) := goodIn_app (goodIn_of _ (by decide +kernel)) ggL_isYear_X1_least
set_option maxRecDepth 20000 in
theorem ggL_isYear_X1_price : GoodIn wsL_isYear wsX1_price := goodIn_ca (goodIn_r _ [30, 31, 7, 8, 4, 9, 10, 11, 12, 13, 14, 80, 81, 82, 83, 84, 85, 86, 87, 88, 89, 90, 91, 92, 93, 94, 95, 96] (by decide +kernel) (by decide +kernel)) (goodIn_sub (fun _ h => List.mem_cons_of_mem _ (List.mem_append_left _ (List.mem_append_right _ h))) (by decide +kernel))
set_option maxRecDepth 20000 in
theorem gL_isYear_X1_price : GoodIn wsL_isYear (wsV RL 27 RX1 yX1_price wsX1_price) := goodIn_app (goodIn_of _ (by decide +kernel)) ggL_isYear_X1_price
set_option maxRecDepth 20000 in
theorem ggL_isYear_X1_makeUpLeft : GoodIn wsL_isYear wsX1_makeUpLeft := goodIn_ca (goodIn_ca (goodIn_r _ [35, 36, 37, 38, 39, 4, 40, 41, 42, 43, 7, 8, 9, 10, 11, 12, 13, 14, 44, 45, 46, 47, 48, 49, 80, 81, 82, 83, 84, 85, 86, 87, 88, 89, 90, 91, 92, 93, 94, 95, 96, 97, 98, 99] (by decide +kernel) (by decide +kernel)) (goodIn_sub (fun _ h => List.mem_cons_of_mem _ (List.mem_append_right _ h)) (by decide +kernel))) (goodIn_sub (fun _ h => List.mem_cons_of_mem _ (List.mem_append_left _ (List.mem_append_right _ h))) (by decide +kernel))
set_option maxRecDepth 20000 in
theorem gL_isYear_X1_makeUpLeft : GoodIn wsL_isYear (wsV RL 76 RX1 yX1_makeUpLeft wsX1_makeUpLeft) := goodIn_app (goodIn_of _ (by decide +kernel)) ggL_isYear_X1_makeUpLeft
set_option maxRecDepth 20000 in
theorem ggL_isYear_X1_shortfall : GoodIn wsL_isYear wsX1_shortfall := goodIn_ca (goodIn_ca (goodIn_r _ [53, 54, 37, 38, 39, 4, 40, 41, 42, 43, 7, 8, 9, 10, 11, 12, 13, 14, 80, 81, 82, 83, 84, 85, 86, 87, 88, 89, 90, 91, 92, 93, 94, 95, 96] (by decide +kernel) (by decide +kernel)) (goodIn_sub (fun _ h => List.mem_cons_of_mem _ (List.mem_append_right _ h)) (by decide +kernel))) (goodIn_sub (fun _ h => List.mem_cons_of_mem _ (List.mem_append_left _ (List.mem_append_right _ h))) (by decide +kernel))
set_option maxRecDepth 20000 in
theorem gL_isYear_X1_shortfall : GoodIn wsL_isYear (wsV RL 79 RX1 yX1_shortfall wsX1_shortfall) := goodIn_app (goodIn_of _ (by decide +kernel)) ggL_isYear_X1_shortfall
set_option maxRecDepth 20000 in
theorem ggL_isYear_X1_surplusLeft : GoodIn wsL_isYear wsX1_surplusLeft := goodIn_ca (goodIn_ca (goodIn_r _ [58, 59, 37, 38, 39, 4, 40, 41, 42, 43, 7, 8, 9, 10, 11, 12, 13, 14, 44, 45, 46, 47, 48, 49, 80, 81, 82, 83, 84, 85, 86, 87, 88, 89, 90, 91, 92, 93, 94, 95, 96, 97, 98, 99] (by decide +kernel) (by decide +kernel)) (goodIn_sub (fun _ h => List.mem_cons_of_mem _ (List.mem_append_right _ h)) (by decide +kernel))) (goodIn_sub (fun _ h => List.mem_cons_of_mem _ (List.mem_append_left _ (List.mem_append_right _ h))) (by decide +kernel))
set_option maxRecDepth 20000 in
theorem gL_isYear_X1_surplusLeft : GoodIn wsL_isYear (wsV RL 82 RX1 yX1_surplusLeft wsX1_surplusLeft) := goodIn_app (goodIn_of _ (by decide +kernel)) ggL_isYear_X1_surplusLeft
set_option maxRecDepth 20000 in
theorem ggL_isYear_X1_surplus : GoodIn wsL_isYear wsX1_surplus := goodIn_ca (goodIn_ca (goodIn_r _ [63, 64, 37, 38, 39, 4, 40, 41, 42, 43, 7, 8, 9, 10, 11, 12, 13, 14, 80, 81, 82, 83, 84, 85, 86, 87, 88, 89, 90, 91, 92, 93, 94, 95, 96] (by decide +kernel) (by decide +kernel)) (goodIn_sub (fun _ h => List.mem_cons_of_mem _ (List.mem_append_right _ h)) (by decide +kernel))) (goodIn_sub (fun _ h => List.mem_cons_of_mem _ (List.mem_append_left _ (List.mem_append_right _ h))) (by decide +kernel))
set_option maxRecDepth 20000 in
theorem gL_isYear_X1_surplus : GoodIn wsL_isYear (wsV RL 85 RX1 yX1_surplus wsX1_surplus) := goodIn_app (goodIn_of _ (by decide +kernel)) ggL_isYear_X1_surplus
set_option maxRecDepth 20000 in
theorem ggL_isYear_X1_covered : GoodIn wsL_isYear wsX1_covered := goodIn_ca (goodIn_ca (goodIn_r _ [68, 69, 37, 38, 39, 4, 40, 41, 42, 43, 7, 8, 9, 10, 11, 12, 13, 14, 80, 81, 82, 83, 84, 85, 86, 87, 88, 89, 90, 91, 92, 93, 94, 95, 96] (by decide +kernel) (by decide +kernel)) (goodIn_sub (fun _ h => List.mem_cons_of_mem _ (List.mem_append_right _ h)) (by decide +kernel))) (goodIn_sub (fun _ h => List.mem_cons_of_mem _ (List.mem_append_left _ (List.mem_append_right _ h))) (by decide +kernel))
set_option maxRecDepth 20000 in
theorem gL_isYear_X1_covered : GoodIn wsL_isYear (wsV RL 88 RX1 yX1_covered wsX1_covered) := goodIn_app (goodIn_of _ (by decide +kernel)) ggL_isYear_X1_covered
set_option maxRecDepth 20000 in
theorem ggL_isYear_X1_madeUp : GoodIn wsL_isYear wsX1_madeUp := goodIn_ca (goodIn_ca (goodIn_r _ [73, 74, 37, 38, 39, 4, 40, 41, 42, 43, 7, 8, 9, 10, 11, 12, 13, 14, 80, 81, 82, 83, 84, 85, 86, 87, 88, 89, 90, 91, 92, 93, 94, 95, 96] (by decide +kernel) (by decide +kernel)) (goodIn_sub (fun _ h => List.mem_cons_of_mem _ (List.mem_append_right _ h)) (by decide +kernel))) (goodIn_sub (fun _ h => List.mem_cons_of_mem _ (List.mem_append_left _ (List.mem_append_right _ h))) (by decide +kernel))
set_option maxRecDepth 20000 in
theorem gL_isYear_X1_madeUp : GoodIn wsL_isYear (wsV RL 91 RX1 yX1_madeUp wsX1_madeUp) := goodIn_app (goodIn_of _ (by decide +kernel)) ggL_isYear_X1_madeUp
set_option maxRecDepth 20000 in
theorem ggL_isYear_X1_due : GoodIn wsL_isYear wsX1_due := goodIn_ca (goodIn_ca (goodIn_r _ [78, 79, 37, 38, 39, 4, 40, 41, 42, 43, 7, 8, 9, 10, 11, 12, 13, 14, 80, 81, 82, 83, 84, 85, 86, 87, 88, 89, 90, 91, 92, 93, 94, 95, 96] (by decide +kernel) (by decide +kernel)) (goodIn_sub (fun _ h => List.mem_cons_of_mem _ (List.mem_append_right _ h)) (by decide +kernel))) (goodIn_sub (fun _ h => List.mem_cons_of_mem _ (List.mem_append_left _ (List.mem_append_right _ h))) (by decide +kernel))
set_option maxRecDepth 20000 in
theorem gL_isYear_X1_due : GoodIn wsL_isYear (wsV RL 73 RX1 yX1_due wsX1_due) := goodIn_app (goodIn_of _ (by decide +kernel)) ggL_isYear_X1_due
theorem dL_isYear_0 : decode cL_isYear 0 = .ok (.aload_n 0, 1) := by decide +kernel
theorem dL_isYear_1 : decode cL_isYear 1 = .ok (.iload_n 2, 1) := by decide +kernel
theorem dL_isYear_2 : decode cL_isYear 2 = .ok (.invokevirtual 45, 3) := by decide +kernel
theorem dL_isYear_5 : decode cL_isYear 5 = .ok (.istore_n 3, 1) := by decide +kernel
theorem dL_isYear_6 : decode cL_isYear 6 = .ok (.aload_n 0, 1) := by decide +kernel
theorem dL_isYear_7 : decode cL_isYear 7 = .ok (.iload_n 2, 1) := by decide +kernel
theorem dL_isYear_8 : decode cL_isYear 8 = .ok (.invokevirtual 21, 3) := by decide +kernel
theorem dL_isYear_11 : decode cL_isYear 11 = .ok (.iload_n 3, 1) := by decide +kernel
theorem dL_isYear_12 : decode cL_isYear 12 = .ok (.isub, 1) := by decide +kernel
theorem dL_isYear_13 : decode cL_isYear 13 = .ok (.istore 4, 2) := by decide +kernel
theorem dL_isYear_15 : decode cL_isYear 15 = .ok (.aload_n 0, 1) := by decide +kernel
theorem dL_isYear_16 : decode cL_isYear 16 = .ok (.iload_n 2, 1) := by decide +kernel
theorem dL_isYear_17 : decode cL_isYear 17 = .ok (.invokevirtual 27, 3) := by decide +kernel
theorem dL_isYear_20 : decode cL_isYear 20 = .ok (.aload_n 1, 1) := by decide +kernel
theorem dL_isYear_21 : decode cL_isYear 21 = .ok (.iconst 2, 1) := by decide +kernel
theorem dL_isYear_22 : decode cL_isYear 22 = .ok (.iaload, 1) := by decide +kernel
theorem dL_isYear_23 : decode cL_isYear 23 = .ok (.imul, 1) := by decide +kernel
theorem dL_isYear_24 : decode cL_isYear 24 = .ok (.bipush 100, 2) := by decide +kernel
theorem dL_isYear_26 : decode cL_isYear 26 = .ok (.idiv, 1) := by decide +kernel
theorem dL_isYear_27 : decode cL_isYear 27 = .ok (.istore 5, 2) := by decide +kernel
theorem dL_isYear_29 : decode cL_isYear 29 = .ok (.aload_n 0, 1) := by decide +kernel
theorem dL_isYear_30 : decode cL_isYear 30 = .ok (.iload_n 2, 1) := by decide +kernel
theorem dL_isYear_31 : decode cL_isYear 31 = .ok (.invokevirtual 76, 3) := by decide +kernel
theorem dL_isYear_34 : decode cL_isYear 34 = .ok (.ifCond .lt 41, 3) := by decide +kernel
theorem dL_isYear_37 : decode cL_isYear 37 = .ok (.aload_n 0, 1) := by decide +kernel
theorem dL_isYear_38 : decode cL_isYear 38 = .ok (.iload_n 2, 1) := by decide +kernel
theorem dL_isYear_39 : decode cL_isYear 39 = .ok (.invokevirtual 76, 3) := by decide +kernel
theorem dL_isYear_42 : decode cL_isYear 42 = .ok (.aload_n 0, 1) := by decide +kernel
theorem dL_isYear_43 : decode cL_isYear 43 = .ok (.iload_n 2, 1) := by decide +kernel
theorem dL_isYear_44 : decode cL_isYear 44 = .ok (.invokevirtual 79, 3) := by decide +kernel
theorem dL_isYear_47 : decode cL_isYear 47 = .ok (.if_icmp .gt 28, 3) := by decide +kernel
theorem dL_isYear_50 : decode cL_isYear 50 = .ok (.aload_n 0, 1) := by decide +kernel
theorem dL_isYear_51 : decode cL_isYear 51 = .ok (.iload_n 2, 1) := by decide +kernel
theorem dL_isYear_52 : decode cL_isYear 52 = .ok (.invokevirtual 82, 3) := by decide +kernel
theorem dL_isYear_55 : decode cL_isYear 55 = .ok (.ifCond .lt 20, 3) := by decide +kernel
theorem dL_isYear_58 : decode cL_isYear 58 = .ok (.aload_n 0, 1) := by decide +kernel
theorem dL_isYear_59 : decode cL_isYear 59 = .ok (.iload_n 2, 1) := by decide +kernel
theorem dL_isYear_60 : decode cL_isYear 60 = .ok (.invokevirtual 82, 3) := by decide +kernel
theorem dL_isYear_63 : decode cL_isYear 63 = .ok (.aload_n 0, 1) := by decide +kernel
theorem dL_isYear_64 : decode cL_isYear 64 = .ok (.iload_n 2, 1) := by decide +kernel
theorem dL_isYear_65 : decode cL_isYear 65 = .ok (.invokevirtual 85, 3) := by decide +kernel
theorem dL_isYear_68 : decode cL_isYear 68 = .ok (.if_icmp .gt 7, 3) := by decide +kernel
theorem dL_isYear_71 : decode cL_isYear 71 = .ok (.iconst 1, 1) := by decide +kernel
theorem dL_isYear_72 : decode cL_isYear 72 = .ok (.goto 4, 3) := by decide +kernel
theorem dL_isYear_75 : decode cL_isYear 75 = .ok (.iconst 0, 1) := by decide +kernel
theorem dL_isYear_76 : decode cL_isYear 76 = .ok (.istore 6, 2) := by decide +kernel
theorem dL_isYear_78 : decode cL_isYear 78 = .ok (.iload 4, 2) := by decide +kernel
theorem dL_isYear_80 : decode cL_isYear 80 = .ok (.ifCond .le 83, 3) := by decide +kernel
theorem dL_isYear_83 : decode cL_isYear 83 = .ok (.iload 6, 2) := by decide +kernel
theorem dL_isYear_85 : decode cL_isYear 85 = .ok (.ifCond .eq 76, 3) := by decide +kernel
theorem dL_isYear_88 : decode cL_isYear 88 = .ok (.aload_n 0, 1) := by decide +kernel
theorem dL_isYear_89 : decode cL_isYear 89 = .ok (.iload_n 2, 1) := by decide +kernel
theorem dL_isYear_90 : decode cL_isYear 90 = .ok (.invokevirtual 88, 3) := by decide +kernel
theorem dL_isYear_93 : decode cL_isYear 93 = .ok (.ifCond .lt 68, 3) := by decide +kernel
theorem dL_isYear_96 : decode cL_isYear 96 = .ok (.aload_n 0, 1) := by decide +kernel
theorem dL_isYear_97 : decode cL_isYear 97 = .ok (.iload_n 2, 1) := by decide +kernel
theorem dL_isYear_98 : decode cL_isYear 98 = .ok (.invokevirtual 88, 3) := by decide +kernel
theorem dL_isYear_101 : decode cL_isYear 101 = .ok (.aload_n 0, 1) := by decide +kernel
theorem dL_isYear_102 : decode cL_isYear 102 = .ok (.iload_n 2, 1) := by decide +kernel
theorem dL_isYear_103 : decode cL_isYear 103 = .ok (.invokevirtual 79, 3) := by decide +kernel
theorem dL_isYear_106 : decode cL_isYear 106 = .ok (.iadd, 1) := by decide +kernel
theorem dL_isYear_107 : decode cL_isYear 107 = .ok (.iload 4, 2) := by decide +kernel
theorem dL_isYear_109 : decode cL_isYear 109 = .ok (.if_icmp .ne 52, 3) := by decide +kernel
theorem dL_isYear_112 : decode cL_isYear 112 = .ok (.aload_n 0, 1) := by decide +kernel
theorem dL_isYear_113 : decode cL_isYear 113 = .ok (.iload_n 2, 1) := by decide +kernel
theorem dL_isYear_114 : decode cL_isYear 114 = .ok (.invokevirtual 91, 3) := by decide +kernel
theorem dL_isYear_117 : decode cL_isYear 117 = .ok (.ifCond .ne 44, 3) := by decide +kernel
theorem dL_isYear_120 : decode cL_isYear 120 = .ok (.aload_n 0, 1) := by decide +kernel
theorem dL_isYear_121 : decode cL_isYear 121 = .ok (.iload_n 2, 1) := by decide +kernel
theorem dL_isYear_122 : decode cL_isYear 122 = .ok (.invokevirtual 85, 3) := by decide +kernel
theorem dL_isYear_125 : decode cL_isYear 125 = .ok (.ifCond .ne 36, 3) := by decide +kernel
theorem dL_isYear_128 : decode cL_isYear 128 = .ok (.aload_n 0, 1) := by decide +kernel
theorem dL_isYear_129 : decode cL_isYear 129 = .ok (.iload_n 2, 1) := by decide +kernel
theorem dL_isYear_130 : decode cL_isYear 130 = .ok (.invokevirtual 73, 3) := by decide +kernel
theorem dL_isYear_133 : decode cL_isYear 133 = .ok (.iload_n 3, 1) := by decide +kernel
theorem dL_isYear_134 : decode cL_isYear 134 = .ok (.i2l, 1) := by decide +kernel
theorem dL_isYear_135 : decode cL_isYear 135 = .ok (.aload_n 0, 1) := by decide +kernel
theorem dL_isYear_136 : decode cL_isYear 136 = .ok (.iload_n 2, 1) := by decide +kernel
theorem dL_isYear_137 : decode cL_isYear 137 = .ok (.invokevirtual 27, 3) := by decide +kernel
theorem dL_isYear_140 : decode cL_isYear 140 = .ok (.i2l, 1) := by decide +kernel
theorem dL_isYear_141 : decode cL_isYear 141 = .ok (.lmul, 1) := by decide +kernel
theorem dL_isYear_142 : decode cL_isYear 142 = .ok (.aload_n 0, 1) := by decide +kernel
theorem dL_isYear_143 : decode cL_isYear 143 = .ok (.iload_n 2, 1) := by decide +kernel
theorem dL_isYear_144 : decode cL_isYear 144 = .ok (.invokevirtual 79, 3) := by decide +kernel
theorem dL_isYear_147 : decode cL_isYear 147 = .ok (.i2l, 1) := by decide +kernel
theorem dL_isYear_148 : decode cL_isYear 148 = .ok (.iload 5, 2) := by decide +kernel
theorem dL_isYear_150 : decode cL_isYear 150 = .ok (.i2l, 1) := by decide +kernel
theorem dL_isYear_151 : decode cL_isYear 151 = .ok (.lmul, 1) := by decide +kernel
theorem dL_isYear_152 : decode cL_isYear 152 = .ok (.ladd, 1) := by decide +kernel
theorem dL_isYear_153 : decode cL_isYear 153 = .ok (.lcmp, 1) := by decide +kernel
theorem dL_isYear_154 : decode cL_isYear 154 = .ok (.ifCond .ne 7, 3) := by decide +kernel
theorem dL_isYear_157 : decode cL_isYear 157 = .ok (.iconst 1, 1) := by decide +kernel
theorem dL_isYear_158 : decode cL_isYear 158 = .ok (.goto 4, 3) := by decide +kernel
theorem dL_isYear_161 : decode cL_isYear 161 = .ok (.iconst 0, 1) := by decide +kernel
theorem dL_isYear_162 : decode cL_isYear 162 = .ok (.ireturn, 1) := by decide +kernel
theorem dL_isYear_163 : decode cL_isYear 163 = .ok (.iload_n 3, 1) := by decide +kernel
theorem dL_isYear_164 : decode cL_isYear 164 = .ok (.aload_n 0, 1) := by decide +kernel
theorem dL_isYear_165 : decode cL_isYear 165 = .ok (.iload_n 2, 1) := by decide +kernel
theorem dL_isYear_166 : decode cL_isYear 166 = .ok (.invokevirtual 91, 3) := by decide +kernel
theorem dL_isYear_169 : decode cL_isYear 169 = .ok (.isub, 1) := by decide +kernel
theorem dL_isYear_170 : decode cL_isYear 170 = .ok (.istore 7, 2) := by decide +kernel
theorem dL_isYear_172 : decode cL_isYear 172 = .ok (.iload 7, 2) := by decide +kernel
theorem dL_isYear_174 : decode cL_isYear 174 = .ok (.aload_n 1, 1) := by decide +kernel
theorem dL_isYear_175 : decode cL_isYear 175 = .ok (.iconst 0, 1) := by decide +kernel
theorem dL_isYear_176 : decode cL_isYear 176 = .ok (.iaload, 1) := by decide +kernel
theorem dL_isYear_177 : decode cL_isYear 177 = .ok (.if_icmp .le 12, 3) := by decide +kernel
theorem dL_isYear_180 : decode cL_isYear 180 = .ok (.iload 7, 2) := by decide +kernel
theorem dL_isYear_182 : decode cL_isYear 182 = .ok (.aload_n 1, 1) := by decide +kernel
theorem dL_isYear_183 : decode cL_isYear 183 = .ok (.iconst 0, 1) := by decide +kernel
theorem dL_isYear_184 : decode cL_isYear 184 = .ok (.iaload, 1) := by decide +kernel
theorem dL_isYear_185 : decode cL_isYear 185 = .ok (.isub, 1) := by decide +kernel
theorem dL_isYear_186 : decode cL_isYear 186 = .ok (.goto 4, 3) := by decide +kernel
theorem dL_isYear_189 : decode cL_isYear 189 = .ok (.iconst 0, 1) := by decide +kernel
theorem dL_isYear_190 : decode cL_isYear 190 = .ok (.istore 8, 2) := by decide +kernel
theorem dL_isYear_192 : decode cL_isYear 192 = .ok (.iload 6, 2) := by decide +kernel
theorem dL_isYear_194 : decode cL_isYear 194 = .ok (.ifCond .eq 89, 3) := by decide +kernel
theorem dL_isYear_197 : decode cL_isYear 197 = .ok (.aload_n 0, 1) := by decide +kernel
theorem dL_isYear_198 : decode cL_isYear 198 = .ok (.iload_n 2, 1) := by decide +kernel
theorem dL_isYear_199 : decode cL_isYear 199 = .ok (.invokevirtual 88, 3) := by decide +kernel
theorem dL_isYear_202 : decode cL_isYear 202 = .ok (.ifCond .ne 81, 3) := by decide +kernel
theorem dL_isYear_205 : decode cL_isYear 205 = .ok (.aload_n 0, 1) := by decide +kernel
theorem dL_isYear_206 : decode cL_isYear 206 = .ok (.iload_n 2, 1) := by decide +kernel
theorem dL_isYear_207 : decode cL_isYear 207 = .ok (.invokevirtual 79, 3) := by decide +kernel
theorem dL_isYear_210 : decode cL_isYear 210 = .ok (.ifCond .ne 73, 3) := by decide +kernel
theorem dL_isYear_213 : decode cL_isYear 213 = .ok (.aload_n 0, 1) := by decide +kernel
theorem dL_isYear_214 : decode cL_isYear 214 = .ok (.iload_n 2, 1) := by decide +kernel
theorem dL_isYear_215 : decode cL_isYear 215 = .ok (.invokevirtual 91, 3) := by decide +kernel
theorem dL_isYear_218 : decode cL_isYear 218 = .ok (.ifCond .lt 65, 3) := by decide +kernel
theorem dL_isYear_221 : decode cL_isYear 221 = .ok (.aload_n 0, 1) := by decide +kernel
theorem dL_isYear_222 : decode cL_isYear 222 = .ok (.iload_n 2, 1) := by decide +kernel
theorem dL_isYear_223 : decode cL_isYear 223 = .ok (.invokevirtual 91, 3) := by decide +kernel
theorem dL_isYear_226 : decode cL_isYear 226 = .ok (.iload 4, 2) := by decide +kernel
theorem dL_isYear_228 : decode cL_isYear 228 = .ok (.ineg, 1) := by decide +kernel
theorem dL_isYear_229 : decode cL_isYear 229 = .ok (.if_icmp .gt 54, 3) := by decide +kernel
theorem dL_isYear_232 : decode cL_isYear 232 = .ok (.aload_n 0, 1) := by decide +kernel
theorem dL_isYear_233 : decode cL_isYear 233 = .ok (.iload_n 2, 1) := by decide +kernel
theorem dL_isYear_234 : decode cL_isYear 234 = .ok (.invokevirtual 85, 3) := by decide +kernel
theorem dL_isYear_237 : decode cL_isYear 237 = .ok (.iload 8, 2) := by decide +kernel
theorem dL_isYear_239 : decode cL_isYear 239 = .ok (.if_icmp .ne 44, 3) := by decide +kernel
theorem dL_isYear_242 : decode cL_isYear 242 = .ok (.aload_n 0, 1) := by decide +kernel
theorem dL_isYear_243 : decode cL_isYear 243 = .ok (.iload_n 2, 1) := by decide +kernel
theorem dL_isYear_244 : decode cL_isYear 244 = .ok (.invokevirtual 73, 3) := by decide +kernel
theorem dL_isYear_247 : decode cL_isYear 247 = .ok (.iload 7, 2) := by decide +kernel
theorem dL_isYear_249 : decode cL_isYear 249 = .ok (.i2l, 1) := by decide +kernel
theorem dL_isYear_250 : decode cL_isYear 250 = .ok (.aload_n 0, 1) := by decide +kernel
theorem dL_isYear_251 : decode cL_isYear 251 = .ok (.iload_n 2, 1) := by decide +kernel
theorem dL_isYear_252 : decode cL_isYear 252 = .ok (.invokevirtual 27, 3) := by decide +kernel
theorem dL_isYear_255 : decode cL_isYear 255 = .ok (.i2l, 1) := by decide +kernel
theorem dL_isYear_256 : decode cL_isYear 256 = .ok (.lmul, 1) := by decide +kernel
theorem dL_isYear_257 : decode cL_isYear 257 = .ok (.lcmp, 1) := by decide +kernel
theorem dL_isYear_258 : decode cL_isYear 258 = .ok (.ifCond .lt 25, 3) := by decide +kernel
theorem dL_isYear_261 : decode cL_isYear 261 = .ok (.aload_n 0, 1) := by decide +kernel
theorem dL_isYear_262 : decode cL_isYear 262 = .ok (.iload_n 2, 1) := by decide +kernel
theorem dL_isYear_263 : decode cL_isYear 263 = .ok (.invokevirtual 73, 3) := by decide +kernel
theorem dL_isYear_266 : decode cL_isYear 266 = .ok (.iload_n 3, 1) := by decide +kernel
theorem dL_isYear_267 : decode cL_isYear 267 = .ok (.i2l, 1) := by decide +kernel
theorem dL_isYear_268 : decode cL_isYear 268 = .ok (.aload_n 0, 1) := by decide +kernel
theorem dL_isYear_269 : decode cL_isYear 269 = .ok (.iload_n 2, 1) := by decide +kernel
theorem dL_isYear_270 : decode cL_isYear 270 = .ok (.invokevirtual 27, 3) := by decide +kernel
theorem dL_isYear_273 : decode cL_isYear 273 = .ok (.i2l, 1) := by decide +kernel
theorem dL_isYear_274 : decode cL_isYear 274 = .ok (.lmul, 1) := by decide +kernel
theorem dL_isYear_275 : decode cL_isYear 275 = .ok (.lcmp, 1) := by decide +kernel
theorem dL_isYear_276 : decode cL_isYear 276 = .ok (.ifCond .gt 7, 3) := by decide +kernel
theorem dL_isYear_279 : decode cL_isYear 279 = .ok (.iconst 1, 1) := by decide +kernel
theorem dL_isYear_280 : decode cL_isYear 280 = .ok (.goto 4, 3) := by decide +kernel
theorem dL_isYear_283 : decode cL_isYear 283 = .ok (.iconst 0, 1) := by decide +kernel
theorem dL_isYear_284 : decode cL_isYear 284 = .ok (.ireturn, 1) := by decide +kernel
set_option maxRecDepth 20000 in
theorem ggL_areYears_X1_closed : GoodIn wsL_areYears wsX1_closed := goodIn_r _ [5, 6, 111, 112, 113, 114, 115, 116, 117, 118, 119, 120, 121, 122, 123, 124, 125, 126, 127] (by decide +kernel) (by decide +kernel)
set_option maxRecDepth 20000 in
theorem gL_areYears_X1_closed : GoodIn wsL_areYears (wsV RL 10 RX1 yX1_closed wsX1_closed) := goodIn_app (goodIn_of _ (by decide +kernel)) ggL_areYears_X1_closed
set_option maxRecDepth 20000 in
theorem ggL_areYears_L_isYear : GoodIn wsL_areYears wsL_isYear := goodIn_ca (goodIn_ca (goodIn_r _ [10, 11, 12, 13, 4, 14, 15, 16, 17, 18, 19, 20, 21, 22, 23, 24, 25, 26, 27, 28, 29, 30, 31, 32, 33, 34, 35, 36, 37, 38, 39, 40, 41, 42, 43, 44, 45, 46, 47, 48, 49, 50, 51, 6, 52, 53, 54, 55, 56, 57, 58, 59, 60, 61, 62, 63, 64, 65, 66, 67, 68, 69, 70, 71, 72, 73, 74, 75, 76, 77, 78, 79, 80, 81, 82, 83, 84, 85, 86, 87, 111, 112, 113, 114, 115, 116, 117, 118, 119, 120, 121, 122, 123, 124, 125, 126, 127, 128, 129, 130] (by decide +kernel) (by decide +kernel)) (goodIn_sub (fun _ h => List.mem_cons_of_mem _ (List.mem_append_left _ (List.mem_append_right _ h))) (by decide +kernel))) (goodIn_sub (fun _ h => List.mem_cons_of_mem _ (List.mem_append_right _ h)) (by decide +kernel))
set_option maxRecDepth 20000 in
theorem gL_areYears_L_isYear : GoodIn wsL_areYears (va_wsS RL 94 yL_isYear wsL_isYear) := goodIn_app (goodIn_of _ (by decide +kernel)) ggL_areYears_L_isYear
set_option maxRecDepth 20000 in
theorem ggL_areYears_X1_shortfall : GoodIn wsL_areYears wsX1_shortfall := goodIn_ca (goodIn_ca (goodIn_r _ [61, 62, 46, 47, 48, 4, 49, 50, 51, 6, 16, 17, 18, 19, 20, 21, 22, 23, 111, 112, 113, 114, 115, 116, 117, 118, 119, 120, 121, 122, 123, 124, 125, 126, 127] (by decide +kernel) (by decide +kernel)) (goodIn_sub (fun _ h => List.mem_cons_of_mem _ (List.mem_append_right _ h)) (by decide +kernel))) (goodIn_sub (fun _ h => List.mem_cons_of_mem _ (List.mem_append_left _ (List.mem_append_right _ h))) (by decide +kernel))
set_option maxRecDepth 20000 in
theorem gL_areYears_X1_shortfall : GoodIn wsL_areYears (wsV RL 79 RX1 yX1_shortfall wsX1_shortfall) := goodIn_app (goodIn_of _ (by decide +kernel)) ggL_areYears_X1_shortfall
set_option maxRecDepth 20000 in
theorem ggL_areYears_X1_madeUp : GoodIn wsL_areYears wsX1_madeUp := goodIn_ca (goodIn_ca (goodIn_r _ [81, 82, 46, 47, 48, 4, 49, 50, 51, 6, 16, 17, 18, 19, 20, 21, 22, 23, 111, 112, 113, 114, 115, 116, 117, 118, 119, 120, 121, 122, 123, 124, 125, 126, 127] (by decide +kernel) (by decide +kernel)) (goodIn_sub (fun _ h => List.mem_cons_of_mem _ (List.mem_append_right _ h)) (by decide +kernel))) (goodIn_sub (fun _ h => List.mem_cons_of_mem _ (List.mem_append_left _ (List.mem_append_right _ h))) (by decide +kernel))
set_option maxRecDepth 20000 in
theorem gL_areYears_X1_madeUp : GoodIn wsL_areYears (wsV RL 91 RX1 yX1_madeUp wsX1_madeUp) := goodIn_app (goodIn_of _ (by decide +kernel)) ggL_areYears_X1_madeUp
set_option maxRecDepth 20000 in
theorem ggL_areYears_X1_makeUpLeft : GoodIn wsL_areYears wsX1_makeUpLeft := goodIn_ca (goodIn_ca (goodIn_r _ [44, 45, 46, 47, 48, 4, 49, 50, 51, 6, 16, 17, 18, 19, 20, 21, 22, 23, 52, 53, 54, 55, 56, 57, 111, 112, 113, 114, 115, 116, 117, 118, 119, 120, 121, 122, 123, 124, 125, 126, 127, 128, 129, 130] (by decide +kernel) (by decide +kernel)) (goodIn_sub (fun _ h => List.mem_cons_of_mem _ (List.mem_append_right _ h)) (by decide +kernel))) (goodIn_sub (fun _ h => List.mem_cons_of_mem _ (List.mem_append_left _ (List.mem_append_right _ h))) (by decide +kernel))
set_option maxRecDepth 20000 in
theorem gL_areYears_X1_makeUpLeft : GoodIn wsL_areYears (wsV RL 76 RX1 yX1_makeUpLeft wsX1_makeUpLeft) := goodIn_app (goodIn_of _ (by decide +kernel)) ggL_areYears_X1_makeUpLeft
set_option maxRecDepth 20000 in
theorem ggL_areYears_X1_surplus : GoodIn wsL_areYears wsX1_surplus := goodIn_ca (goodIn_ca (goodIn_r _ [71, 72, 46, 47, 48, 4, 49, 50, 51, 6, 16, 17, 18, 19, 20, 21, 22, 23, 111, 112, 113, 114, 115, 116, 117, 118, 119, 120, 121, 122, 123, 124, 125, 126, 127] (by decide +kernel) (by decide +kernel)) (goodIn_sub (fun _ h => List.mem_cons_of_mem _ (List.mem_append_right _ h)) (by decide +kernel))) (goodIn_sub (fun _ h => List.mem_cons_of_mem _ (List.mem_append_left _ (List.mem_append_right _ h))) (by decide +kernel))
set_option maxRecDepth 20000 in
theorem gL_areYears_X1_surplus : GoodIn wsL_areYears (wsV RL 85 RX1 yX1_surplus wsX1_surplus) := goodIn_app (goodIn_of _ (by decide +kernel)) ggL_areYears_X1_surplus
set_option maxRecDepth 20000 in
theorem ggL_areYears_X1_covered : GoodIn wsL_areYears wsX1_covered := goodIn_ca (goodIn_ca (goodIn_r _ [76, 77, 46, 47, 48, 4, 49, 50, 51, 6, 16, 17, 18, 19, 20, 21, 22, 23, 111, 112, 113, 114, 115, 116, 117, 118, 119, 120, 121, 122, 123, 124, 125, 126, 127] (by decide +kernel) (by decide +kernel)) (goodIn_sub (fun _ h => List.mem_cons_of_mem _ (List.mem_append_right _ h)) (by decide +kernel))) (goodIn_sub (fun _ h => List.mem_cons_of_mem _ (List.mem_append_left _ (List.mem_append_right _ h))) (by decide +kernel))
set_option maxRecDepth 20000 in
theorem gL_areYears_X1_covered : GoodIn wsL_areYears (wsV RL 88 RX1 yX1_covered wsX1_covered) := goodIn_app (goodIn_of _ (by decide +kernel)) ggL_areYears_X1_covered
set_option maxRecDepth 20000 in
theorem ggL_areYears_X1_surplusLeft : GoodIn wsL_areYears wsX1_surplusLeft := goodIn_ca (goodIn_ca (goodIn_r _ [66, 67, 46, 47, 48, 4, 49, 50, 51, 6, 16, 17, 18, 19, 20, 21, 22, 23, 52, 53, 54, 55, 56, 57, 111, 112, 113, 114, 115, 116, 117, 118, 119, 120, 121, 122, 123, 124, 125, 126, 127, 128, 129, 130] (by decide +kernel) (by decide +kernel)) (goodIn_sub (fun _ h => List.mem_cons_of_mem _ (List.mem_append_right _ h)) (by decide +kernel))) (goodIn_sub (fun _ h => List.mem_cons_of_mem _ (List.mem_append_left _ (List.mem_append_right _ h))) (by decide +kernel))
set_option maxRecDepth 20000 in
theorem gL_areYears_X1_surplusLeft : GoodIn wsL_areYears (wsV RL 82 RX1 yX1_surplusLeft wsX1_surplusLeft) := goodIn_app (goodIn_of _ (by decide +kernel)) ggL_areYears_X1_surplusLeft
set_option maxRecDepth 20000 in
theorem ggL_areYears_X1_due : GoodIn wsL_areYears wsX1_due := goodIn_ca (goodIn_ca (goodIn_r _ [86, 87, 46, 47, 48, 4, 49, 50, 51, 6, 16, 17, 18, 19, 20, 21, 22, 23, 111, 112, 113, 114, 115, 116, 117, 118, 119, 120, 121, 122, 123, 124, 125, 126, 127] (by decide +kernel) (by decide +kernel)) (goodIn_sub (fun _ h => List.mem_cons_of_mem _ (List.mem_append_right _ h)) (by decide +kernel))) (goodIn_sub (fun _ h => List.mem_cons_of_mem _ (List.mem_append_left _ (List.mem_append_right _ h))) (by decide +kernel))
set_option maxRecDepth 20000 in
theorem gL_areYears_X1_due : GoodIn wsL_areYears (wsV RL 73 RX1 yX1_due wsX1_due) := goodIn_app (goodIn_of _ (by decide +kernel)) ggL_areYears_X1_due
set_option maxRecDepth 20000 in
theorem ggL_areYears_X1_bill : GoodIn wsL_areYears wsX1_bill := goodIn_ca (goodIn_ca (goodIn_r _ [91, 92, 46, 47, 48, 4, 49, 50, 51, 6, 16, 17, 18, 19, 20, 21, 22, 23, 111, 112, 113, 114, 115, 116, 117, 118, 119, 120, 121, 122, 123, 124, 125, 126, 127] (by decide +kernel) (by decide +kernel)) (goodIn_sub (fun _ h => List.mem_cons_of_mem _ (List.mem_append_right _ h)) (by decide +kernel))) (goodIn_sub (fun _ h => List.mem_cons_of_mem _ (List.mem_append_left _ (List.mem_append_right _ h))) (by decide +kernel))
set_option maxRecDepth 20000 in
theorem gL_areYears_X1_bill : GoodIn wsL_areYears (wsV RL 69 RX1 yX1_bill wsX1_bill) := goodIn_app (goodIn_of _ (by decide +kernel)) ggL_areYears_X1_bill
set_option maxRecDepth 20000 in
theorem ggL_areYears_X1_lapsed : GoodIn wsL_areYears wsX1_lapsed := goodIn_r _ [96, 45, 97, 98, 99, 55, 100, 101, 111, 112, 113, 114, 115, 116, 117, 118, 119, 120, 121, 122, 123, 124, 125, 126, 127, 128, 129, 130] (by decide +kernel) (by decide +kernel)
set_option maxRecDepth 20000 in
theorem gL_areYears_X1_lapsed : GoodIn wsL_areYears (wsV RL 98 RX1 yX1_lapsed wsX1_lapsed) := goodIn_app (goodIn_of _ (by decide +kernel)) ggL_areYears_X1_lapsed
set_option maxRecDepth 20000 in
theorem ggL_areYears_X1_open : GoodIn wsL_areYears wsX1_open := goodIn_r _ [105, 106, 107, 108, 109, 4, 110, 6, 87, 111, 112, 113, 114, 115, 116, 117, 118, 119, 120, 121, 122, 123, 124, 125, 126, 127] (by decide +kernel) (by decide +kernel)
set_option maxRecDepth 20000 in
theorem gL_areYears_X1_open : GoodIn wsL_areYears (wsV RL 62 RX1 yX1_open wsX1_open) := goodIn_app (goodIn_of _ (by decide +kernel)) ggL_areYears_X1_open
theorem dL_areYears_0 : decode cL_areYears 0 = .ok (.iconst 0, 1) := by decide +kernel
theorem dL_areYears_1 : decode cL_areYears 1 = .ok (.istore_n 2, 1) := by decide +kernel
theorem dL_areYears_2 : decode cL_areYears 2 = .ok (.iconst 0, 1) := by decide +kernel
theorem dL_areYears_3 : decode cL_areYears 3 = .ok (.istore_n 3, 1) := by decide +kernel
theorem dL_areYears_4 : decode cL_areYears 4 = .ok (.iconst 0, 1) := by decide +kernel
theorem dL_areYears_5 : decode cL_areYears 5 = .ok (.istore 4, 2) := by decide +kernel
theorem dL_areYears_7 : decode cL_areYears 7 = .ok (.iconst 0, 1) := by decide +kernel
theorem dL_areYears_8 : decode cL_areYears 8 = .ok (.istore 5, 2) := by decide +kernel
theorem dL_areYears_10 : decode cL_areYears 10 = .ok (.lconst 0, 1) := by decide +kernel
theorem dL_areYears_11 : decode cL_areYears 11 = .ok (.lstore 6, 2) := by decide +kernel
theorem dL_areYears_13 : decode cL_areYears 13 = .ok (.lconst 0, 1) := by decide +kernel
theorem dL_areYears_14 : decode cL_areYears 14 = .ok (.lstore 8, 2) := by decide +kernel
theorem dL_areYears_16 : decode cL_areYears 16 = .ok (.aload_n 0, 1) := by decide +kernel
theorem dL_areYears_17 : decode cL_areYears 17 = .ok (.invokevirtual 10, 3) := by decide +kernel
theorem dL_areYears_20 : decode cL_areYears 20 = .ok (.aload_n 1, 1) := by decide +kernel
theorem dL_areYears_21 : decode cL_areYears 21 = .ok (.iconst 5, 1) := by decide +kernel
theorem dL_areYears_22 : decode cL_areYears 22 = .ok (.iaload, 1) := by decide +kernel
theorem dL_areYears_23 : decode cL_areYears 23 = .ok (.if_icmp .ne 7, 3) := by decide +kernel
theorem dL_areYears_26 : decode cL_areYears 26 = .ok (.iconst 1, 1) := by decide +kernel
theorem dL_areYears_27 : decode cL_areYears 27 = .ok (.goto 4, 3) := by decide +kernel
theorem dL_areYears_30 : decode cL_areYears 30 = .ok (.iconst 0, 1) := by decide +kernel
theorem dL_areYears_31 : decode cL_areYears 31 = .ok (.istore 10, 2) := by decide +kernel
theorem dL_areYears_33 : decode cL_areYears 33 = .ok (.iconst 0, 1) := by decide +kernel
theorem dL_areYears_34 : decode cL_areYears 34 = .ok (.istore 11, 2) := by decide +kernel
theorem dL_areYears_36 : decode cL_areYears 36 = .ok (.iload 11, 2) := by decide +kernel
theorem dL_areYears_38 : decode cL_areYears 38 = .ok (.aload_n 1, 1) := by decide +kernel
theorem dL_areYears_39 : decode cL_areYears 39 = .ok (.iconst 5, 1) := by decide +kernel
theorem dL_areYears_40 : decode cL_areYears 40 = .ok (.iaload, 1) := by decide +kernel
theorem dL_areYears_41 : decode cL_areYears 41 = .ok (.if_icmp .ge 157, 3) := by decide +kernel
theorem dL_areYears_44 : decode cL_areYears 44 = .ok (.iload 10, 2) := by decide +kernel
theorem dL_areYears_46 : decode cL_areYears 46 = .ok (.ifCond .eq 152, 3) := by decide +kernel
theorem dL_areYears_49 : decode cL_areYears 49 = .ok (.aload_n 0, 1) := by decide +kernel
theorem dL_areYears_50 : decode cL_areYears 50 = .ok (.aload_n 1, 1) := by decide +kernel
theorem dL_areYears_51 : decode cL_areYears 51 = .ok (.iload 11, 2) := by decide +kernel
theorem dL_areYears_53 : decode cL_areYears 53 = .ok (.invokestatic 94, 3) := by decide +kernel
theorem dL_areYears_56 : decode cL_areYears 56 = .ok (.istore 10, 2) := by decide +kernel
theorem dL_areYears_58 : decode cL_areYears 58 = .ok (.iload_n 2, 1) := by decide +kernel
theorem dL_areYears_59 : decode cL_areYears 59 = .ok (.aload_n 0, 1) := by decide +kernel
theorem dL_areYears_60 : decode cL_areYears 60 = .ok (.iload 11, 2) := by decide +kernel
theorem dL_areYears_62 : decode cL_areYears 62 = .ok (.invokevirtual 79, 3) := by decide +kernel
theorem dL_areYears_65 : decode cL_areYears 65 = .ok (.iadd, 1) := by decide +kernel
theorem dL_areYears_66 : decode cL_areYears 66 = .ok (.istore_n 2, 1) := by decide +kernel
theorem dL_areYears_67 : decode cL_areYears 67 = .ok (.iload_n 3, 1) := by decide +kernel
theorem dL_areYears_68 : decode cL_areYears 68 = .ok (.aload_n 0, 1) := by decide +kernel
theorem dL_areYears_69 : decode cL_areYears 69 = .ok (.iload 11, 2) := by decide +kernel
theorem dL_areYears_71 : decode cL_areYears 71 = .ok (.invokevirtual 91, 3) := by decide +kernel
theorem dL_areYears_74 : decode cL_areYears 74 = .ok (.aload_n 0, 1) := by decide +kernel
theorem dL_areYears_75 : decode cL_areYears 75 = .ok (.iload 11, 2) := by decide +kernel
theorem dL_areYears_77 : decode cL_areYears 77 = .ok (.invokevirtual 76, 3) := by decide +kernel
theorem dL_areYears_80 : decode cL_areYears 80 = .ok (.iadd, 1) := by decide +kernel
theorem dL_areYears_81 : decode cL_areYears 81 = .ok (.iadd, 1) := by decide +kernel
theorem dL_areYears_82 : decode cL_areYears 82 = .ok (.istore_n 3, 1) := by decide +kernel
theorem dL_areYears_83 : decode cL_areYears 83 = .ok (.iload 4, 2) := by decide +kernel
theorem dL_areYears_85 : decode cL_areYears 85 = .ok (.aload_n 0, 1) := by decide +kernel
theorem dL_areYears_86 : decode cL_areYears 86 = .ok (.iload 11, 2) := by decide +kernel
theorem dL_areYears_88 : decode cL_areYears 88 = .ok (.invokevirtual 85, 3) := by decide +kernel
theorem dL_areYears_91 : decode cL_areYears 91 = .ok (.iadd, 1) := by decide +kernel
theorem dL_areYears_92 : decode cL_areYears 92 = .ok (.istore 4, 2) := by decide +kernel
theorem dL_areYears_94 : decode cL_areYears 94 = .ok (.iload 5, 2) := by decide +kernel
theorem dL_areYears_96 : decode cL_areYears 96 = .ok (.aload_n 0, 1) := by decide +kernel
theorem dL_areYears_97 : decode cL_areYears 97 = .ok (.iload 11, 2) := by decide +kernel
theorem dL_areYears_99 : decode cL_areYears 99 = .ok (.invokevirtual 88, 3) := by decide +kernel
theorem dL_areYears_102 : decode cL_areYears 102 = .ok (.aload_n 0, 1) := by decide +kernel
theorem dL_areYears_103 : decode cL_areYears 103 = .ok (.iload 11, 2) := by decide +kernel
theorem dL_areYears_105 : decode cL_areYears 105 = .ok (.invokevirtual 82, 3) := by decide +kernel
theorem dL_areYears_108 : decode cL_areYears 108 = .ok (.iadd, 1) := by decide +kernel
theorem dL_areYears_109 : decode cL_areYears 109 = .ok (.iadd, 1) := by decide +kernel
theorem dL_areYears_110 : decode cL_areYears 110 = .ok (.istore 5, 2) := by decide +kernel
theorem dL_areYears_112 : decode cL_areYears 112 = .ok (.lload 6, 2) := by decide +kernel
theorem dL_areYears_114 : decode cL_areYears 114 = .ok (.aload_n 0, 1) := by decide +kernel
theorem dL_areYears_115 : decode cL_areYears 115 = .ok (.iload 11, 2) := by decide +kernel
theorem dL_areYears_117 : decode cL_areYears 117 = .ok (.invokevirtual 73, 3) := by decide +kernel
theorem dL_areYears_120 : decode cL_areYears 120 = .ok (.ladd, 1) := by decide +kernel
theorem dL_areYears_121 : decode cL_areYears 121 = .ok (.lstore 6, 2) := by decide +kernel
theorem dL_areYears_123 : decode cL_areYears 123 = .ok (.lload 8, 2) := by decide +kernel
theorem dL_areYears_125 : decode cL_areYears 125 = .ok (.aload_n 0, 1) := by decide +kernel
theorem dL_areYears_126 : decode cL_areYears 126 = .ok (.iload 11, 2) := by decide +kernel
theorem dL_areYears_128 : decode cL_areYears 128 = .ok (.invokevirtual 69, 3) := by decide +kernel
theorem dL_areYears_131 : decode cL_areYears 131 = .ok (.ladd, 1) := by decide +kernel
theorem dL_areYears_132 : decode cL_areYears 132 = .ok (.lstore 8, 2) := by decide +kernel
theorem dL_areYears_134 : decode cL_areYears 134 = .ok (.iload 10, 2) := by decide +kernel
theorem dL_areYears_136 : decode cL_areYears 136 = .ok (.ifCond .eq 53, 3) := by decide +kernel
theorem dL_areYears_139 : decode cL_areYears 139 = .ok (.aload_n 1, 1) := by decide +kernel
theorem dL_areYears_140 : decode cL_areYears 140 = .ok (.iconst 5, 1) := by decide +kernel
theorem dL_areYears_141 : decode cL_areYears 141 = .ok (.iaload, 1) := by decide +kernel
theorem dL_areYears_142 : decode cL_areYears 142 = .ok (.iconst 1, 1) := by decide +kernel
theorem dL_areYears_143 : decode cL_areYears 143 = .ok (.isub, 1) := by decide +kernel
theorem dL_areYears_144 : decode cL_areYears 144 = .ok (.iload 11, 2) := by decide +kernel
theorem dL_areYears_146 : decode cL_areYears 146 = .ok (.aload_n 1, 1) := by decide +kernel
theorem dL_areYears_147 : decode cL_areYears 147 = .ok (.iconst 3, 1) := by decide +kernel
theorem dL_areYears_148 : decode cL_areYears 148 = .ok (.iaload, 1) := by decide +kernel
theorem dL_areYears_149 : decode cL_areYears 149 = .ok (.iadd, 1) := by decide +kernel
theorem dL_areYears_150 : decode cL_areYears 150 = .ok (.if_icmp .le 12, 3) := by decide +kernel
theorem dL_areYears_153 : decode cL_areYears 153 = .ok (.aload_n 0, 1) := by decide +kernel
theorem dL_areYears_154 : decode cL_areYears 154 = .ok (.iload 11, 2) := by decide +kernel
theorem dL_areYears_156 : decode cL_areYears 156 = .ok (.invokevirtual 76, 3) := by decide +kernel
theorem dL_areYears_159 : decode cL_areYears 159 = .ok (.ifCond .ne 30, 3) := by decide +kernel
theorem dL_areYears_162 : decode cL_areYears 162 = .ok (.aload_n 1, 1) := by decide +kernel
theorem dL_areYears_163 : decode cL_areYears 163 = .ok (.iconst 5, 1) := by decide +kernel
theorem dL_areYears_164 : decode cL_areYears 164 = .ok (.iaload, 1) := by decide +kernel
theorem dL_areYears_165 : decode cL_areYears 165 = .ok (.iconst 1, 1) := by decide +kernel
theorem dL_areYears_166 : decode cL_areYears 166 = .ok (.isub, 1) := by decide +kernel
theorem dL_areYears_167 : decode cL_areYears 167 = .ok (.iload 11, 2) := by decide +kernel
theorem dL_areYears_169 : decode cL_areYears 169 = .ok (.aload_n 1, 1) := by decide +kernel
theorem dL_areYears_170 : decode cL_areYears 170 = .ok (.iconst 4, 1) := by decide +kernel
theorem dL_areYears_171 : decode cL_areYears 171 = .ok (.iaload, 1) := by decide +kernel
theorem dL_areYears_172 : decode cL_areYears 172 = .ok (.iadd, 1) := by decide +kernel
theorem dL_areYears_173 : decode cL_areYears 173 = .ok (.if_icmp .le 12, 3) := by decide +kernel
theorem dL_areYears_176 : decode cL_areYears 176 = .ok (.aload_n 0, 1) := by decide +kernel
theorem dL_areYears_177 : decode cL_areYears 177 = .ok (.iload 11, 2) := by decide +kernel
theorem dL_areYears_179 : decode cL_areYears 179 = .ok (.invokevirtual 82, 3) := by decide +kernel
theorem dL_areYears_182 : decode cL_areYears 182 = .ok (.ifCond .ne 7, 3) := by decide +kernel
theorem dL_areYears_185 : decode cL_areYears 185 = .ok (.iconst 1, 1) := by decide +kernel
theorem dL_areYears_186 : decode cL_areYears 186 = .ok (.goto 4, 3) := by decide +kernel
theorem dL_areYears_189 : decode cL_areYears 189 = .ok (.iconst 0, 1) := by decide +kernel
theorem dL_areYears_190 : decode cL_areYears 190 = .ok (.istore 10, 2) := by decide +kernel
theorem dL_areYears_192 : decode cL_areYears 192 = .ok (.iinc 11 1, 3) := by decide +kernel
theorem dL_areYears_195 : decode cL_areYears 195 = .ok (.goto (-159), 3) := by decide +kernel
theorem dL_areYears_198 : decode cL_areYears 198 = .ok (.iload 10, 2) := by decide +kernel
theorem dL_areYears_200 : decode cL_areYears 200 = .ok (.ifCond .eq 44, 3) := by decide +kernel
theorem dL_areYears_203 : decode cL_areYears 203 = .ok (.iload_n 2, 1) := by decide +kernel
theorem dL_areYears_204 : decode cL_areYears 204 = .ok (.iload_n 3, 1) := by decide +kernel
theorem dL_areYears_205 : decode cL_areYears 205 = .ok (.aload_n 0, 1) := by decide +kernel
theorem dL_areYears_206 : decode cL_areYears 206 = .ok (.invokevirtual 98, 3) := by decide +kernel
theorem dL_areYears_209 : decode cL_areYears 209 = .ok (.iadd, 1) := by decide +kernel
theorem dL_areYears_210 : decode cL_areYears 210 = .ok (.if_icmp .ne 34, 3) := by decide +kernel
theorem dL_areYears_213 : decode cL_areYears 213 = .ok (.aload_n 0, 1) := by decide +kernel
theorem dL_areYears_214 : decode cL_areYears 214 = .ok (.invokevirtual 98, 3) := by decide +kernel
theorem dL_areYears_217 : decode cL_areYears 217 = .ok (.ifCond .lt 27, 3) := by decide +kernel
theorem dL_areYears_220 : decode cL_areYears 220 = .ok (.iload 5, 2) := by decide +kernel
theorem dL_areYears_222 : decode cL_areYears 222 = .ok (.iload 4, 2) := by decide +kernel
theorem dL_areYears_224 : decode cL_areYears 224 = .ok (.if_icmp .gt 20, 3) := by decide +kernel
theorem dL_areYears_227 : decode cL_areYears 227 = .ok (.aload_n 0, 1) := by decide +kernel
theorem dL_areYears_228 : decode cL_areYears 228 = .ok (.invokevirtual 62, 3) := by decide +kernel
theorem dL_areYears_231 : decode cL_areYears 231 = .ok (.lload 6, 2) := by decide +kernel
theorem dL_areYears_233 : decode cL_areYears 233 = .ok (.lload 8, 2) := by decide +kernel
theorem dL_areYears_235 : decode cL_areYears 235 = .ok (.lsub, 1) := by decide +kernel
theorem dL_areYears_236 : decode cL_areYears 236 = .ok (.lcmp, 1) := by decide +kernel
theorem dL_areYears_237 : decode cL_areYears 237 = .ok (.ifCond .ne 7, 3) := by decide +kernel
theorem dL_areYears_240 : decode cL_areYears 240 = .ok (.iconst 1, 1) := by decide +kernel
theorem dL_areYears_241 : decode cL_areYears 241 = .ok (.goto 4, 3) := by decide +kernel
theorem dL_areYears_244 : decode cL_areYears 244 = .ok (.iconst 0, 1) := by decide +kernel
theorem dL_areYears_245 : decode cL_areYears 245 = .ok (.ireturn, 1) := by decide +kernel
set_option maxRecDepth 20000 in
theorem ggL_law_X1_init : GoodIn wsL_law wsX1_init := goodIn_r _ [7, 8, 9, 10, 11, 12, 13, 14, 3, 15, 16, 17, 18, 19, 20, 21, 22, 23, 24, 25, 26, 27, 28, 29, 30, 31, 32, 33, 34, 35, 36, 37, 38, 39, 40, 255, 256, 257, 258, 259, 260, 261, 262, 263, 264, 265, 266, 267, 268, 269, 270, 271, 272, 273, 274] (by decide +kernel) (by decide +kernel)
set_option maxRecDepth 20000 in
theorem gL_law_X1_init : GoodIn wsL_law (wsX1_init) := ggL_law_X1_init
set_option maxRecDepth 20000 in
theorem ggL_law_X1_closed : GoodIn wsL_law wsX1_closed := goodIn_r _ [44, 45, 255, 256, 257, 258, 259, 260, 261, 262, 263, 264, 265, 266, 267, 268, 269, 270, 271] (by decide +kernel) (by decide +kernel)
set_option maxRecDepth 20000 in
theorem gL_law_X1_closed : GoodIn wsL_law (wsV RL 10 RX1 yX1_closed wsX1_closed) := goodIn_app (goodIn_of _ (by decide +kernel)) ggL_law_X1_closed
set_option maxRecDepth 20000 in
theorem ggL_law_X1_open : GoodIn wsL_law wsX1_open := goodIn_r _ [49, 50, 51, 52, 53, 2, 54, 45, 29, 255, 256, 257, 258, 259, 260, 261, 262, 263, 264, 265, 266, 267, 268, 269, 270, 271] (by decide +kernel) (by decide +kernel)
set_option maxRecDepth 20000 in
theorem gL_law_X1_open : GoodIn wsL_law (wsV RL 62 RX1 yX1_open wsX1_open) := goodIn_app (goodIn_of _ (by decide +kernel)) ggL_law_X1_open
set_option maxRecDepth 20000 in
theorem ggL_law_X1_lapsed : GoodIn wsL_law wsX1_lapsed := goodIn_r _ [58, 22, 59, 60, 61, 21, 62, 63, 255, 256, 257, 258, 259, 260, 261, 262, 263, 264, 265, 266, 267, 268, 269, 270, 271, 272, 273, 274] (by decide +kernel) (by decide +kernel)
set_option maxRecDepth 20000 in
theorem gL_law_X1_lapsed : GoodIn wsL_law (wsV RL 98 RX1 yX1_lapsed wsX1_lapsed) := goodIn_app (goodIn_of _ (by decide +kernel)) ggL_law_X1_lapsed
set_option maxRecDepth 20000 in
theorem ggL_law_X1_least : GoodIn wsL_law wsX1_least := goodIn_ca (goodIn_r _ [67, 68, 69, 2, 70, 71, 72, 73, 74, 75, 76, 77, 78, 79, 12, 13, 16, 80, 255, 256, 257, 258, 259, 260, 261, 262, 263, 264, 265, 266, 267, 268, 269, 270, 271] (by decide +kernel) (by decide +kernel)) (goodIn_sub (fun _ h => List.mem_append_left _ (List.mem_append_right _ h)) (by decide +kernel))
set_option maxRecDepth 20000 in
theorem gL_law_X1_least : GoodIn wsL_law (wsV RL 21 RX1 yX1_least wsX1_least) := goodIn_app (goodIn_of _ (by decide +kernel)) ggL_law_X1_least
set_option maxRecDepth 20000 in
theorem ggL_law_X1_price : GoodIn wsL_law wsX1_price := goodIn_ca (goodIn_r _ [84, 15, 68, 69, 2, 70, 71, 72, 73, 74, 75, 255, 256, 257, 258, 259, 260, 261, 262, 263, 264, 265, 266, 267, 268, 269, 270, 271] (by decide +kernel) (by decide +kernel)) (goodIn_sub (fun _ h => List.mem_append_left _ (List.mem_append_right _ h)) (by decide +kernel))
set_option maxRecDepth 20000 in
theorem gL_law_X1_price : GoodIn wsL_law (wsV RL 27 RX1 yX1_price wsX1_price) := goodIn_app (goodIn_of _ (by decide +kernel)) ggL_law_X1_price
set_option maxRecDepth 20000 in
theorem ggL_law_L_draw : GoodIn wsL_law wsL_draw := goodIn_r _ [88, 89, 90, 91] (by decide +kernel) (by decide +kernel)
theorem dL_law_0 : decode cL_law 0 = .ok (.new 11, 3) := by decide +kernel
theorem dL_law_3 : decode cL_law 3 = .ok (.dup, 1) := by decide +kernel
theorem dL_law_4 : decode cL_law 4 = .ok (.invokespecial 101, 3) := by decide +kernel
theorem dL_law_7 : decode cL_law 7 = .ok (.astore_n 1, 1) := by decide +kernel
theorem dL_law_8 : decode cL_law 8 = .ok (.bipush 7, 2) := by decide +kernel
theorem dL_law_10 : decode cL_law 10 = .ok (.newarray .int, 2) := by decide +kernel
theorem dL_law_12 : decode cL_law 12 = .ok (.astore_n 2, 1) := by decide +kernel
theorem dL_law_13 : decode cL_law 13 = .ok (.aload_n 2, 1) := by decide +kernel
theorem dL_law_14 : decode cL_law 14 = .ok (.iconst 0, 1) := by decide +kernel
theorem dL_law_15 : decode cL_law 15 = .ok (.ldc 102, 2) := by decide +kernel
theorem dL_law_17 : decode cL_law 17 = .ok (.iastore, 1) := by decide +kernel
theorem dL_law_18 : decode cL_law 18 = .ok (.aload_n 2, 1) := by decide +kernel
theorem dL_law_19 : decode cL_law 19 = .ok (.iconst 1, 1) := by decide +kernel
theorem dL_law_20 : decode cL_law 20 = .ok (.bipush 80, 2) := by decide +kernel
theorem dL_law_22 : decode cL_law 22 = .ok (.iastore, 1) := by decide +kernel
theorem dL_law_23 : decode cL_law 23 = .ok (.aload_n 2, 1) := by decide +kernel
theorem dL_law_24 : decode cL_law 24 = .ok (.iconst 2, 1) := by decide +kernel
theorem dL_law_25 : decode cL_law 25 = .ok (.bipush 100, 2) := by decide +kernel
theorem dL_law_27 : decode cL_law 27 = .ok (.iastore, 1) := by decide +kernel
theorem dL_law_28 : decode cL_law 28 = .ok (.aload_n 2, 1) := by decide +kernel
theorem dL_law_29 : decode cL_law 29 = .ok (.iconst 3, 1) := by decide +kernel
theorem dL_law_30 : decode cL_law 30 = .ok (.iconst 3, 1) := by decide +kernel
theorem dL_law_31 : decode cL_law 31 = .ok (.iastore, 1) := by decide +kernel
theorem dL_law_32 : decode cL_law 32 = .ok (.aload_n 2, 1) := by decide +kernel
theorem dL_law_33 : decode cL_law 33 = .ok (.iconst 4, 1) := by decide +kernel
theorem dL_law_34 : decode cL_law 34 = .ok (.iconst 2, 1) := by decide +kernel
theorem dL_law_35 : decode cL_law 35 = .ok (.iastore, 1) := by decide +kernel
theorem dL_law_36 : decode cL_law 36 = .ok (.aload_n 1, 1) := by decide +kernel
theorem dL_law_37 : decode cL_law 37 = .ok (.invokevirtual 10, 3) := by decide +kernel
end
section
theorem dL_law_40 : decode cL_law 40 = .ok (.ifCond .ne 45, 3) := by decide +kernel
theorem dL_law_43 : decode cL_law 43 = .ok (.aload_n 1, 1) := by decide +kernel
theorem dL_law_44 : decode cL_law 44 = .ok (.invokevirtual 62, 3) := by decide +kernel
theorem dL_law_47 : decode cL_law 47 = .ok (.lconst 0, 1) := by decide +kernel
theorem dL_law_48 : decode cL_law 48 = .ok (.lcmp, 1) := by decide +kernel
theorem dL_law_49 : decode cL_law 49 = .ok (.ifCond .ne 36, 3) := by decide +kernel
theorem dL_law_52 : decode cL_law 52 = .ok (.aload_n 1, 1) := by decide +kernel
theorem dL_law_53 : decode cL_law 53 = .ok (.invokevirtual 98, 3) := by decide +kernel
theorem dL_law_56 : decode cL_law 56 = .ok (.ifCond .ne 29, 3) := by decide +kernel
theorem dL_law_59 : decode cL_law 59 = .ok (.aload_n 1, 1) := by decide +kernel
theorem dL_law_60 : decode cL_law 60 = .ok (.bipush 19, 2) := by decide +kernel
theorem dL_law_62 : decode cL_law 62 = .ok (.invokevirtual 21, 3) := by decide +kernel
theorem dL_law_65 : decode cL_law 65 = .ok (.sipush 28800, 3) := by decide +kernel
theorem dL_law_68 : decode cL_law 68 = .ok (.if_icmp .ne 17, 3) := by decide +kernel
theorem dL_law_71 : decode cL_law 71 = .ok (.aload_n 1, 1) := by decide +kernel
theorem dL_law_72 : decode cL_law 72 = .ok (.iconst 0, 1) := by decide +kernel
theorem dL_law_73 : decode cL_law 73 = .ok (.invokevirtual 27, 3) := by decide +kernel
theorem dL_law_76 : decode cL_law 76 = .ok (.bipush 100, 2) := by decide +kernel
theorem dL_law_78 : decode cL_law 78 = .ok (.if_icmp .ne 7, 3) := by decide +kernel
theorem dL_law_81 : decode cL_law 81 = .ok (.iconst 1, 1) := by decide +kernel
theorem dL_law_82 : decode cL_law 82 = .ok (.goto 4, 3) := by decide +kernel
theorem dL_law_85 : decode cL_law 85 = .ok (.iconst 0, 1) := by decide +kernel
theorem dL_law_86 : decode cL_law 86 = .ok (.istore_n 3, 1) := by decide +kernel
theorem dL_law_87 : decode cL_law 87 = .ok (.aload_n 0, 1) := by decide +kernel
theorem dL_law_88 : decode cL_law 88 = .ok (.arraylength, 1) := by decide +kernel
theorem dL_law_89 : decode cL_law 89 = .ok (.iconst 3, 1) := by decide +kernel
theorem dL_law_90 : decode cL_law 90 = .ok (.idiv, 1) := by decide +kernel
theorem dL_law_91 : decode cL_law 91 = .ok (.bipush 80, 2) := by decide +kernel
theorem dL_law_93 : decode cL_law 93 = .ok (.if_icmp .le 8, 3) := by decide +kernel
theorem dL_law_96 : decode cL_law 96 = .ok (.bipush 80, 2) := by decide +kernel
theorem dL_law_98 : decode cL_law 98 = .ok (.goto 7, 3) := by decide +kernel
theorem dL_law_101 : decode cL_law 101 = .ok (.aload_n 0, 1) := by decide +kernel
theorem dL_law_102 : decode cL_law 102 = .ok (.arraylength, 1) := by decide +kernel
theorem dL_law_103 : decode cL_law 103 = .ok (.iconst 3, 1) := by decide +kernel
theorem dL_law_104 : decode cL_law 104 = .ok (.idiv, 1) := by decide +kernel
theorem dL_law_105 : decode cL_law 105 = .ok (.istore 4, 2) := by decide +kernel
theorem dL_law_107 : decode cL_law 107 = .ok (.iconst 0, 1) := by decide +kernel
theorem dL_law_108 : decode cL_law 108 = .ok (.istore 5, 2) := by decide +kernel
theorem dL_law_110 : decode cL_law 110 = .ok (.iload 5, 2) := by decide +kernel
theorem dL_law_112 : decode cL_law 112 = .ok (.iload 4, 2) := by decide +kernel
theorem dL_law_114 : decode cL_law 114 = .ok (.if_icmp .ge 63, 3) := by decide +kernel
theorem dL_law_117 : decode cL_law 117 = .ok (.iload_n 3, 1) := by decide +kernel
theorem dL_law_118 : decode cL_law 118 = .ok (.ifCond .eq 59, 3) := by decide +kernel
theorem dL_law_121 : decode cL_law 121 = .ok (.aload_n 1, 1) := by decide +kernel
theorem dL_law_122 : decode cL_law 122 = .ok (.aload_n 2, 1) := by decide +kernel
theorem dL_law_123 : decode cL_law 123 = .ok (.aload_n 0, 1) := by decide +kernel
theorem dL_law_124 : decode cL_law 124 = .ok (.iconst 3, 1) := by decide +kernel
theorem dL_law_125 : decode cL_law 125 = .ok (.iload 5, 2) := by decide +kernel
theorem dL_law_127 : decode cL_law 127 = .ok (.imul, 1) := by decide +kernel
theorem dL_law_128 : decode cL_law 128 = .ok (.invokestatic 103, 3) := by decide +kernel
theorem dL_law_131 : decode cL_law 131 = .ok (.aload_n 0, 1) := by decide +kernel
theorem dL_law_132 : decode cL_law 132 = .ok (.iconst 3, 1) := by decide +kernel
theorem dL_law_133 : decode cL_law 133 = .ok (.iload 5, 2) := by decide +kernel
theorem dL_law_135 : decode cL_law 135 = .ok (.imul, 1) := by decide +kernel
theorem dL_law_136 : decode cL_law 136 = .ok (.iconst 1, 1) := by decide +kernel
theorem dL_law_137 : decode cL_law 137 = .ok (.iadd, 1) := by decide +kernel
theorem dL_law_138 : decode cL_law 138 = .ok (.invokestatic 103, 3) := by decide +kernel
theorem dL_law_141 : decode cL_law 141 = .ok (.aload_n 0, 1) := by decide +kernel
theorem dL_law_142 : decode cL_law 142 = .ok (.iconst 3, 1) := by decide +kernel
theorem dL_law_143 : decode cL_law 143 = .ok (.iload 5, 2) := by decide +kernel
theorem dL_law_145 : decode cL_law 145 = .ok (.imul, 1) := by decide +kernel
theorem dL_law_146 : decode cL_law 146 = .ok (.iconst 2, 1) := by decide +kernel
theorem dL_law_147 : decode cL_law 147 = .ok (.iadd, 1) := by decide +kernel
theorem dL_law_148 : decode cL_law 148 = .ok (.invokestatic 103, 3) := by decide +kernel
theorem dL_law_151 : decode cL_law 151 = .ok (.invokestatic 107, 3) := by decide +kernel
theorem dL_law_154 : decode cL_law 154 = .ok (.ifCond .eq 15, 3) := by decide +kernel
theorem dL_law_157 : decode cL_law 157 = .ok (.aload_n 1, 1) := by decide +kernel
theorem dL_law_158 : decode cL_law 158 = .ok (.aload_n 2, 1) := by decide +kernel
theorem dL_law_159 : decode cL_law 159 = .ok (.invokestatic 110, 3) := by decide +kernel
theorem dL_law_162 : decode cL_law 162 = .ok (.ifCond .eq 7, 3) := by decide +kernel
theorem dL_law_165 : decode cL_law 165 = .ok (.iconst 1, 1) := by decide +kernel
theorem dL_law_166 : decode cL_law 166 = .ok (.goto 4, 3) := by decide +kernel
theorem dL_law_169 : decode cL_law 169 = .ok (.iconst 0, 1) := by decide +kernel
theorem dL_law_170 : decode cL_law 170 = .ok (.istore_n 3, 1) := by decide +kernel
theorem dL_law_171 : decode cL_law 171 = .ok (.iinc 5 1, 3) := by decide +kernel
theorem dL_law_174 : decode cL_law 174 = .ok (.goto (-64), 3) := by decide +kernel
theorem dL_law_177 : decode cL_law 177 = .ok (.iload_n 3, 1) := by decide +kernel
theorem dL_law_178 : decode cL_law 178 = .ok (.ireturn, 1) := by decide +kernel
end
section
theorem gs_step0 : GoodIn wsL_law [.code yL_step cL_step 10 (some .boolean)] := goodIn_r _ [94] (by decide +kernel) (by decide +kernel)
set_option maxRecDepth 20000 in
theorem gwsL_step_r1 : GoodIn wsL_law wsL_step_r1 := goodIn_r _ [95, 96, 97, 41, 42, 43, 2, 44, 45, 98, 99, 100, 101, 102, 12, 13, 14, 22, 23, 71, 72, 73, 74, 75] (by decide +kernel) (by decide +kernel)
set_option maxRecDepth 20000 in
theorem gwsL_step_r2 : GoodIn wsL_law wsL_step_r2 := goodIn_r _ [103, 104, 105, 106, 107, 108, 18, 109, 110, 111, 21, 112, 40, 64, 65, 66, 67, 68, 69, 70, 76, 77, 78, 79] (by decide +kernel) (by decide +kernel)
set_option maxRecDepth 20000 in
theorem gwsL_step_r3 : GoodIn wsL_law wsL_step_r3 := goodIn_r _ [16, 80, 81, 82, 83, 84, 15, 113, 114, 115, 116, 117, 118, 119, 120, 121, 122, 123, 124, 39, 63, 125, 32, 33] (by decide +kernel) (by decide +kernel)
set_option maxRecDepth 20000 in
theorem gwsL_step_r4 : GoodIn wsL_law wsL_step_r4 := goodIn_r _ [34, 126, 127, 128, 129, 130, 131, 132, 133, 26, 24, 25, 27, 29, 134, 135, 136, 137, 138, 139, 140, 141, 142, 143] (by decide +kernel) (by decide +kernel)
set_option maxRecDepth 20000 in
theorem gwsL_step_r5 : GoodIn wsL_law wsL_step_r5 := goodIn_r _ [144, 145, 146, 147, 148, 149, 150, 151, 152, 153, 154, 155, 156, 157, 158, 159, 160, 161, 162, 163, 164, 165, 166, 87] (by decide +kernel) (by decide +kernel)
set_option maxRecDepth 20000 in
theorem gwsL_step_r6 : GoodIn wsL_law wsL_step_r6 := goodIn_r _ [167, 168, 169, 170, 171, 17, 172, 173, 174, 175, 176, 177, 178, 179, 180, 181, 182, 183, 184, 185, 186, 187, 188, 189] (by decide +kernel) (by decide +kernel)
set_option maxRecDepth 20000 in
theorem gwsL_step_r7 : GoodIn wsL_law wsL_step_r7 := goodIn_r _ [190, 191, 192, 193, 194, 195, 196, 197, 198, 199, 200, 201, 202, 203, 204, 46, 47, 48, 49, 50, 51, 52, 53, 54] (by decide +kernel) (by decide +kernel)
set_option maxRecDepth 20000 in
theorem gwsL_step_r8 : GoodIn wsL_law wsL_step_r8 := goodIn_r _ [205, 206, 207, 208, 30, 31, 209, 210, 211, 212, 213, 214, 215, 216, 217, 218, 219, 220] (by decide +kernel) (by decide +kernel)
set_option maxRecDepth 20000 in
theorem gs_step1 : GoodIn wsL_law (((wsL_step_r1 ++ (wsL_step_r2 ++ (wsL_step_r3 ++ (wsL_step_r4 ++ (wsL_step_r5 ++ (wsL_step_r6 ++ (wsL_step_r7 ++ wsL_step_r8))))))) ++ wsX10 ++ wsX00 ++ (vx_atS RX1 132 "java/lang/IllegalArgumentException" ["java/lang/RuntimeException", "java/lang/Exception"]).filter goodWord ++ (vx_atS RX1 139 "java/lang/IllegalStateException" ["java/lang/RuntimeException", "java/lang/Exception"]).filter goodWord)) := goodIn_app (goodIn_app (goodIn_app (goodIn_app (goodIn_app gwsL_step_r1 (goodIn_app gwsL_step_r2 (goodIn_app gwsL_step_r3 (goodIn_app gwsL_step_r4 (goodIn_app gwsL_step_r5 (goodIn_app gwsL_step_r6 (goodIn_app gwsL_step_r7 gwsL_step_r8))))))) (goodIn_sub inlX1 (by decide +kernel))) (goodIn_sub inlX0 (by decide +kernel))) (goodIn_sub (fun _ h => List.mem_append_left _ (List.mem_append_right _ h)) (by decide +kernel))) (goodIn_sub (fun _ h => List.mem_append_right _ h) (by decide +kernel))
theorem ggL_law_L_step : GoodIn wsL_law wsL_step := fun w h => (List.mem_cons.mp h).elim (fun e => gs_step0 w (List.mem_cons.mpr (Or.inl e))) (fun h => gs_step1 w h)
theorem gs_areYears0 : GoodIn wsL_law [.code yL_areYears cL_areYears 12 (some .boolean)] := goodIn_r _ [223] (by decide +kernel) (by decide +kernel)
set_option maxRecDepth 20000 in
theorem gwsL_areYears_r1 : GoodIn wsL_law wsL_areYears_r1 := goodIn_r _ [41, 42, 43, 2, 44, 45, 224, 225, 87, 226, 178, 179, 180, 181, 18, 68, 69, 70, 71, 72, 73, 74, 75, 64] (by decide +kernel) (by decide +kernel)
set_option maxRecDepth 20000 in
theorem gwsL_areYears_r2 : GoodIn wsL_law wsL_areYears_r2 := goodIn_r _ [65, 66, 67, 76, 77, 78, 79, 12, 13, 16, 80, 81, 82, 83, 84, 15, 227, 228, 229, 230, 22, 213, 214, 215] (by decide +kernel) (by decide +kernel)
set_option maxRecDepth 20000 in
theorem gwsL_areYears_r3 : GoodIn wsL_law wsL_areYears_r3 := goodIn_r _ [216, 107, 108, 231, 232, 233, 21, 234, 39, 235, 236, 237, 238, 24, 239, 240, 241, 242, 23, 243, 244, 245, 246, 27] (by decide +kernel) (by decide +kernel)
set_option maxRecDepth 20000 in
theorem gwsL_areYears_r4 : GoodIn wsL_law wsL_areYears_r4 := goodIn_r _ [247, 248, 249, 250, 26, 251, 252, 253, 254, 25, 217, 218, 219, 220, 29, 209, 210, 211, 212, 30, 55, 56, 57, 58] (by decide +kernel) (by decide +kernel)
set_option maxRecDepth 20000 in
theorem gwsL_areYears_r5 : GoodIn wsL_law wsL_areYears_r5 := goodIn_r _ [59, 60, 61, 62, 63, 46, 47, 48, 49, 50, 51, 52, 53, 54] (by decide +kernel) (by decide +kernel)
set_option maxRecDepth 20000 in
theorem gs_areYears1 : GoodIn wsL_law (((wsL_areYears_r1 ++ (wsL_areYears_r2 ++ (wsL_areYears_r3 ++ (wsL_areYears_r4 ++ wsL_areYears_r5)))) ++ wsX10 ++ wsX00 ++ (vx_atS RX1 132 "java/lang/IllegalArgumentException" ["java/lang/RuntimeException", "java/lang/Exception"]).filter goodWord ++ (vx_atS RX1 139 "java/lang/IllegalStateException" ["java/lang/RuntimeException", "java/lang/Exception"]).filter goodWord)) := goodIn_app (goodIn_app (goodIn_app (goodIn_app (goodIn_app gwsL_areYears_r1 (goodIn_app gwsL_areYears_r2 (goodIn_app gwsL_areYears_r3 (goodIn_app gwsL_areYears_r4 gwsL_areYears_r5)))) (goodIn_sub inlX1 (by decide +kernel))) (goodIn_sub inlX0 (by decide +kernel))) (goodIn_sub (fun _ h => List.mem_append_left _ (List.mem_append_right _ h)) (by decide +kernel))) (goodIn_sub (fun _ h => List.mem_append_right _ h) (by decide +kernel))
theorem ggL_law_L_areYears : GoodIn wsL_law wsL_areYears := fun w h => (List.mem_cons.mp h).elim (fun e => gs_areYears0 w (List.mem_cons.mpr (Or.inl e))) (fun h => gs_areYears1 w h)
set_option maxRecDepth 20000 in
theorem gL_law_L_draw : GoodIn wsL_law (va_wsS RL 103 yL_draw wsL_draw) := goodIn_app (goodIn_of _ (by decide +kernel)) ggL_law_L_draw
set_option maxRecDepth 20000 in
theorem gL_law_L_step : GoodIn wsL_law (va_wsS RL 107 yL_step wsL_step) := goodIn_app (goodIn_of _ (by decide +kernel)) ggL_law_L_step
set_option maxRecDepth 20000 in
theorem gL_law_L_areYears : GoodIn wsL_law (va_wsS RL 110 yL_areYears wsL_areYears) := goodIn_app (goodIn_of _ (by decide +kernel)) ggL_law_L_areYears
end
section
/-! my own short forms: heads, ends, calls -/
def IAE : String := "java/lang/IllegalArgumentException"
def ISE : String := "java/lang/IllegalStateException"
abbrev tz_str : List (Nat × String) := [(130, "an argument is out of range"), (137, "the year is not closed"), (140, "all years are closed"), (142, "something was taken, or a year is closed"), (144, "too much would be taken on a day")]
abbrev tz_dn : List MethodName := [Bundle.initS "java/lang/RuntimeException", Bundle.initS "java/lang/Exception", Bundle.initS Bundle.tN]
def tz_Z (A : Nat → Prop) (U : State) (H : Heap) : Prop :=
  vx_Zq Bundle.tN "UNASSIGNED_STACK" Bundle.steD A U H ∧ vx_Zq Bundle.tN "SUPPRESSED_SENTINEL" Bundle.listD A U H ∧ va_Nw (.castable IAE IAE) U ∧ va_Nw (.castable ISE ISE) U ∧ (∀ q ∈ tz_str, ∃ a, vk_R RX1 q.1 q.2 a U) ∧ (∀ x ∈ tz_dn, va_Nw (.declares x) U) ∧ va_Nc ISE IAE U
theorem tz_Z.going {A B : Nat → Prop} {s U : State} {H : Heap} {locs : List Loc} (h : tz_Z A s s.heap) (hS : va_S A s.heap H locs) (hB : ∀ q, B q → A q) (hU : U.heap = H) (hW : s.WarmedH U.vm) : tz_Z B U U.heap := by
  obtain ⟨h1, h2, h3, h4, h5, h6, h7⟩ := h
  have hk : ∀ a : Nat, a < s.heap.size → ¬ A a → U.heap[a]? = s.heap[a]? := fun a q r => by rw [hU]; exact hS.2.1 a q r
  exact ⟨(vx_Zq.moved hW.alike (h1.kept hk)).narrow hB, (vx_Zq.moved hW.alike (h2.kept hk)).narrow hB, va_Nw.warmC hW h3, va_Nw.warmC hW h4, fun q hq => by obtain ⟨a, ha⟩ := h5 q hq; exact ⟨a, vk_R.warm hW ha⟩, fun x hx => va_Nw.warmD hW (h6 x hx), h7.moved hW.alike⟩
theorem tz_Z.blind {A : Nat → Prop} {U : State} {g : JFrame} {mk : MethodId} {a : Array Value} (h : tz_Z A U U.heap) : tz_Z A (U.calling g mk a) (U.calling g mk a).heap := by
  obtain ⟨h1, h2, h3, h4, h5, h6, h7⟩ := h
  exact ⟨vx_Zq.moved (u := U) (U := U.calling g mk a) (Vm.Alike.refl U.vm) h1, vx_Zq.moved (u := U) (U := U.calling g mk a) (Vm.Alike.refl U.vm) h2, va_Nw.same rfl (u := U) (U := U.calling g mk a) rfl h3, va_Nw.same rfl (u := U) (U := U.calling g mk a) rfl h4, fun q hq => by obtain ⟨x, hx⟩ := h5 q hq; exact ⟨x, vk_R.same (u := U) (U := U.calling g mk a) rfl hx⟩, fun x hx => va_Nw.same rfl (u := U) (U := U.calling g mk a) rfl (h6 x hx), va_Nc.moved (u := U) (U := U.calling g mk a) (Vm.Alike.refl U.vm) h7⟩
/-- a method's start: its world w, the heap's size -/
def gPre (D : va_G) (tys : List (ClassId × FieldType)) (w : va_W) (sz : Nat) : State → Prop := fun U => U.heap.size = sz ∧ va_P D vwCl w U.heap ∧ va_K D vwCl tys U ∧ va_D (fun _ => True) w
def gPreT (D : va_G) (tys : List (ClassId × FieldType)) (w : va_W) (sz : Nat) : State → Prop := fun U => gPre D tys w sz U ∧ tz_Z (va_A w sz) U U.heap
/-- a method's end: out of the world w came w1 -/
def gPost (D : va_G) (tys : List (ClassId × FieldType)) (w w1 : va_W) (sz : Nat) : State → Prop := fun t => va_P D vwCl w1 t.heap ∧ va_K D vwCl tys t ∧ va_D (va_A w sz) w1
theorem gPre.blind {D : va_G} {tys : List (ClassId × FieldType)} {w : va_W} {sz : Nat} {av : List Value} : FrameBlind (va_Pc av (gPre D tys w sz)) := fun a U g mk q => by
  obtain ⟨q0, q1, qP, qK, qD⟩ := q
  exact ⟨q0, q1, qP, va_K.moved (u := U) (U := U.calling g mk a) (Vm.Alike.refl U.vm) qK, qD⟩
theorem gPreT.blind {D : va_G} {tys : List (ClassId × FieldType)} {w : va_W} {sz : Nat} {av : List Value} : FrameBlind (va_Pc av (gPreT D tys w sz)) := fun a U g mk q => by
  obtain ⟨q0, ⟨q1, qP, qK, qD⟩, qT⟩ := q
  exact ⟨q0, ⟨q1, qP, va_K.moved (u := U) (U := U.calling g mk a) (Vm.Alike.refl U.vm) qK, qD⟩, qT.blind⟩
abbrev gQv (ok : Prop) (D : va_G) (tys : List (ClassId × FieldType)) (w w1 : va_W) (sz : Nat) : Array Value → State → Outcome → State → Prop := va_Qv (fun _ : Unit => ok) (fun _ => gPost D tys w w1 sz) (va_A w sz)
abbrev gQi (v : Int32) (ok : Prop) (D : va_G) (tys : List (ClassId × FieldType)) (w w1 : va_W) (sz : Nat) : Array Value → State → Outcome → State → Prop := va_Qi (fun (r : Int32) (_ : Unit) => r = v ∧ ok) (fun _ => gPost D tys w w1 sz) (va_A w sz)
abbrev gQl (v : Int64) (ok : Prop) (D : va_G) (tys : List (ClassId × FieldType)) (w w1 : va_W) (sz : Nat) : Array Value → State → Outcome → State → Prop := va_Ql (fun (r : Int64) (_ : Unit) => r = v ∧ ok) (fun _ => gPost D tys w w1 sz) (va_A w sz)
abbrev gX (PX : String → Prop) (D : va_G) (tys : List (ClassId × FieldType)) (w : va_W) (sz : Nat) : String → State → State → Prop := vx_X (S := Unit) (fun _ => True) (fun E _ t => PX E ∧ gPost D tys w w sz t) (va_A w sz)
/-- contracts -/
abbrev gCv (l : Launch) (y : MethodName) (ws : List Cond) (rm : Room) (D : va_G) (tys : List (ClassId × FieldType)) (av : List Value) (w w1 : va_W) (ok : Prop) (mc ms sz : Nat) : Prop := Met l y ws rm (va_Pc av (gPre D tys w sz)) (gQv ok D tys w w1 sz) mc ms (va_A w sz)
abbrev gCi (l : Launch) (y : MethodName) (ws : List Cond) (rm : Room) (D : va_G) (tys : List (ClassId × FieldType)) (av : List Value) (w w1 : va_W) (v : Int32) (ok : Prop) (mc ms sz : Nat) : Prop := Met l y ws rm (va_Pc av (gPre D tys w sz)) (gQi v ok D tys w w1 sz) mc ms (va_A w sz)
abbrev gCl (l : Launch) (y : MethodName) (ws : List Cond) (rm : Room) (D : va_G) (tys : List (ClassId × FieldType)) (av : List Value) (w w1 : va_W) (v : Int64) (ok : Prop) (mc ms sz : Nat) : Prop := Met l y ws rm (va_Pc av (gPre D tys w sz)) (gQl v ok D tys w w1 sz) mc ms (va_A w sz)
abbrev gTv (l : Launch) (y : MethodName) (ws : List Cond) (rm : Room) (D : va_G) (tys : List (ClassId × FieldType)) (av : List Value) (w w1 : va_W) (ok : Prop) (PX : String → Prop) (mc ms sz : Nat) : Prop := vx_Met l y ws rm (va_Pc av (gPreT D tys w sz)) (gQv ok D tys w w1 sz) (gX PX D tys w sz) mc ms (va_A w sz)
abbrev gTi (l : Launch) (y : MethodName) (ws : List Cond) (rm : Room) (D : va_G) (tys : List (ClassId × FieldType)) (av : List Value) (w w1 : va_W) (v : Int32) (ok : Prop) (PX : String → Prop) (mc ms sz : Nat) : Prop := vx_Met l y ws rm (va_Pc av (gPreT D tys w sz)) (gQi v ok D tys w w1 sz) (gX PX D tys w sz) mc ms (va_A w sz)
abbrev gTl (l : Launch) (y : MethodName) (ws : List Cond) (rm : Room) (D : va_G) (tys : List (ClassId × FieldType)) (av : List Value) (w w1 : va_W) (v : Int64) (ok : Prop) (PX : String → Prop) (mc ms sz : Nat) : Prop := vx_Met l y ws rm (va_Pc av (gPreT D tys w sz)) (gQl v ok D tys w w1 sz) (gX PX D tys w sz) mc ms (va_A w sz)
/-- what a body owes at its end, said with A for the cells that it may change -/
def gEv (ok : Prop) (below : List Frame) (D : va_G) (tys : List (ClassId × FieldType)) (w1 : va_W) (A : Nat → Prop) (args : Array Value) (s : State) (mc ms : Nat) : State → Prop := MQ below (va_Qv (fun _ : Unit => ok) (fun _ t => va_P D vwCl w1 t.heap ∧ va_K D vwCl tys t ∧ va_D A w1) A) args s mc ms A
def gEi (v : Int32) (ok : Prop) (below : List Frame) (D : va_G) (tys : List (ClassId × FieldType)) (w1 : va_W) (A : Nat → Prop) (args : Array Value) (s : State) (mc ms : Nat) : State → Prop := MQ below (va_Qi (fun (r : Int32) (_ : Unit) => r = v ∧ ok) (fun _ t => va_P D vwCl w1 t.heap ∧ va_K D vwCl tys t ∧ va_D A w1) A) args s mc ms A
def gEl (v : Int64) (ok : Prop) (below : List Frame) (D : va_G) (tys : List (ClassId × FieldType)) (w1 : va_W) (A : Nat → Prop) (args : Array Value) (s : State) (mc ms : Nat) : State → Prop := MQ below (va_Ql (fun (r : Int64) (_ : Unit) => r = v ∧ ok) (fun _ t => va_P D vwCl w1 t.heap ∧ va_K D vwCl tys t ∧ va_D A w1) A) args s mc ms A
def gFX (PX : String → Prop) (D : va_G) (tys : List (ClassId × FieldType)) (w : va_W) (A : Nat → Prop) : String → State → State → Prop := vx_X (S := Unit) (fun _ => True) (fun E _ t => PX E ∧ va_P D vwCl w t.heap ∧ va_K D vwCl tys t ∧ va_D A w) A
def gFv (ok : Prop) (PX : String → Prop) (below : List Frame) (D : va_G) (tys : List (ClassId × FieldType)) (w w1 : va_W) (A : Nat → Prop) (args : Array Value) (s : State) (mc ms : Nat) : State → Prop := vx_MQ below (va_Qv (fun _ : Unit => ok) (fun _ t => va_P D vwCl w1 t.heap ∧ va_K D vwCl tys t ∧ va_D A w1) A) (gFX PX D tys w A) args s mc ms A
def gFi (v : Int32) (ok : Prop) (PX : String → Prop) (below : List Frame) (D : va_G) (tys : List (ClassId × FieldType)) (w w1 : va_W) (A : Nat → Prop) (args : Array Value) (s : State) (mc ms : Nat) : State → Prop := vx_MQ below (va_Qi (fun (r : Int32) (_ : Unit) => r = v ∧ ok) (fun _ t => va_P D vwCl w1 t.heap ∧ va_K D vwCl tys t ∧ va_D A w1) A) (gFX PX D tys w A) args s mc ms A
def gFl (v : Int64) (ok : Prop) (PX : String → Prop) (below : List Frame) (D : va_G) (tys : List (ClassId × FieldType)) (w w1 : va_W) (A : Nat → Prop) (args : Array Value) (s : State) (mc ms : Nat) : State → Prop := vx_MQ below (va_Ql (fun (r : Int64) (_ : Unit) => r = v ∧ ok) (fun _ t => va_P D vwCl w1 t.heap ∧ va_K D vwCl tys t ∧ va_D A w1) A) (gFX PX D tys w A) args s mc ms A
theorem gm_v {l : Launch} {y : MethodName} {ws ws' : List Cond} {rm : Room} {D : va_G} {tys : List (ClassId × FieldType)} {av : List Value} {w w1 : va_W} {ok : Prop} {mc ms sz : Nat} {cc : ByteArray} {maxL : Nat} (hy : plainName y.cls = true) (hw : ws = Cond.code y cc maxL none :: ws') (hlen : (lg_sl av).length ≤ maxL)
    (body : ∀ (p : Program) (e : Env) (s : State) (m : MethodId) (args : Array Value) (below : List Frame) (meth : Method) (c : Code) (A : Nat → Prop) (ls : Array Slot), p.tables.exec = Jvm.exec → c.code = cc → meth.sig.returnType = none → c.maxLocals = maxL → s.vm.findClass y.cls = some m.cls → (∀ q ∈ ws, q.before args s = true) → meth.locks = false → meth.name = y.name → (∀ q : Nat, s.heap.size ≤ q → A q) → va_K D vwCl tys s → va_P D vwCl w s.heap → va_D A w → lv_has ls maxL (lv_args 0 av) → W p l e rm s m args below meth c s.heap [] 0 0 (gEv ok below D tys w1 A args s mc ms) (F0 m 0 ls [])) : gCv l y ws rm D tys av w w1 ok mc ms sz := by
  refine Met.ofW (cc := cc) (maxL := maxL) (ret := none) hy hw ?_
  intro p e s m args below meth c s₁ B hml hv
  obtain ⟨rfl, hsz, hP, hK, hD0⟩ := hv
  subst hsz
  rw [lg_entry_eq]
  exact body p e s m _ below meth c _ _ B.exec B.bytes B.returns hml (findClass_of_methodNamed B.named) (atoms_spec (ws := ws) B.pre) B.notSynchronized (name_of_methodNamed B.named B.method).1 (fun q h => Or.inr h) hK hP hD0.self (lv_entry av hlen)
theorem gmx_v {l : Launch} {y : MethodName} {ws ws' : List Cond} {rm : Room} {D : va_G} {tys : List (ClassId × FieldType)} {av : List Value} {w w1 : va_W} {ok : Prop} {mc ms sz : Nat} {cc : ByteArray} {maxL : Nat} {PX : String → Prop} (hy : plainName y.cls = true) (hw : ws = Cond.code y cc maxL none :: ws') (hlen : (lg_sl av).length ≤ maxL)
    (body : ∀ (p : Program) (e : Env) (s : State) (m : MethodId) (args : Array Value) (below : List Frame) (meth : Method) (c : Code) (A : Nat → Prop) (ls : Array Slot), p.tables.exec = Jvm.exec → c.code = cc → meth.sig.returnType = none → c.maxLocals = maxL → s.vm.findClass y.cls = some m.cls → (∀ q ∈ ws, q.before args s = true) → meth.locks = false → meth.name = y.name → (∀ q : Nat, s.heap.size ≤ q → A q) → va_K D vwCl tys s → va_P D vwCl w s.heap → va_D A w → tz_Z A s s.heap → (∀ x ∈ c.exceptionTable.toList, False) → lv_has ls maxL (lv_args 0 av) → W p l e rm s m args below meth c s.heap [] 0 0 (gFv ok PX below D tys w w1 A args s mc ms) (F0 m 0 ls [])) : gTv l y ws rm D tys av w w1 ok PX mc ms sz := by
  refine vx_ofW (cc := cc) (maxL := maxL) (ret := none) hy hw ?_
  intro p e s m args below meth c s₁ B hml hnx hv
  obtain ⟨rfl, ⟨hsz, hP, hK, hD0⟩, hT⟩ := hv
  subst hsz
  rw [lg_entry_eq]
  exact body p e s m _ below meth c _ _ B.exec B.bytes B.returns hml (findClass_of_methodNamed B.named) (atoms_spec (ws := ws) B.pre) B.notSynchronized (name_of_methodNamed B.named B.method).1 (fun q h => Or.inr h) hK hP hD0.self hT hnx (lv_entry av hlen)
theorem gm_i {l : Launch} {y : MethodName} {ws ws' : List Cond} {rm : Room} {D : va_G} {tys : List (ClassId × FieldType)} {av : List Value} {w w1 : va_W} {ok : Prop} {mc ms sz : Nat} {cc : ByteArray} {maxL : Nat} {v : Int32} {ty : FieldType} (hy : plainName y.cls = true) (hw : ws = Cond.code y cc maxL (some ty) :: ws') (hlen : (lg_sl av).length ≤ maxL)
    (body : ∀ (p : Program) (e : Env) (s : State) (m : MethodId) (args : Array Value) (below : List Frame) (meth : Method) (c : Code) (A : Nat → Prop) (ls : Array Slot), p.tables.exec = Jvm.exec → c.code = cc → meth.sig.returnType = some ty → c.maxLocals = maxL → s.vm.findClass y.cls = some m.cls → (∀ q ∈ ws, q.before args s = true) → meth.locks = false → meth.name = y.name → (∀ q : Nat, s.heap.size ≤ q → A q) → va_K D vwCl tys s → va_P D vwCl w s.heap → va_D A w → lv_has ls maxL (lv_args 0 av) → W p l e rm s m args below meth c s.heap [] 0 0 (gEi v ok below D tys w1 A args s mc ms) (F0 m 0 ls [])) : gCi l y ws rm D tys av w w1 v ok mc ms sz := by
  refine Met.ofW (cc := cc) (maxL := maxL) (ret := (some ty)) hy hw ?_
  intro p e s m args below meth c s₁ B hml hv
  obtain ⟨rfl, hsz, hP, hK, hD0⟩ := hv
  subst hsz
  rw [lg_entry_eq]
  exact body p e s m _ below meth c _ _ B.exec B.bytes B.returns hml (findClass_of_methodNamed B.named) (atoms_spec (ws := ws) B.pre) B.notSynchronized (name_of_methodNamed B.named B.method).1 (fun q h => Or.inr h) hK hP hD0.self (lv_entry av hlen)
theorem gmx_i {l : Launch} {y : MethodName} {ws ws' : List Cond} {rm : Room} {D : va_G} {tys : List (ClassId × FieldType)} {av : List Value} {w w1 : va_W} {ok : Prop} {mc ms sz : Nat} {cc : ByteArray} {maxL : Nat} {v : Int32} {ty : FieldType} {PX : String → Prop} (hy : plainName y.cls = true) (hw : ws = Cond.code y cc maxL (some ty) :: ws') (hlen : (lg_sl av).length ≤ maxL)
    (body : ∀ (p : Program) (e : Env) (s : State) (m : MethodId) (args : Array Value) (below : List Frame) (meth : Method) (c : Code) (A : Nat → Prop) (ls : Array Slot), p.tables.exec = Jvm.exec → c.code = cc → meth.sig.returnType = some ty → c.maxLocals = maxL → s.vm.findClass y.cls = some m.cls → (∀ q ∈ ws, q.before args s = true) → meth.locks = false → meth.name = y.name → (∀ q : Nat, s.heap.size ≤ q → A q) → va_K D vwCl tys s → va_P D vwCl w s.heap → va_D A w → tz_Z A s s.heap → (∀ x ∈ c.exceptionTable.toList, False) → lv_has ls maxL (lv_args 0 av) → W p l e rm s m args below meth c s.heap [] 0 0 (gFi v ok PX below D tys w w1 A args s mc ms) (F0 m 0 ls [])) : gTi l y ws rm D tys av w w1 v ok PX mc ms sz := by
  refine vx_ofW (cc := cc) (maxL := maxL) (ret := (some ty)) hy hw ?_
  intro p e s m args below meth c s₁ B hml hnx hv
  obtain ⟨rfl, ⟨hsz, hP, hK, hD0⟩, hT⟩ := hv
  subst hsz
  rw [lg_entry_eq]
  exact body p e s m _ below meth c _ _ B.exec B.bytes B.returns hml (findClass_of_methodNamed B.named) (atoms_spec (ws := ws) B.pre) B.notSynchronized (name_of_methodNamed B.named B.method).1 (fun q h => Or.inr h) hK hP hD0.self hT hnx (lv_entry av hlen)
theorem gm_l {l : Launch} {y : MethodName} {ws ws' : List Cond} {rm : Room} {D : va_G} {tys : List (ClassId × FieldType)} {av : List Value} {w w1 : va_W} {ok : Prop} {mc ms sz : Nat} {cc : ByteArray} {maxL : Nat} {v : Int64} (hy : plainName y.cls = true) (hw : ws = Cond.code y cc maxL (some .long) :: ws') (hlen : (lg_sl av).length ≤ maxL)
    (body : ∀ (p : Program) (e : Env) (s : State) (m : MethodId) (args : Array Value) (below : List Frame) (meth : Method) (c : Code) (A : Nat → Prop) (ls : Array Slot), p.tables.exec = Jvm.exec → c.code = cc → meth.sig.returnType = some .long → c.maxLocals = maxL → s.vm.findClass y.cls = some m.cls → (∀ q ∈ ws, q.before args s = true) → meth.locks = false → meth.name = y.name → (∀ q : Nat, s.heap.size ≤ q → A q) → va_K D vwCl tys s → va_P D vwCl w s.heap → va_D A w → lv_has ls maxL (lv_args 0 av) → W p l e rm s m args below meth c s.heap [] 0 0 (gEl v ok below D tys w1 A args s mc ms) (F0 m 0 ls [])) : gCl l y ws rm D tys av w w1 v ok mc ms sz := by
  refine Met.ofW (cc := cc) (maxL := maxL) (ret := (some .long)) hy hw ?_
  intro p e s m args below meth c s₁ B hml hv
  obtain ⟨rfl, hsz, hP, hK, hD0⟩ := hv
  subst hsz
  rw [lg_entry_eq]
  exact body p e s m _ below meth c _ _ B.exec B.bytes B.returns hml (findClass_of_methodNamed B.named) (atoms_spec (ws := ws) B.pre) B.notSynchronized (name_of_methodNamed B.named B.method).1 (fun q h => Or.inr h) hK hP hD0.self (lv_entry av hlen)
theorem gmx_l {l : Launch} {y : MethodName} {ws ws' : List Cond} {rm : Room} {D : va_G} {tys : List (ClassId × FieldType)} {av : List Value} {w w1 : va_W} {ok : Prop} {mc ms sz : Nat} {cc : ByteArray} {maxL : Nat} {v : Int64} {PX : String → Prop} (hy : plainName y.cls = true) (hw : ws = Cond.code y cc maxL (some .long) :: ws') (hlen : (lg_sl av).length ≤ maxL)
    (body : ∀ (p : Program) (e : Env) (s : State) (m : MethodId) (args : Array Value) (below : List Frame) (meth : Method) (c : Code) (A : Nat → Prop) (ls : Array Slot), p.tables.exec = Jvm.exec → c.code = cc → meth.sig.returnType = some .long → c.maxLocals = maxL → s.vm.findClass y.cls = some m.cls → (∀ q ∈ ws, q.before args s = true) → meth.locks = false → meth.name = y.name → (∀ q : Nat, s.heap.size ≤ q → A q) → va_K D vwCl tys s → va_P D vwCl w s.heap → va_D A w → tz_Z A s s.heap → (∀ x ∈ c.exceptionTable.toList, False) → lv_has ls maxL (lv_args 0 av) → W p l e rm s m args below meth c s.heap [] 0 0 (gFl v ok PX below D tys w w1 A args s mc ms) (F0 m 0 ls [])) : gTl l y ws rm D tys av w w1 v ok PX mc ms sz := by
  refine vx_ofW (cc := cc) (maxL := maxL) (ret := (some .long)) hy hw ?_
  intro p e s m args below meth c s₁ B hml hnx hv
  obtain ⟨rfl, ⟨hsz, hP, hK, hD0⟩, hT⟩ := hv
  subst hsz
  rw [lg_entry_eq]
  exact body p e s m _ below meth c _ _ B.exec B.bytes B.returns hml (findClass_of_methodNamed B.named) (atoms_spec (ws := ws) B.pre) B.notSynchronized (name_of_methodNamed B.named B.method).1 (fun q h => Or.inr h) hK hP hD0.self hT hnx (lv_entry av hlen)
section GE
variable {p : Program} {l : Launch} {e : Env} {R : Room} {s : State} {m : MethodId} {args : Array Value} {below : List Frame} {meth : Method} {c : Code} {H : Heap} {locs : List Loc} {cells slots : Nat} {Q : State → Prop}
variable {D : va_G} {A : Nat → Prop} {tys : List (ClassId × FieldType)} {W0 W1 : va_W} {cc : ByteArray} {mc ms pc : Nat} {ls : Array Slot} {ok : Prop} {PX : String → Prop}
theorem ge_v (hx : p.tables.exec = Jvm.exec) (hb : c.code = cc) (hr : meth.sig.returnType = none) (hlocks : meth.locks = false) (hK : va_K D vwCl tys s) (hP : va_P D vwCl W1 H) (hD : va_D A W1) (hS : va_S A s.heap H locs) (hok : ok) (hc : cells ≤ mc) (hs : slots ≤ ms) (hdg : decode cc pc = .ok (.return_, 1)) : W p l e R s m args below meth c H locs cells slots (gEv ok below D tys W1 A args s mc ms) (F0 m pc ls []) :=
  W.widen hc hs (W.vret hx hb hr (fun t ht hW => ⟨⟨(), rfl, hok, by rw [ht]; exact hP, va_K.moved hW.alike hK, hD⟩, hS.F ht⟩) hS.2.2 hdg hlocks)
theorem gex_v (hx : p.tables.exec = Jvm.exec) (hb : c.code = cc) (hr : meth.sig.returnType = none) (hlocks : meth.locks = false) (hK : va_K D vwCl tys s) (hP : va_P D vwCl W1 H) (hD : va_D A W1) (hS : va_S A s.heap H locs) (hok : ok) (hc : cells ≤ mc) (hs : slots ≤ ms) (hdg : decode cc pc = .ok (.return_, 1)) : W p l e R s m args below meth c H locs cells slots (gFv ok PX below D tys W0 W1 A args s mc ms) (F0 m pc ls []) :=
  vx_ret (W.widen hc hs (W.vret hx hb hr (fun t ht hW => ⟨⟨(), rfl, hok, by rw [ht]; exact hP, va_K.moved hW.alike hK, hD⟩, hS.F ht⟩) hS.2.2 hdg hlocks))
theorem ge_i {v : Int32} {ty : FieldType} (hx : p.tables.exec = Jvm.exec) (hb : c.code = cc) (hr : meth.sig.returnType = some ty) (hlocks : meth.locks = false) (hn : narrow ty (.int v) = .int v) (hK : va_K D vwCl tys s) (hP : va_P D vwCl W1 H) (hD : va_D A W1) (hS : va_S A s.heap H locs) (hok : ok) (hc : cells ≤ mc) (hs : slots ≤ ms) (hdg : decode cc pc = .ok (.ireturn, 1)) : W p l e R s m args below meth c H locs cells slots (gEi v ok below D tys W1 A args s mc ms) (F0 m pc ls [.int v]) :=
  W.widen hc hs (W.zret hx hb hr hn (fun t ht hW => ⟨⟨v, (), rfl, ⟨rfl, hok⟩, by rw [ht]; exact hP, va_K.moved hW.alike hK, hD⟩, hS.F ht⟩) hS.2.2 hdg hlocks)
theorem gex_i {v : Int32} {ty : FieldType} (hx : p.tables.exec = Jvm.exec) (hb : c.code = cc) (hr : meth.sig.returnType = some ty) (hlocks : meth.locks = false) (hn : narrow ty (.int v) = .int v) (hK : va_K D vwCl tys s) (hP : va_P D vwCl W1 H) (hD : va_D A W1) (hS : va_S A s.heap H locs) (hok : ok) (hc : cells ≤ mc) (hs : slots ≤ ms) (hdg : decode cc pc = .ok (.ireturn, 1)) : W p l e R s m args below meth c H locs cells slots (gFi v ok PX below D tys W0 W1 A args s mc ms) (F0 m pc ls [.int v]) :=
  vx_ret (W.widen hc hs (W.zret hx hb hr hn (fun t ht hW => ⟨⟨v, (), rfl, ⟨rfl, hok⟩, by rw [ht]; exact hP, va_K.moved hW.alike hK, hD⟩, hS.F ht⟩) hS.2.2 hdg hlocks))
theorem ge_l {v : Int64} (hx : p.tables.exec = Jvm.exec) (hb : c.code = cc) (hr : meth.sig.returnType = some .long) (hlocks : meth.locks = false) (hK : va_K D vwCl tys s) (hP : va_P D vwCl W1 H) (hD : va_D A W1) (hS : va_S A s.heap H locs) (hok : ok) (hc : cells ≤ mc) (hs : slots ≤ ms) (hdg : decode cc pc = .ok (.lreturn, 1)) : W p l e R s m args below meth c H locs cells slots (gEl v ok below D tys W1 A args s mc ms) (F0 m pc ls [.long v]) :=
  W.widen hc hs (W.lret hx hb hr (fun t ht hW => ⟨⟨v, (), rfl, ⟨rfl, hok⟩, by rw [ht]; exact hP, va_K.moved hW.alike hK, hD⟩, hS.F ht⟩) hS.2.2 hdg hlocks)
theorem gex_l {v : Int64} (hx : p.tables.exec = Jvm.exec) (hb : c.code = cc) (hr : meth.sig.returnType = some .long) (hlocks : meth.locks = false) (hK : va_K D vwCl tys s) (hP : va_P D vwCl W1 H) (hD : va_D A W1) (hS : va_S A s.heap H locs) (hok : ok) (hc : cells ≤ mc) (hs : slots ≤ ms) (hdg : decode cc pc = .ok (.lreturn, 1)) : W p l e R s m args below meth c H locs cells slots (gFl v ok PX below D tys W0 W1 A args s mc ms) (F0 m pc ls [.long v]) :=
  vx_ret (W.widen hc hs (W.lret hx hb hr (fun t ht hW => ⟨⟨v, (), rfl, ⟨rfl, hok⟩, by rw [ht]; exact hP, va_K.moved hW.alike hK, hD⟩, hS.F ht⟩) hS.2.2 hdg hlocks))
/-- an exception on its way out of a method without a table -/
theorem gx_out {Qc : Array Value → State → Outcome → State → Prop} {rest : List Value} {E : String} {ce : Cell} {q : Addr} (hnx : ∀ x ∈ c.exceptionTable.toList, False) (hlocks : meth.locks = false) (hK : va_K D vwCl tys s) (hP : va_P D vwCl W0 H) (hD : va_D A W0) (hS : va_S A s.heap H locs) (hE : PX E) (hcell : H[q]? = some ce) (hv : ce.vm = .none) (hcl : s.vm.findClass E = some ce.cls) (hc : cells ≤ mc) (hs : slots ≤ ms) : vx_W p l e R s m args below meth c H locs cells slots (vx_MQ below Qc (gFX PX D tys W0 A) args s mc ms A) (F0 m pc ls rest) q :=
  vx_out (fun x hx => (hnx x hx).elim) hlocks hcell hv hcl (fun t ht hvm => ⟨(), trivial, ⟨hE, by rw [ht]; exact hP, va_K.moved hvm hK, hD⟩, hS.F ht⟩) hS.2.2 hc hs
/-- 'throw new cls(text)' in the class -/
theorem gx_thr {Qc : Array Value → State → Outcome → State → Prop} {rest : List Value} (hx : p.tables.exec = Jvm.exec) (hb : c.code = cc) (hl : l.stackTraces = false) {cls text : String} {ik is ic : Nat} (hown : s.vm.findClass RX1 = some m.cls) (hcls : Bundle.fit cls = true)
    (hk : (Cond.classLink RX1 ik cls).before args s = true) (hini : (Cond.initialized cls).before args s = true) (hstr : (is, text) ∈ tz_str) (hca : va_Nw (.castable cls cls) s)
    (hat : ∀ q ∈ (vx_atS RX1 ic cls ["java/lang/RuntimeException", "java/lang/Exception"]).filter goodWord, q.before args s = true)
    (hat2 : ∀ q ∈ (vx_atS RX1 ic cls ["java/lang/RuntimeException", "java/lang/Exception"]).filter (fun q => !goodWord q), q ∈ Cond.castable cls cls :: tz_dn.map Cond.declares)
    (hgood : ∀ q ∈ Cond.classLink RX1 ik cls :: Cond.initialized cls :: vx_atS RX1 ic cls ["java/lang/RuntimeException", "java/lang/Exception"], vx_ot q = true)
    (hT : tz_Z A s s.heap) (hK : va_K D vwCl tys s) (hP : va_P D vwCl W0 H) (hD : va_D A W0) (hS : va_S A s.heap H locs) (hsize : ls.size = c.maxLocals)
    (d0 : decode cc pc = .ok (.new ik, 3)) (d3 : decode cc (pc + 3) = .ok (.dup, 1)) (d4 : decode cc (pc + 4) = .ok (.ldc is, 2)) (d6 : decode cc (pc + 6) = .ok (.invokespecial ic, 3)) (d9 : decode cc (pc + 9) = .ok (.athrow, 1))
    (hnx : ∀ x ∈ c.exceptionTable.toList, False) (hRframes : 5 < R.frames) (hRlocals : (rest.map fun v => v.category).sum + 82 ≤ R.locals) (hRcells : cells + 1 ≤ R.cells) (hRslots : slots + 6 ≤ R.slots) (hlocks : meth.locks = false) (hE : PX cls) (hc : cells + 1 ≤ mc) (hs : slots + 6 ≤ ms) :
    W p l e R s m args below meth c H locs cells slots (vx_MQ below Qc (gFX PX D tys W0 A) args s mc ms A) (F0 m pc ls rest) := by
  obtain ⟨sa, hsa⟩ := hT.2.2.2.2.1 _ hstr
  refine vx_throwS (names := ["java/lang/RuntimeException", "java/lang/Exception"]) (A := A) hx hb hl hown hcls (by decide +kernel) hk hini hsa (vx_hat hat hat2 (fun q hq => by cases hq with | head => exact va_Nw.use rfl hca | tail _ h => obtain ⟨x, hx9, rfl⟩ := List.mem_map.mp h; exact va_Nw.use rfl (hT.2.2.2.2.2.1 x hx9))) hgood hT.1 hT.2.1 hS hsize d0 d3 d4 d6 d9 (fun x hx => (hnx x hx).elim) (by simpa using hRframes) (by simpa using hRlocals) hRcells hRslots hlocks ?_ hS.2.2 hc hs
  intro t hvm hz hk
  exact ⟨(), trivial, ⟨hE, hP.kept (fun k q hq => hk q.1 (hP k q hq).lt), va_K.moved hvm hK, hD⟩, Nat.le_trans hS.1 hz, fun q h1 h2 => (hk q (Nat.lt_of_lt_of_le h1 hS.1)).trans (hS.2.1 q h1 h2)⟩
theorem gc_fm {α : Type} {is : List Nat} {X : List α} {Y : List α} (h : is.map (fun i => X[i]?) = Y.map some) : is.filterMap (fun i => X[i]?) = Y := by
  have h1 : (is.map (fun i => X[i]?)).filterMap id = Y := by rw [h, List.filterMap_map]; simp
  rw [List.filterMap_map] at h1
  simpa using h1
theorem gc_join {Wd wc wr w1 W' : va_W} {H1 : Heap} {H0 : Heap} (hP : va_P D vwCl Wd H) (hD : va_D A Wd) (isC isR perm : List Nat) (hC : isC.map (fun i => Wd[i]?) = wc.map some) (hR : isR.map (fun i => Wd[i]?) = wr.map some) (hn : va_nd isR = true) (hdis : ∀ i ∈ isR, i ∉ isC) (hpm : perm.map (fun i => (wr ++ w1)[i]?) = W'.map some) (hpn : va_nd perm = true)
    (hk : ∀ q : Nat, q < H.size → ¬ va_A wc H.size q → H1[q]? = H[q]?) (hF : ∀ q, va_A wc H.size q → A q) (hP1 : va_P D vwCl w1 H1) (hD1 : va_D (va_A wc H.size) w1) : va_P D vwCl W' H1 ∧ va_D A W' := by
  obtain ⟨hPj, hDj⟩ := va_join hP hD isC isR hC hR hn hdis hk hF hP1 hD1
  exact ⟨hPj.sub perm (gc_fm hpm), hDj.sub perm hpn hpm⟩
theorem gc_S {Wd wc : va_W} {tc : List (ClassId × FieldType)} {av : List Value} (hK : va_K D vwCl tys s) (hP : va_P D vwCl Wd H) (hD : va_D A Wd) (ks : List Nat) (hk : ks.filterMap (fun i => tys[i]?) = tc) (isC : List Nat) (hC : isC.map (fun i => Wd[i]?) = wc.map some) (hnC : va_nd isC = true) : ∀ U : State, U.heap = H → s.WarmedH U.vm → gPre D tc wc H.size U := fun U hU hW =>
  ⟨by rw [hU], by rw [hU]; exact hP.sub isC (gc_fm hC), va_K.moved hW.alike (hK.sub ks hk), (hD.sub isC hnC hC).weaken (fun _ _ _ _ => trivial)⟩
theorem gc_recv {Wd wc : va_W} {tc : List (ClassId × FieldType)} {C : String} {b : Nat} (hK : va_K D vwCl tys s) (hP : va_P D vwCl Wd H) (isC : List Nat) (hC : isC.map (fun i => Wd[i]?) = wc.map some) (q0 ci : Nat) {r : vw_C} {fs : List Value} (hci : vwCl[ci]? = some r) (hq0 : wc[q0]? = some (b, .inr (ci, fs))) (hr : r.1 = C) : ∃ cellB : Cell, H[b]? = some cellB ∧ cellB.vm.isStatics = false ∧ s.vm.findClass C = some cellB.cls :=
  hr ▸ va_recv hK (hP.sub isC (gc_fm hC)) hci hq0
theorem gV_v {Wd wc wr w1 W' : va_W} {tc : List (ClassId × FieldType)} {H0 : Heap} {bytes : ByteArray} {nL maxL n index : Nat} {own C : String} {y : MethodName} {wsy Ts : List Cond} {rm : Room} {b : Addr} {As rest st0 : List Value} {mc ms : Nat} {ok : Prop} (S : CallFix p m c cc nL s args Ts own) (hM : gCv l y wsy rm D tc (.ref b :: As) wc w1 ok mc ms H.size) (cw : CallW R s args own C index y bytes maxL none wsy rm mc ms n) (hS : va_S A H0 H locs) (hA : ∀ q : Nat, H0.size ≤ q → A q) (hK : va_K D vwCl tys s) (hP : va_P D vwCl Wd H) (hD : va_D A Wd) (ks : List Nat) (hk : ks.filterMap (fun i => tys[i]?) = tc) (isC isR perm : List Nat) (hC : isC.map (fun i => Wd[i]?) = wc.map some) (hnC : va_nd isC = true) (hR : isR.map (fun i => Wd[i]?) = wr.map some) (hn : va_nd isR = true) (hdis : ∀ i ∈ isR, i ∉ isC) (hpm : perm.map (fun i => (wr ++ w1)[i]?) = W'.map some) (hpn : va_nd perm = true) (q0 ci : Nat) {r0 : vw_C} {fs : List Value} (hci : vwCl[ci]? = some r0) (hq0 : wc[q0]? = some (b, .inr (ci, fs))) (hr0 : r0.1 = C) 
    (hAs : As.length = n) (hsize : ls.size = nL) (hst : st0 = As.reverse ++ .ref b :: rest) (hW : (rest.map fun v => v.category).sum ≤ 8) (hdg : decode cc pc = .ok (.invokevirtual index, 3)) (hf : cells + mc ≤ R.cells ∧ slots + ms ≤ R.slots)
    (kk : ∀ (H : Heap) (locs : List Loc), ok → va_P D vwCl W' H → va_D A W' → va_S A H0 H locs → W p l e R s m args below meth c H locs (cells + mc) (slots + ms) Q (F0 m (pc + 3) ls (rest))) : W p l e R s m args below meth c H locs cells slots Q (F0 m pc ls st0) := by
  have hF := va_free (wc := wc) hD hS hA isC hC
  refine va_callv (va_runV S hM cw ⟨gPre.blind, gc_recv (tc := tc) hK hP isC hC q0 ci hci hq0 hr0, (fun U hU hW => ⟨rfl, gc_S (av := As) hK hP hD ks hk isC hC hnC U hU hW⟩)⟩ rfl hAs hsize hst (lv_room hW) hdg hf) hS (fun q _ h => hF q h) hF (fun u t H1 locs1 ht hvm hw hB hz1 hk1 hS1 => ?_)
  obtain ⟨hP1, hK1, hD1⟩ := hB
  rw [ht] at hP1
  obtain ⟨hPn, hDn⟩ := gc_join (H0 := H0) hP hD isC isR perm hC hR hn hdis hpm hpn hk1 hF hP1 hD1
  exact kk H1 locs1 hw hPn hDn hS1
theorem gxV_v {Wd wc wr w1 W' : va_W} {tc : List (ClassId × FieldType)} {bytes : ByteArray} {nL maxL n index : Nat} {own C : String} {y : MethodName} {wsy Ts : List Cond} {rm : Room} {b : Addr} {As rest st0 : List Value} {mc ms : Nat} {ok : Prop} {PC : String → Prop} (S : CallFix p m c cc nL s args Ts own) (hM : gTv l y wsy rm D tc (.ref b :: As) wc w1 ok PC mc ms H.size) (cw : CallW R s args own C index y bytes maxL none wsy rm mc ms n) (hT : tz_Z A s s.heap) (hS : va_S A s.heap H locs) (hA : ∀ q : Nat, s.heap.size ≤ q → A q) (hK : va_K D vwCl tys s) (hP : va_P D vwCl Wd H) (hD : va_D A Wd) (ks : List Nat) (hk : ks.filterMap (fun i => tys[i]?) = tc) (isC isR perm : List Nat) (hC : isC.map (fun i => Wd[i]?) = wc.map some) (hnC : va_nd isC = true) (hR : isR.map (fun i => Wd[i]?) = wr.map some) (hn : va_nd isR = true) (hdis : ∀ i ∈ isR, i ∉ isC) (hpm : perm.map (fun i => (wr ++ w1)[i]?) = W'.map some) (hpn : va_nd perm = true) (q0 ci : Nat) {r0 : vw_C} {fs : List Value} (hci : vwCl[ci]? = some r0) (hq0 : wc[q0]? = some (b, .inr (ci, fs))) (hr0 : r0.1 = C) 
    (hAs : As.length = n) (hsize : ls.size = nL) (hst : st0 = As.reverse ++ .ref b :: rest) (hW : (rest.map fun v => v.category).sum ≤ 8) (hdg : decode cc pc = .ok (.invokevirtual index, 3)) (hf : cells + mc ≤ R.cells ∧ slots + ms ≤ R.slots) {Qc : Array Value → State → Outcome → State → Prop} {MC MS : Nat} (hnx : ∀ x ∈ c.exceptionTable.toList, False) (hlocks : meth.locks = false) (hPX : ∀ E, PC E → PX E) (hMC : cells + mc ≤ MC) (hMS : slots + ms ≤ MS) (permX : List Nat) (hpx : permX.map (fun i => (wr ++ wc)[i]?) = Wd.map some) (hpxn : va_nd permX = true)
    (kk : ∀ (H : Heap) (locs : List Loc), ok → va_P D vwCl W' H → va_D A W' → va_S A s.heap H locs → W p l e R s m args below meth c H locs (cells + mc) (slots + ms) (vx_MQ below Qc (gFX PX D tys Wd A) args s MC MS A) (F0 m (pc + 3) ls (rest))) : W p l e R s m args below meth c H locs cells slots (vx_MQ below Qc (gFX PX D tys Wd A) args s MC MS A) (F0 m pc ls st0) := by
  have hF := va_free (wc := wc) hD hS hA isC hC
  refine vx_callv (vx_runV S hM cw ⟨gPreT.blind, gc_recv (tc := tc) hK hP isC hC q0 ci hci hq0 hr0, (fun U hU hW => ⟨rfl, gc_S (av := As) hK hP hD ks hk isC hC hnC U hU hW, hT.going hS hF hU hW⟩)⟩ rfl hAs hsize hst (lv_room hW) hdg hf) hS (fun q _ h => hF q h) hF (fun q _ h => hF q h) (fun E ce q9 u t H1 locs1 ht hvm _ hB hz1 hk1 hS1 hce hcv hcl => ?_) (fun u t H1 locs1 ht hvm hw hB hz1 hk1 hS1 => ?_)
  · obtain ⟨hE, hP1, hK1, hD1⟩ := hB
    rw [ht] at hP1
    obtain ⟨hPn, hDn⟩ := gc_join (H0 := s.heap) hP hD isC isR permX hC hR hn hdis hpx hpxn hk1 hF hP1 hD1
    exact vx_widen hMC hMS (gx_out hnx hlocks hK hPn hDn hS1 (hPX E hE) hce hcv hcl (Nat.le_refl _) (Nat.le_refl _))
  · obtain ⟨hP1, hK1, hD1⟩ := hB
    rw [ht] at hP1
    obtain ⟨hPn, hDn⟩ := gc_join (H0 := s.heap) hP hD isC isR perm hC hR hn hdis hpm hpn hk1 hF hP1 hD1
    exact kk H1 locs1 hw hPn hDn hS1
theorem ghV_v {Wd wc wr w1 W' : va_W} {tc : List (ClassId × FieldType)} {bytes : ByteArray} {nL maxL n index : Nat} {own C : String} {y : MethodName} {wsy Ts : List Cond} {rm : Room} {b : Addr} {As rest st0 : List Value} {mc ms : Nat} {ok : Prop} {PC : String → Prop} (S : CallFix p m c cc nL s args Ts own) (hM : gTv l y wsy rm D tc (.ref b :: As) wc w1 ok PC mc ms H.size) (cw : CallW R s args own C index y bytes maxL none wsy rm mc ms n) (hT : tz_Z A s s.heap) (hS : va_S A s.heap H locs) (hA : ∀ q : Nat, s.heap.size ≤ q → A q) (hK : va_K D vwCl tys s) (hP : va_P D vwCl Wd H) (hD : va_D A Wd) (ks : List Nat) (hk : ks.filterMap (fun i => tys[i]?) = tc) (isC isR perm : List Nat) (hC : isC.map (fun i => Wd[i]?) = wc.map some) (hnC : va_nd isC = true) (hR : isR.map (fun i => Wd[i]?) = wr.map some) (hn : va_nd isR = true) (hdis : ∀ i ∈ isR, i ∉ isC) (hpm : perm.map (fun i => (wr ++ w1)[i]?) = W'.map some) (hpn : va_nd perm = true) (q0 ci : Nat) {r0 : vw_C} {fs : List Value} (hci : vwCl[ci]? = some r0) (hq0 : wc[q0]? = some (b, .inr (ci, fs))) (hr0 : r0.1 = C) 
    (hAs : As.length = n) (hsize : ls.size = nL) (hst : st0 = As.reverse ++ .ref b :: rest) (hW : (rest.map fun v => v.category).sum ≤ 8) (hdg : decode cc pc = .ok (.invokevirtual index, 3)) (hf : cells + mc ≤ R.cells ∧ slots + ms ≤ R.slots) (permX : List Nat) (hpx : permX.map (fun i => (wr ++ wc)[i]?) = Wd.map some) (hpxn : va_nd permX = true) (kx : ∀ (E : String) (ce : Cell) (q : Addr) (H : Heap) (locs : List Loc), PC E → va_P D vwCl Wd H → va_D A Wd → va_S A s.heap H locs → H[q]? = some ce → ce.vm = .none → s.vm.findClass E = some ce.cls → vx_W p l e R s m args below meth c H locs (cells + mc) (slots + ms) Q (F0 m pc ls rest) q)
    (kk : ∀ (H : Heap) (locs : List Loc), ok → va_P D vwCl W' H → va_D A W' → va_S A s.heap H locs → W p l e R s m args below meth c H locs (cells + mc) (slots + ms) Q (F0 m (pc + 3) ls (rest))) : W p l e R s m args below meth c H locs cells slots Q (F0 m pc ls st0) := by
  have hF := va_free (wc := wc) hD hS hA isC hC
  refine vx_callv (vx_runV S hM cw ⟨gPreT.blind, gc_recv (tc := tc) hK hP isC hC q0 ci hci hq0 hr0, (fun U hU hW => ⟨rfl, gc_S (av := As) hK hP hD ks hk isC hC hnC U hU hW, hT.going hS hF hU hW⟩)⟩ rfl hAs hsize hst (lv_room hW) hdg hf) hS (fun q _ h => hF q h) hF (fun q _ h => hF q h) (fun E ce q9 u t H1 locs1 ht hvm _ hB hz1 hk1 hS1 hce hcv hcl => ?_) (fun u t H1 locs1 ht hvm hw hB hz1 hk1 hS1 => ?_)
  · obtain ⟨hE, hP1, hK1, hD1⟩ := hB
    rw [ht] at hP1
    obtain ⟨hPn, hDn⟩ := gc_join (H0 := s.heap) hP hD isC isR permX hC hR hn hdis hpx hpxn hk1 hF hP1 hD1
    exact kx E ce q9 H1 locs1 hE hPn hDn hS1 hce hcv hcl
  · obtain ⟨hP1, hK1, hD1⟩ := hB
    rw [ht] at hP1
    obtain ⟨hPn, hDn⟩ := gc_join (H0 := s.heap) hP hD isC isR perm hC hR hn hdis hpm hpn hk1 hF hP1 hD1
    exact kk H1 locs1 hw hPn hDn hS1
theorem gV_i {Wd wc wr w1 W' : va_W} {tc : List (ClassId × FieldType)} {H0 : Heap} {bytes : ByteArray} {nL maxL n index : Nat} {own C : String} {y : MethodName} {wsy Ts : List Cond} {rm : Room} {b : Addr} {As rest st0 : List Value} {mc ms : Nat} {ok : Prop} {v : Int32} {ret : Option FieldType} (S : CallFix p m c cc nL s args Ts own) (hM : gCi l y wsy rm D tc (.ref b :: As) wc w1 v ok mc ms H.size) (cw : CallW R s args own C index y bytes maxL ret wsy rm mc ms n) (hS : va_S A H0 H locs) (hA : ∀ q : Nat, H0.size ≤ q → A q) (hK : va_K D vwCl tys s) (hP : va_P D vwCl Wd H) (hD : va_D A Wd) (ks : List Nat) (hk : ks.filterMap (fun i => tys[i]?) = tc) (isC isR perm : List Nat) (hC : isC.map (fun i => Wd[i]?) = wc.map some) (hnC : va_nd isC = true) (hR : isR.map (fun i => Wd[i]?) = wr.map some) (hn : va_nd isR = true) (hdis : ∀ i ∈ isR, i ∉ isC) (hpm : perm.map (fun i => (wr ++ w1)[i]?) = W'.map some) (hpn : va_nd perm = true) (q0 ci : Nat) {r0 : vw_C} {fs : List Value} (hci : vwCl[ci]? = some r0) (hq0 : wc[q0]? = some (b, .inr (ci, fs))) (hr0 : r0.1 = C) 
    (hAs : As.length = n) (hsize : ls.size = nL) (hst : st0 = As.reverse ++ .ref b :: rest) (hW : (rest.map fun v => v.category).sum ≤ 8) (hdg : decode cc pc = .ok (.invokevirtual index, 3)) (hf : cells + mc ≤ R.cells ∧ slots + ms ≤ R.slots)
    (kk : ∀ (H : Heap) (locs : List Loc), ok → va_P D vwCl W' H → va_D A W' → va_S A H0 H locs → W p l e R s m args below meth c H locs (cells + mc) (slots + ms) Q (F0 m (pc + 3) ls (.int v :: rest))) : W p l e R s m args below meth c H locs cells slots Q (F0 m pc ls st0) := by
  have hF := va_free (wc := wc) hD hS hA isC hC
  refine va_calli (va_runV S hM cw ⟨gPre.blind, gc_recv (tc := tc) hK hP isC hC q0 ci hci hq0 hr0, (fun U hU hW => ⟨rfl, gc_S (av := As) hK hP hD ks hk isC hC hnC U hU hW⟩)⟩ rfl hAs hsize hst (lv_room hW) hdg hf) hS (fun q _ h => hF q h) hF (fun r u t H1 locs1 ht hvm hw hB hz1 hk1 hS1 => ?_)
  obtain ⟨hP1, hK1, hD1⟩ := hB
  rw [ht] at hP1
  obtain ⟨rfl, hw⟩ := hw
  obtain ⟨hPn, hDn⟩ := gc_join (H0 := H0) hP hD isC isR perm hC hR hn hdis hpm hpn hk1 hF hP1 hD1
  exact kk H1 locs1 hw hPn hDn hS1
theorem ghV_i {Wd wc wr w1 W' : va_W} {tc : List (ClassId × FieldType)} {bytes : ByteArray} {nL maxL n index : Nat} {own C : String} {y : MethodName} {wsy Ts : List Cond} {rm : Room} {b : Addr} {As rest st0 : List Value} {mc ms : Nat} {ok : Prop} {v : Int32} {ret : Option FieldType} {PC : String → Prop} (S : CallFix p m c cc nL s args Ts own) (hM : gTi l y wsy rm D tc (.ref b :: As) wc w1 v ok PC mc ms H.size) (cw : CallW R s args own C index y bytes maxL ret wsy rm mc ms n) (hT : tz_Z A s s.heap) (hS : va_S A s.heap H locs) (hA : ∀ q : Nat, s.heap.size ≤ q → A q) (hK : va_K D vwCl tys s) (hP : va_P D vwCl Wd H) (hD : va_D A Wd) (ks : List Nat) (hk : ks.filterMap (fun i => tys[i]?) = tc) (isC isR perm : List Nat) (hC : isC.map (fun i => Wd[i]?) = wc.map some) (hnC : va_nd isC = true) (hR : isR.map (fun i => Wd[i]?) = wr.map some) (hn : va_nd isR = true) (hdis : ∀ i ∈ isR, i ∉ isC) (hpm : perm.map (fun i => (wr ++ w1)[i]?) = W'.map some) (hpn : va_nd perm = true) (q0 ci : Nat) {r0 : vw_C} {fs : List Value} (hci : vwCl[ci]? = some r0) (hq0 : wc[q0]? = some (b, .inr (ci, fs))) (hr0 : r0.1 = C) 
    (hAs : As.length = n) (hsize : ls.size = nL) (hst : st0 = As.reverse ++ .ref b :: rest) (hW : (rest.map fun v => v.category).sum ≤ 8) (hdg : decode cc pc = .ok (.invokevirtual index, 3)) (hf : cells + mc ≤ R.cells ∧ slots + ms ≤ R.slots) (permX : List Nat) (hpx : permX.map (fun i => (wr ++ wc)[i]?) = Wd.map some) (hpxn : va_nd permX = true) (kx : ∀ (E : String) (ce : Cell) (q : Addr) (H : Heap) (locs : List Loc), PC E → va_P D vwCl Wd H → va_D A Wd → va_S A s.heap H locs → H[q]? = some ce → ce.vm = .none → s.vm.findClass E = some ce.cls → vx_W p l e R s m args below meth c H locs (cells + mc) (slots + ms) Q (F0 m pc ls rest) q)
    (kk : ∀ (H : Heap) (locs : List Loc), ok → va_P D vwCl W' H → va_D A W' → va_S A s.heap H locs → W p l e R s m args below meth c H locs (cells + mc) (slots + ms) Q (F0 m (pc + 3) ls (.int v :: rest))) : W p l e R s m args below meth c H locs cells slots Q (F0 m pc ls st0) := by
  have hF := va_free (wc := wc) hD hS hA isC hC
  refine vx_calli (vx_runV S hM cw ⟨gPreT.blind, gc_recv (tc := tc) hK hP isC hC q0 ci hci hq0 hr0, (fun U hU hW => ⟨rfl, gc_S (av := As) hK hP hD ks hk isC hC hnC U hU hW, hT.going hS hF hU hW⟩)⟩ rfl hAs hsize hst (lv_room hW) hdg hf) hS (fun q _ h => hF q h) hF (fun q _ h => hF q h) (fun E ce q9 u t H1 locs1 ht hvm _ hB hz1 hk1 hS1 hce hcv hcl => ?_) (fun r u t H1 locs1 ht hvm hw hB hz1 hk1 hS1 => ?_)
  · obtain ⟨hE, hP1, hK1, hD1⟩ := hB
    rw [ht] at hP1
    obtain ⟨hPn, hDn⟩ := gc_join (H0 := s.heap) hP hD isC isR permX hC hR hn hdis hpx hpxn hk1 hF hP1 hD1
    exact kx E ce q9 H1 locs1 hE hPn hDn hS1 hce hcv hcl
  · obtain ⟨hP1, hK1, hD1⟩ := hB
    rw [ht] at hP1
    obtain ⟨rfl, hw⟩ := hw
    obtain ⟨hPn, hDn⟩ := gc_join (H0 := s.heap) hP hD isC isR perm hC hR hn hdis hpm hpn hk1 hF hP1 hD1
    exact kk H1 locs1 hw hPn hDn hS1
theorem gV_l {Wd wc wr w1 W' : va_W} {tc : List (ClassId × FieldType)} {H0 : Heap} {bytes : ByteArray} {nL maxL n index : Nat} {own C : String} {y : MethodName} {wsy Ts : List Cond} {rm : Room} {b : Addr} {As rest st0 : List Value} {mc ms : Nat} {ok : Prop} {v : Int64} {ret : Option FieldType} (S : CallFix p m c cc nL s args Ts own) (hM : gCl l y wsy rm D tc (.ref b :: As) wc w1 v ok mc ms H.size) (cw : CallW R s args own C index y bytes maxL ret wsy rm mc ms n) (hS : va_S A H0 H locs) (hA : ∀ q : Nat, H0.size ≤ q → A q) (hK : va_K D vwCl tys s) (hP : va_P D vwCl Wd H) (hD : va_D A Wd) (ks : List Nat) (hk : ks.filterMap (fun i => tys[i]?) = tc) (isC isR perm : List Nat) (hC : isC.map (fun i => Wd[i]?) = wc.map some) (hnC : va_nd isC = true) (hR : isR.map (fun i => Wd[i]?) = wr.map some) (hn : va_nd isR = true) (hdis : ∀ i ∈ isR, i ∉ isC) (hpm : perm.map (fun i => (wr ++ w1)[i]?) = W'.map some) (hpn : va_nd perm = true) (q0 ci : Nat) {r0 : vw_C} {fs : List Value} (hci : vwCl[ci]? = some r0) (hq0 : wc[q0]? = some (b, .inr (ci, fs))) (hr0 : r0.1 = C) 
    (hAs : As.length = n) (hsize : ls.size = nL) (hst : st0 = As.reverse ++ .ref b :: rest) (hW : (rest.map fun v => v.category).sum ≤ 8) (hdg : decode cc pc = .ok (.invokevirtual index, 3)) (hf : cells + mc ≤ R.cells ∧ slots + ms ≤ R.slots)
    (kk : ∀ (H : Heap) (locs : List Loc), ok → va_P D vwCl W' H → va_D A W' → va_S A H0 H locs → W p l e R s m args below meth c H locs (cells + mc) (slots + ms) Q (F0 m (pc + 3) ls (.long v :: rest))) : W p l e R s m args below meth c H locs cells slots Q (F0 m pc ls st0) := by
  have hF := va_free (wc := wc) hD hS hA isC hC
  refine va_calll (va_runV S hM cw ⟨gPre.blind, gc_recv (tc := tc) hK hP isC hC q0 ci hci hq0 hr0, (fun U hU hW => ⟨rfl, gc_S (av := As) hK hP hD ks hk isC hC hnC U hU hW⟩)⟩ rfl hAs hsize hst (lv_room hW) hdg hf) hS (fun q _ h => hF q h) hF (fun r u t H1 locs1 ht hvm hw hB hz1 hk1 hS1 => ?_)
  obtain ⟨hP1, hK1, hD1⟩ := hB
  rw [ht] at hP1
  obtain ⟨rfl, hw⟩ := hw
  obtain ⟨hPn, hDn⟩ := gc_join (H0 := H0) hP hD isC isR perm hC hR hn hdis hpm hpn hk1 hF hP1 hD1
  exact kk H1 locs1 hw hPn hDn hS1
theorem ghV_l {Wd wc wr w1 W' : va_W} {tc : List (ClassId × FieldType)} {bytes : ByteArray} {nL maxL n index : Nat} {own C : String} {y : MethodName} {wsy Ts : List Cond} {rm : Room} {b : Addr} {As rest st0 : List Value} {mc ms : Nat} {ok : Prop} {v : Int64} {ret : Option FieldType} {PC : String → Prop} (S : CallFix p m c cc nL s args Ts own) (hM : gTl l y wsy rm D tc (.ref b :: As) wc w1 v ok PC mc ms H.size) (cw : CallW R s args own C index y bytes maxL ret wsy rm mc ms n) (hT : tz_Z A s s.heap) (hS : va_S A s.heap H locs) (hA : ∀ q : Nat, s.heap.size ≤ q → A q) (hK : va_K D vwCl tys s) (hP : va_P D vwCl Wd H) (hD : va_D A Wd) (ks : List Nat) (hk : ks.filterMap (fun i => tys[i]?) = tc) (isC isR perm : List Nat) (hC : isC.map (fun i => Wd[i]?) = wc.map some) (hnC : va_nd isC = true) (hR : isR.map (fun i => Wd[i]?) = wr.map some) (hn : va_nd isR = true) (hdis : ∀ i ∈ isR, i ∉ isC) (hpm : perm.map (fun i => (wr ++ w1)[i]?) = W'.map some) (hpn : va_nd perm = true) (q0 ci : Nat) {r0 : vw_C} {fs : List Value} (hci : vwCl[ci]? = some r0) (hq0 : wc[q0]? = some (b, .inr (ci, fs))) (hr0 : r0.1 = C) 
    (hAs : As.length = n) (hsize : ls.size = nL) (hst : st0 = As.reverse ++ .ref b :: rest) (hW : (rest.map fun v => v.category).sum ≤ 8) (hdg : decode cc pc = .ok (.invokevirtual index, 3)) (hf : cells + mc ≤ R.cells ∧ slots + ms ≤ R.slots) (permX : List Nat) (hpx : permX.map (fun i => (wr ++ wc)[i]?) = Wd.map some) (hpxn : va_nd permX = true) (kx : ∀ (E : String) (ce : Cell) (q : Addr) (H : Heap) (locs : List Loc), PC E → va_P D vwCl Wd H → va_D A Wd → va_S A s.heap H locs → H[q]? = some ce → ce.vm = .none → s.vm.findClass E = some ce.cls → vx_W p l e R s m args below meth c H locs (cells + mc) (slots + ms) Q (F0 m pc ls rest) q)
    (kk : ∀ (H : Heap) (locs : List Loc), ok → va_P D vwCl W' H → va_D A W' → va_S A s.heap H locs → W p l e R s m args below meth c H locs (cells + mc) (slots + ms) Q (F0 m (pc + 3) ls (.long v :: rest))) : W p l e R s m args below meth c H locs cells slots Q (F0 m pc ls st0) := by
  have hF := va_free (wc := wc) hD hS hA isC hC
  refine vx_calll (vx_runV S hM cw ⟨gPreT.blind, gc_recv (tc := tc) hK hP isC hC q0 ci hci hq0 hr0, (fun U hU hW => ⟨rfl, gc_S (av := As) hK hP hD ks hk isC hC hnC U hU hW, hT.going hS hF hU hW⟩)⟩ rfl hAs hsize hst (lv_room hW) hdg hf) hS (fun q _ h => hF q h) hF (fun q _ h => hF q h) (fun E ce q9 u t H1 locs1 ht hvm _ hB hz1 hk1 hS1 hce hcv hcl => ?_) (fun r u t H1 locs1 ht hvm hw hB hz1 hk1 hS1 => ?_)
  · obtain ⟨hE, hP1, hK1, hD1⟩ := hB
    rw [ht] at hP1
    obtain ⟨hPn, hDn⟩ := gc_join (H0 := s.heap) hP hD isC isR permX hC hR hn hdis hpx hpxn hk1 hF hP1 hD1
    exact kx E ce q9 H1 locs1 hE hPn hDn hS1 hce hcv hcl
  · obtain ⟨hP1, hK1, hD1⟩ := hB
    rw [ht] at hP1
    obtain ⟨rfl, hw⟩ := hw
    obtain ⟨hPn, hDn⟩ := gc_join (H0 := s.heap) hP hD isC isR perm hC hR hn hdis hpm hpn hk1 hF hP1 hD1
    exact kk H1 locs1 hw hPn hDn hS1
theorem gS_v {Wd wc wr w1 W' : va_W} {tc : List (ClassId × FieldType)} {H0 : Heap} {bytes : ByteArray} {nL maxL n index : Nat} {own : String} {y : MethodName} {wsy Ts : List Cond} {rm : Room} {As rest st0 : List Value} {mc ms : Nat} {ok : Prop} (S : CallFix p m c cc nL s args Ts own) (hM : gCv l y wsy rm D tc As wc w1 ok mc ms H.size) (cw : CallB R s args own index y bytes maxL none wsy rm mc ms n ∧ (Cond.static y).before args s = true) (hS : va_S A H0 H locs) (hA : ∀ q : Nat, H0.size ≤ q → A q) (hK : va_K D vwCl tys s) (hP : va_P D vwCl Wd H) (hD : va_D A Wd) (ks : List Nat) (hk : ks.filterMap (fun i => tys[i]?) = tc) (isC isR perm : List Nat) (hC : isC.map (fun i => Wd[i]?) = wc.map some) (hnC : va_nd isC = true) (hR : isR.map (fun i => Wd[i]?) = wr.map some) (hn : va_nd isR = true) (hdis : ∀ i ∈ isR, i ∉ isC) (hpm : perm.map (fun i => (wr ++ w1)[i]?) = W'.map some) (hpn : va_nd perm = true) 
    (hAs : As.length = n) (hsize : ls.size = nL) (hst : st0 = As.reverse ++ rest) (hW : (rest.map fun v => v.category).sum ≤ 8) (hdg : decode cc pc = .ok (.invokestatic index, 3)) (hf : cells + mc ≤ R.cells ∧ slots + ms ≤ R.slots)
    (kk : ∀ (H : Heap) (locs : List Loc), ok → va_P D vwCl W' H → va_D A W' → va_S A H0 H locs → W p l e R s m args below meth c H locs (cells + mc) (slots + ms) Q (F0 m (pc + 3) ls (rest))) : W p l e R s m args below meth c H locs cells slots Q (F0 m pc ls st0) := by
  have hF := va_free (wc := wc) hD hS hA isC hC
  refine va_callv (va_runS S hM cw ⟨gPre.blind, (fun U hU hW => ⟨rfl, gc_S (av := As) hK hP hD ks hk isC hC hnC U hU hW⟩)⟩ rfl hAs hsize hst (lv_room hW) hdg hf) hS (fun q _ h => hF q h) hF (fun u t H1 locs1 ht hvm hw hB hz1 hk1 hS1 => ?_)
  obtain ⟨hP1, hK1, hD1⟩ := hB
  rw [ht] at hP1
  obtain ⟨hPn, hDn⟩ := gc_join (H0 := H0) hP hD isC isR perm hC hR hn hdis hpm hpn hk1 hF hP1 hD1
  exact kk H1 locs1 hw hPn hDn hS1
theorem gxS_v {Wd wc wr w1 W' : va_W} {tc : List (ClassId × FieldType)} {bytes : ByteArray} {nL maxL n index : Nat} {own : String} {y : MethodName} {wsy Ts : List Cond} {rm : Room} {As rest st0 : List Value} {mc ms : Nat} {ok : Prop} {PC : String → Prop} (S : CallFix p m c cc nL s args Ts own) (hM : gTv l y wsy rm D tc As wc w1 ok PC mc ms H.size) (cw : CallB R s args own index y bytes maxL none wsy rm mc ms n ∧ (Cond.static y).before args s = true) (hT : tz_Z A s s.heap) (hS : va_S A s.heap H locs) (hA : ∀ q : Nat, s.heap.size ≤ q → A q) (hK : va_K D vwCl tys s) (hP : va_P D vwCl Wd H) (hD : va_D A Wd) (ks : List Nat) (hk : ks.filterMap (fun i => tys[i]?) = tc) (isC isR perm : List Nat) (hC : isC.map (fun i => Wd[i]?) = wc.map some) (hnC : va_nd isC = true) (hR : isR.map (fun i => Wd[i]?) = wr.map some) (hn : va_nd isR = true) (hdis : ∀ i ∈ isR, i ∉ isC) (hpm : perm.map (fun i => (wr ++ w1)[i]?) = W'.map some) (hpn : va_nd perm = true) 
    (hAs : As.length = n) (hsize : ls.size = nL) (hst : st0 = As.reverse ++ rest) (hW : (rest.map fun v => v.category).sum ≤ 8) (hdg : decode cc pc = .ok (.invokestatic index, 3)) (hf : cells + mc ≤ R.cells ∧ slots + ms ≤ R.slots) {Qc : Array Value → State → Outcome → State → Prop} {MC MS : Nat} (hnx : ∀ x ∈ c.exceptionTable.toList, False) (hlocks : meth.locks = false) (hPX : ∀ E, PC E → PX E) (hMC : cells + mc ≤ MC) (hMS : slots + ms ≤ MS) (permX : List Nat) (hpx : permX.map (fun i => (wr ++ wc)[i]?) = Wd.map some) (hpxn : va_nd permX = true)
    (kk : ∀ (H : Heap) (locs : List Loc), ok → va_P D vwCl W' H → va_D A W' → va_S A s.heap H locs → W p l e R s m args below meth c H locs (cells + mc) (slots + ms) (vx_MQ below Qc (gFX PX D tys Wd A) args s MC MS A) (F0 m (pc + 3) ls (rest))) : W p l e R s m args below meth c H locs cells slots (vx_MQ below Qc (gFX PX D tys Wd A) args s MC MS A) (F0 m pc ls st0) := by
  have hF := va_free (wc := wc) hD hS hA isC hC
  refine vx_callv (vx_runS S hM cw ⟨gPreT.blind, (fun U hU hW => ⟨rfl, gc_S (av := As) hK hP hD ks hk isC hC hnC U hU hW, hT.going hS hF hU hW⟩)⟩ rfl hAs hsize hst (lv_room hW) hdg hf) hS (fun q _ h => hF q h) hF (fun q _ h => hF q h) (fun E ce q9 u t H1 locs1 ht hvm _ hB hz1 hk1 hS1 hce hcv hcl => ?_) (fun u t H1 locs1 ht hvm hw hB hz1 hk1 hS1 => ?_)
  · obtain ⟨hE, hP1, hK1, hD1⟩ := hB
    rw [ht] at hP1
    obtain ⟨hPn, hDn⟩ := gc_join (H0 := s.heap) hP hD isC isR permX hC hR hn hdis hpx hpxn hk1 hF hP1 hD1
    exact vx_widen hMC hMS (gx_out hnx hlocks hK hPn hDn hS1 (hPX E hE) hce hcv hcl (Nat.le_refl _) (Nat.le_refl _))
  · obtain ⟨hP1, hK1, hD1⟩ := hB
    rw [ht] at hP1
    obtain ⟨hPn, hDn⟩ := gc_join (H0 := s.heap) hP hD isC isR perm hC hR hn hdis hpm hpn hk1 hF hP1 hD1
    exact kk H1 locs1 hw hPn hDn hS1
theorem gS_i {Wd wc wr w1 W' : va_W} {tc : List (ClassId × FieldType)} {H0 : Heap} {bytes : ByteArray} {nL maxL n index : Nat} {own : String} {y : MethodName} {wsy Ts : List Cond} {rm : Room} {As rest st0 : List Value} {mc ms : Nat} {ok : Prop} {v : Int32} {ret : Option FieldType} (S : CallFix p m c cc nL s args Ts own) (hM : gCi l y wsy rm D tc As wc w1 v ok mc ms H.size) (cw : CallB R s args own index y bytes maxL ret wsy rm mc ms n ∧ (Cond.static y).before args s = true) (hS : va_S A H0 H locs) (hA : ∀ q : Nat, H0.size ≤ q → A q) (hK : va_K D vwCl tys s) (hP : va_P D vwCl Wd H) (hD : va_D A Wd) (ks : List Nat) (hk : ks.filterMap (fun i => tys[i]?) = tc) (isC isR perm : List Nat) (hC : isC.map (fun i => Wd[i]?) = wc.map some) (hnC : va_nd isC = true) (hR : isR.map (fun i => Wd[i]?) = wr.map some) (hn : va_nd isR = true) (hdis : ∀ i ∈ isR, i ∉ isC) (hpm : perm.map (fun i => (wr ++ w1)[i]?) = W'.map some) (hpn : va_nd perm = true) 
    (hAs : As.length = n) (hsize : ls.size = nL) (hst : st0 = As.reverse ++ rest) (hW : (rest.map fun v => v.category).sum ≤ 8) (hdg : decode cc pc = .ok (.invokestatic index, 3)) (hf : cells + mc ≤ R.cells ∧ slots + ms ≤ R.slots)
    (kk : ∀ (H : Heap) (locs : List Loc), ok → va_P D vwCl W' H → va_D A W' → va_S A H0 H locs → W p l e R s m args below meth c H locs (cells + mc) (slots + ms) Q (F0 m (pc + 3) ls (.int v :: rest))) : W p l e R s m args below meth c H locs cells slots Q (F0 m pc ls st0) := by
  have hF := va_free (wc := wc) hD hS hA isC hC
  refine va_calli (va_runS S hM cw ⟨gPre.blind, (fun U hU hW => ⟨rfl, gc_S (av := As) hK hP hD ks hk isC hC hnC U hU hW⟩)⟩ rfl hAs hsize hst (lv_room hW) hdg hf) hS (fun q _ h => hF q h) hF (fun r u t H1 locs1 ht hvm hw hB hz1 hk1 hS1 => ?_)
  obtain ⟨hP1, hK1, hD1⟩ := hB
  rw [ht] at hP1
  obtain ⟨rfl, hw⟩ := hw
  obtain ⟨hPn, hDn⟩ := gc_join (H0 := H0) hP hD isC isR perm hC hR hn hdis hpm hpn hk1 hF hP1 hD1
  exact kk H1 locs1 hw hPn hDn hS1
theorem gS_l {Wd wc wr w1 W' : va_W} {tc : List (ClassId × FieldType)} {H0 : Heap} {bytes : ByteArray} {nL maxL n index : Nat} {own : String} {y : MethodName} {wsy Ts : List Cond} {rm : Room} {As rest st0 : List Value} {mc ms : Nat} {ok : Prop} {v : Int64} {ret : Option FieldType} (S : CallFix p m c cc nL s args Ts own) (hM : gCl l y wsy rm D tc As wc w1 v ok mc ms H.size) (cw : CallB R s args own index y bytes maxL ret wsy rm mc ms n ∧ (Cond.static y).before args s = true) (hS : va_S A H0 H locs) (hA : ∀ q : Nat, H0.size ≤ q → A q) (hK : va_K D vwCl tys s) (hP : va_P D vwCl Wd H) (hD : va_D A Wd) (ks : List Nat) (hk : ks.filterMap (fun i => tys[i]?) = tc) (isC isR perm : List Nat) (hC : isC.map (fun i => Wd[i]?) = wc.map some) (hnC : va_nd isC = true) (hR : isR.map (fun i => Wd[i]?) = wr.map some) (hn : va_nd isR = true) (hdis : ∀ i ∈ isR, i ∉ isC) (hpm : perm.map (fun i => (wr ++ w1)[i]?) = W'.map some) (hpn : va_nd perm = true) 
    (hAs : As.length = n) (hsize : ls.size = nL) (hst : st0 = As.reverse ++ rest) (hW : (rest.map fun v => v.category).sum ≤ 8) (hdg : decode cc pc = .ok (.invokestatic index, 3)) (hf : cells + mc ≤ R.cells ∧ slots + ms ≤ R.slots)
    (kk : ∀ (H : Heap) (locs : List Loc), ok → va_P D vwCl W' H → va_D A W' → va_S A H0 H locs → W p l e R s m args below meth c H locs (cells + mc) (slots + ms) Q (F0 m (pc + 3) ls (.long v :: rest))) : W p l e R s m args below meth c H locs cells slots Q (F0 m pc ls st0) := by
  have hF := va_free (wc := wc) hD hS hA isC hC
  refine va_calll (va_runS S hM cw ⟨gPre.blind, (fun U hU hW => ⟨rfl, gc_S (av := As) hK hP hD ks hk isC hC hnC U hU hW⟩)⟩ rfl hAs hsize hst (lv_room hW) hdg hf) hS (fun q _ h => hF q h) hF (fun r u t H1 locs1 ht hvm hw hB hz1 hk1 hS1 => ?_)
  obtain ⟨hP1, hK1, hD1⟩ := hB
  rw [ht] at hP1
  obtain ⟨rfl, hw⟩ := hw
  obtain ⟨hPn, hDn⟩ := gc_join (H0 := H0) hP hD isC isR perm hC hR hn hdis hpm hpn hk1 hF hP1 hD1
  exact kk H1 locs1 hw hPn hDn hS1
theorem gI_v {Wd wc wr w1 W' : va_W} {tc : List (ClassId × FieldType)} {H0 : Heap} {bytes : ByteArray} {nL maxL n index : Nat} {own : String} {y : MethodName} {wsy Ts : List Cond} {rm : Room} {b : Addr} {As rest st0 : List Value} {mc ms : Nat} {ok : Prop} (S : CallFix p m c cc nL s args Ts own) (hM : gCv l y wsy rm D tc (.ref b :: As) wc w1 ok mc ms H.size) (cw : CallB R s args own index y bytes maxL none wsy rm mc ms n ∧ y.name = "<init>" ∧ (Cond.instanceMethod y).before args s = true) (hS : va_S A H0 H locs) (hA : ∀ q : Nat, H0.size ≤ q → A q) (hK : va_K D vwCl tys s) (hP : va_P D vwCl Wd H) (hD : va_D A Wd) (ks : List Nat) (hk : ks.filterMap (fun i => tys[i]?) = tc) (isC isR perm : List Nat) (hC : isC.map (fun i => Wd[i]?) = wc.map some) (hnC : va_nd isC = true) (hR : isR.map (fun i => Wd[i]?) = wr.map some) (hn : va_nd isR = true) (hdis : ∀ i ∈ isR, i ∉ isC) (hpm : perm.map (fun i => (wr ++ w1)[i]?) = W'.map some) (hpn : va_nd perm = true) 
    (hAs : As.length = n) (hsize : ls.size = nL) (hst : st0 = As.reverse ++ .ref b :: rest) (hW : (rest.map fun v => v.category).sum ≤ 8) (hdg : decode cc pc = .ok (.invokespecial index, 3)) (hf : cells + mc ≤ R.cells ∧ slots + ms ≤ R.slots)
    (kk : ∀ (H : Heap) (locs : List Loc), ok → va_P D vwCl W' H → va_D A W' → va_S A H0 H locs → W p l e R s m args below meth c H locs (cells + mc) (slots + ms) Q (F0 m (pc + 3) ls (rest))) : W p l e R s m args below meth c H locs cells slots Q (F0 m pc ls st0) := by
  have hF := va_free (wc := wc) hD hS hA isC hC
  refine va_callv (va_runI S hM cw ⟨gPre.blind, (fun U hU hW => ⟨rfl, gc_S (av := As) hK hP hD ks hk isC hC hnC U hU hW⟩)⟩ rfl hAs hsize hst (lv_room hW) hdg hf) hS (fun q _ h => hF q h) hF (fun u t H1 locs1 ht hvm hw hB hz1 hk1 hS1 => ?_)
  obtain ⟨hP1, hK1, hD1⟩ := hB
  rw [ht] at hP1
  obtain ⟨hPn, hDn⟩ := gc_join (H0 := H0) hP hD isC isR perm hC hR hn hdis hpm hpn hk1 hF hP1 hD1
  exact kk H1 locs1 hw hPn hDn hS1
theorem gSW_i {Wd wc wr w1 W' : va_W} {tc : List (ClassId × FieldType)} {H0 : Heap} {bytes : ByteArray} {nL maxL n index : Nat} {own : String} {y : MethodName} {wsy Ts : List Cond} {rm : Room} {As rest st0 : List Value} {mc ms : Nat} {ok : Prop} {v : Int32} {ret : Option FieldType} {hh : List (Nat × Nat × Nat × Nat)} (S : CallFix p m c cc nL s args Ts own) (hM : gCi l y wsy rm D tc As wc w1 v ok mc ms H.size) (cw : vx_CSW R s args own index y bytes maxL ret hh wsy rm mc ms n) (hS : va_S A H0 H locs) (hA : ∀ q : Nat, H0.size ≤ q → A q) (hK : va_K D vwCl tys s) (hP : va_P D vwCl Wd H) (hD : va_D A Wd) (ks : List Nat) (hk : ks.filterMap (fun i => tys[i]?) = tc) (isC isR perm : List Nat) (hC : isC.map (fun i => Wd[i]?) = wc.map some) (hnC : va_nd isC = true) (hR : isR.map (fun i => Wd[i]?) = wr.map some) (hn : va_nd isR = true) (hdis : ∀ i ∈ isR, i ∉ isC) (hpm : perm.map (fun i => (wr ++ w1)[i]?) = W'.map some) (hpn : va_nd perm = true) 
    (hAs : As.length = n) (hsize : ls.size = nL) (hst : st0 = As.reverse ++ rest) (hW : (rest.map fun v => v.category).sum ≤ 8) (hdg : decode cc pc = .ok (.invokestatic index, 3)) (hf : cells + mc ≤ R.cells ∧ slots + ms ≤ R.slots)
    (kk : ∀ (H : Heap) (locs : List Loc), ok → va_P D vwCl W' H → va_D A W' → va_S A H0 H locs → W p l e R s m args below meth c H locs (cells + mc) (slots + ms) Q (F0 m (pc + 3) ls (.int v :: rest))) : W p l e R s m args below meth c H locs cells slots Q (F0 m pc ls st0) := by
  have hF := va_free (wc := wc) hD hS hA isC hC
  refine va_calli (vx_runSW S hM cw ⟨gPre.blind, (fun U hU hW => ⟨rfl, gc_S (av := As) hK hP hD ks hk isC hC hnC U hU hW⟩)⟩ rfl hAs hsize hst (lv_room hW) hdg hf) hS (fun q _ h => hF q h) hF (fun r u t H1 locs1 ht hvm hw hB hz1 hk1 hS1 => ?_)
  obtain ⟨hP1, hK1, hD1⟩ := hB
  rw [ht] at hP1
  obtain ⟨rfl, hw⟩ := hw
  obtain ⟨hPn, hDn⟩ := gc_join (H0 := H0) hP hD isC isR perm hC hR hn hdis hpm hpn hk1 hF hP1 hD1
  exact kk H1 locs1 hw hPn hDn hS1
variable {rest : List Value} {a : Nat} {ws : va_W} {H0 : Heap}
theorem ga_iald (hexec : p.tables.exec = Jvm.exec) (hb : c.code = cc) (hK : va_K D vwCl tys s) (hP : va_P D vwCl ws H) (q0 t0 : Nat) {cA : ClassId} {n : Nat} {f : Nat → Int32} (ha : ws[q0]? = some (a, .inl (cA, n, .inl f))) (ht : tys[t0]? = some (cA, .int)) {j : Nat} (hj : j < n) (hn : n < 2 ^ 31) (hdg : decode cc pc = .ok (.iaload, 1))
    (kk : W p l e R s m args below meth c H locs cells slots Q (F0 m (pc + 1) ls (.int (f j) :: rest))) : W p l e R s m args below meth c H locs cells slots Q (F0 m pc ls (.int (nI j) :: .ref a :: rest)) :=
  va_iald hexec hb hK hP q0 t0 ha ht (vp_in_nI hj hn) hdg (by rw [nI_clamp (Nat.lt_trans hj hn)]; exact kk)
theorem ga_lald (hexec : p.tables.exec = Jvm.exec) (hb : c.code = cc) (hK : va_K D vwCl tys s) (hP : va_P D vwCl ws H) (q0 t0 : Nat) {cA : ClassId} {n : Nat} {f : Nat → Int64} (ha : ws[q0]? = some (a, .inl (cA, n, .inr (.inl f)))) (ht : tys[t0]? = some (cA, .long)) {j : Nat} (hj : j < n) (hn : n < 2 ^ 31) (hdg : decode cc pc = .ok (.laload, 1))
    (kk : W p l e R s m args below meth c H locs cells slots Q (F0 m (pc + 1) ls (.long (f j) :: rest))) : W p l e R s m args below meth c H locs cells slots Q (F0 m pc ls (.int (nI j) :: .ref a :: rest)) :=
  va_lald hexec hb hK hP q0 t0 ha ht (vp_in_nI hj hn) hdg (by rw [nI_clamp (Nat.lt_trans hj hn)]; exact kk)
theorem ga_iast (hexec : p.tables.exec = Jvm.exec) (hb : c.code = cc) (hK : va_K D vwCl tys s) (hP : va_P D vwCl ws H) (hD : va_D A ws) (hS : va_S A H0 H locs) (q0 t0 : Nat) {cA : ClassId} {n : Nat} {f : Nat → Int32} (ha : ws[q0]? = some (a, .inl (cA, n, .inl f))) (ht : tys[t0]? = some (cA, .int)) {j : Nat} {x : Int32} (hj : j < n) (hn : n < 2 ^ 31) (hdg : decode cc pc = .ok (.iastore, 1))
    {ws' : va_W} (hw : ws.set q0 (a, .inl (cA, n, .inl (upd f j x))) = ws') (kk : ∀ (H1 : Heap) (locs1 : List Loc), va_P D vwCl ws' H1 → va_D A ws' → va_S A H0 H1 locs1 → W p l e R s m args below meth c H1 locs1 cells slots Q (F0 m (pc + 1) ls rest)) : W p l e R s m args below meth c H locs cells slots Q (F0 m pc ls (.int x :: .int (nI j) :: .ref a :: rest)) :=
  va_iast hexec hb hK hP hD hS q0 t0 ha ht (vp_in_nI hj hn) hdg (fun H1 l1 h1 h2 h3 => by rw [nI_clamp (Nat.lt_trans hj hn), hw] at h1 h2; exact kk H1 l1 h1 h2 h3)
theorem ga_last (hexec : p.tables.exec = Jvm.exec) (hb : c.code = cc) (hK : va_K D vwCl tys s) (hP : va_P D vwCl ws H) (hD : va_D A ws) (hS : va_S A H0 H locs) (q0 t0 : Nat) {cA : ClassId} {n : Nat} {f : Nat → Int64} (ha : ws[q0]? = some (a, .inl (cA, n, .inr (.inl f)))) (ht : tys[t0]? = some (cA, .long)) {j : Nat} {x : Int64} (hj : j < n) (hn : n < 2 ^ 31) (hdg : decode cc pc = .ok (.lastore, 1))
    {ws' : va_W} (hw : ws.set q0 (a, .inl (cA, n, .inr (.inl (vp_updL f j x)))) = ws') (kk : ∀ (H1 : Heap) (locs1 : List Loc), va_P D vwCl ws' H1 → va_D A ws' → va_S A H0 H1 locs1 → W p l e R s m args below meth c H1 locs1 cells slots Q (F0 m (pc + 1) ls rest)) : W p l e R s m args below meth c H locs cells slots Q (F0 m pc ls (.long x :: .int (nI j) :: .ref a :: rest)) :=
  va_last hexec hb hK hP hD hS q0 t0 ha ht (vp_in_nI hj hn) hdg (fun H1 l1 h1 h2 h3 => by rw [nI_clamp (Nat.lt_trans hj hn), hw] at h1 h2; exact kk H1 l1 h1 h2 h3)
theorem gi_1 (i : Nat) : nI i + Int32.ofInt 1 = nI (i + 1) := nI_1 i
end GE
theorem gt_a1 : ∀ q ∈ (vx_atS RX1 132 IAE ["java/lang/RuntimeException", "java/lang/Exception"]).filter (fun q => !goodWord q), q ∈ Cond.castable IAE IAE :: tz_dn.map Cond.declares := by decide +kernel
theorem gt_g1 : ∀ q ∈ Cond.classLink RX1 128 IAE :: Cond.initialized IAE :: vx_atS RX1 132 IAE ["java/lang/RuntimeException", "java/lang/Exception"], vx_ot q = true := by decide +kernel
theorem gt_a2 : ∀ q ∈ (vx_atS RX1 139 ISE ["java/lang/RuntimeException", "java/lang/Exception"]).filter (fun q => !goodWord q), q ∈ Cond.castable ISE ISE :: tz_dn.map Cond.declares := by decide +kernel
theorem gt_g2 : ∀ q ∈ Cond.classLink RX1 135 ISE :: Cond.initialized ISE :: vx_atS RX1 139 ISE ["java/lang/RuntimeException", "java/lang/Exception"], vx_ot q = true := by decide +kernel
end
section
/-! numbers and worlds in my own words -/
/-- the lesser, the greater of two -/
def mnI (x y : Int32) : Int32 := if y < x then y else x
def mxI (x y : Int32) : Int32 := if x < y then y else x
theorem arrV_cg {cI : ClassId} {n : Nat} {f g : Nat → Value} (h : ∀ j, j < n → f j = g j) : arrV cI n f = arrV cI n g := by
  have e : (fun j : Fin n => f j.val) = (fun j : Fin n => g j.val) := funext fun j => h _ j.isLt
  simp only [arrV, e]
theorem gw_I {D : va_G} {cl : List vw_C} {ws ws' : va_W} {H : Heap} (hP : va_P D cl ws H) (k : Nat) {a : Nat} {cA : ClassId} {n : Nat} {f g : Nat → Int32} (hk : ws[k]? = some (a, .inl (cA, n, .inl f))) (h : ∀ j, j < n → f j = g j) (e : ws.set k (a, .inl (cA, n, .inl g)) = ws') : va_P D cl ws' H := by
  subst e
  intro i q hq
  by_cases hi : i = k
  · subst hi
    have hlt : i < ws.length := (List.getElem?_eq_some_iff.mp hk).1
    rw [List.getElem?_set] at hq
    simp only [if_true, hlt] at hq
    cases hq
    have h1 : H[a]? = some (vp_cell cA (n, .inl f)) := hP i _ hk
    show H[a]? = some (vp_cell cA (n, .inl g))
    rw [h1]
    show some (arrV cA n (fun j => .int (f j))) = some (arrV cA n (fun j => .int (g j)))
    rw [arrV_cg (fun j hj => by rw [h j hj])]
  · rw [List.getElem?_set] at hq
    simp only [if_neg (fun z : k = i => hi z.symm)] at hq
    exact hP i q hq
theorem gw_L {D : va_G} {cl : List vw_C} {ws ws' : va_W} {H : Heap} (hP : va_P D cl ws H) (k : Nat) {a : Nat} {cA : ClassId} {n : Nat} {f g : Nat → Int64} (hk : ws[k]? = some (a, .inl (cA, n, .inr (.inl f)))) (h : ∀ j, j < n → f j = g j) (e : ws.set k (a, .inl (cA, n, .inr (.inl g))) = ws') : va_P D cl ws' H := by
  subst e
  intro i q hq
  by_cases hi : i = k
  · subst hi
    have hlt : i < ws.length := (List.getElem?_eq_some_iff.mp hk).1
    rw [List.getElem?_set] at hq
    simp only [if_true, hlt] at hq
    cases hq
    have h1 : H[a]? = some (vp_cell cA (n, .inr (.inl f))) := hP i _ hk
    show H[a]? = some (vp_cell cA (n, .inr (.inl g)))
    rw [h1]
    show some (arrV cA n (fun j => .long (f j))) = some (arrV cA n (fun j => .long (g j)))
    rw [arrV_cg (fun j hj => by rw [h j hj])]
  · rw [List.getElem?_set] at hq
    simp only [if_neg (fun z : k = i => hi z.symm)] at hq
    exact hP i q hq
theorem gw_D {A : Nat → Prop} {ws ws' : va_W} (hD : va_D A ws) (k : Nat) {a : Nat} {e0 e1 : va_E} (hk : ws[k]? = some (a, e0)) (e : ws.set k (a, e1) = ws') : va_D A ws' := e ▸ va_D.set hD hk
theorem gj_i {p : Program} {l : Launch} {e : Env} {R : Room} {s : State} {m : MethodId} {args : Array Value} {below : List Frame} {meth : Method} {c : Code} {H : Heap} {locs : List Loc} {cells slots : Nat} {Q : State → Prop} {pc : Nat} {ls : Array Slot} {rest : List Value} {x y : Int32} (h : x = y) (k : W p l e R s m args below meth c H locs cells slots Q (F0 m pc ls (.int y :: rest))) : W p l e R s m args below meth c H locs cells slots Q (F0 m pc ls (.int x :: rest)) := h ▸ k
theorem gj_l {p : Program} {l : Launch} {e : Env} {R : Room} {s : State} {m : MethodId} {args : Array Value} {below : List Frame} {meth : Method} {c : Code} {H : Heap} {locs : List Loc} {cells slots : Nat} {Q : State → Prop} {pc : Nat} {ls : Array Slot} {rest : List Value} {x y : Int64} (h : x = y) (k : W p l e R s m args below meth c H locs cells slots Q (F0 m pc ls (.long y :: rest))) : W p l e R s m args below meth c H locs cells slots Q (F0 m pc ls (.long x :: rest)) := h ▸ k
/-- the first i places are v, the others f's -/
def flf (f : Nat → Int32) (v : Int32) (i : Nat) : Nat → Int32 := fun j => if j < i then v else f j
theorem flf_0 (f : Nat → Int32) (v : Int32) : flf f v 0 = f := rfl
theorem flf_s (f : Nat → Int32) (v : Int32) (i : Nat) : upd (flf f v i) i v = flf f v (i + 1) := by
  funext j
  unfold upd flf
  by_cases h : j = i
  · rw [if_pos h, if_pos (by omega)]
  · rw [if_neg h]
    by_cases h2 : j < i
    · rw [if_pos h2, if_pos (by omega)]
    · rw [if_neg h2, if_neg (by omega)]
/-- a stock: its object q, its row -/
abbrev wK (q r : Nat) (cI : ClassId) (f : Nat → Int32) (k z : Int32) : va_W := [(q, .inr (0, [.ref r, .int k, .int z])), (r, .inl (cI, 20, .inl f))]
/-- what lapses before the year y -/
def lpF (f : Nat → Int32) (k y : Nat) : Nat → Int32 := if k + 1 ≤ y then upd f (y - k - 1) 0 else f
def lpZ (f : Nat → Int32) (z : Int32) (k y : Nat) : Int32 := if k + 1 ≤ y then z + f (y - k - 1) else z
abbrev wG (ad : Nat → Nat) (cI cL : ClassId) (qy lp sp : Int32) (pr ex : Nat → Int32) (cl : Int32) (dy tk mk : Nat → Int32) (mK mS : Int32) (su : Nat → Int32) (uK uS : Int32) (sh mu co sr : Nat → Int32) (du bi : Nat → Int64) (bb : Int64) : va_W :=
  [(ad 0, .inr (1, [.int qy, .int lp, .int sp, .ref (ad 1), .ref (ad 2), .int cl, .ref (ad 3), .ref (ad 4), .ref (ad 5), .ref (ad 6), .ref (ad 7), .ref (ad 8), .ref (ad 9), .ref (ad 10), .ref (ad 11), .ref (ad 12), .long bb])),
   (ad 1, .inl (cI, 20, .inl pr)), (ad 2, .inl (cI, 20, .inl ex)), (ad 3, .inl (cI, 360, .inl dy)), (ad 4, .inl (cI, 20, .inl tk)),
   (ad 5, .inr (0, [.ref (ad 13), .int mK, .int mS])), (ad 6, .inr (0, [.ref (ad 14), .int uK, .int uS])),
   (ad 7, .inl (cI, 20, .inl sh)), (ad 8, .inl (cI, 20, .inl mu)), (ad 9, .inl (cI, 20, .inl co)), (ad 10, .inl (cI, 20, .inl sr)), (ad 11, .inl (cL, 20, .inr (.inl du))), (ad 12, .inl (cL, 20, .inr (.inl bi))),
   (ad 13, .inl (cI, 20, .inl mk)), (ad 14, .inl (cI, 20, .inl su))]
theorem lp_neg : ∀ y, y < 20 → ∀ k, k < 20 → y < k + 1 → nI y - nI k - 1 < 0 := by decide +kernel
theorem lp_pos : ∀ y, y < 20 → ∀ k, k < 20 → k + 1 ≤ y → nI y - nI k - 1 = nI (y - k - 1) := by decide +kernel
end
section
set_option maxHeartbeats 4000000 in
set_option maxRecDepth 100000 in
theorem c_J7_fill_53178 (l : Launch) (D : va_G) (sz : Nat) (a n : Nat) (cI cL : ClassId) (f : Nat → Int32) (v : Int32) (hn : n < 2 ^ 31) : gCv l yJ7_fill_53178 wsJ7_fill_53178 ({ frames := 0, cells := 0, slots := 0, locals := 0 } : Room) D [(cI, .int), (cL, .long)] [.ref a, .int v] [(a, .inl (cI, n, .inl f))] [(a, .inl (cI, n, .inl (fun _ => v)))] True 0 0 sz := by
  refine gm_v (cc := cJ7_fill_53178) (maxL := 4) (by decide) rfl (Nat.le_of_ble_eq_true rfl) ?_
  intro pg en s m args below meth cd A ls hx hb hr hml hown hts hlocks hin hA hK hP hD hl
  have hl : lv_has ls 4 [(0, .ref a), (1, .int v)] := hl
  have hS : va_S A s.heap s.heap [] := va_S.rf
  refine lv_iconst (v := 0) hx hb dJ7_fill_53178_0 (by decide) ?_
  refine lv_istore_n (lv' := [(2, .int 0), (0, .ref a), (1, .int v)]) hx hb dJ7_fill_53178_1 rfl hl (by decide) rfl (fun ls hl => ?_)
  refine lv_aload_n hx hb dJ7_fill_53178_2 rfl (lv_at hl 1 rfl) ?_
  refine va_alen (v := nI n) hx hb hK hP 0 0 rfl rfl rfl dJ7_fill_53178_3 ?_
  refine lv_istore_n (lv' := [(3, .int (nI n)), (2, .int 0), (0, .ref a), (1, .int v)]) hx hb dJ7_fill_53178_4 rfl hl (by decide) rfl (fun ls hl => ?_)
  have lp : ∀ (k i : Nat), i ≤ n → n < i + k → ∀ (H : Heap) (locs : List Loc), va_P D vwCl [(a, .inl (cI, n, .inl (flf f v i)))] H → va_D A [(a, .inl (cI, n, .inl (flf f v i)))] → va_S A s.heap H locs → ∀ (ls : Array Slot), lv_has ls 4 [(0, .ref a), (1, .int v), (2, .int (nI i)), (3, .int (nI n))] → W pg l en ({ frames := 0, cells := 0, slots := 0, locals := 0 } : Room) s m args below meth cd H locs 0 0 (gEv True below D [(cI, .int), (cL, .long)] [(a, .inl (cI, n, .inl (fun _ => v)))] A args s 0 0) (F0 m 5 ls []) := by
    intro k
    induction k with
    | zero => intro i h1 h2; exact absurd h2 (by omega)
    | succ k ih =>
      intro i hi hin2 H locs hP hD hS ls hl
      refine lv_iload_n hx hb dJ7_fill_53178_5 rfl (lv_at hl 2 rfl) ?_
      refine lv_iload_n hx hb dJ7_fill_53178_6 rfl (lv_at hl 3 rfl) ?_
      refine lv_icmp_ge (tgt := 20) hx hb dJ7_fill_53178_7 (by decide) (fun c7 => ?_) (fun c7 => ?_)
      · have hni : ¬ i < n := fun h => absurd c7 (nI_ge h hn)
        have hP : va_P D vwCl [(a, .inl (cI, n, .inl (fun _ => v)))] H := gw_I hP 0 rfl (fun j hj => if_pos (by omega)) rfl
        have hD : va_D A [(a, .inl (cI, n, .inl (fun _ => v)))] := gw_D hD 0 rfl rfl
        exact ge_v hx hb hr hlocks hK hP hD hS trivial (Nat.le_of_ble_eq_true rfl) (Nat.le_of_ble_eq_true rfl) dJ7_fill_53178_20
      · have hlt : i < n := Nat.not_le.mp (fun h => c7 (nI_le h (by omega)))
        refine lv_aload_n hx hb dJ7_fill_53178_10 rfl (lv_at hl 0 rfl) ?_
        refine lv_iload_n hx hb dJ7_fill_53178_11 rfl (lv_at hl 2 rfl) ?_
        refine lv_iload_n hx hb dJ7_fill_53178_12 rfl (lv_at hl 1 rfl) ?_
        refine ga_iast (ws' := [(a, .inl (cI, n, .inl (flf f v (i + 1))))]) hx hb hK hP hD hS 0 0 rfl rfl hlt hn dJ7_fill_53178_13 (by rw [flf_s]; rfl) (fun H locs hP hD hS => ?_)
        refine lv_iinc (v := nI (i + 1)) (lv' := [(2, .int (nI (i + 1))), (0, .ref a), (1, .int v), (3, .int (nI n))]) hx hb dJ7_fill_53178_14 hl (k := 2) rfl (gi_1 _) (by decide) rfl (fun ls hl => ?_)
        refine lv_goto (tgt := 5) hx hb dJ7_fill_53178_17 (by decide) ?_
        exact ih (i + 1) (by omega) (by omega) _ _ hP hD hS ls (lv_sub hl [1, 2, 0, 3] rfl)
  exact lp (n + 1) 0 (by omega) (by omega) _ _ hP hD hS ls (lv_sub hl [2, 3, 1, 0] rfl)
theorem inX0_keepFor_X0 : ∀ q ∈ wsX00, q ∈ wsX0_keepFor := by decide +kernel
theorem hX0_keepFor__fieldLink_RX0_15_MakeupGas_Stock_yearsKept_I_ : Cond.fieldLink RX0 15 "MakeupGas$Stock" "yearsKept" "I" ∈ wsX0_keepFor := by decide +kernel
set_option maxHeartbeats 4000000 in
set_option maxRecDepth 100000 in
theorem c_X0_keepFor (l : Launch) (D : va_G) (sz : Nat) (q r : Nat) (cI cL : ClassId) (f : Nat → Int32) (k z : Int32) (y : Int32)  : gCv l yX0_keepFor wsX0_keepFor ({ frames := 0, cells := 0, slots := 0, locals := 0 } : Room) D [(cI, .int), (cL, .long)] [.ref q, .int y] (wK q r cI f k z) (wK q r cI f y z) True 0 0 sz := by
  refine gm_v (cc := cX0_keepFor) (maxL := 2) (by decide) rfl (Nat.le_of_ble_eq_true rfl) ?_
  intro pg en s m args below meth cd A ls hx hb hr hml hown hts hlocks hin hA hK hP hD hl
  have hl : lv_has ls 2 [(0, .ref q), (1, .int y)] := hl
  have hS : va_S A s.heap s.heap [] := va_S.rf
  refine lv_aload_n hx hb dX0_keepFor_0 rfl (lv_at hl 0 rfl) ?_
  refine lv_iload_n hx hb dX0_keepFor_1 rfl (lv_at hl 1 rfl) ?_
  refine va_put (D := D) (ci := 0) (v := .int y) (ty := .int) (C := RX0) (T := TX0) (N := 3) hx hb hts inX0_keepFor_X0 tyX0 tyX0_ok nmX0 hown hK hP hD hS 0 rfl rfl 1 (by decide) (hts _ hX0_keepFor__fieldLink_RX0_15_MakeupGas_Stock_yearsKept_I_) (fun _ h9 => h9) (by decide +kernel) (by decide +kernel) rfl rfl (Nat.le_of_ble_eq_true rfl) dX0_keepFor_2 (fun H locs hP hD hS => ?_)
  have hP : va_P D vwCl (wK q r cI f y z) H := hP
  have hD : va_D A (wK q r cI f y z) := hD
  exact ge_v hx hb hr hlocks hK hP hD hS trivial (Nat.le_of_ble_eq_true rfl) (Nat.le_of_ble_eq_true rfl) dX0_keepFor_5
theorem inX0_empty_X0 : ∀ q ∈ wsX00, q ∈ wsX0_empty := by decide +kernel
theorem hX0_empty__fieldLink_RX0_9_MakeupGas_Stock_left_I_ : Cond.fieldLink RX0 9 "MakeupGas$Stock" "left" "[I" ∈ wsX0_empty := by decide +kernel
theorem hX0_empty__fieldLink_RX0_25_MakeupGas_Stock_lapsedSum_I_ : Cond.fieldLink RX0 25 "MakeupGas$Stock" "lapsedSum" "I" ∈ wsX0_empty := by decide +kernel
set_option maxHeartbeats 4000000 in
set_option maxRecDepth 100000 in
theorem c_X0_empty (l : Launch) (D : va_G) (sz : Nat) (q r : Nat) (cI cL : ClassId) (f : Nat → Int32) (k z : Int32)  : gCv l yX0_empty wsX0_empty ({ frames := 1, cells := 0, slots := 0, locals := 23 } : Room) D [(cI, .int), (cL, .long)] [.ref q] (wK q r cI f k z) (wK q r cI (fun _ => 0) k 0) True 0 0 sz := by
  refine gm_v (cc := cX0_empty) (maxL := 1) (by decide) rfl (Nat.le_of_ble_eq_true rfl) ?_
  intro pg en s m args below meth cd A ls hx hb hr hml hown hts hlocks hin hA hK hP hD hl
  have hl : lv_has ls 1 [(0, .ref q)] := hl
  have hS : va_S A s.heap s.heap [] := va_S.rf
  refine lv_aload_n hx hb dX0_empty_0 rfl (lv_at hl 0 rfl) ?_
  refine va_get (D := D) (ci := 0) (C := RX0) (T := TX0) (N := 3) hx hb hts inX0_empty_X0 hown hK hP 0 rfl rfl 0 (by decide) (hts _ hX0_empty__fieldLink_RX0_9_MakeupGas_Stock_left_I_) (fun _ h9 => h9) rfl dX0_empty_1 ?_
  refine lv_iconst (v := 0) hx hb dX0_empty_4 (by decide) ?_
  refine gS_v (wc := [(r, .inl (cI, 20, .inl f))]) (wr := [(q, .inr (0, [.ref r, .int k, .int z]))]) (w1 := [(r, .inl (cI, 20, .inl (fun _ => 0)))]) (W' := (wK q r cI (fun _ => 0) k z)) (As := [.ref r, .int 0]) (rest := []) ⟨hx, hb, hml, hown, hts⟩ (c_J7_fill_53178 l D s.heap.size r 20 cI cL f 0 (by decide)) (va_cwS 2 hts gX0_empty_J7_fill_53178 rfl rfl rfl (by decide +kernel) ⟨(Nat.le_of_ble_eq_true rfl), (Nat.le_of_ble_eq_true rfl)⟩) hS hA hK hP hD [0, 1] rfl [1] [0] [0, 1] rfl (by decide) rfl (by decide) (by decide) rfl (by decide) rfl hl.1 rfl (Nat.le_of_ble_eq_true rfl) dX0_empty_5 ⟨(Nat.le_of_ble_eq_true rfl), (Nat.le_of_ble_eq_true rfl)⟩ (fun H locs _ hP hD hS => ?_)
  refine lv_aload_n hx hb dX0_empty_8 rfl (lv_at hl 0 rfl) ?_
  refine lv_iconst (v := 0) hx hb dX0_empty_9 (by decide) ?_
  refine va_put (D := D) (ci := 0) (v := .int 0) (ty := .int) (C := RX0) (T := TX0) (N := 3) hx hb hts inX0_empty_X0 tyX0 tyX0_ok nmX0 hown hK hP hD hS 0 rfl rfl 2 (by decide) (hts _ hX0_empty__fieldLink_RX0_25_MakeupGas_Stock_lapsedSum_I_) (fun _ h9 => h9) (by decide +kernel) (by decide +kernel) rfl rfl (Nat.le_of_ble_eq_true rfl) dX0_empty_10 (fun H locs hP hD hS => ?_)
  have hP : va_P D vwCl (wK q r cI (fun _ => 0) k 0) H := hP
  have hD : va_D A (wK q r cI (fun _ => 0) k 0) := hD
  exact ge_v hx hb hr hlocks hK hP hD hS trivial (Nat.le_of_ble_eq_true rfl) (Nat.le_of_ble_eq_true rfl) dX0_empty_13
theorem inX0_put_X0 : ∀ q ∈ wsX00, q ∈ wsX0_put := by decide +kernel
theorem hX0_put__fieldLink_RX0_9_MakeupGas_Stock_left_I_ : Cond.fieldLink RX0 9 "MakeupGas$Stock" "left" "[I" ∈ wsX0_put := by decide +kernel
set_option maxHeartbeats 4000000 in
set_option maxRecDepth 100000 in
theorem c_X0_put (l : Launch) (D : va_G) (sz : Nat) (q r : Nat) (cI cL : ClassId) (f : Nat → Int32) (k z : Int32) (o : Nat) (v : Int32) (ho : o < 20) : gCv l yX0_put wsX0_put ({ frames := 0, cells := 0, slots := 0, locals := 0 } : Room) D [(cI, .int), (cL, .long)] [.ref q, .int (nI o), .int v] (wK q r cI f k z) (wK q r cI (upd f o v) k z) True 0 0 sz := by
  refine gm_v (cc := cX0_put) (maxL := 3) (by decide) rfl (Nat.le_of_ble_eq_true rfl) ?_
  intro pg en s m args below meth cd A ls hx hb hr hml hown hts hlocks hin hA hK hP hD hl
  have hl : lv_has ls 3 [(0, .ref q), (1, .int (nI o)), (2, .int v)] := hl
  have hS : va_S A s.heap s.heap [] := va_S.rf
  refine lv_aload_n hx hb dX0_put_0 rfl (lv_at hl 0 rfl) ?_
  refine va_get (D := D) (ci := 0) (C := RX0) (T := TX0) (N := 3) hx hb hts inX0_put_X0 hown hK hP 0 rfl rfl 0 (by decide) (hts _ hX0_put__fieldLink_RX0_9_MakeupGas_Stock_left_I_) (fun _ h9 => h9) rfl dX0_put_1 ?_
  refine lv_iload_n hx hb dX0_put_4 rfl (lv_at hl 1 rfl) ?_
  refine lv_iload_n hx hb dX0_put_5 rfl (lv_at hl 2 rfl) ?_
  refine ga_iast (j := o) (ws' := (wK q r cI (upd f o v) k z)) hx hb hK hP hD hS 1 0 rfl rfl ho (by decide) dX0_put_6 rfl (fun H locs hP hD hS => ?_)
  exact ge_v hx hb hr hlocks hK hP hD hS trivial (Nat.le_of_ble_eq_true rfl) (Nat.le_of_ble_eq_true rfl) dX0_put_7
theorem inX0_leftFrom_X0 : ∀ q ∈ wsX00, q ∈ wsX0_leftFrom := by decide +kernel
theorem hX0_leftFrom__fieldLink_RX0_9_MakeupGas_Stock_left_I_ : Cond.fieldLink RX0 9 "MakeupGas$Stock" "left" "[I" ∈ wsX0_leftFrom := by decide +kernel
set_option maxHeartbeats 4000000 in
set_option maxRecDepth 100000 in
theorem c_X0_leftFrom (l : Launch) (D : va_G) (sz : Nat) (q r : Nat) (cI cL : ClassId) (f : Nat → Int32) (k z : Int32) (o : Nat) (ho : o < 20) : gCi l yX0_leftFrom wsX0_leftFrom ({ frames := 0, cells := 0, slots := 0, locals := 0 } : Room) D [(cI, .int), (cL, .long)] [.ref q, .int (nI o)] (wK q r cI f k z) (wK q r cI f k z) (f o) True 0 0 sz := by
  refine gm_i (cc := cX0_leftFrom) (maxL := 2) (by decide) rfl (Nat.le_of_ble_eq_true rfl) ?_
  intro pg en s m args below meth cd A ls hx hb hr hml hown hts hlocks hin hA hK hP hD hl
  have hl : lv_has ls 2 [(0, .ref q), (1, .int (nI o))] := hl
  have hS : va_S A s.heap s.heap [] := va_S.rf
  refine lv_aload_n hx hb dX0_leftFrom_0 rfl (lv_at hl 0 rfl) ?_
  refine va_get (D := D) (ci := 0) (C := RX0) (T := TX0) (N := 3) hx hb hts inX0_leftFrom_X0 hown hK hP 0 rfl rfl 0 (by decide) (hts _ hX0_leftFrom__fieldLink_RX0_9_MakeupGas_Stock_left_I_) (fun _ h9 => h9) rfl dX0_leftFrom_1 ?_
  refine lv_iload_n hx hb dX0_leftFrom_4 rfl (lv_at hl 1 rfl) ?_
  refine ga_iald (j := o) hx hb hK hP 1 0 rfl rfl ho (by decide) dX0_leftFrom_5 ?_
  exact ge_i hx hb hr hlocks rfl hK hP hD hS trivial (Nat.le_of_ble_eq_true rfl) (Nat.le_of_ble_eq_true rfl) dX0_leftFrom_6
theorem inX0_lapsedInAll_X0 : ∀ q ∈ wsX00, q ∈ wsX0_lapsedInAll := by decide +kernel
theorem hX0_lapsedInAll__fieldLink_RX0_25_MakeupGas_Stock_lapsedSum_I_ : Cond.fieldLink RX0 25 "MakeupGas$Stock" "lapsedSum" "I" ∈ wsX0_lapsedInAll := by decide +kernel
set_option maxHeartbeats 4000000 in
set_option maxRecDepth 100000 in
theorem c_X0_lapsedInAll (l : Launch) (D : va_G) (sz : Nat) (q r : Nat) (cI cL : ClassId) (f : Nat → Int32) (k z : Int32)  : gCi l yX0_lapsedInAll wsX0_lapsedInAll ({ frames := 0, cells := 0, slots := 0, locals := 0 } : Room) D [(cI, .int), (cL, .long)] [.ref q] (wK q r cI f k z) (wK q r cI f k z) z True 0 0 sz := by
  refine gm_i (cc := cX0_lapsedInAll) (maxL := 1) (by decide) rfl (Nat.le_of_ble_eq_true rfl) ?_
  intro pg en s m args below meth cd A ls hx hb hr hml hown hts hlocks hin hA hK hP hD hl
  have hl : lv_has ls 1 [(0, .ref q)] := hl
  have hS : va_S A s.heap s.heap [] := va_S.rf
  refine lv_aload_n hx hb dX0_lapsedInAll_0 rfl (lv_at hl 0 rfl) ?_
  refine va_get (D := D) (ci := 0) (C := RX0) (T := TX0) (N := 3) hx hb hts inX0_lapsedInAll_X0 hown hK hP 0 rfl rfl 2 (by decide) (hts _ hX0_lapsedInAll__fieldLink_RX0_25_MakeupGas_Stock_lapsedSum_I_) (fun _ h9 => h9) rfl dX0_lapsedInAll_1 ?_
  exact ge_i hx hb hr hlocks rfl hK hP hD hS trivial (Nat.le_of_ble_eq_true rfl) (Nat.le_of_ble_eq_true rfl) dX0_lapsedInAll_4
theorem inX0_drawFrom_X0 : ∀ q ∈ wsX00, q ∈ wsX0_drawFrom := by decide +kernel
theorem hX0_drawFrom__fieldLink_RX0_9_MakeupGas_Stock_left_I_ : Cond.fieldLink RX0 9 "MakeupGas$Stock" "left" "[I" ∈ wsX0_drawFrom := by decide +kernel
theorem hX0_drawFrom__methodLink_RX0_28_Lib_Math_min_name : Cond.methodLink RX0 28 Lib.Math.min.name ∈ wsX0_drawFrom := by decide +kernel
theorem hX0_drawFrom__static_Lib_Math_min_name : Cond.static Lib.Math.min.name ∈ wsX0_drawFrom := by decide +kernel
theorem hX0_drawFrom__initialized_java_lang_Math_ : Cond.initialized "java/lang/Math" ∈ wsX0_drawFrom := by decide +kernel
theorem hX0_drawFrom__code_Lib_Math_min_name_Lib_Math_min_code_2_some_int_ : Cond.code Lib.Math.min.name Lib.Math.min.code 2 (some .int) ∈ wsX0_drawFrom := by decide +kernel
set_option maxHeartbeats 4000000 in
set_option maxRecDepth 100000 in
theorem c_X0_drawFrom (l : Launch) (D : va_G) (sz : Nat) (q r : Nat) (cI cL : ClassId) (f : Nat → Int32) (k z : Int32) (o : Nat) (v : Int32) (ho : o < 20) : gCi l yX0_drawFrom wsX0_drawFrom ({ frames := 1, cells := 0, slots := 0, locals := 21 } : Room) D [(cI, .int), (cL, .long)] [.ref q, .int (nI o), .int v] (wK q r cI f k z) (wK q r cI (upd f o (f o - mnI v (f o))) k z) (mnI v (f o)) True 0 0 sz := by
  refine gm_i (cc := cX0_drawFrom) (maxL := 4) (by decide) rfl (Nat.le_of_ble_eq_true rfl) ?_
  intro pg en s m args below meth cd A ls hx hb hr hml hown hts hlocks hin hA hK hP hD hl
  have hl : lv_has ls 4 [(0, .ref q), (1, .int (nI o)), (2, .int v)] := hl
  have hS : va_S A s.heap s.heap [] := va_S.rf
  refine lv_iload_n hx hb dX0_drawFrom_0 rfl (lv_at hl 2 rfl) ?_
  refine lv_aload_n hx hb dX0_drawFrom_1 rfl (lv_at hl 0 rfl) ?_
  refine va_get (D := D) (ci := 0) (C := RX0) (T := TX0) (N := 3) hx hb hts inX0_drawFrom_X0 hown hK hP 0 rfl rfl 0 (by decide) (hts _ hX0_drawFrom__fieldLink_RX0_9_MakeupGas_Stock_left_I_) (fun _ h9 => h9) rfl dX0_drawFrom_2 ?_
  refine lv_iload_n hx hb dX0_drawFrom_5 rfl (lv_at hl 1 rfl) ?_
  refine ga_iald (j := o) hx hb hK hP 1 0 rfl rfl ho (by decide) dX0_drawFrom_6 ?_
  refine va_mmin hx hb (by rw [hml]; exact hl.1.symm) hown (hts _ hX0_drawFrom__methodLink_RX0_28_Lib_Math_min_name) (hts _ hX0_drawFrom__static_Lib_Math_min_name) (hts _ hX0_drawFrom__initialized_java_lang_Math_) (hts _ hX0_drawFrom__code_Lib_Math_min_name_Lib_Math_min_code_2_some_int_) (Nat.le_of_ble_eq_true rfl) (Nat.le_of_ble_eq_true rfl) (Nat.le_of_ble_eq_true rfl) (Nat.le_of_ble_eq_true rfl) dX0_drawFrom_7 ?_
  refine lv_istore_n (lv' := [(3, .int (mnI v (f o))), (0, .ref q), (1, .int (nI o)), (2, .int v)]) hx hb dX0_drawFrom_10 rfl hl (by decide) rfl (fun ls hl => ?_)
  refine lv_aload_n hx hb dX0_drawFrom_11 rfl (lv_at hl 1 rfl) ?_
  refine va_get (D := D) (ci := 0) (C := RX0) (T := TX0) (N := 3) hx hb hts inX0_drawFrom_X0 hown hK hP 0 rfl rfl 0 (by decide) (hts _ hX0_drawFrom__fieldLink_RX0_9_MakeupGas_Stock_left_I_) (fun _ h9 => h9) rfl dX0_drawFrom_12 ?_
  refine lv_iload_n hx hb dX0_drawFrom_15 rfl (lv_at hl 2 rfl) ?_
  refine lv_dup2_11 hx hb dX0_drawFrom_16 rfl rfl ?_
  refine ga_iald (j := o) hx hb hK hP 1 0 rfl rfl ho (by decide) dX0_drawFrom_17 ?_
  refine lv_iload_n hx hb dX0_drawFrom_18 rfl (lv_at hl 0 rfl) ?_
  refine lv_isub hx hb dX0_drawFrom_19 ?_
  refine ga_iast (j := o) (ws' := (wK q r cI (upd f o ((f o) - (mnI v (f o)))) k z)) hx hb hK hP hD hS 1 0 rfl rfl ho (by decide) dX0_drawFrom_20 rfl (fun H locs hP hD hS => ?_)
  refine lv_iload_n hx hb dX0_drawFrom_21 rfl (lv_at hl 0 rfl) ?_
  exact ge_i hx hb hr hlocks rfl hK hP hD hS trivial (Nat.le_of_ble_eq_true rfl) (Nat.le_of_ble_eq_true rfl) dX0_drawFrom_22
theorem inX0_lapseBefore_X0 : ∀ q ∈ wsX00, q ∈ wsX0_lapseBefore := by decide +kernel
theorem hX0_lapseBefore__fieldLink_RX0_15_MakeupGas_Stock_yearsKept_I_ : Cond.fieldLink RX0 15 "MakeupGas$Stock" "yearsKept" "I" ∈ wsX0_lapseBefore := by decide +kernel
theorem hX0_lapseBefore__fieldLink_RX0_25_MakeupGas_Stock_lapsedSum_I_ : Cond.fieldLink RX0 25 "MakeupGas$Stock" "lapsedSum" "I" ∈ wsX0_lapseBefore := by decide +kernel
theorem hX0_lapseBefore__fieldLink_RX0_9_MakeupGas_Stock_left_I_ : Cond.fieldLink RX0 9 "MakeupGas$Stock" "left" "[I" ∈ wsX0_lapseBefore := by decide +kernel
set_option maxHeartbeats 4000000 in
set_option maxRecDepth 100000 in
theorem c_X0_lapseBefore (l : Launch) (D : va_G) (sz : Nat) (q r : Nat) (cI cL : ClassId) (f : Nat → Int32) (kk : Nat) (z : Int32) (y : Nat) (hy : y < 20) (hk : kk < 20) : gCv l yX0_lapseBefore wsX0_lapseBefore ({ frames := 0, cells := 0, slots := 0, locals := 0 } : Room) D [(cI, .int), (cL, .long)] [.ref q, .int (nI y)] (wK q r cI f (nI kk) z) (wK q r cI (lpF f kk y) (nI kk) (lpZ f z kk y)) True 0 0 sz := by
  refine gm_v (cc := cX0_lapseBefore) (maxL := 3) (by decide) rfl (Nat.le_of_ble_eq_true rfl) ?_
  intro pg en s m args below meth cd A ls hx hb hr hml hown hts hlocks hin hA hK hP hD hl
  have hl : lv_has ls 3 [(0, .ref q), (1, .int (nI y))] := hl
  have hS : va_S A s.heap s.heap [] := va_S.rf
  refine lv_iload_n hx hb dX0_lapseBefore_0 rfl (lv_at hl 1 rfl) ?_
  refine lv_aload_n hx hb dX0_lapseBefore_1 rfl (lv_at hl 0 rfl) ?_
  refine va_get (D := D) (ci := 0) (C := RX0) (T := TX0) (N := 3) hx hb hts inX0_lapseBefore_X0 hown hK hP 0 rfl rfl 1 (by decide) (hts _ hX0_lapseBefore__fieldLink_RX0_15_MakeupGas_Stock_yearsKept_I_) (fun _ h9 => h9) rfl dX0_lapseBefore_2 ?_
  refine lv_isub hx hb dX0_lapseBefore_5 ?_
  refine lv_iconst (v := 1) hx hb dX0_lapseBefore_6 (by decide) ?_
  refine lv_isub hx hb dX0_lapseBefore_7 ?_
  rcases Nat.lt_or_ge y (kk + 1) with hlt | hge
  · refine lv_topi (fun x ex => ?_)
    refine lv_istore_n (lv' := [(2, .int x), (0, .ref q), (1, .int (nI y))]) hx hb dX0_lapseBefore_8 rfl hl (by decide) rfl (fun ls hl => ?_)
    refine lv_iload_n hx hb dX0_lapseBefore_9 rfl (lv_at hl 0 rfl) ?_
    refine lv_if_lt (tgt := 41) hx hb dX0_lapseBefore_10 (by decide) (fun c10 => ?_) (fun c10 => ?_)
    · have hP : va_P D vwCl (wK q r cI (lpF f kk y) (nI kk) (lpZ f z kk y)) s.heap := by rw [lpF, lpZ, if_neg (by omega), if_neg (by omega)]; exact hP
      have hD : va_D A (wK q r cI (lpF f kk y) (nI kk) (lpZ f z kk y)) := by rw [lpF, lpZ, if_neg (by omega), if_neg (by omega)]; exact hD
      exact ge_v hx hb hr hlocks hK hP hD hS trivial (Nat.le_of_ble_eq_true rfl) (Nat.le_of_ble_eq_true rfl) dX0_lapseBefore_41
    · exact absurd (by rw [ex]; exact lp_neg y hy kk hk hlt) c10
  · refine gj_i (lp_pos y hy kk hk hge) ?_
    have ho : y - kk - 1 < 20 := by omega
    refine lv_istore_n (lv' := [(2, .int (nI (y - kk - 1))), (0, .ref q), (1, .int (nI y))]) hx hb dX0_lapseBefore_8 rfl hl (by decide) rfl (fun ls hl => ?_)
    refine lv_iload_n hx hb dX0_lapseBefore_9 rfl (lv_at hl 0 rfl) ?_
    refine lv_if_lt (tgt := 41) hx hb dX0_lapseBefore_10 (by decide) (fun c10 => ?_) (fun c10 => ?_)
    · exact absurd c10 (nI_pos (by omega))
    · refine lv_iload_n hx hb dX0_lapseBefore_13 rfl (lv_at hl 0 rfl) ?_
      refine lv_bipush (v := 20) hx hb dX0_lapseBefore_14 (by decide) ?_
      refine lv_icmp_ge (tgt := 41) hx hb dX0_lapseBefore_16 (by decide) (fun c16 => ?_) (fun c16 => ?_)
      · exact absurd c16 (nI_ge ho (by decide))
      · refine lv_aload_n hx hb dX0_lapseBefore_19 rfl (lv_at hl 1 rfl) ?_
        refine lv_dup hx hb dX0_lapseBefore_20 rfl ?_
        refine va_get (D := D) (ci := 0) (C := RX0) (T := TX0) (N := 3) hx hb hts inX0_lapseBefore_X0 hown hK hP 0 rfl rfl 2 (by decide) (hts _ hX0_lapseBefore__fieldLink_RX0_25_MakeupGas_Stock_lapsedSum_I_) (fun _ h9 => h9) rfl dX0_lapseBefore_21 ?_
        refine lv_aload_n hx hb dX0_lapseBefore_24 rfl (lv_at hl 1 rfl) ?_
        refine va_get (D := D) (ci := 0) (C := RX0) (T := TX0) (N := 3) hx hb hts inX0_lapseBefore_X0 hown hK hP 0 rfl rfl 0 (by decide) (hts _ hX0_lapseBefore__fieldLink_RX0_9_MakeupGas_Stock_left_I_) (fun _ h9 => h9) rfl dX0_lapseBefore_25 ?_
        refine lv_iload_n hx hb dX0_lapseBefore_28 rfl (lv_at hl 0 rfl) ?_
        refine ga_iald (j := y - kk - 1) hx hb hK hP 1 0 rfl rfl ho (by decide) dX0_lapseBefore_29 ?_
        refine lv_iadd hx hb dX0_lapseBefore_30 ?_
        refine va_put (D := D) (ci := 0) (v := .int (z + (f (y - kk - 1)))) (ty := .int) (C := RX0) (T := TX0) (N := 3) hx hb hts inX0_lapseBefore_X0 tyX0 tyX0_ok nmX0 hown hK hP hD hS 0 rfl rfl 2 (by decide) (hts _ hX0_lapseBefore__fieldLink_RX0_25_MakeupGas_Stock_lapsedSum_I_) (fun _ h9 => h9) (by decide +kernel) (by decide +kernel) rfl rfl (Nat.le_of_ble_eq_true rfl) dX0_lapseBefore_31 (fun H locs hP hD hS => ?_)
        have hP : va_P D vwCl (wK q r cI f (nI kk) (z + (f (y - kk - 1)))) H := hP
        have hD : va_D A (wK q r cI f (nI kk) (z + (f (y - kk - 1)))) := hD
        refine lv_aload_n hx hb dX0_lapseBefore_34 rfl (lv_at hl 1 rfl) ?_
        refine va_get (D := D) (ci := 0) (C := RX0) (T := TX0) (N := 3) hx hb hts inX0_lapseBefore_X0 hown hK hP 0 rfl rfl 0 (by decide) (hts _ hX0_lapseBefore__fieldLink_RX0_9_MakeupGas_Stock_left_I_) (fun _ h9 => h9) rfl dX0_lapseBefore_35 ?_
        refine lv_iload_n hx hb dX0_lapseBefore_38 rfl (lv_at hl 0 rfl) ?_
        refine lv_iconst (v := 0) hx hb dX0_lapseBefore_39 (by decide) ?_
        refine ga_iast (j := y - kk - 1) (ws' := (wK q r cI (upd f (y - kk - 1) 0) (nI kk) (z + (f (y - kk - 1))))) hx hb hK hP hD hS 1 0 rfl rfl ho (by decide) dX0_lapseBefore_40 rfl (fun H locs hP hD hS => ?_)
        have hP : va_P D vwCl (wK q r cI (lpF f kk y) (nI kk) (lpZ f z kk y)) H := by rw [lpF, lpZ, if_pos hge, if_pos hge]; exact hP
        have hD : va_D A (wK q r cI (lpF f kk y) (nI kk) (lpZ f z kk y)) := by rw [lpF, lpZ, if_pos hge, if_pos hge]; exact hD
        exact ge_v hx hb hr hlocks hK hP hD hS trivial (Nat.le_of_ble_eq_true rfl) (Nat.le_of_ble_eq_true rfl) dX0_lapseBefore_41
end
section
/-! the class's own numbers -/
abbrev inR (v lo hi : Int32) : Prop := ¬ v < lo ∧ v ≤ hi
/-- the least quantity of the year y -/
def lqf (qy lp : Int32) (ex : Nat → Int32) (y : Nat) : Int32 := ((qy.toInt64 * lp.toInt64 * (360 - ex y).toInt64) / 36000).toInt32
/-- the shortfall price of the year y -/
def spf (pr : Nat → Int32) (sp : Int32) (y : Nat) : Int32 := pr y * sp / 100
/-- w drawn from the first n places of a row: what is left, what was drawn -/
def dw (f : Nat → Int32) (w : Int32) : Nat → (Nat → Int32) × Int32
  | 0 => (f, 0)
  | n + 1 => (upd (dw f w n).1 n ((dw f w n).1 n - mnI (w - (dw f w n).2) ((dw f w n).1 n)), (dw f w n).2 + mnI (w - (dw f w n).2) ((dw f w n).1 n))
theorem dw_0 (f : Nat → Int32) (w : Int32) : dw f w 0 = (f, 0) := rfl
theorem dw_1 (f : Nat → Int32) (w : Int32) (n : Nat) : (dw f w (n + 1)).1 = upd (dw f w n).1 n ((dw f w n).1 n - mnI (w - (dw f w n).2) ((dw f w n).1 n)) := rfl
theorem dw_2 (f : Nat → Int32) (w : Int32) (n : Nat) : (dw f w (n + 1)).2 = (dw f w n).2 + mnI (w - (dw f w n).2) ((dw f w n).1 n) := rfl
/-- what make-up gas adds to what is paid, out of the first n places -/
def dwa (f : Nat → Int32) (w : Int32) (pr : Nat → Int32) (sp : Int32) (y : Nat) : Nat → Int64
  | 0 => 0
  | n + 1 => dwa f w pr sp y n + (mnI (w - (dw f w n).2) ((dw f w n).1 n)).toInt64 * (mxI 0 (pr y - spf pr sp n)).toInt64
theorem dwa_1 (f : Nat → Int32) (w : Int32) (pr : Nat → Int32) (sp : Int32) (y n : Nat) : dwa f w pr sp y (n + 1) = dwa f w pr sp y n + (mnI (w - (dw f w n).2) ((dw f w n).1 n)).toInt64 * (mxI 0 (pr y - spf pr sp n)).toInt64 := rfl
/-- a year with a gap: the gap, what surplus covers, the shortfall, what is due -/
def gpG (qy lp : Int32) (ex tk : Nat → Int32) (y : Nat) : Int32 := lqf qy lp ex y - tk y
def gpC (qy lp : Int32) (ex tk su : Nat → Int32) (y : Nat) : Int32 := (dw su (gpG qy lp ex tk y) y).2
def gpM (qy lp : Int32) (ex tk su : Nat → Int32) (y : Nat) : Int32 := gpG qy lp ex tk y - gpC qy lp ex tk su y
def gpD (qy lp sp : Int32) (pr ex tk su : Nat → Int32) (y : Nat) : Int64 := (tk y).toInt64 * (pr y).toInt64 + (gpM qy lp ex tk su y).toInt64 * (spf pr sp y).toInt64
/-- a year with enough: above the least, make-up gas, the ordinary rest, surplus, what is due -/
def enA (qy lp : Int32) (ex tk : Nat → Int32) (y : Nat) : Int32 := tk y - lqf qy lp ex y
def enM (qy lp : Int32) (ex tk mk : Nat → Int32) (y : Nat) : Int32 := (dw mk (enA qy lp ex tk y) y).2
def enO (qy lp : Int32) (ex tk mk : Nat → Int32) (y : Nat) : Int32 := tk y - enM qy lp ex tk mk y
def enS (qy lp : Int32) (ex tk mk : Nat → Int32) (y : Nat) : Int32 := mxI 0 (enO qy lp ex tk mk y - qy)
def enD (qy lp sp : Int32) (pr ex tk mk : Nat → Int32) (y : Nat) : Int64 := (enO qy lp ex tk mk y).toInt64 * (pr y).toInt64 + dwa mk (enA qy lp ex tk y) pr sp y y
/-- what is found of the closed years: mk, mS, su, uS, sh, mu, co, sr, du -/
abbrev TR : Type := (Nat → Int32) × Int32 × (Nat → Int32) × Int32 × (Nat → Int32) × (Nat → Int32) × (Nat → Int32) × (Nat → Int32) × (Nat → Int64)
abbrev rMk (t : TR) : Nat → Int32 := t.1
abbrev rMS (t : TR) : Int32 := t.2.1
abbrev rSu (t : TR) : Nat → Int32 := t.2.2.1
abbrev rUS (t : TR) : Int32 := t.2.2.2.1
abbrev rSh (t : TR) : Nat → Int32 := t.2.2.2.2.1
abbrev rMu (t : TR) : Nat → Int32 := t.2.2.2.2.2.1
abbrev rCo (t : TR) : Nat → Int32 := t.2.2.2.2.2.2.1
abbrev rSr (t : TR) : Nat → Int32 := t.2.2.2.2.2.2.2.1
abbrev rDu (t : TR) : Nat → Int64 := t.2.2.2.2.2.2.2.2
def stG (qy lp sp : Int32) (pr ex tk : Nat → Int32) (y : Nat) (t : TR) : TR :=
  (upd (rMk t) y (gpM qy lp ex tk (rSu t) y), rMS t, (dw (rSu t) (gpG qy lp ex tk y) y).1, rUS t, upd (rSh t) y (gpM qy lp ex tk (rSu t) y), upd (rMu t) y 0, upd (rCo t) y (gpC qy lp ex tk (rSu t) y), upd (rSr t) y 0, vp_updL (rDu t) y (gpD qy lp sp pr ex tk (rSu t) y))
def stE (qy lp sp : Int32) (pr ex tk : Nat → Int32) (y : Nat) (t : TR) : TR :=
  ((dw (rMk t) (enA qy lp ex tk y) y).1, rMS t, upd (rSu t) y (enS qy lp ex tk (rMk t) y), rUS t, upd (rSh t) y 0, upd (rMu t) y (enM qy lp ex tk (rMk t) y), upd (rCo t) y 0, upd (rSr t) y (enS qy lp ex tk (rMk t) y), vp_updL (rDu t) y (enD qy lp sp pr ex tk (rMk t) y))
def stL (mK uK y : Nat) (t : TR) : TR := (lpF (rMk t) mK y, lpZ (rMk t) (rMS t) mK y, lpF (rSu t) uK y, lpZ (rSu t) (rUS t) uK y, rSh t, rMu t, rCo t, rSr t, rDu t)
def stp (qy lp sp : Int32) (pr ex tk : Nat → Int32) (mK uK y : Nat) (t : TR) : TR := if tk y < lqf qy lp ex y then stG qy lp sp pr ex tk y (stL mK uK y t) else stE qy lp sp pr ex tk y (stL mK uK y t)
def stC (qy lp sp : Int32) (pr ex tk : Nat → Int32) (mK uK : Nat) (t : TR) : Nat → TR
  | 0 => t
  | n + 1 => stp qy lp sp pr ex tk mK uK n (stC qy lp sp pr ex tk mK uK t n)
/-- the rows before the first year -/
abbrev st0 (sh mu co sr : Nat → Int32) (du : Nat → Int64) : TR := (fun _ => 0, 0, fun _ => 0, 0, sh, mu, co, sr, du)
def smL (f : Nat → Int64) : Nat → Int64
  | 0 => 0
  | n + 1 => smL f n + f n
def smI (f : Nat → Int32) (a : Nat) : Nat → Int32
  | 0 => 0
  | n + 1 => smI f a n + f (a + n)
/-- q more on the days from a on, below i -/
def adF (f : Nat → Int32) (a i : Nat) (q : Int32) : Nat → Int32 := fun j => if a ≤ j ∧ j < i then f j + q else f j
theorem adF_0 (f : Nat → Int32) (a : Nat) (q : Int32) : adF f a a q = f := by
  funext j; unfold adF; rw [if_neg (by omega)]
theorem adF_at (f : Nat → Int32) (a i : Nat) (q : Int32) : adF f a i q i = f i := by
  unfold adF; rw [if_neg (by omega)]
theorem adF_s (f : Nat → Int32) {a i : Nat} (q : Int32) (h : a ≤ i) : upd (adF f a i q) i (adF f a i q i + q) = adF f a (i + 1) q := by
  funext j
  rw [adF_at]
  unfold upd adF
  by_cases e : j = i
  · subst e; rw [if_pos rfl, if_pos (by omega)]
  · rw [if_neg e]
    by_cases h2 : a ≤ j ∧ j < i
    · rw [if_pos h2, if_pos (by omega)]
    · rw [if_neg h2, if_neg (by omega)]
/-- the price v from the year y on, below i -/
def rvF (f : Nat → Int32) (y i : Nat) (v : Int32) : Nat → Int32 := fun j => if y ≤ j ∧ j < i then v else f j
theorem rvF_0 (f : Nat → Int32) (y : Nat) (v : Int32) : rvF f y y v = f := by
  funext j; unfold rvF; rw [if_neg (by omega)]
theorem rvF_s (f : Nat → Int32) {y i : Nat} (v : Int32) (h : y ≤ i) : upd (rvF f y i v) i v = rvF f y (i + 1) v := by
  funext j
  unfold upd rvF
  by_cases e : j = i
  · subst e; rw [if_pos rfl, if_pos (by omega)]
  · rw [if_neg e]
    by_cases h2 : y ≤ j ∧ j < i
    · rw [if_pos h2, if_pos (by omega)]
    · rw [if_neg h2, if_neg (by omega)]
theorem inR_nat {y hi : Int32} {n : Nat} (hn : hi.toInt = n) (h : inR y 0 hi) : ∃ j : Nat, j ≤ n ∧ y = nI j := nI_of2 hn h.1 h.2
theorem inR_nI {j : Nat} {hi : Int32} {n : Nat} (hn : hi = nI n) (h : j ≤ n) (hs : n < 2 ^ 31) : inR (nI j) 0 hi := ⟨nI_pos (by omega), by rw [hn]; exact nI_le h hs⟩
end
section
theorem hwX1_requireRange_IAE : ∀ q ∈ (vx_atS RX1 132 IAE ["java/lang/RuntimeException", "java/lang/Exception"]).filter goodWord, q ∈ wsX1_requireRange := by decide +kernel
theorem hX1_requireRange__classLink_RX1_128_IAE : Cond.classLink RX1 128 IAE ∈ wsX1_requireRange := by decide +kernel
theorem hX1_requireRange__initialized_IAE : Cond.initialized IAE ∈ wsX1_requireRange := by decide +kernel
set_option maxHeartbeats 4000000 in
set_option maxRecDepth 100000 in
theorem c_X1_requireRange (l : Launch) (hst : l.stackTraces = false) (D : va_G) (sz : Nat) (cI cL : ClassId) (v lo hi : Int32)  : gTv l yX1_requireRange wsX1_requireRange ({ frames := 6, cells := 1, slots := 6, locals := 90 } : Room) D [(cI, .int), (cL, .long)] [.int v, .int lo, .int hi] [] [] (inR v lo hi) (fun E => E = IAE ∧ ¬ inR v lo hi) 1 6 sz := by
  refine gmx_v (cc := cX1_requireRange) (maxL := 3) (by decide) rfl (Nat.le_of_ble_eq_true rfl) ?_
  intro pg en s m args below meth cd A ls hx hb hr hml hown hts hlocks hin hA hK hP hD hT hnx hl
  have hl : lv_has ls 3 [(0, .int v), (1, .int lo), (2, .int hi)] := hl
  have hS : va_S A s.heap s.heap [] := va_S.rf
  refine lv_iload_n hx hb dX1_requireRange_0 rfl (lv_at hl 0 rfl) ?_
  refine lv_iload_n hx hb dX1_requireRange_1 rfl (lv_at hl 1 rfl) ?_
  refine lv_icmp_lt (tgt := 10) hx hb dX1_requireRange_2 (by decide) (fun c2 => ?_) (fun c2 => ?_)
  · exact gx_thr (cls := IAE) (text := "an argument is out of range") (ik := 128) (is := 130) (ic := 132) hx hb hst hown (by decide +kernel) (hts _ hX1_requireRange__classLink_RX1_128_IAE) (hts _ hX1_requireRange__initialized_IAE) (by decide) hT.2.2.1 (fun q hq => hts q (hwX1_requireRange_IAE q hq)) gt_a1 gt_g1 hT hK hP hD hS (hl.1.trans hml.symm) dX1_requireRange_10 dX1_requireRange_13 dX1_requireRange_14 dX1_requireRange_16 dX1_requireRange_19 hnx (Nat.le_of_ble_eq_true rfl) (Nat.le_of_ble_eq_true rfl) (Nat.le_of_ble_eq_true rfl) (Nat.le_of_ble_eq_true rfl) hlocks (⟨rfl, fun z => z.1 c2⟩) (Nat.le_of_ble_eq_true rfl) (Nat.le_of_ble_eq_true rfl)
  · refine lv_iload_n hx hb dX1_requireRange_5 rfl (lv_at hl 0 rfl) ?_
    refine lv_iload_n hx hb dX1_requireRange_6 rfl (lv_at hl 2 rfl) ?_
    refine lv_icmp_le (tgt := 20) hx hb dX1_requireRange_7 (by decide) (fun c7 => ?_) (fun c7 => ?_)
    · exact gex_v hx hb hr hlocks hK hP hD hS (⟨c2, c7⟩) (Nat.le_of_ble_eq_true rfl) (Nat.le_of_ble_eq_true rfl) dX1_requireRange_20
    · exact gx_thr (cls := IAE) (text := "an argument is out of range") (ik := 128) (is := 130) (ic := 132) hx hb hst hown (by decide +kernel) (hts _ hX1_requireRange__classLink_RX1_128_IAE) (hts _ hX1_requireRange__initialized_IAE) (by decide) hT.2.2.1 (fun q hq => hts q (hwX1_requireRange_IAE q hq)) gt_a1 gt_g1 hT hK hP hD hS (hl.1.trans hml.symm) dX1_requireRange_10 dX1_requireRange_13 dX1_requireRange_14 dX1_requireRange_16 dX1_requireRange_19 hnx (Nat.le_of_ble_eq_true rfl) (Nat.le_of_ble_eq_true rfl) (Nat.le_of_ble_eq_true rfl) (Nat.le_of_ble_eq_true rfl) hlocks (⟨rfl, fun z => c7 z.2⟩) (Nat.le_of_ble_eq_true rfl) (Nat.le_of_ble_eq_true rfl)
set_option maxHeartbeats 4000000 in
set_option maxRecDepth 100000 in
theorem c_X1_requireYear (l : Launch) (hst : l.stackTraces = false) (D : va_G) (sz : Nat) (cI cL : ClassId) (v : Int32)  : gTv l yX1_requireYear wsX1_requireYear ({ frames := 7, cells := 1, slots := 6, locals := 112 } : Room) D [(cI, .int), (cL, .long)] [.int v] [] [] (inR v 0 19) (fun E => E = IAE ∧ ¬ inR v 0 19) 1 6 sz := by
  refine gmx_v (cc := cX1_requireYear) (maxL := 1) (by decide) rfl (Nat.le_of_ble_eq_true rfl) ?_
  intro pg en s m args below meth cd A ls hx hb hr hml hown hts hlocks hin hA hK hP hD hT hnx hl
  have hl : lv_has ls 1 [(0, .int v)] := hl
  have hS : va_S A s.heap s.heap [] := va_S.rf
  refine lv_iload_n hx hb dX1_requireYear_0 rfl (lv_at hl 0 rfl) ?_
  refine lv_iconst (v := 0) hx hb dX1_requireYear_1 (by decide) ?_
  refine lv_bipush (v := 19) hx hb dX1_requireYear_2 (by decide) ?_
  refine gxS_v (wc := []) (wr := []) (w1 := []) (W' := []) (As := [.int v, .int 0, .int 19]) (rest := []) ⟨hx, hb, hml, hown, hts⟩ (c_X1_requireRange l hst D s.heap.size cI cL v 0 19) (va_cwS 3 hts gX1_requireYear_X1_requireRange rfl rfl rfl (by decide +kernel) ⟨(Nat.le_of_ble_eq_true rfl), (Nat.le_of_ble_eq_true rfl)⟩) hT hS hA hK hP hD [0, 1] rfl [] [] [] rfl (by decide) rfl (by decide) (by decide) rfl (by decide) rfl hl.1 rfl (Nat.le_of_ble_eq_true rfl) dX1_requireYear_4 ⟨(Nat.le_of_ble_eq_true rfl), (Nat.le_of_ble_eq_true rfl)⟩ hnx hlocks (fun _ h => h) (Nat.le_of_ble_eq_true rfl) (Nat.le_of_ble_eq_true rfl) [] rfl (by decide) (fun H locs hok hP hD hS => ?_)
  exact gex_v hx hb hr hlocks hK hP hD hS hok (Nat.le_of_ble_eq_true rfl) (Nat.le_of_ble_eq_true rfl) dX1_requireYear_7
set_option maxHeartbeats 4000000 in
set_option maxRecDepth 100000 in
theorem c_X1_requireDay (l : Launch) (hst : l.stackTraces = false) (D : va_G) (sz : Nat) (cI cL : ClassId) (v : Int32)  : gTv l yX1_requireDay wsX1_requireDay ({ frames := 7, cells := 1, slots := 6, locals := 112 } : Room) D [(cI, .int), (cL, .long)] [.int v] [] [] (inR v 0 359) (fun E => E = IAE ∧ ¬ inR v 0 359) 1 6 sz := by
  refine gmx_v (cc := cX1_requireDay) (maxL := 1) (by decide) rfl (Nat.le_of_ble_eq_true rfl) ?_
  intro pg en s m args below meth cd A ls hx hb hr hml hown hts hlocks hin hA hK hP hD hT hnx hl
  have hl : lv_has ls 1 [(0, .int v)] := hl
  have hS : va_S A s.heap s.heap [] := va_S.rf
  refine lv_iload_n hx hb dX1_requireDay_0 rfl (lv_at hl 0 rfl) ?_
  refine lv_iconst (v := 0) hx hb dX1_requireDay_1 (by decide) ?_
  refine lv_sipush (v := 359) hx hb dX1_requireDay_2 (by decide) ?_
  refine gxS_v (wc := []) (wr := []) (w1 := []) (W' := []) (As := [.int v, .int 0, .int 359]) (rest := []) ⟨hx, hb, hml, hown, hts⟩ (c_X1_requireRange l hst D s.heap.size cI cL v 0 359) (va_cwS 3 hts gX1_requireDay_X1_requireRange rfl rfl rfl (by decide +kernel) ⟨(Nat.le_of_ble_eq_true rfl), (Nat.le_of_ble_eq_true rfl)⟩) hT hS hA hK hP hD [0, 1] rfl [] [] [] rfl (by decide) rfl (by decide) (by decide) rfl (by decide) rfl hl.1 rfl (Nat.le_of_ble_eq_true rfl) dX1_requireDay_5 ⟨(Nat.le_of_ble_eq_true rfl), (Nat.le_of_ble_eq_true rfl)⟩ hnx hlocks (fun _ h => h) (Nat.le_of_ble_eq_true rfl) (Nat.le_of_ble_eq_true rfl) [] rfl (by decide) (fun H locs hok hP hD hS => ?_)
  exact gex_v hx hb hr hlocks hK hP hD hS hok (Nat.le_of_ble_eq_true rfl) (Nat.le_of_ble_eq_true rfl) dX1_requireDay_8
set_option maxHeartbeats 4000000 in
set_option maxRecDepth 100000 in
theorem c_X1_requireDays (l : Launch) (hst : l.stackTraces = false) (D : va_G) (sz : Nat) (cI cL : ClassId) (v w : Int32)  : gTv l yX1_requireDays wsX1_requireDays ({ frames := 8, cells := 2, slots := 12, locals := 132 } : Room) D [(cI, .int), (cL, .long)] [.int v, .int w] [] [] (inR v 0 359 ∧ inR w v 359) (fun E => E = IAE ∧ ¬ (inR v 0 359 ∧ inR w v 359)) 2 12 sz := by
  refine gmx_v (cc := cX1_requireDays) (maxL := 2) (by decide) rfl (Nat.le_of_ble_eq_true rfl) ?_
  intro pg en s m args below meth cd A ls hx hb hr hml hown hts hlocks hin hA hK hP hD hT hnx hl
  have hl : lv_has ls 2 [(0, .int v), (1, .int w)] := hl
  have hS : va_S A s.heap s.heap [] := va_S.rf
  refine lv_iload_n hx hb dX1_requireDays_0 rfl (lv_at hl 0 rfl) ?_
  refine gxS_v (wc := []) (wr := []) (w1 := []) (W' := []) (As := [.int v]) (rest := []) ⟨hx, hb, hml, hown, hts⟩ (c_X1_requireDay l hst D s.heap.size cI cL v) (va_cwS 1 hts gX1_requireDays_X1_requireDay rfl rfl rfl (by decide +kernel) ⟨(Nat.le_of_ble_eq_true rfl), (Nat.le_of_ble_eq_true rfl)⟩) hT hS hA hK hP hD [0, 1] rfl [] [] [] rfl (by decide) rfl (by decide) (by decide) rfl (by decide) rfl hl.1 rfl (Nat.le_of_ble_eq_true rfl) dX1_requireDays_1 ⟨(Nat.le_of_ble_eq_true rfl), (Nat.le_of_ble_eq_true rfl)⟩ hnx hlocks (fun _ h => ⟨h.1, fun z => h.2 z.1⟩) (Nat.le_of_ble_eq_true rfl) (Nat.le_of_ble_eq_true rfl) [] rfl (by decide) (fun H locs h1 hP hD hS => ?_)
  refine lv_iload_n hx hb dX1_requireDays_4 rfl (lv_at hl 1 rfl) ?_
  refine lv_iload_n hx hb dX1_requireDays_5 rfl (lv_at hl 0 rfl) ?_
  refine lv_sipush (v := 359) hx hb dX1_requireDays_6 (by decide) ?_
  refine gxS_v (wc := []) (wr := []) (w1 := []) (W' := []) (As := [.int w, .int v, .int 359]) (rest := []) ⟨hx, hb, hml, hown, hts⟩ (c_X1_requireRange l hst D H.size cI cL w v 359) (va_cwS 3 hts gX1_requireDays_X1_requireRange rfl rfl rfl (by decide +kernel) ⟨(Nat.le_of_ble_eq_true rfl), (Nat.le_of_ble_eq_true rfl)⟩) hT hS hA hK hP hD [0, 1] rfl [] [] [] rfl (by decide) rfl (by decide) (by decide) rfl (by decide) rfl hl.1 rfl (Nat.le_of_ble_eq_true rfl) dX1_requireDays_9 ⟨(Nat.le_of_ble_eq_true rfl), (Nat.le_of_ble_eq_true rfl)⟩ hnx hlocks (fun _ h => ⟨h.1, fun z => h.2 z.2⟩) (Nat.le_of_ble_eq_true rfl) (Nat.le_of_ble_eq_true rfl) [] rfl (by decide) (fun H locs h2 hP hD hS => ?_)
  exact gex_v hx hb hr hlocks hK hP hD hS (⟨h1, h2⟩) (Nat.le_of_ble_eq_true rfl) (Nat.le_of_ble_eq_true rfl) dX1_requireDays_12
theorem inX1_requireClosedYear_X1 : ∀ q ∈ wsX10, q ∈ wsX1_requireClosedYear := by decide +kernel
theorem hX1_requireClosedYear__fieldLink_RX1_103_MakeupGas_closedYears_I_ : Cond.fieldLink RX1 103 "MakeupGas" "closedYears" "I" ∈ wsX1_requireClosedYear := by decide +kernel
theorem hwX1_requireClosedYear_ISE : ∀ q ∈ (vx_atS RX1 139 ISE ["java/lang/RuntimeException", "java/lang/Exception"]).filter goodWord, q ∈ wsX1_requireClosedYear := by decide +kernel
theorem hX1_requireClosedYear__classLink_RX1_135_ISE : Cond.classLink RX1 135 ISE ∈ wsX1_requireClosedYear := by decide +kernel
theorem hX1_requireClosedYear__initialized_ISE : Cond.initialized ISE ∈ wsX1_requireClosedYear := by decide +kernel
set_option maxHeartbeats 4000000 in
set_option maxRecDepth 100000 in
theorem c_X1_requireClosedYear (l : Launch) (hst : l.stackTraces = false) (D : va_G) (sz : Nat) (ad : Nat → Nat) (cI cL : ClassId) (qy lp sp : Int32) (pr ex : Nat → Int32) (c : Nat) (dy tk mk : Nat → Int32) (mK : Nat) (mS : Int32) (su : Nat → Int32) (uK : Nat) (uS : Int32) (sh mu co sr : Nat → Int32) (du bi : Nat → Int64) (bb : Int64) (v : Int32)  : gTv l yX1_requireClosedYear wsX1_requireClosedYear ({ frames := 8, cells := 2, slots := 12, locals := 132 } : Room) D [(cI, .int), (cL, .long)] [.ref (ad 0), .int v] (wG ad cI cL qy lp sp pr ex (nI c) dy tk mk (nI mK) mS su (nI uK) uS sh mu co sr du bi bb) (wG ad cI cL qy lp sp pr ex (nI c) dy tk mk (nI mK) mS su (nI uK) uS sh mu co sr du bi bb) (inR v 0 19 ∧ v < nI c) (fun E => (E = IAE ∧ ¬ inR v 0 19) ∨ (E = ISE ∧ inR v 0 19 ∧ ¬ v < nI c)) 2 12 sz := by
  refine gmx_v (cc := cX1_requireClosedYear) (maxL := 2) (by decide) rfl (Nat.le_of_ble_eq_true rfl) ?_
  intro pg en s m args below meth cd A ls hx hb hr hml hown hts hlocks hin hA hK hP hD hT hnx hl
  have hl : lv_has ls 2 [(0, .ref (ad 0)), (1, .int v)] := hl
  have hS : va_S A s.heap s.heap [] := va_S.rf
  refine lv_iload_n hx hb dX1_requireClosedYear_0 rfl (lv_at hl 1 rfl) ?_
  refine gxS_v (wc := []) (wr := [(ad 0, .inr (1, [.int qy, .int lp, .int sp, .ref (ad 1), .ref (ad 2), .int (nI c), .ref (ad 3), .ref (ad 4), .ref (ad 5), .ref (ad 6), .ref (ad 7), .ref (ad 8), .ref (ad 9), .ref (ad 10), .ref (ad 11), .ref (ad 12), .long bb])), (ad 1, .inl (cI, 20, .inl pr)), (ad 2, .inl (cI, 20, .inl ex)), (ad 3, .inl (cI, 360, .inl dy)), (ad 4, .inl (cI, 20, .inl tk)), (ad 5, .inr (0, [.ref (ad 13), .int (nI mK), .int mS])), (ad 6, .inr (0, [.ref (ad 14), .int (nI uK), .int uS])), (ad 7, .inl (cI, 20, .inl sh)), (ad 8, .inl (cI, 20, .inl mu)), (ad 9, .inl (cI, 20, .inl co)), (ad 10, .inl (cI, 20, .inl sr)), (ad 11, .inl (cL, 20, .inr (.inl du))), (ad 12, .inl (cL, 20, .inr (.inl bi))), (ad 13, .inl (cI, 20, .inl mk)), (ad 14, .inl (cI, 20, .inl su))]) (w1 := []) (W' := (wG ad cI cL qy lp sp pr ex (nI c) dy tk mk (nI mK) mS su (nI uK) uS sh mu co sr du bi bb)) (As := [.int v]) (rest := []) ⟨hx, hb, hml, hown, hts⟩ (c_X1_requireYear l hst D s.heap.size cI cL v) (va_cwS 1 hts gX1_requireClosedYear_X1_requireYear rfl rfl rfl (by decide +kernel) ⟨(Nat.le_of_ble_eq_true rfl), (Nat.le_of_ble_eq_true rfl)⟩) hT hS hA hK hP hD [0, 1] rfl [] [0, 1, 2, 3, 4, 5, 6, 7, 8, 9, 10, 11, 12, 13, 14] [0, 1, 2, 3, 4, 5, 6, 7, 8, 9, 10, 11, 12, 13, 14] rfl (by decide) rfl (by decide) (by decide) rfl (by decide) rfl hl.1 rfl (Nat.le_of_ble_eq_true rfl) dX1_requireClosedYear_1 ⟨(Nat.le_of_ble_eq_true rfl), (Nat.le_of_ble_eq_true rfl)⟩ hnx hlocks (fun _ h => Or.inl h) (Nat.le_of_ble_eq_true rfl) (Nat.le_of_ble_eq_true rfl) [0, 1, 2, 3, 4, 5, 6, 7, 8, 9, 10, 11, 12, 13, 14] rfl (by decide) (fun H locs h1 hP hD hS => ?_)
  refine lv_iload_n hx hb dX1_requireClosedYear_4 rfl (lv_at hl 1 rfl) ?_
  refine lv_aload_n hx hb dX1_requireClosedYear_5 rfl (lv_at hl 0 rfl) ?_
  refine va_get (D := D) (ci := 1) (C := RX1) (T := TX1) (N := 17) hx hb hts inX1_requireClosedYear_X1 hown hK hP 0 rfl rfl 5 (by decide) (hts _ hX1_requireClosedYear__fieldLink_RX1_103_MakeupGas_closedYears_I_) (fun _ h9 => h9) rfl dX1_requireClosedYear_6 ?_
  refine lv_icmp_lt (tgt := 22) hx hb dX1_requireClosedYear_9 (by decide) (fun c9 => ?_) (fun c9 => ?_)
  · exact gex_v hx hb hr hlocks hK hP hD hS (⟨h1, c9⟩) (Nat.le_of_ble_eq_true rfl) (Nat.le_of_ble_eq_true rfl) dX1_requireClosedYear_22
  · exact gx_thr (cls := ISE) (text := "the year is not closed") (ik := 135) (is := 137) (ic := 139) hx hb hst hown (by decide +kernel) (hts _ hX1_requireClosedYear__classLink_RX1_135_ISE) (hts _ hX1_requireClosedYear__initialized_ISE) (by decide) hT.2.2.2.1 (fun q hq => hts q (hwX1_requireClosedYear_ISE q hq)) gt_a2 gt_g2 hT hK hP hD hS (hl.1.trans hml.symm) dX1_requireClosedYear_12 dX1_requireClosedYear_15 dX1_requireClosedYear_16 dX1_requireClosedYear_18 dX1_requireClosedYear_21 hnx (Nat.le_of_ble_eq_true rfl) (Nat.le_of_ble_eq_true rfl) (Nat.le_of_ble_eq_true rfl) (Nat.le_of_ble_eq_true rfl) hlocks (Or.inr ⟨rfl, h1, c9⟩) (Nat.le_of_ble_eq_true rfl) (Nat.le_of_ble_eq_true rfl)
theorem inX1_requireYearGoingOn_X1 : ∀ q ∈ wsX10, q ∈ wsX1_requireYearGoingOn := by decide +kernel
theorem hX1_requireYearGoingOn__fieldLink_RX1_103_MakeupGas_closedYears_I_ : Cond.fieldLink RX1 103 "MakeupGas" "closedYears" "I" ∈ wsX1_requireYearGoingOn := by decide +kernel
theorem hwX1_requireYearGoingOn_ISE : ∀ q ∈ (vx_atS RX1 139 ISE ["java/lang/RuntimeException", "java/lang/Exception"]).filter goodWord, q ∈ wsX1_requireYearGoingOn := by decide +kernel
theorem hX1_requireYearGoingOn__classLink_RX1_135_ISE : Cond.classLink RX1 135 ISE ∈ wsX1_requireYearGoingOn := by decide +kernel
theorem hX1_requireYearGoingOn__initialized_ISE : Cond.initialized ISE ∈ wsX1_requireYearGoingOn := by decide +kernel
set_option maxHeartbeats 4000000 in
set_option maxRecDepth 100000 in
theorem c_X1_requireYearGoingOn (l : Launch) (hst : l.stackTraces = false) (D : va_G) (sz : Nat) (ad : Nat → Nat) (cI cL : ClassId) (qy lp sp : Int32) (pr ex : Nat → Int32) (c : Nat) (dy tk mk : Nat → Int32) (mK : Nat) (mS : Int32) (su : Nat → Int32) (uK : Nat) (uS : Int32) (sh mu co sr : Nat → Int32) (du bi : Nat → Int64) (bb : Int64)  : gTv l yX1_requireYearGoingOn wsX1_requireYearGoingOn ({ frames := 6, cells := 1, slots := 6, locals := 90 } : Room) D [(cI, .int), (cL, .long)] [.ref (ad 0)] (wG ad cI cL qy lp sp pr ex (nI c) dy tk mk (nI mK) mS su (nI uK) uS sh mu co sr du bi bb) (wG ad cI cL qy lp sp pr ex (nI c) dy tk mk (nI mK) mS su (nI uK) uS sh mu co sr du bi bb) (nI c < 20) (fun E => E = ISE ∧ ¬ nI c < 20) 1 6 sz := by
  refine gmx_v (cc := cX1_requireYearGoingOn) (maxL := 1) (by decide) rfl (Nat.le_of_ble_eq_true rfl) ?_
  intro pg en s m args below meth cd A ls hx hb hr hml hown hts hlocks hin hA hK hP hD hT hnx hl
  have hl : lv_has ls 1 [(0, .ref (ad 0))] := hl
  have hS : va_S A s.heap s.heap [] := va_S.rf
  refine lv_aload_n hx hb dX1_requireYearGoingOn_0 rfl (lv_at hl 0 rfl) ?_
  refine va_get (D := D) (ci := 1) (C := RX1) (T := TX1) (N := 17) hx hb hts inX1_requireYearGoingOn_X1 hown hK hP 0 rfl rfl 5 (by decide) (hts _ hX1_requireYearGoingOn__fieldLink_RX1_103_MakeupGas_closedYears_I_) (fun _ h9 => h9) rfl dX1_requireYearGoingOn_1 ?_
  refine lv_bipush (v := 20) hx hb dX1_requireYearGoingOn_4 (by decide) ?_
  refine lv_icmp_lt (tgt := 19) hx hb dX1_requireYearGoingOn_6 (by decide) (fun c1 => ?_) (fun c1 => ?_)
  · exact gex_v hx hb hr hlocks hK hP hD hS c1 (Nat.le_of_ble_eq_true rfl) (Nat.le_of_ble_eq_true rfl) dX1_requireYearGoingOn_19
  · exact gx_thr (cls := ISE) (text := "all years are closed") (ik := 135) (is := 140) (ic := 139) hx hb hst hown (by decide +kernel) (hts _ hX1_requireYearGoingOn__classLink_RX1_135_ISE) (hts _ hX1_requireYearGoingOn__initialized_ISE) (by decide) hT.2.2.2.1 (fun q hq => hts q (hwX1_requireYearGoingOn_ISE q hq)) gt_a2 gt_g2 hT hK hP hD hS (hl.1.trans hml.symm) dX1_requireYearGoingOn_9 dX1_requireYearGoingOn_12 dX1_requireYearGoingOn_13 dX1_requireYearGoingOn_15 dX1_requireYearGoingOn_18 hnx (Nat.le_of_ble_eq_true rfl) (Nat.le_of_ble_eq_true rfl) (Nat.le_of_ble_eq_true rfl) (Nat.le_of_ble_eq_true rfl) hlocks (⟨rfl, c1⟩) (Nat.le_of_ble_eq_true rfl) (Nat.le_of_ble_eq_true rfl)
theorem inX1_requireUnused_X1 : ∀ q ∈ wsX10, q ∈ wsX1_requireUnused := by decide +kernel
theorem hX1_requireUnused__fieldLink_RX1_103_MakeupGas_closedYears_I_ : Cond.fieldLink RX1 103 "MakeupGas" "closedYears" "I" ∈ wsX1_requireUnused := by decide +kernel
theorem hwX1_requireUnused_ISE : ∀ q ∈ (vx_atS RX1 139 ISE ["java/lang/RuntimeException", "java/lang/Exception"]).filter goodWord, q ∈ wsX1_requireUnused := by decide +kernel
theorem hX1_requireUnused__classLink_RX1_135_ISE : Cond.classLink RX1 135 ISE ∈ wsX1_requireUnused := by decide +kernel
theorem hX1_requireUnused__initialized_ISE : Cond.initialized ISE ∈ wsX1_requireUnused := by decide +kernel
theorem hX1_requireUnused__fieldLink_RX1_36_MakeupGas_takenPerYear_I_ : Cond.fieldLink RX1 36 "MakeupGas" "takenPerYear" "[I" ∈ wsX1_requireUnused := by decide +kernel
set_option maxHeartbeats 4000000 in
set_option maxRecDepth 100000 in
theorem c_X1_requireUnused (l : Launch) (hst : l.stackTraces = false) (D : va_G) (sz : Nat) (ad : Nat → Nat) (cI cL : ClassId) (qy lp sp : Int32) (pr ex : Nat → Int32) (c : Nat) (dy tk mk : Nat → Int32) (mK : Nat) (mS : Int32) (su : Nat → Int32) (uK : Nat) (uS : Int32) (sh mu co sr : Nat → Int32) (du bi : Nat → Int64) (bb : Int64)  : gTv l yX1_requireUnused wsX1_requireUnused ({ frames := 6, cells := 1, slots := 6, locals := 90 } : Room) D [(cI, .int), (cL, .long)] [.ref (ad 0)] (wG ad cI cL qy lp sp pr ex (nI c) dy tk mk (nI mK) mS su (nI uK) uS sh mu co sr du bi bb) (wG ad cI cL qy lp sp pr ex (nI c) dy tk mk (nI mK) mS su (nI uK) uS sh mu co sr du bi bb) (¬ 0 < nI c ∧ tk 0 ≤ 0) (fun E => E = ISE ∧ ¬ (¬ 0 < nI c ∧ tk 0 ≤ 0)) 1 6 sz := by
  refine gmx_v (cc := cX1_requireUnused) (maxL := 1) (by decide) rfl (Nat.le_of_ble_eq_true rfl) ?_
  intro pg en s m args below meth cd A ls hx hb hr hml hown hts hlocks hin hA hK hP hD hT hnx hl
  have hl : lv_has ls 1 [(0, .ref (ad 0))] := hl
  have hS : va_S A s.heap s.heap [] := va_S.rf
  refine lv_aload_n hx hb dX1_requireUnused_0 rfl (lv_at hl 0 rfl) ?_
  refine va_get (D := D) (ci := 1) (C := RX1) (T := TX1) (N := 17) hx hb hts inX1_requireUnused_X1 hown hK hP 0 rfl rfl 5 (by decide) (hts _ hX1_requireUnused__fieldLink_RX1_103_MakeupGas_closedYears_I_) (fun _ h9 => h9) rfl dX1_requireUnused_1 ?_
  refine lv_if_gt (tgt := 16) hx hb dX1_requireUnused_4 (by decide) (fun c1 => ?_) (fun c1 => ?_)
  · exact gx_thr (cls := ISE) (text := "something was taken, or a year is closed") (ik := 135) (is := 142) (ic := 139) hx hb hst hown (by decide +kernel) (hts _ hX1_requireUnused__classLink_RX1_135_ISE) (hts _ hX1_requireUnused__initialized_ISE) (by decide) hT.2.2.2.1 (fun q hq => hts q (hwX1_requireUnused_ISE q hq)) gt_a2 gt_g2 hT hK hP hD hS (hl.1.trans hml.symm) dX1_requireUnused_16 dX1_requireUnused_19 dX1_requireUnused_20 dX1_requireUnused_22 dX1_requireUnused_25 hnx (Nat.le_of_ble_eq_true rfl) (Nat.le_of_ble_eq_true rfl) (Nat.le_of_ble_eq_true rfl) (Nat.le_of_ble_eq_true rfl) hlocks (⟨rfl, fun z => z.1 c1⟩) (Nat.le_of_ble_eq_true rfl) (Nat.le_of_ble_eq_true rfl)
  · refine lv_aload_n hx hb dX1_requireUnused_7 rfl (lv_at hl 0 rfl) ?_
    refine va_get (D := D) (ci := 1) (C := RX1) (T := TX1) (N := 17) hx hb hts inX1_requireUnused_X1 hown hK hP 0 rfl rfl 7 (by decide) (hts _ hX1_requireUnused__fieldLink_RX1_36_MakeupGas_takenPerYear_I_) (fun _ h9 => h9) rfl dX1_requireUnused_8 ?_
    refine lv_iconst (v := 0) hx hb dX1_requireUnused_11 (by decide) ?_
    refine ga_iald (j := 0) hx hb hK hP 4 0 rfl rfl (by decide) (by decide) dX1_requireUnused_12 ?_
    refine lv_if_le (tgt := 26) hx hb dX1_requireUnused_13 (by decide) (fun c2 => ?_) (fun c2 => ?_)
    · exact gex_v hx hb hr hlocks hK hP hD hS (⟨c1, c2⟩) (Nat.le_of_ble_eq_true rfl) (Nat.le_of_ble_eq_true rfl) dX1_requireUnused_26
    · exact gx_thr (cls := ISE) (text := "something was taken, or a year is closed") (ik := 135) (is := 142) (ic := 139) hx hb hst hown (by decide +kernel) (hts _ hX1_requireUnused__classLink_RX1_135_ISE) (hts _ hX1_requireUnused__initialized_ISE) (by decide) hT.2.2.2.1 (fun q hq => hts q (hwX1_requireUnused_ISE q hq)) gt_a2 gt_g2 hT hK hP hD hS (hl.1.trans hml.symm) dX1_requireUnused_16 dX1_requireUnused_19 dX1_requireUnused_20 dX1_requireUnused_22 dX1_requireUnused_25 hnx (Nat.le_of_ble_eq_true rfl) (Nat.le_of_ble_eq_true rfl) (Nat.le_of_ble_eq_true rfl) (Nat.le_of_ble_eq_true rfl) hlocks (⟨rfl, fun z => c2 z.2⟩) (Nat.le_of_ble_eq_true rfl) (Nat.le_of_ble_eq_true rfl)
theorem inX1_requireRoom_X1 : ∀ q ∈ wsX10, q ∈ wsX1_requireRoom := by decide +kernel
theorem hX1_requireRoom__fieldLink_RX1_33_MakeupGas_takenPerDay_I_ : Cond.fieldLink RX1 33 "MakeupGas" "takenPerDay" "[I" ∈ wsX1_requireRoom := by decide +kernel
theorem hwX1_requireRoom_ISE : ∀ q ∈ (vx_atS RX1 139 ISE ["java/lang/RuntimeException", "java/lang/Exception"]).filter goodWord, q ∈ wsX1_requireRoom := by decide +kernel
theorem hX1_requireRoom__classLink_RX1_135_ISE : Cond.classLink RX1 135 ISE ∈ wsX1_requireRoom := by decide +kernel
theorem hX1_requireRoom__initialized_ISE : Cond.initialized ISE ∈ wsX1_requireRoom := by decide +kernel
set_option maxHeartbeats 4000000 in
set_option maxRecDepth 100000 in
theorem c_X1_requireRoom (l : Launch) (hst : l.stackTraces = false) (D : va_G) (sz : Nat) (ad : Nat → Nat) (cI cL : ClassId) (qy lp sp : Int32) (pr ex : Nat → Int32) (c : Nat) (dy tk mk : Nat → Int32) (mK : Nat) (mS : Int32) (su : Nat → Int32) (uK : Nat) (uS : Int32) (sh mu co sr : Nat → Int32) (du bi : Nat → Int64) (bb : Int64) (a b : Nat) (q : Int32) (hab : a ≤ b) (hb3 : b < 360) : gTv l yX1_requireRoom wsX1_requireRoom ({ frames := 6, cells := 1, slots := 6, locals := 90 } : Room) D [(cI, .int), (cL, .long)] [.ref (ad 0), .int (nI a), .int (nI b), .int q] (wG ad cI cL qy lp sp pr ex (nI c) dy tk mk (nI mK) mS su (nI uK) uS sh mu co sr du bi bb) (wG ad cI cL qy lp sp pr ex (nI c) dy tk mk (nI mK) mS su (nI uK) uS sh mu co sr du bi bb) (∀ d, a ≤ d → d ≤ b → dy d + q ≤ 500) (fun E => E = ISE ∧ ¬ ∀ d, a ≤ d → d ≤ b → dy d + q ≤ 500) 1 6 sz := by
  refine gmx_v (cc := cX1_requireRoom) (maxL := 5) (by decide) rfl (Nat.le_of_ble_eq_true rfl) ?_
  intro pg en s m args below meth cd A ls hx hb hr hml hown hts hlocks hin hA hK hP hD hT hnx hl
  have hl : lv_has ls 5 [(0, .ref (ad 0)), (1, .int (nI a)), (2, .int (nI b)), (3, .int q)] := hl
  have hS : va_S A s.heap s.heap [] := va_S.rf
  refine lv_iload_n hx hb dX1_requireRoom_0 rfl (lv_at hl 1 rfl) ?_
  refine lv_istore (lv' := [(4, .int (nI a)), (0, .ref (ad 0)), (1, .int (nI a)), (2, .int (nI b)), (3, .int q)]) hx hb dX1_requireRoom_1 hl (by decide) rfl (fun ls hl => ?_)
  have lp_3 : ∀ (n i : Nat), i ≤ (b + 1) → (b + 1) < i + n → a ≤ i → (∀ d, a ≤ d → d < i → dy d + q ≤ 500) → ∀ (H : Heap) (locs : List Loc), va_P D vwCl (wG ad cI cL qy lp sp pr ex (nI c) dy tk mk (nI mK) mS su (nI uK) uS sh mu co sr du bi bb) H → va_D A (wG ad cI cL qy lp sp pr ex (nI c) dy tk mk (nI mK) mS su (nI uK) uS sh mu co sr du bi bb) → va_S A s.heap H locs → ∀ (ls : Array Slot), lv_has ls 5 [(0, .ref (ad 0)), (1, .int (nI a)), (2, .int (nI b)), (3, .int q), (4, .int (nI i))] → W pg l en ({ frames := 6, cells := 1, slots := 6, locals := 90 } : Room) s m args below meth cd H locs 0 0 (gFv (∀ d, a ≤ d → d ≤ b → dy d + q ≤ 500) (fun E => E = ISE ∧ ¬ ∀ d, a ≤ d → d ≤ b → dy d + q ≤ 500) below D [(cI, .int), (cL, .long)] (wG ad cI cL qy lp sp pr ex (nI c) dy tk mk (nI mK) mS su (nI uK) uS sh mu co sr du bi bb) (wG ad cI cL qy lp sp pr ex (nI c) dy tk mk (nI mK) mS su (nI uK) uS sh mu co sr du bi bb) A args s 1 6) (F0 m 3 ls []) := by
    intro n
    induction n with
    | zero => intro i h1 h2; exact absurd h2 (by omega)
    | succ n ih =>
      intro i hi hin2 hai hall H locs hP hD hS ls hl
      refine lv_iload hx hb dX1_requireRoom_3 (lv_at hl 4 rfl) ?_
      refine lv_iload_n hx hb dX1_requireRoom_5 rfl (lv_at hl 2 rfl) ?_
      refine lv_icmp_gt (tgt := 40) hx hb dX1_requireRoom_6 (by decide) (fun c6 => ?_) (fun c6 => ?_)
      · have hbi : ¬ i ≤ b := fun h => absurd c6 (Int32.not_lt.mpr (nI_le h (by omega)))
        exact gex_v hx hb hr hlocks hK hP hD hS (fun d h1 h2 => hall d h1 (by omega)) (Nat.le_of_ble_eq_true rfl) (Nat.le_of_ble_eq_true rfl) dX1_requireRoom_40
      · have hib : i ≤ b := Nat.not_lt.mp (fun h => c6 (nI_lt h (by omega)))
        have hi3 : i < 360 := by omega
        refine lv_aload_n hx hb dX1_requireRoom_9 rfl (lv_at hl 0 rfl) ?_
        refine va_get (D := D) (ci := 1) (C := RX1) (T := TX1) (N := 17) hx hb hts inX1_requireRoom_X1 hown hK hP 0 rfl rfl 6 (by decide) (hts _ hX1_requireRoom__fieldLink_RX1_33_MakeupGas_takenPerDay_I_) (fun _ h9 => h9) rfl dX1_requireRoom_10 ?_
        refine lv_iload hx hb dX1_requireRoom_13 (lv_at hl 4 rfl) ?_
        refine ga_iald (j := i) hx hb hK hP 3 0 rfl rfl hi3 (by decide) dX1_requireRoom_15 ?_
        refine lv_iload_n hx hb dX1_requireRoom_16 rfl (lv_at hl 3 rfl) ?_
        refine lv_iadd hx hb dX1_requireRoom_17 ?_
        refine lv_sipush (v := 500) hx hb dX1_requireRoom_18 (by decide) ?_
        refine lv_icmp_le (tgt := 34) hx hb dX1_requireRoom_21 (by decide) (fun c21 => ?_) (fun c21 => ?_)
        · refine lv_iinc (v := nI (i + 1)) (lv' := [(4, .int (nI (i + 1))), (0, .ref (ad 0)), (1, .int (nI a)), (2, .int (nI b)), (3, .int q)]) hx hb dX1_requireRoom_34 hl (k := 4) rfl (gi_1 _) (by decide) rfl (fun ls hl => ?_)
          refine lv_goto (tgt := 3) hx hb dX1_requireRoom_37 (by decide) ?_
          exact ih (i + 1) (by omega) (by omega) (by omega) (fun d h1 h2 => by rcases Nat.lt_or_ge d i with h | h; exact hall d h1 h; rw [show d = i by omega]; exact c21) _ _ hP hD hS ls (lv_sub hl [1, 2, 3, 4, 0] rfl)
        · exact gx_thr (cls := ISE) (text := "too much would be taken on a day") (ik := 135) (is := 144) (ic := 139) hx hb hst hown (by decide +kernel) (hts _ hX1_requireRoom__classLink_RX1_135_ISE) (hts _ hX1_requireRoom__initialized_ISE) (by decide) hT.2.2.2.1 (fun q hq => hts q (hwX1_requireRoom_ISE q hq)) gt_a2 gt_g2 hT hK hP hD hS (hl.1.trans hml.symm) dX1_requireRoom_24 dX1_requireRoom_27 dX1_requireRoom_28 dX1_requireRoom_30 dX1_requireRoom_33 hnx (Nat.le_of_ble_eq_true rfl) (Nat.le_of_ble_eq_true rfl) (Nat.le_of_ble_eq_true rfl) (Nat.le_of_ble_eq_true rfl) hlocks (⟨rfl, fun z => c21 (z i hai hib)⟩) (Nat.le_of_ble_eq_true rfl) (Nat.le_of_ble_eq_true rfl)
  exact lp_3 ((b + 1) + 1) a (by omega) (by omega) (Nat.le_refl a) (fun d h1 h2 => absurd h1 (by omega)) _ _ hP hD hS ls (lv_sub hl [1, 2, 3, 4, 0] rfl)
theorem inX1_addTakes_X1 : ∀ q ∈ wsX10, q ∈ wsX1_addTakes := by decide +kernel
theorem hX1_addTakes__fieldLink_RX1_36_MakeupGas_takenPerYear_I_ : Cond.fieldLink RX1 36 "MakeupGas" "takenPerYear" "[I" ∈ wsX1_addTakes := by decide +kernel
theorem hX1_addTakes__fieldLink_RX1_103_MakeupGas_closedYears_I_ : Cond.fieldLink RX1 103 "MakeupGas" "closedYears" "I" ∈ wsX1_addTakes := by decide +kernel
theorem hX1_addTakes__fieldLink_RX1_33_MakeupGas_takenPerDay_I_ : Cond.fieldLink RX1 33 "MakeupGas" "takenPerDay" "[I" ∈ wsX1_addTakes := by decide +kernel
set_option maxHeartbeats 4000000 in
set_option maxRecDepth 100000 in
theorem c_X1_addTakes (l : Launch) (D : va_G) (sz : Nat) (ad : Nat → Nat) (cI cL : ClassId) (qy lp sp : Int32) (pr ex : Nat → Int32) (c : Nat) (dy tk mk : Nat → Int32) (mK : Nat) (mS : Int32) (su : Nat → Int32) (uK : Nat) (uS : Int32) (sh mu co sr : Nat → Int32) (du bi : Nat → Int64) (bb : Int64) (a b : Nat) (q : Int32) (hab : a ≤ b) (hb3 : b < 360) (hc : c < 20) : gCv l yX1_addTakes wsX1_addTakes ({ frames := 0, cells := 0, slots := 0, locals := 0 } : Room) D [(cI, .int), (cL, .long)] [.ref (ad 0), .int (nI a), .int (nI b), .int q] (wG ad cI cL qy lp sp pr ex (nI c) dy tk mk (nI mK) mS su (nI uK) uS sh mu co sr du bi bb) (wG ad cI cL qy lp sp pr ex (nI c) (adF dy a (b + 1) q) (upd tk c (tk c + q * (nI b - nI a + 1))) mk (nI mK) mS su (nI uK) uS sh mu co sr du bi bb) True 0 0 sz := by
  refine gm_v (cc := cX1_addTakes) (maxL := 5) (by decide) rfl (Nat.le_of_ble_eq_true rfl) ?_
  intro pg en s m args below meth cd A ls hx hb hr hml hown hts hlocks hin hA hK hP hD hl
  have hl : lv_has ls 5 [(0, .ref (ad 0)), (1, .int (nI a)), (2, .int (nI b)), (3, .int q)] := hl
  have hS : va_S A s.heap s.heap [] := va_S.rf
  refine lv_iload_n hx hb dX1_addTakes_0 rfl (lv_at hl 1 rfl) ?_
  refine lv_istore (lv' := [(4, .int (nI a)), (0, .ref (ad 0)), (1, .int (nI a)), (2, .int (nI b)), (3, .int q)]) hx hb dX1_addTakes_1 hl (by decide) rfl (fun ls hl => ?_)
  have lp_3 : ∀ (n i : Nat), i ≤ (b + 1) → (b + 1) < i + n → a ≤ i → ∀ (H : Heap) (locs : List Loc), va_P D vwCl (wG ad cI cL qy lp sp pr ex (nI c) (adF dy a i q) tk mk (nI mK) mS su (nI uK) uS sh mu co sr du bi bb) H → va_D A (wG ad cI cL qy lp sp pr ex (nI c) (adF dy a i q) tk mk (nI mK) mS su (nI uK) uS sh mu co sr du bi bb) → va_S A s.heap H locs → ∀ (ls : Array Slot), lv_has ls 5 [(0, .ref (ad 0)), (1, .int (nI a)), (2, .int (nI b)), (3, .int q), (4, .int (nI i))] → W pg l en ({ frames := 0, cells := 0, slots := 0, locals := 0 } : Room) s m args below meth cd H locs 0 0 (gEv True below D [(cI, .int), (cL, .long)] (wG ad cI cL qy lp sp pr ex (nI c) (adF dy a (b + 1) q) (upd tk c (tk c + q * (nI b - nI a + 1))) mk (nI mK) mS su (nI uK) uS sh mu co sr du bi bb) A args s 0 0) (F0 m 3 ls []) := by
    intro n
    induction n with
    | zero => intro i h1 h2; exact absurd h2 (by omega)
    | succ n ih =>
      intro i hi hin2 hai H locs hP hD hS ls hl
      refine lv_iload hx hb dX1_addTakes_3 (lv_at hl 4 rfl) ?_
      refine lv_iload_n hx hb dX1_addTakes_5 rfl (lv_at hl 2 rfl) ?_
      refine lv_icmp_gt (tgt := 26) hx hb dX1_addTakes_6 (by decide) (fun c6 => ?_) (fun c6 => ?_)
      · have hbi : ¬ i ≤ b := fun h => absurd c6 (Int32.not_lt.mpr (nI_le h (by omega)))
        obtain rfl : i = b + 1 := by omega
        refine lv_aload_n hx hb dX1_addTakes_26 rfl (lv_at hl 0 rfl) ?_
        refine va_get (D := D) (ci := 1) (C := RX1) (T := TX1) (N := 17) hx hb hts inX1_addTakes_X1 hown hK hP 0 rfl rfl 7 (by decide) (hts _ hX1_addTakes__fieldLink_RX1_36_MakeupGas_takenPerYear_I_) (fun _ h9 => h9) rfl dX1_addTakes_27 ?_
        refine lv_aload_n hx hb dX1_addTakes_30 rfl (lv_at hl 0 rfl) ?_
        refine va_get (D := D) (ci := 1) (C := RX1) (T := TX1) (N := 17) hx hb hts inX1_addTakes_X1 hown hK hP 0 rfl rfl 5 (by decide) (hts _ hX1_addTakes__fieldLink_RX1_103_MakeupGas_closedYears_I_) (fun _ h9 => h9) rfl dX1_addTakes_31 ?_
        refine lv_dup2_11 hx hb dX1_addTakes_34 rfl rfl ?_
        refine ga_iald (j := c) hx hb hK hP 4 0 rfl rfl hc (by decide) dX1_addTakes_35 ?_
        refine lv_iload_n hx hb dX1_addTakes_36 rfl (lv_at hl 3 rfl) ?_
        refine lv_iload_n hx hb dX1_addTakes_37 rfl (lv_at hl 2 rfl) ?_
        refine lv_iload_n hx hb dX1_addTakes_38 rfl (lv_at hl 1 rfl) ?_
        refine lv_isub hx hb dX1_addTakes_39 ?_
        refine lv_iconst (v := 1) hx hb dX1_addTakes_40 (by decide) ?_
        refine lv_iadd hx hb dX1_addTakes_41 ?_
        refine lv_imul hx hb dX1_addTakes_42 ?_
        refine lv_iadd hx hb dX1_addTakes_43 ?_
        refine ga_iast (j := c) (ws' := (wG ad cI cL qy lp sp pr ex (nI c) (adF dy a (b + 1) q) (upd tk c ((tk c) + (q * (((nI b) - (nI a)) + 1)))) mk (nI mK) mS su (nI uK) uS sh mu co sr du bi bb)) hx hb hK hP hD hS 4 0 rfl rfl hc (by decide) dX1_addTakes_44 rfl (fun H locs hP hD hS => ?_)
        exact ge_v hx hb hr hlocks hK hP hD hS trivial (Nat.le_of_ble_eq_true rfl) (Nat.le_of_ble_eq_true rfl) dX1_addTakes_45
      · have hib : i ≤ b := Nat.not_lt.mp (fun h => c6 (nI_lt h (by omega)))
        have hi3 : i < 360 := by omega
        refine lv_aload_n hx hb dX1_addTakes_9 rfl (lv_at hl 0 rfl) ?_
        refine va_get (D := D) (ci := 1) (C := RX1) (T := TX1) (N := 17) hx hb hts inX1_addTakes_X1 hown hK hP 0 rfl rfl 6 (by decide) (hts _ hX1_addTakes__fieldLink_RX1_33_MakeupGas_takenPerDay_I_) (fun _ h9 => h9) rfl dX1_addTakes_10 ?_
        refine lv_iload hx hb dX1_addTakes_13 (lv_at hl 4 rfl) ?_
        refine lv_dup2_11 hx hb dX1_addTakes_15 rfl rfl ?_
        refine ga_iald (j := i) hx hb hK hP 3 0 rfl rfl hi3 (by decide) dX1_addTakes_16 ?_
        refine lv_iload_n hx hb dX1_addTakes_17 rfl (lv_at hl 3 rfl) ?_
        refine lv_iadd hx hb dX1_addTakes_18 ?_
        refine ga_iast (j := i) (ws' := (wG ad cI cL qy lp sp pr ex (nI c) (adF dy a (i + 1) q) tk mk (nI mK) mS su (nI uK) uS sh mu co sr du bi bb)) hx hb hK hP hD hS 3 0 rfl rfl hi3 (by decide) dX1_addTakes_19 (by rw [adF_s dy q hai]; rfl) (fun H locs hP hD hS => ?_)
        refine lv_iinc (v := nI (i + 1)) (lv' := [(4, .int (nI (i + 1))), (0, .ref (ad 0)), (1, .int (nI a)), (2, .int (nI b)), (3, .int q)]) hx hb dX1_addTakes_20 hl (k := 4) rfl (gi_1 _) (by decide) rfl (fun ls hl => ?_)
        refine lv_goto (tgt := 3) hx hb dX1_addTakes_23 (by decide) ?_
        exact ih (i + 1) (by omega) (by omega) (by omega) _ _ hP hD hS ls (lv_sub hl [1, 2, 3, 4, 0] rfl)
  rw [← adF_0 dy a q] at hP hD
  exact lp_3 ((b + 1) + 1) a (by omega) (by omega) (Nat.le_refl a) _ _ hP hD hS ls (lv_sub hl [1, 2, 3, 4, 0] rfl)
theorem inX1_leastQuantity_X1 : ∀ q ∈ wsX10, q ∈ wsX1_leastQuantity := by decide +kernel
theorem hX1_leastQuantity__fieldLink_RX1_10_MakeupGas_yearlyQuantity_I_ : Cond.fieldLink RX1 10 "MakeupGas" "yearlyQuantity" "I" ∈ wsX1_leastQuantity := by decide +kernel
theorem hX1_leastQuantity__fieldLink_RX1_14_MakeupGas_leastPercent_I_ : Cond.fieldLink RX1 14 "MakeupGas" "leastPercent" "I" ∈ wsX1_leastQuantity := by decide +kernel
theorem hX1_leastQuantity__fieldLink_RX1_30_MakeupGas_excusedDays_I_ : Cond.fieldLink RX1 30 "MakeupGas" "excusedDays" "[I" ∈ wsX1_leastQuantity := by decide +kernel
theorem hX1_leastQuantity__constantLong_RX1_146_36000_ : Cond.constantLong RX1 146 (36000) ∈ wsX1_leastQuantity := by decide +kernel
set_option maxHeartbeats 4000000 in
set_option maxRecDepth 100000 in
theorem c_X1_leastQuantity (l : Launch) (D : va_G) (sz : Nat) (ad : Nat → Nat) (cI cL : ClassId) (qy lp sp : Int32) (pr ex : Nat → Int32) (c : Nat) (dy tk mk : Nat → Int32) (mK : Nat) (mS : Int32) (su : Nat → Int32) (uK : Nat) (uS : Int32) (sh mu co sr : Nat → Int32) (du bi : Nat → Int64) (bb : Int64) (y : Nat) (hy : y < 20) : gCi l yX1_leastQuantity wsX1_leastQuantity ({ frames := 0, cells := 0, slots := 0, locals := 0 } : Room) D [(cI, .int), (cL, .long)] [.ref (ad 0), .int (nI y)] (wG ad cI cL qy lp sp pr ex (nI c) dy tk mk (nI mK) mS su (nI uK) uS sh mu co sr du bi bb) (wG ad cI cL qy lp sp pr ex (nI c) dy tk mk (nI mK) mS su (nI uK) uS sh mu co sr du bi bb) (lqf qy lp ex y) True 0 0 sz := by
  refine gm_i (cc := cX1_leastQuantity) (maxL := 4) (by decide) rfl (Nat.le_of_ble_eq_true rfl) ?_
  intro pg en s m args below meth cd A ls hx hb hr hml hown hts hlocks hin hA hK hP hD hl
  have hl : lv_has ls 4 [(0, .ref (ad 0)), (1, .int (nI y))] := hl
  have hS : va_S A s.heap s.heap [] := va_S.rf
  refine lv_aload_n hx hb dX1_leastQuantity_0 rfl (lv_at hl 0 rfl) ?_
  refine va_get (D := D) (ci := 1) (C := RX1) (T := TX1) (N := 17) hx hb hts inX1_leastQuantity_X1 hown hK hP 0 rfl rfl 0 (by decide) (hts _ hX1_leastQuantity__fieldLink_RX1_10_MakeupGas_yearlyQuantity_I_) (fun _ h9 => h9) rfl dX1_leastQuantity_1 ?_
  refine lv_i2l hx hb dX1_leastQuantity_4 rfl ?_
  refine lv_aload_n hx hb dX1_leastQuantity_5 rfl (lv_at hl 0 rfl) ?_
  refine va_get (D := D) (ci := 1) (C := RX1) (T := TX1) (N := 17) hx hb hts inX1_leastQuantity_X1 hown hK hP 0 rfl rfl 1 (by decide) (hts _ hX1_leastQuantity__fieldLink_RX1_14_MakeupGas_leastPercent_I_) (fun _ h9 => h9) rfl dX1_leastQuantity_6 ?_
  refine lv_i2l hx hb dX1_leastQuantity_9 rfl ?_
  refine lv_lmul hx hb dX1_leastQuantity_10 ?_
  refine lv_sipush (v := 360) hx hb dX1_leastQuantity_11 (by decide) ?_
  refine lv_aload_n hx hb dX1_leastQuantity_14 rfl (lv_at hl 0 rfl) ?_
  refine va_get (D := D) (ci := 1) (C := RX1) (T := TX1) (N := 17) hx hb hts inX1_leastQuantity_X1 hown hK hP 0 rfl rfl 4 (by decide) (hts _ hX1_leastQuantity__fieldLink_RX1_30_MakeupGas_excusedDays_I_) (fun _ h9 => h9) rfl dX1_leastQuantity_15 ?_
  refine lv_iload_n hx hb dX1_leastQuantity_18 rfl (lv_at hl 1 rfl) ?_
  refine ga_iald (j := y) hx hb hK hP 2 0 rfl rfl hy (by decide) dX1_leastQuantity_19 ?_
  refine lv_isub hx hb dX1_leastQuantity_20 ?_
  refine lv_i2l hx hb dX1_leastQuantity_21 rfl ?_
  refine lv_lmul hx hb dX1_leastQuantity_22 ?_
  refine lv_lstore_n (lv' := [(2, .long ((qy.toInt64 * lp.toInt64) * ((360 - (ex y)).toInt64))), (0, .ref (ad 0)), (1, .int (nI y))]) hx hb dX1_leastQuantity_23 rfl hl (by decide) rfl (fun ls hl => ?_)
  refine lv_lload_n hx hb dX1_leastQuantity_24 rfl (lv_at hl 0 rfl) ?_
  refine lv_ldc2 (v := 36000) hx hb hown (hts _ hX1_leastQuantity__constantLong_RX1_146_36000_) dX1_leastQuantity_25 ?_
  refine lv_ldiv hx hb dX1_leastQuantity_28 (by decide) ?_
  refine lv_l2i hx hb dX1_leastQuantity_29 rfl ?_
  exact ge_i hx hb hr hlocks rfl hK hP hD hS trivial (Nat.le_of_ble_eq_true rfl) (Nat.le_of_ble_eq_true rfl) dX1_leastQuantity_30
theorem inX1_shortfallPrice_X1 : ∀ q ∈ wsX10, q ∈ wsX1_shortfallPrice := by decide +kernel
theorem hX1_shortfallPrice__fieldLink_RX1_20_MakeupGas_pricePerYear_I_ : Cond.fieldLink RX1 20 "MakeupGas" "pricePerYear" "[I" ∈ wsX1_shortfallPrice := by decide +kernel
theorem hX1_shortfallPrice__fieldLink_RX1_17_MakeupGas_shortfallPercent_I_ : Cond.fieldLink RX1 17 "MakeupGas" "shortfallPercent" "I" ∈ wsX1_shortfallPrice := by decide +kernel
set_option maxHeartbeats 4000000 in
set_option maxRecDepth 100000 in
theorem c_X1_shortfallPrice (l : Launch) (D : va_G) (sz : Nat) (ad : Nat → Nat) (cI cL : ClassId) (qy lp sp : Int32) (pr ex : Nat → Int32) (c : Nat) (dy tk mk : Nat → Int32) (mK : Nat) (mS : Int32) (su : Nat → Int32) (uK : Nat) (uS : Int32) (sh mu co sr : Nat → Int32) (du bi : Nat → Int64) (bb : Int64) (y : Nat) (hy : y < 20) : gCi l yX1_shortfallPrice wsX1_shortfallPrice ({ frames := 0, cells := 0, slots := 0, locals := 0 } : Room) D [(cI, .int), (cL, .long)] [.ref (ad 0), .int (nI y)] (wG ad cI cL qy lp sp pr ex (nI c) dy tk mk (nI mK) mS su (nI uK) uS sh mu co sr du bi bb) (wG ad cI cL qy lp sp pr ex (nI c) dy tk mk (nI mK) mS su (nI uK) uS sh mu co sr du bi bb) (spf pr sp y) True 0 0 sz := by
  refine gm_i (cc := cX1_shortfallPrice) (maxL := 2) (by decide) rfl (Nat.le_of_ble_eq_true rfl) ?_
  intro pg en s m args below meth cd A ls hx hb hr hml hown hts hlocks hin hA hK hP hD hl
  have hl : lv_has ls 2 [(0, .ref (ad 0)), (1, .int (nI y))] := hl
  have hS : va_S A s.heap s.heap [] := va_S.rf
  refine lv_aload_n hx hb dX1_shortfallPrice_0 rfl (lv_at hl 0 rfl) ?_
  refine va_get (D := D) (ci := 1) (C := RX1) (T := TX1) (N := 17) hx hb hts inX1_shortfallPrice_X1 hown hK hP 0 rfl rfl 3 (by decide) (hts _ hX1_shortfallPrice__fieldLink_RX1_20_MakeupGas_pricePerYear_I_) (fun _ h9 => h9) rfl dX1_shortfallPrice_1 ?_
  refine lv_iload_n hx hb dX1_shortfallPrice_4 rfl (lv_at hl 1 rfl) ?_
  refine ga_iald (j := y) hx hb hK hP 1 0 rfl rfl hy (by decide) dX1_shortfallPrice_5 ?_
  refine lv_aload_n hx hb dX1_shortfallPrice_6 rfl (lv_at hl 0 rfl) ?_
  refine va_get (D := D) (ci := 1) (C := RX1) (T := TX1) (N := 17) hx hb hts inX1_shortfallPrice_X1 hown hK hP 0 rfl rfl 2 (by decide) (hts _ hX1_shortfallPrice__fieldLink_RX1_17_MakeupGas_shortfallPercent_I_) (fun _ h9 => h9) rfl dX1_shortfallPrice_7 ?_
  refine lv_imul hx hb dX1_shortfallPrice_10 ?_
  refine lv_bipush (v := 100) hx hb dX1_shortfallPrice_11 (by decide) ?_
  refine lv_idiv hx hb dX1_shortfallPrice_13 (by decide) ?_
  exact ge_i hx hb hr hlocks rfl hK hP hD hS trivial (Nat.le_of_ble_eq_true rfl) (Nat.le_of_ble_eq_true rfl) dX1_shortfallPrice_14
end
section
theorem inX1_drawSurplus_X1 : ∀ q ∈ wsX10, q ∈ wsX1_drawSurplus := by decide +kernel
theorem hX1_drawSurplus__fieldLink_RX1_48_MakeupGas_surplusStock_LMakeupGas_Stock_ : Cond.fieldLink RX1 48 "MakeupGas" "surplusStock" "LMakeupGas$Stock;" ∈ wsX1_drawSurplus := by decide +kernel
set_option maxHeartbeats 4000000 in
set_option maxRecDepth 100000 in
theorem c_X1_drawSurplus (l : Launch) (D : va_G) (sz : Nat) (ad : Nat → Nat) (cI cL : ClassId) (qy lp sp : Int32) (pr ex : Nat → Int32) (c : Nat) (dy tk mk : Nat → Int32) (mK : Nat) (mS : Int32) (su : Nat → Int32) (uK : Nat) (uS : Int32) (sh mu co sr : Nat → Int32) (du bi : Nat → Int64) (bb : Int64) (y : Nat) (w : Int32) (hy : y < 20) : gCi l yX1_drawSurplus wsX1_drawSurplus ({ frames := 2, cells := 0, slots := 0, locals := 44 } : Room) D [(cI, .int), (cL, .long)] [.ref (ad 0), .int (nI y), .int w] (wG ad cI cL qy lp sp pr ex (nI c) dy tk mk (nI mK) mS su (nI uK) uS sh mu co sr du bi bb) (wG ad cI cL qy lp sp pr ex (nI c) dy tk mk (nI mK) mS ((dw su w y).1) (nI uK) uS sh mu co sr du bi bb) ((dw su w y).2) True 0 0 sz := by
  refine gm_i (cc := cX1_drawSurplus) (maxL := 5) (by decide) rfl (Nat.le_of_ble_eq_true rfl) ?_
  intro pg en s m args below meth cd A ls hx hb hr hml hown hts hlocks hin hA hK hP hD hl
  have hl : lv_has ls 5 [(0, .ref (ad 0)), (1, .int (nI y)), (2, .int w)] := hl
  have hS : va_S A s.heap s.heap [] := va_S.rf
  refine lv_iconst (v := 0) hx hb dX1_drawSurplus_0 (by decide) ?_
  refine lv_istore_n (lv' := [(3, .int 0), (0, .ref (ad 0)), (1, .int (nI y)), (2, .int w)]) hx hb dX1_drawSurplus_1 rfl hl (by decide) rfl (fun ls hl => ?_)
  refine lv_iconst (v := 0) hx hb dX1_drawSurplus_2 (by decide) ?_
  refine lv_istore (lv' := [(4, .int 0), (3, .int 0), (0, .ref (ad 0)), (1, .int (nI y)), (2, .int w)]) hx hb dX1_drawSurplus_3 hl (by decide) rfl (fun ls hl => ?_)
  have lp_5 : ∀ (n i : Nat), i ≤ y → y < i + n → ∀ (H : Heap) (locs : List Loc), va_P D vwCl (wG ad cI cL qy lp sp pr ex (nI c) dy tk mk (nI mK) mS ((dw su w i).1) (nI uK) uS sh mu co sr du bi bb) H → va_D A (wG ad cI cL qy lp sp pr ex (nI c) dy tk mk (nI mK) mS ((dw su w i).1) (nI uK) uS sh mu co sr du bi bb) → va_S A s.heap H locs → ∀ (ls : Array Slot), lv_has ls 5 [(0, .ref (ad 0)), (1, .int (nI y)), (2, .int w), (3, .int ((dw su w i).2)), (4, .int (nI i))] → W pg l en ({ frames := 2, cells := 0, slots := 0, locals := 44 } : Room) s m args below meth cd H locs 0 0 (gEi ((dw su w y).2) True below D [(cI, .int), (cL, .long)] (wG ad cI cL qy lp sp pr ex (nI c) dy tk mk (nI mK) mS ((dw su w y).1) (nI uK) uS sh mu co sr du bi bb) A args s 0 0) (F0 m 5 ls []) := by
    intro n
    induction n with
    | zero => intro i h1 h2; exact absurd h2 (by omega)
    | succ n ih =>
      intro i hi hin2  H locs hP hD hS ls hl
      refine lv_iload hx hb dX1_drawSurplus_5 (lv_at hl 4 rfl) ?_
      refine lv_iload_n hx hb dX1_drawSurplus_7 rfl (lv_at hl 1 rfl) ?_
      refine lv_icmp_ge (tgt := 32) hx hb dX1_drawSurplus_8 (by decide) (fun c1 => ?_) (fun c1 => ?_)
      · obtain rfl : i = y := Nat.le_antisymm hi (Nat.not_lt.mp fun h => absurd c1 (nI_ge h (by omega)))
        refine lv_iload_n hx hb dX1_drawSurplus_32 rfl (lv_at hl 3 rfl) ?_
        exact ge_i hx hb hr hlocks rfl hK hP hD hS trivial (Nat.le_of_ble_eq_true rfl) (Nat.le_of_ble_eq_true rfl) dX1_drawSurplus_33
      · have hiy : i < y := Nat.not_le.mp (fun h => c1 (nI_le h (by omega)))
        have hi3 : i < 20 := by omega
        refine lv_iload_n hx hb dX1_drawSurplus_11 rfl (lv_at hl 3 rfl) ?_
        refine lv_aload_n hx hb dX1_drawSurplus_12 rfl (lv_at hl 0 rfl) ?_
        refine va_get (D := D) (ci := 1) (C := RX1) (T := TX1) (N := 17) hx hb hts inX1_drawSurplus_X1 hown hK hP 0 rfl rfl 9 (by decide) (hts _ hX1_drawSurplus__fieldLink_RX1_48_MakeupGas_surplusStock_LMakeupGas_Stock_) (fun _ h9 => h9) rfl dX1_drawSurplus_13 ?_
        refine lv_iload hx hb dX1_drawSurplus_16 (lv_at hl 4 rfl) ?_
        refine lv_iload_n hx hb dX1_drawSurplus_18 rfl (lv_at hl 2 rfl) ?_
        refine lv_iload_n hx hb dX1_drawSurplus_19 rfl (lv_at hl 3 rfl) ?_
        refine lv_isub hx hb dX1_drawSurplus_20 ?_
        refine gV_i (wc := (wK (ad 6) (ad 14) cI ((dw su w i).1) (nI uK) uS)) (wr := [(ad 0, .inr (1, [.int qy, .int lp, .int sp, .ref (ad 1), .ref (ad 2), .int (nI c), .ref (ad 3), .ref (ad 4), .ref (ad 5), .ref (ad 6), .ref (ad 7), .ref (ad 8), .ref (ad 9), .ref (ad 10), .ref (ad 11), .ref (ad 12), .long bb])), (ad 1, .inl (cI, 20, .inl pr)), (ad 2, .inl (cI, 20, .inl ex)), (ad 3, .inl (cI, 360, .inl dy)), (ad 4, .inl (cI, 20, .inl tk)), (ad 5, .inr (0, [.ref (ad 13), .int (nI mK), .int mS])), (ad 7, .inl (cI, 20, .inl sh)), (ad 8, .inl (cI, 20, .inl mu)), (ad 9, .inl (cI, 20, .inl co)), (ad 10, .inl (cI, 20, .inl sr)), (ad 11, .inl (cL, 20, .inr (.inl du))), (ad 12, .inl (cL, 20, .inr (.inl bi))), (ad 13, .inl (cI, 20, .inl mk))]) (w1 := (wK (ad 6) (ad 14) cI (upd ((dw su w i).1) i (((dw su w i).1) i - mnI (w - ((dw su w i).2)) (((dw su w i).1) i))) (nI uK) uS)) (W' := (wG ad cI cL qy lp sp pr ex (nI c) dy tk mk (nI mK) mS (upd ((dw su w i).1) i (((dw su w i).1) i - mnI (w - ((dw su w i).2)) (((dw su w i).1) i))) (nI uK) uS sh mu co sr du bi bb)) (As := [.int (nI i), .int (w - ((dw su w i).2))]) (rest := [.int ((dw su w i).2)]) ⟨hx, hb, hml, hown, hts⟩ (c_X0_drawFrom l D H.size (ad 6) (ad 14) cI cL ((dw su w i).1) (nI uK) uS i (w - ((dw su w i).2)) hi3) (cwV 2 hts gX1_drawSurplus_X0_drawFrom rfl rfl rfl (by decide +kernel) ⟨(Nat.le_of_ble_eq_true rfl), (Nat.le_of_ble_eq_true rfl)⟩) hS hA hK hP hD [0, 1] rfl [6, 14] [0, 1, 2, 3, 4, 5, 7, 8, 9, 10, 11, 12, 13] [0, 1, 2, 3, 4, 5, 13, 6, 7, 8, 9, 10, 11, 12, 14] rfl (by decide) rfl (by decide) (by decide) rfl (by decide) 0 0 rfl rfl rfl rfl hl.1 rfl (Nat.le_of_ble_eq_true rfl) dX1_drawSurplus_21 ⟨(Nat.le_of_ble_eq_true rfl), (Nat.le_of_ble_eq_true rfl)⟩ (fun H locs _ hP hD hS => ?_)
        refine lv_iadd hx hb dX1_drawSurplus_24 ?_
        refine lv_istore_n (lv' := [(3, .int ((dw su w (i + 1)).2)), (0, .ref (ad 0)), (1, .int (nI y)), (2, .int w), (4, .int (nI i))]) hx hb dX1_drawSurplus_25 rfl hl (by decide) rfl (fun ls hl => ?_)
        refine lv_iinc (v := nI (i + 1)) (lv' := [(4, .int (nI (i + 1))), (3, .int ((dw su w (i + 1)).2)), (0, .ref (ad 0)), (1, .int (nI y)), (2, .int w)]) hx hb dX1_drawSurplus_26 hl (k := 4) rfl (gi_1 _) (by decide) rfl (fun ls hl => ?_)
        refine lv_goto (tgt := 5) hx hb dX1_drawSurplus_29 (by decide) ?_
        exact ih (i + 1) (by omega) (by omega) _ _ hP hD hS ls (lv_sub hl [2, 3, 4, 1, 0] rfl)
  exact lp_5 (y + 1) 0 (by omega) (by omega) _ _ hP hD hS ls (lv_sub hl [2, 3, 4, 1, 0] rfl)
theorem inX1_settleGap_X1 : ∀ q ∈ wsX10, q ∈ wsX1_settleGap := by decide +kernel
theorem hX1_settleGap__fieldLink_RX1_36_MakeupGas_takenPerYear_I_ : Cond.fieldLink RX1 36 "MakeupGas" "takenPerYear" "[I" ∈ wsX1_settleGap := by decide +kernel
theorem hX1_settleGap__fieldLink_RX1_44_MakeupGas_makeUpStock_LMakeupGas_Stock_ : Cond.fieldLink RX1 44 "MakeupGas" "makeUpStock" "LMakeupGas$Stock;" ∈ wsX1_settleGap := by decide +kernel
theorem hX1_settleGap__fieldLink_RX1_57_MakeupGas_coveredPerYear_I_ : Cond.fieldLink RX1 57 "MakeupGas" "coveredPerYear" "[I" ∈ wsX1_settleGap := by decide +kernel
theorem hX1_settleGap__fieldLink_RX1_51_MakeupGas_shortfallPerYear_I_ : Cond.fieldLink RX1 51 "MakeupGas" "shortfallPerYear" "[I" ∈ wsX1_settleGap := by decide +kernel
theorem hX1_settleGap__fieldLink_RX1_54_MakeupGas_madeUpPerYear_I_ : Cond.fieldLink RX1 54 "MakeupGas" "madeUpPerYear" "[I" ∈ wsX1_settleGap := by decide +kernel
theorem hX1_settleGap__fieldLink_RX1_60_MakeupGas_surplusPerYear_I_ : Cond.fieldLink RX1 60 "MakeupGas" "surplusPerYear" "[I" ∈ wsX1_settleGap := by decide +kernel
theorem hX1_settleGap__fieldLink_RX1_63_MakeupGas_duePerYear_J_ : Cond.fieldLink RX1 63 "MakeupGas" "duePerYear" "[J" ∈ wsX1_settleGap := by decide +kernel
theorem hX1_settleGap__fieldLink_RX1_20_MakeupGas_pricePerYear_I_ : Cond.fieldLink RX1 20 "MakeupGas" "pricePerYear" "[I" ∈ wsX1_settleGap := by decide +kernel
set_option maxHeartbeats 4000000 in
set_option maxRecDepth 100000 in
theorem c_X1_settleGap (l : Launch) (D : va_G) (sz : Nat) (ad : Nat → Nat) (cI cL : ClassId) (qy lp sp : Int32) (pr ex : Nat → Int32) (c : Nat) (dy tk mk : Nat → Int32) (mK : Nat) (mS : Int32) (su : Nat → Int32) (uK : Nat) (uS : Int32) (sh mu co sr : Nat → Int32) (du bi : Nat → Int64) (bb : Int64) (y : Nat) (hy : y < 20) : gCv l yX1_settleGap wsX1_settleGap ({ frames := 3, cells := 0, slots := 0, locals := 68 } : Room) D [(cI, .int), (cL, .long)] [.ref (ad 0), .int (nI y)] (wG ad cI cL qy lp sp pr ex (nI c) dy tk mk (nI mK) mS su (nI uK) uS sh mu co sr du bi bb) (wG ad cI cL qy lp sp pr ex (nI c) dy tk (upd mk y (gpM qy lp ex tk su y)) (nI mK) mS ((dw su (gpG qy lp ex tk y) y).1) (nI uK) uS (upd sh y (gpM qy lp ex tk su y)) (upd mu y 0) (upd co y (gpC qy lp ex tk su y)) (upd sr y 0) (vp_updL du y (gpD qy lp sp pr ex tk su y)) bi bb) True 0 0 sz := by
  refine gm_v (cc := cX1_settleGap) (maxL := 5) (by decide) rfl (Nat.le_of_ble_eq_true rfl) ?_
  intro pg en s m args below meth cd A ls hx hb hr hml hown hts hlocks hin hA hK hP hD hl
  have hl : lv_has ls 5 [(0, .ref (ad 0)), (1, .int (nI y))] := hl
  have hS : va_S A s.heap s.heap [] := va_S.rf
  refine lv_aload_n hx hb dX1_settleGap_0 rfl (lv_at hl 0 rfl) ?_
  refine lv_iload_n hx hb dX1_settleGap_1 rfl (lv_at hl 1 rfl) ?_
  refine gV_i (wc := (wG ad cI cL qy lp sp pr ex (nI c) dy tk mk (nI mK) mS su (nI uK) uS sh mu co sr du bi bb)) (wr := []) (w1 := (wG ad cI cL qy lp sp pr ex (nI c) dy tk mk (nI mK) mS su (nI uK) uS sh mu co sr du bi bb)) (W' := (wG ad cI cL qy lp sp pr ex (nI c) dy tk mk (nI mK) mS su (nI uK) uS sh mu co sr du bi bb)) (As := [.int (nI y)]) (rest := []) ⟨hx, hb, hml, hown, hts⟩ (c_X1_leastQuantity l D s.heap.size ad cI cL qy lp sp pr ex c dy tk mk mK mS su uK uS sh mu co sr du bi bb y hy) (cwV 1 hts gX1_settleGap_X1_leastQuantity rfl rfl rfl (by decide +kernel) ⟨(Nat.le_of_ble_eq_true rfl), (Nat.le_of_ble_eq_true rfl)⟩) hS hA hK hP hD [0, 1] rfl [0, 1, 2, 3, 4, 5, 6, 7, 8, 9, 10, 11, 12, 13, 14] [] [0, 1, 2, 3, 4, 5, 6, 7, 8, 9, 10, 11, 12, 13, 14] rfl (by decide) rfl (by decide) (by decide) rfl (by decide) 0 1 rfl rfl rfl rfl hl.1 rfl (Nat.le_of_ble_eq_true rfl) dX1_settleGap_2 ⟨(Nat.le_of_ble_eq_true rfl), (Nat.le_of_ble_eq_true rfl)⟩ (fun H locs _ hP hD hS => ?_)
  refine lv_aload_n hx hb dX1_settleGap_5 rfl (lv_at hl 0 rfl) ?_
  refine va_get (D := D) (ci := 1) (C := RX1) (T := TX1) (N := 17) hx hb hts inX1_settleGap_X1 hown hK hP 0 rfl rfl 7 (by decide) (hts _ hX1_settleGap__fieldLink_RX1_36_MakeupGas_takenPerYear_I_) (fun _ h9 => h9) rfl dX1_settleGap_6 ?_
  refine lv_iload_n hx hb dX1_settleGap_9 rfl (lv_at hl 1 rfl) ?_
  refine ga_iald (j := y) hx hb hK hP 4 0 rfl rfl hy (by decide) dX1_settleGap_10 ?_
  refine lv_isub hx hb dX1_settleGap_11 ?_
  refine lv_istore_n (lv' := [(2, .int (gpG qy lp ex tk y)), (0, .ref (ad 0)), (1, .int (nI y))]) hx hb dX1_settleGap_12 rfl hl (by decide) rfl (fun ls hl => ?_)
  refine lv_aload_n hx hb dX1_settleGap_13 rfl (lv_at hl 1 rfl) ?_
  refine lv_iload_n hx hb dX1_settleGap_14 rfl (lv_at hl 2 rfl) ?_
  refine lv_iload_n hx hb dX1_settleGap_15 rfl (lv_at hl 0 rfl) ?_
  refine gV_i (wc := (wG ad cI cL qy lp sp pr ex (nI c) dy tk mk (nI mK) mS su (nI uK) uS sh mu co sr du bi bb)) (wr := []) (w1 := (wG ad cI cL qy lp sp pr ex (nI c) dy tk mk (nI mK) mS ((dw su (gpG qy lp ex tk y) y).1) (nI uK) uS sh mu co sr du bi bb)) (W' := (wG ad cI cL qy lp sp pr ex (nI c) dy tk mk (nI mK) mS ((dw su (gpG qy lp ex tk y) y).1) (nI uK) uS sh mu co sr du bi bb)) (As := [.int (nI y), .int (gpG qy lp ex tk y)]) (rest := []) ⟨hx, hb, hml, hown, hts⟩ (c_X1_drawSurplus l D H.size ad cI cL qy lp sp pr ex c dy tk mk mK mS su uK uS sh mu co sr du bi bb y (gpG qy lp ex tk y) hy) (cwV 2 hts gX1_settleGap_X1_drawSurplus rfl rfl rfl (by decide +kernel) ⟨(Nat.le_of_ble_eq_true rfl), (Nat.le_of_ble_eq_true rfl)⟩) hS hA hK hP hD [0, 1] rfl [0, 1, 2, 3, 4, 5, 6, 7, 8, 9, 10, 11, 12, 13, 14] [] [0, 1, 2, 3, 4, 5, 6, 7, 8, 9, 10, 11, 12, 13, 14] rfl (by decide) rfl (by decide) (by decide) rfl (by decide) 0 1 rfl rfl rfl rfl hl.1 rfl (Nat.le_of_ble_eq_true rfl) dX1_settleGap_16 ⟨(Nat.le_of_ble_eq_true rfl), (Nat.le_of_ble_eq_true rfl)⟩ (fun H locs _ hP hD hS => ?_)
  refine lv_istore_n (lv' := [(3, .int (gpC qy lp ex tk su y)), (2, .int (gpG qy lp ex tk y)), (0, .ref (ad 0)), (1, .int (nI y))]) hx hb dX1_settleGap_19 rfl hl (by decide) rfl (fun ls hl => ?_)
  refine lv_iload_n hx hb dX1_settleGap_20 rfl (lv_at hl 1 rfl) ?_
  refine lv_iload_n hx hb dX1_settleGap_21 rfl (lv_at hl 0 rfl) ?_
  refine lv_isub hx hb dX1_settleGap_22 ?_
  refine lv_istore (lv' := [(4, .int (gpM qy lp ex tk su y)), (3, .int (gpC qy lp ex tk su y)), (2, .int (gpG qy lp ex tk y)), (0, .ref (ad 0)), (1, .int (nI y))]) hx hb dX1_settleGap_23 hl (by decide) rfl (fun ls hl => ?_)
  refine lv_aload_n hx hb dX1_settleGap_25 rfl (lv_at hl 3 rfl) ?_
  refine va_get (D := D) (ci := 1) (C := RX1) (T := TX1) (N := 17) hx hb hts inX1_settleGap_X1 hown hK hP 0 rfl rfl 8 (by decide) (hts _ hX1_settleGap__fieldLink_RX1_44_MakeupGas_makeUpStock_LMakeupGas_Stock_) (fun _ h9 => h9) rfl dX1_settleGap_26 ?_
  refine lv_iload_n hx hb dX1_settleGap_29 rfl (lv_at hl 4 rfl) ?_
  refine lv_iload hx hb dX1_settleGap_30 (lv_at hl 0 rfl) ?_
  refine gV_v (wc := (wK (ad 5) (ad 13) cI mk (nI mK) mS)) (wr := [(ad 0, .inr (1, [.int qy, .int lp, .int sp, .ref (ad 1), .ref (ad 2), .int (nI c), .ref (ad 3), .ref (ad 4), .ref (ad 5), .ref (ad 6), .ref (ad 7), .ref (ad 8), .ref (ad 9), .ref (ad 10), .ref (ad 11), .ref (ad 12), .long bb])), (ad 1, .inl (cI, 20, .inl pr)), (ad 2, .inl (cI, 20, .inl ex)), (ad 3, .inl (cI, 360, .inl dy)), (ad 4, .inl (cI, 20, .inl tk)), (ad 6, .inr (0, [.ref (ad 14), .int (nI uK), .int uS])), (ad 7, .inl (cI, 20, .inl sh)), (ad 8, .inl (cI, 20, .inl mu)), (ad 9, .inl (cI, 20, .inl co)), (ad 10, .inl (cI, 20, .inl sr)), (ad 11, .inl (cL, 20, .inr (.inl du))), (ad 12, .inl (cL, 20, .inr (.inl bi))), (ad 14, .inl (cI, 20, .inl ((dw su (gpG qy lp ex tk y) y).1)))]) (w1 := (wK (ad 5) (ad 13) cI (upd mk y (gpM qy lp ex tk su y)) (nI mK) mS)) (W' := (wG ad cI cL qy lp sp pr ex (nI c) dy tk (upd mk y (gpM qy lp ex tk su y)) (nI mK) mS ((dw su (gpG qy lp ex tk y) y).1) (nI uK) uS sh mu co sr du bi bb)) (As := [.int (nI y), .int (gpM qy lp ex tk su y)]) (rest := []) ⟨hx, hb, hml, hown, hts⟩ (c_X0_put l D H.size (ad 5) (ad 13) cI cL mk (nI mK) mS y (gpM qy lp ex tk su y) hy) (cwV 2 hts gX1_settleGap_X0_put rfl rfl rfl (by decide +kernel) ⟨(Nat.le_of_ble_eq_true rfl), (Nat.le_of_ble_eq_true rfl)⟩) hS hA hK hP hD [0, 1] rfl [5, 13] [0, 1, 2, 3, 4, 6, 7, 8, 9, 10, 11, 12, 14] [0, 1, 2, 3, 4, 13, 5, 6, 7, 8, 9, 10, 11, 14, 12] rfl (by decide) rfl (by decide) (by decide) rfl (by decide) 0 0 rfl rfl rfl rfl hl.1 rfl (Nat.le_of_ble_eq_true rfl) dX1_settleGap_32 ⟨(Nat.le_of_ble_eq_true rfl), (Nat.le_of_ble_eq_true rfl)⟩ (fun H locs _ hP hD hS => ?_)
  refine lv_aload_n hx hb dX1_settleGap_35 rfl (lv_at hl 3 rfl) ?_
  refine va_get (D := D) (ci := 1) (C := RX1) (T := TX1) (N := 17) hx hb hts inX1_settleGap_X1 hown hK hP 0 rfl rfl 12 (by decide) (hts _ hX1_settleGap__fieldLink_RX1_57_MakeupGas_coveredPerYear_I_) (fun _ h9 => h9) rfl dX1_settleGap_36 ?_
  refine lv_iload_n hx hb dX1_settleGap_39 rfl (lv_at hl 4 rfl) ?_
  refine lv_iload_n hx hb dX1_settleGap_40 rfl (lv_at hl 1 rfl) ?_
  refine ga_iast (j := y) (ws' := (wG ad cI cL qy lp sp pr ex (nI c) dy tk (upd mk y (gpM qy lp ex tk su y)) (nI mK) mS ((dw su (gpG qy lp ex tk y) y).1) (nI uK) uS sh mu (upd co y (gpC qy lp ex tk su y)) sr du bi bb)) hx hb hK hP hD hS 9 0 rfl rfl hy (by decide) dX1_settleGap_41 rfl (fun H locs hP hD hS => ?_)
  refine lv_aload_n hx hb dX1_settleGap_42 rfl (lv_at hl 3 rfl) ?_
  refine va_get (D := D) (ci := 1) (C := RX1) (T := TX1) (N := 17) hx hb hts inX1_settleGap_X1 hown hK hP 0 rfl rfl 10 (by decide) (hts _ hX1_settleGap__fieldLink_RX1_51_MakeupGas_shortfallPerYear_I_) (fun _ h9 => h9) rfl dX1_settleGap_43 ?_
  refine lv_iload_n hx hb dX1_settleGap_46 rfl (lv_at hl 4 rfl) ?_
  refine lv_iload hx hb dX1_settleGap_47 (lv_at hl 0 rfl) ?_
  refine ga_iast (j := y) (ws' := (wG ad cI cL qy lp sp pr ex (nI c) dy tk (upd mk y (gpM qy lp ex tk su y)) (nI mK) mS ((dw su (gpG qy lp ex tk y) y).1) (nI uK) uS (upd sh y (gpM qy lp ex tk su y)) mu (upd co y (gpC qy lp ex tk su y)) sr du bi bb)) hx hb hK hP hD hS 7 0 rfl rfl hy (by decide) dX1_settleGap_49 rfl (fun H locs hP hD hS => ?_)
  refine lv_aload_n hx hb dX1_settleGap_50 rfl (lv_at hl 3 rfl) ?_
  refine va_get (D := D) (ci := 1) (C := RX1) (T := TX1) (N := 17) hx hb hts inX1_settleGap_X1 hown hK hP 0 rfl rfl 11 (by decide) (hts _ hX1_settleGap__fieldLink_RX1_54_MakeupGas_madeUpPerYear_I_) (fun _ h9 => h9) rfl dX1_settleGap_51 ?_
  refine lv_iload_n hx hb dX1_settleGap_54 rfl (lv_at hl 4 rfl) ?_
  refine lv_iconst (v := 0) hx hb dX1_settleGap_55 (by decide) ?_
  refine ga_iast (j := y) (ws' := (wG ad cI cL qy lp sp pr ex (nI c) dy tk (upd mk y (gpM qy lp ex tk su y)) (nI mK) mS ((dw su (gpG qy lp ex tk y) y).1) (nI uK) uS (upd sh y (gpM qy lp ex tk su y)) (upd mu y 0) (upd co y (gpC qy lp ex tk su y)) sr du bi bb)) hx hb hK hP hD hS 8 0 rfl rfl hy (by decide) dX1_settleGap_56 rfl (fun H locs hP hD hS => ?_)
  refine lv_aload_n hx hb dX1_settleGap_57 rfl (lv_at hl 3 rfl) ?_
  refine va_get (D := D) (ci := 1) (C := RX1) (T := TX1) (N := 17) hx hb hts inX1_settleGap_X1 hown hK hP 0 rfl rfl 13 (by decide) (hts _ hX1_settleGap__fieldLink_RX1_60_MakeupGas_surplusPerYear_I_) (fun _ h9 => h9) rfl dX1_settleGap_58 ?_
  refine lv_iload_n hx hb dX1_settleGap_61 rfl (lv_at hl 4 rfl) ?_
  refine lv_iconst (v := 0) hx hb dX1_settleGap_62 (by decide) ?_
  refine ga_iast (j := y) (ws' := (wG ad cI cL qy lp sp pr ex (nI c) dy tk (upd mk y (gpM qy lp ex tk su y)) (nI mK) mS ((dw su (gpG qy lp ex tk y) y).1) (nI uK) uS (upd sh y (gpM qy lp ex tk su y)) (upd mu y 0) (upd co y (gpC qy lp ex tk su y)) (upd sr y 0) du bi bb)) hx hb hK hP hD hS 10 0 rfl rfl hy (by decide) dX1_settleGap_63 rfl (fun H locs hP hD hS => ?_)
  refine lv_aload_n hx hb dX1_settleGap_64 rfl (lv_at hl 3 rfl) ?_
  refine va_get (D := D) (ci := 1) (C := RX1) (T := TX1) (N := 17) hx hb hts inX1_settleGap_X1 hown hK hP 0 rfl rfl 14 (by decide) (hts _ hX1_settleGap__fieldLink_RX1_63_MakeupGas_duePerYear_J_) (fun _ h9 => h9) rfl dX1_settleGap_65 ?_
  refine lv_iload_n hx hb dX1_settleGap_68 rfl (lv_at hl 4 rfl) ?_
  refine lv_aload_n hx hb dX1_settleGap_69 rfl (lv_at hl 3 rfl) ?_
  refine va_get (D := D) (ci := 1) (C := RX1) (T := TX1) (N := 17) hx hb hts inX1_settleGap_X1 hown hK hP 0 rfl rfl 7 (by decide) (hts _ hX1_settleGap__fieldLink_RX1_36_MakeupGas_takenPerYear_I_) (fun _ h9 => h9) rfl dX1_settleGap_70 ?_
  refine lv_iload_n hx hb dX1_settleGap_73 rfl (lv_at hl 4 rfl) ?_
  refine ga_iald (j := y) hx hb hK hP 4 0 rfl rfl hy (by decide) dX1_settleGap_74 ?_
  refine lv_i2l hx hb dX1_settleGap_75 rfl ?_
  refine lv_aload_n hx hb dX1_settleGap_76 rfl (lv_at hl 3 rfl) ?_
  refine va_get (D := D) (ci := 1) (C := RX1) (T := TX1) (N := 17) hx hb hts inX1_settleGap_X1 hown hK hP 0 rfl rfl 3 (by decide) (hts _ hX1_settleGap__fieldLink_RX1_20_MakeupGas_pricePerYear_I_) (fun _ h9 => h9) rfl dX1_settleGap_77 ?_
  refine lv_iload_n hx hb dX1_settleGap_80 rfl (lv_at hl 4 rfl) ?_
  refine ga_iald (j := y) hx hb hK hP 1 0 rfl rfl hy (by decide) dX1_settleGap_81 ?_
  refine lv_i2l hx hb dX1_settleGap_82 rfl ?_
  refine lv_lmul hx hb dX1_settleGap_83 ?_
  refine lv_iload hx hb dX1_settleGap_84 (lv_at hl 0 rfl) ?_
  refine lv_i2l hx hb dX1_settleGap_86 rfl ?_
  refine lv_aload_n hx hb dX1_settleGap_87 rfl (lv_at hl 3 rfl) ?_
  refine lv_iload_n hx hb dX1_settleGap_88 rfl (lv_at hl 4 rfl) ?_
  refine gV_i (wc := (wG ad cI cL qy lp sp pr ex (nI c) dy tk (upd mk y (gpM qy lp ex tk su y)) (nI mK) mS ((dw su (gpG qy lp ex tk y) y).1) (nI uK) uS (upd sh y (gpM qy lp ex tk su y)) (upd mu y 0) (upd co y (gpC qy lp ex tk su y)) (upd sr y 0) du bi bb)) (wr := []) (w1 := (wG ad cI cL qy lp sp pr ex (nI c) dy tk (upd mk y (gpM qy lp ex tk su y)) (nI mK) mS ((dw su (gpG qy lp ex tk y) y).1) (nI uK) uS (upd sh y (gpM qy lp ex tk su y)) (upd mu y 0) (upd co y (gpC qy lp ex tk su y)) (upd sr y 0) du bi bb)) (W' := (wG ad cI cL qy lp sp pr ex (nI c) dy tk (upd mk y (gpM qy lp ex tk su y)) (nI mK) mS ((dw su (gpG qy lp ex tk y) y).1) (nI uK) uS (upd sh y (gpM qy lp ex tk su y)) (upd mu y 0) (upd co y (gpC qy lp ex tk su y)) (upd sr y 0) du bi bb)) (As := [.int (nI y)]) (rest := [.long ((gpM qy lp ex tk su y).toInt64), .long (((tk y).toInt64) * ((pr y).toInt64)), .int (nI y), .ref (ad 11)]) ⟨hx, hb, hml, hown, hts⟩ (c_X1_shortfallPrice l D H.size ad cI cL qy lp sp pr ex c dy tk (upd mk y (gpM qy lp ex tk su y)) mK mS ((dw su (gpG qy lp ex tk y) y).1) uK uS (upd sh y (gpM qy lp ex tk su y)) (upd mu y 0) (upd co y (gpC qy lp ex tk su y)) (upd sr y 0) du bi bb y hy) (cwV 1 hts gX1_settleGap_X1_shortfallPrice rfl rfl rfl (by decide +kernel) ⟨(Nat.le_of_ble_eq_true rfl), (Nat.le_of_ble_eq_true rfl)⟩) hS hA hK hP hD [0, 1] rfl [0, 1, 2, 3, 4, 5, 6, 7, 8, 9, 10, 11, 12, 13, 14] [] [0, 1, 2, 3, 4, 5, 6, 7, 8, 9, 10, 11, 12, 13, 14] rfl (by decide) rfl (by decide) (by decide) rfl (by decide) 0 1 rfl rfl rfl rfl hl.1 rfl (Nat.le_of_ble_eq_true rfl) dX1_settleGap_89 ⟨(Nat.le_of_ble_eq_true rfl), (Nat.le_of_ble_eq_true rfl)⟩ (fun H locs _ hP hD hS => ?_)
  refine lv_i2l hx hb dX1_settleGap_92 rfl ?_
  refine lv_lmul hx hb dX1_settleGap_93 ?_
  refine lv_ladd hx hb dX1_settleGap_94 ?_
  refine ga_last (j := y) (ws' := (wG ad cI cL qy lp sp pr ex (nI c) dy tk (upd mk y (gpM qy lp ex tk su y)) (nI mK) mS ((dw su (gpG qy lp ex tk y) y).1) (nI uK) uS (upd sh y (gpM qy lp ex tk su y)) (upd mu y 0) (upd co y (gpC qy lp ex tk su y)) (upd sr y 0) (vp_updL du y (gpD qy lp sp pr ex tk su y)) bi bb)) hx hb hK hP hD hS 11 1 rfl rfl hy (by decide) dX1_settleGap_95 rfl (fun H locs hP hD hS => ?_)
  exact ge_v hx hb hr hlocks hK hP hD hS trivial (Nat.le_of_ble_eq_true rfl) (Nat.le_of_ble_eq_true rfl) dX1_settleGap_96
theorem inX1_settleEnough_X1 : ∀ q ∈ wsX10, q ∈ wsX1_settleEnough := by decide +kernel
theorem hX1_settleEnough__fieldLink_RX1_36_MakeupGas_takenPerYear_I_ : Cond.fieldLink RX1 36 "MakeupGas" "takenPerYear" "[I" ∈ wsX1_settleEnough := by decide +kernel
theorem hX1_settleEnough__fieldLink_RX1_10_MakeupGas_yearlyQuantity_I_ : Cond.fieldLink RX1 10 "MakeupGas" "yearlyQuantity" "I" ∈ wsX1_settleEnough := by decide +kernel
theorem hX1_settleEnough__methodLink_RX1_173_Lib_Math_max_name : Cond.methodLink RX1 173 Lib.Math.max.name ∈ wsX1_settleEnough := by decide +kernel
theorem hX1_settleEnough__static_Lib_Math_max_name : Cond.static Lib.Math.max.name ∈ wsX1_settleEnough := by decide +kernel
theorem hX1_settleEnough__initialized_java_lang_Math_ : Cond.initialized "java/lang/Math" ∈ wsX1_settleEnough := by decide +kernel
theorem hX1_settleEnough__code_Lib_Math_max_name_Lib_Math_max_code_2_some_int_ : Cond.code Lib.Math.max.name Lib.Math.max.code 2 (some .int) ∈ wsX1_settleEnough := by decide +kernel
theorem hX1_settleEnough__fieldLink_RX1_48_MakeupGas_surplusStock_LMakeupGas_Stock_ : Cond.fieldLink RX1 48 "MakeupGas" "surplusStock" "LMakeupGas$Stock;" ∈ wsX1_settleEnough := by decide +kernel
theorem hX1_settleEnough__fieldLink_RX1_57_MakeupGas_coveredPerYear_I_ : Cond.fieldLink RX1 57 "MakeupGas" "coveredPerYear" "[I" ∈ wsX1_settleEnough := by decide +kernel
theorem hX1_settleEnough__fieldLink_RX1_51_MakeupGas_shortfallPerYear_I_ : Cond.fieldLink RX1 51 "MakeupGas" "shortfallPerYear" "[I" ∈ wsX1_settleEnough := by decide +kernel
theorem hX1_settleEnough__fieldLink_RX1_54_MakeupGas_madeUpPerYear_I_ : Cond.fieldLink RX1 54 "MakeupGas" "madeUpPerYear" "[I" ∈ wsX1_settleEnough := by decide +kernel
theorem hX1_settleEnough__fieldLink_RX1_60_MakeupGas_surplusPerYear_I_ : Cond.fieldLink RX1 60 "MakeupGas" "surplusPerYear" "[I" ∈ wsX1_settleEnough := by decide +kernel
theorem hX1_settleEnough__fieldLink_RX1_63_MakeupGas_duePerYear_J_ : Cond.fieldLink RX1 63 "MakeupGas" "duePerYear" "[J" ∈ wsX1_settleEnough := by decide +kernel
theorem hX1_settleEnough__fieldLink_RX1_20_MakeupGas_pricePerYear_I_ : Cond.fieldLink RX1 20 "MakeupGas" "pricePerYear" "[I" ∈ wsX1_settleEnough := by decide +kernel
theorem hX1_settleEnough__fieldLink_RX1_44_MakeupGas_makeUpStock_LMakeupGas_Stock_ : Cond.fieldLink RX1 44 "MakeupGas" "makeUpStock" "LMakeupGas$Stock;" ∈ wsX1_settleEnough := by decide +kernel
set_option maxHeartbeats 4000000 in
set_option maxRecDepth 100000 in
theorem c_X1_settleEnough (l : Launch) (D : va_G) (sz : Nat) (ad : Nat → Nat) (cI cL : ClassId) (qy lp sp : Int32) (pr ex : Nat → Int32) (c : Nat) (dy tk mk : Nat → Int32) (mK : Nat) (mS : Int32) (su : Nat → Int32) (uK : Nat) (uS : Int32) (sh mu co sr : Nat → Int32) (du bi : Nat → Int64) (bb : Int64) (y : Nat) (hy : y < 20) : gCv l yX1_settleEnough wsX1_settleEnough ({ frames := 2, cells := 0, slots := 0, locals := 44 } : Room) D [(cI, .int), (cL, .long)] [.ref (ad 0), .int (nI y)] (wG ad cI cL qy lp sp pr ex (nI c) dy tk mk (nI mK) mS su (nI uK) uS sh mu co sr du bi bb) (wG ad cI cL qy lp sp pr ex (nI c) dy tk ((dw mk (enA qy lp ex tk y) y).1) (nI mK) mS (upd su y (enS qy lp ex tk mk y)) (nI uK) uS (upd sh y 0) (upd mu y (enM qy lp ex tk mk y)) (upd co y 0) (upd sr y (enS qy lp ex tk mk y)) (vp_updL du y (enD qy lp sp pr ex tk mk y)) bi bb) True 0 0 sz := by
  refine gm_v (cc := cX1_settleEnough) (maxL := 8) (by decide) rfl (Nat.le_of_ble_eq_true rfl) ?_
  intro pg en s m args below meth cd A ls hx hb hr hml hown hts hlocks hin hA hK hP hD hl
  have hl : lv_has ls 8 [(0, .ref (ad 0)), (1, .int (nI y))] := hl
  have hS : va_S A s.heap s.heap [] := va_S.rf
  refine lv_aload_n hx hb dX1_settleEnough_0 rfl (lv_at hl 0 rfl) ?_
  refine va_get (D := D) (ci := 1) (C := RX1) (T := TX1) (N := 17) hx hb hts inX1_settleEnough_X1 hown hK hP 0 rfl rfl 7 (by decide) (hts _ hX1_settleEnough__fieldLink_RX1_36_MakeupGas_takenPerYear_I_) (fun _ h9 => h9) rfl dX1_settleEnough_1 ?_
  refine lv_iload_n hx hb dX1_settleEnough_4 rfl (lv_at hl 1 rfl) ?_
  refine ga_iald (j := y) hx hb hK hP 4 0 rfl rfl hy (by decide) dX1_settleEnough_5 ?_
  refine lv_aload_n hx hb dX1_settleEnough_6 rfl (lv_at hl 0 rfl) ?_
  refine lv_iload_n hx hb dX1_settleEnough_7 rfl (lv_at hl 1 rfl) ?_
  refine gV_i (wc := (wG ad cI cL qy lp sp pr ex (nI c) dy tk mk (nI mK) mS su (nI uK) uS sh mu co sr du bi bb)) (wr := []) (w1 := (wG ad cI cL qy lp sp pr ex (nI c) dy tk mk (nI mK) mS su (nI uK) uS sh mu co sr du bi bb)) (W' := (wG ad cI cL qy lp sp pr ex (nI c) dy tk mk (nI mK) mS su (nI uK) uS sh mu co sr du bi bb)) (As := [.int (nI y)]) (rest := [.int (tk y)]) ⟨hx, hb, hml, hown, hts⟩ (c_X1_leastQuantity l D s.heap.size ad cI cL qy lp sp pr ex c dy tk mk mK mS su uK uS sh mu co sr du bi bb y hy) (cwV 1 hts gX1_settleEnough_X1_leastQuantity rfl rfl rfl (by decide +kernel) ⟨(Nat.le_of_ble_eq_true rfl), (Nat.le_of_ble_eq_true rfl)⟩) hS hA hK hP hD [0, 1] rfl [0, 1, 2, 3, 4, 5, 6, 7, 8, 9, 10, 11, 12, 13, 14] [] [0, 1, 2, 3, 4, 5, 6, 7, 8, 9, 10, 11, 12, 13, 14] rfl (by decide) rfl (by decide) (by decide) rfl (by decide) 0 1 rfl rfl rfl rfl hl.1 rfl (Nat.le_of_ble_eq_true rfl) dX1_settleEnough_8 ⟨(Nat.le_of_ble_eq_true rfl), (Nat.le_of_ble_eq_true rfl)⟩ (fun H locs _ hP hD hS => ?_)
  refine lv_isub hx hb dX1_settleEnough_11 ?_
  refine lv_istore_n (lv' := [(2, .int (enA qy lp ex tk y)), (0, .ref (ad 0)), (1, .int (nI y))]) hx hb dX1_settleEnough_12 rfl hl (by decide) rfl (fun ls hl => ?_)
  refine lv_iconst (v := 0) hx hb dX1_settleEnough_13 (by decide) ?_
  refine lv_istore_n (lv' := [(3, .int 0), (2, .int (enA qy lp ex tk y)), (0, .ref (ad 0)), (1, .int (nI y))]) hx hb dX1_settleEnough_14 rfl hl (by decide) rfl (fun ls hl => ?_)
  refine lv_lconst (v := 0) hx hb dX1_settleEnough_15 (by decide) ?_
  refine lv_lstore (lv' := [(4, .long 0), (3, .int 0), (2, .int (enA qy lp ex tk y)), (0, .ref (ad 0)), (1, .int (nI y))]) hx hb dX1_settleEnough_16 hl (by decide) rfl (fun ls hl => ?_)
  refine lv_iconst (v := 0) hx hb dX1_settleEnough_18 (by decide) ?_
  refine lv_istore (lv' := [(6, .int 0), (4, .long 0), (3, .int 0), (2, .int (enA qy lp ex tk y)), (0, .ref (ad 0)), (1, .int (nI y))]) hx hb dX1_settleEnough_19 hl (by decide) rfl (fun ls hl => ?_)
  have lp_21 : ∀ (n i : Nat), i ≤ y → y < i + n → ∀ (H : Heap) (locs : List Loc), va_P D vwCl (wG ad cI cL qy lp sp pr ex (nI c) dy tk ((dw mk (enA qy lp ex tk y) i).1) (nI mK) mS su (nI uK) uS sh mu co sr du bi bb) H → va_D A (wG ad cI cL qy lp sp pr ex (nI c) dy tk ((dw mk (enA qy lp ex tk y) i).1) (nI mK) mS su (nI uK) uS sh mu co sr du bi bb) → va_S A s.heap H locs → ∀ (ls : Array Slot), lv_has ls 8 [(0, .ref (ad 0)), (1, .int (nI y)), (2, .int (enA qy lp ex tk y)), (3, .int ((dw mk (enA qy lp ex tk y) i).2)), (4, .long (dwa mk (enA qy lp ex tk y) pr sp y i)), (6, .int (nI i))] → W pg l en ({ frames := 2, cells := 0, slots := 0, locals := 44 } : Room) s m args below meth cd H locs 0 0 (gEv True below D [(cI, .int), (cL, .long)] (wG ad cI cL qy lp sp pr ex (nI c) dy tk ((dw mk (enA qy lp ex tk y) y).1) (nI mK) mS (upd su y (enS qy lp ex tk mk y)) (nI uK) uS (upd sh y 0) (upd mu y (enM qy lp ex tk mk y)) (upd co y 0) (upd sr y (enS qy lp ex tk mk y)) (vp_updL du y (enD qy lp sp pr ex tk mk y)) bi bb) A args s 0 0) (F0 m 21 ls []) := by
    intro n
    induction n with
    | zero => intro i h1 h2; exact absurd h2 (by omega)
    | succ n ih =>
      intro i hi hin2  H locs hP hD hS ls hl
      refine lv_iload hx hb dX1_settleEnough_21 (lv_at hl 5 rfl) ?_
      refine lv_iload_n hx hb dX1_settleEnough_23 rfl (lv_at hl 1 rfl) ?_
      refine lv_icmp_ge (tgt := 79) hx hb dX1_settleEnough_24 (by decide) (fun c1 => ?_) (fun c1 => ?_)
      · obtain rfl : i = y := Nat.le_antisymm hi (Nat.not_lt.mp fun h => absurd c1 (nI_ge h (by omega)))
        refine lv_aload_n hx hb dX1_settleEnough_79 rfl (lv_at hl 0 rfl) ?_
        refine va_get (D := D) (ci := 1) (C := RX1) (T := TX1) (N := 17) hx hb hts inX1_settleEnough_X1 hown hK hP 0 rfl rfl 7 (by decide) (hts _ hX1_settleEnough__fieldLink_RX1_36_MakeupGas_takenPerYear_I_) (fun _ h9 => h9) rfl dX1_settleEnough_80 ?_
        refine lv_iload_n hx hb dX1_settleEnough_83 rfl (lv_at hl 1 rfl) ?_
        refine ga_iald (j := i) hx hb hK hP 4 0 rfl rfl hy (by decide) dX1_settleEnough_84 ?_
        refine lv_iload_n hx hb dX1_settleEnough_85 rfl (lv_at hl 3 rfl) ?_
        refine lv_isub hx hb dX1_settleEnough_86 ?_
        refine lv_istore (lv' := [(6, .int (enO qy lp ex tk mk i)), (0, .ref (ad 0)), (1, .int (nI i)), (2, .int (enA qy lp ex tk i)), (3, .int ((dw mk (enA qy lp ex tk i) i).2)), (4, .long (dwa mk (enA qy lp ex tk i) pr sp i i))]) hx hb dX1_settleEnough_87 hl (by decide) rfl (fun ls hl => ?_)
        refine lv_iconst (v := 0) hx hb dX1_settleEnough_89 (by decide) ?_
        refine lv_iload hx hb dX1_settleEnough_90 (lv_at hl 0 rfl) ?_
        refine lv_aload_n hx hb dX1_settleEnough_92 rfl (lv_at hl 1 rfl) ?_
        refine va_get (D := D) (ci := 1) (C := RX1) (T := TX1) (N := 17) hx hb hts inX1_settleEnough_X1 hown hK hP 0 rfl rfl 0 (by decide) (hts _ hX1_settleEnough__fieldLink_RX1_10_MakeupGas_yearlyQuantity_I_) (fun _ h9 => h9) rfl dX1_settleEnough_93 ?_
        refine lv_isub hx hb dX1_settleEnough_96 ?_
        refine va_mmax hx hb (by rw [hml]; exact hl.1.symm) hown (hts _ hX1_settleEnough__methodLink_RX1_173_Lib_Math_max_name) (hts _ hX1_settleEnough__static_Lib_Math_max_name) (hts _ hX1_settleEnough__initialized_java_lang_Math_) (hts _ hX1_settleEnough__code_Lib_Math_max_name_Lib_Math_max_code_2_some_int_) (Nat.le_of_ble_eq_true rfl) (Nat.le_of_ble_eq_true rfl) (Nat.le_of_ble_eq_true rfl) (Nat.le_of_ble_eq_true rfl) dX1_settleEnough_97 ?_
        refine lv_istore (lv' := [(7, .int (enS qy lp ex tk mk i)), (6, .int (enO qy lp ex tk mk i)), (0, .ref (ad 0)), (1, .int (nI i)), (2, .int (enA qy lp ex tk i)), (3, .int ((dw mk (enA qy lp ex tk i) i).2)), (4, .long (dwa mk (enA qy lp ex tk i) pr sp i i))]) hx hb dX1_settleEnough_100 hl (by decide) rfl (fun ls hl => ?_)
        refine lv_aload_n hx hb dX1_settleEnough_102 rfl (lv_at hl 2 rfl) ?_
        refine va_get (D := D) (ci := 1) (C := RX1) (T := TX1) (N := 17) hx hb hts inX1_settleEnough_X1 hown hK hP 0 rfl rfl 9 (by decide) (hts _ hX1_settleEnough__fieldLink_RX1_48_MakeupGas_surplusStock_LMakeupGas_Stock_) (fun _ h9 => h9) rfl dX1_settleEnough_103 ?_
        refine lv_iload_n hx hb dX1_settleEnough_106 rfl (lv_at hl 3 rfl) ?_
        refine lv_iload hx hb dX1_settleEnough_107 (lv_at hl 0 rfl) ?_
        refine gV_v (wc := (wK (ad 6) (ad 14) cI su (nI uK) uS)) (wr := [(ad 0, .inr (1, [.int qy, .int lp, .int sp, .ref (ad 1), .ref (ad 2), .int (nI c), .ref (ad 3), .ref (ad 4), .ref (ad 5), .ref (ad 6), .ref (ad 7), .ref (ad 8), .ref (ad 9), .ref (ad 10), .ref (ad 11), .ref (ad 12), .long bb])), (ad 1, .inl (cI, 20, .inl pr)), (ad 2, .inl (cI, 20, .inl ex)), (ad 3, .inl (cI, 360, .inl dy)), (ad 4, .inl (cI, 20, .inl tk)), (ad 5, .inr (0, [.ref (ad 13), .int (nI mK), .int mS])), (ad 7, .inl (cI, 20, .inl sh)), (ad 8, .inl (cI, 20, .inl mu)), (ad 9, .inl (cI, 20, .inl co)), (ad 10, .inl (cI, 20, .inl sr)), (ad 11, .inl (cL, 20, .inr (.inl du))), (ad 12, .inl (cL, 20, .inr (.inl bi))), (ad 13, .inl (cI, 20, .inl ((dw mk (enA qy lp ex tk i) i).1)))]) (w1 := (wK (ad 6) (ad 14) cI (upd su i (enS qy lp ex tk mk i)) (nI uK) uS)) (W' := (wG ad cI cL qy lp sp pr ex (nI c) dy tk ((dw mk (enA qy lp ex tk i) i).1) (nI mK) mS (upd su i (enS qy lp ex tk mk i)) (nI uK) uS sh mu co sr du bi bb)) (As := [.int (nI i), .int (enS qy lp ex tk mk i)]) (rest := []) ⟨hx, hb, hml, hown, hts⟩ (c_X0_put l D H.size (ad 6) (ad 14) cI cL su (nI uK) uS i (enS qy lp ex tk mk i) hy) (cwV 2 hts gX1_settleEnough_X0_put rfl rfl rfl (by decide +kernel) ⟨(Nat.le_of_ble_eq_true rfl), (Nat.le_of_ble_eq_true rfl)⟩) hS hA hK hP hD [0, 1] rfl [6, 14] [0, 1, 2, 3, 4, 5, 7, 8, 9, 10, 11, 12, 13] [0, 1, 2, 3, 4, 5, 13, 6, 7, 8, 9, 10, 11, 12, 14] rfl (by decide) rfl (by decide) (by decide) rfl (by decide) 0 0 rfl rfl rfl rfl hl.1 rfl (Nat.le_of_ble_eq_true rfl) dX1_settleEnough_109 ⟨(Nat.le_of_ble_eq_true rfl), (Nat.le_of_ble_eq_true rfl)⟩ (fun H locs _ hP hD hS => ?_)
        refine lv_aload_n hx hb dX1_settleEnough_112 rfl (lv_at hl 2 rfl) ?_
        refine va_get (D := D) (ci := 1) (C := RX1) (T := TX1) (N := 17) hx hb hts inX1_settleEnough_X1 hown hK hP 0 rfl rfl 12 (by decide) (hts _ hX1_settleEnough__fieldLink_RX1_57_MakeupGas_coveredPerYear_I_) (fun _ h9 => h9) rfl dX1_settleEnough_113 ?_
        refine lv_iload_n hx hb dX1_settleEnough_116 rfl (lv_at hl 3 rfl) ?_
        refine lv_iconst (v := 0) hx hb dX1_settleEnough_117 (by decide) ?_
        refine ga_iast (j := i) (ws' := (wG ad cI cL qy lp sp pr ex (nI c) dy tk ((dw mk (enA qy lp ex tk i) i).1) (nI mK) mS (upd su i (enS qy lp ex tk mk i)) (nI uK) uS sh mu (upd co i 0) sr du bi bb)) hx hb hK hP hD hS 9 0 rfl rfl hy (by decide) dX1_settleEnough_118 rfl (fun H locs hP hD hS => ?_)
        refine lv_aload_n hx hb dX1_settleEnough_119 rfl (lv_at hl 2 rfl) ?_
        refine va_get (D := D) (ci := 1) (C := RX1) (T := TX1) (N := 17) hx hb hts inX1_settleEnough_X1 hown hK hP 0 rfl rfl 10 (by decide) (hts _ hX1_settleEnough__fieldLink_RX1_51_MakeupGas_shortfallPerYear_I_) (fun _ h9 => h9) rfl dX1_settleEnough_120 ?_
        refine lv_iload_n hx hb dX1_settleEnough_123 rfl (lv_at hl 3 rfl) ?_
        refine lv_iconst (v := 0) hx hb dX1_settleEnough_124 (by decide) ?_
        refine ga_iast (j := i) (ws' := (wG ad cI cL qy lp sp pr ex (nI c) dy tk ((dw mk (enA qy lp ex tk i) i).1) (nI mK) mS (upd su i (enS qy lp ex tk mk i)) (nI uK) uS (upd sh i 0) mu (upd co i 0) sr du bi bb)) hx hb hK hP hD hS 7 0 rfl rfl hy (by decide) dX1_settleEnough_125 rfl (fun H locs hP hD hS => ?_)
        refine lv_aload_n hx hb dX1_settleEnough_126 rfl (lv_at hl 2 rfl) ?_
        refine va_get (D := D) (ci := 1) (C := RX1) (T := TX1) (N := 17) hx hb hts inX1_settleEnough_X1 hown hK hP 0 rfl rfl 11 (by decide) (hts _ hX1_settleEnough__fieldLink_RX1_54_MakeupGas_madeUpPerYear_I_) (fun _ h9 => h9) rfl dX1_settleEnough_127 ?_
        refine lv_iload_n hx hb dX1_settleEnough_130 rfl (lv_at hl 3 rfl) ?_
        refine lv_iload_n hx hb dX1_settleEnough_131 rfl (lv_at hl 5 rfl) ?_
        refine ga_iast (j := i) (ws' := (wG ad cI cL qy lp sp pr ex (nI c) dy tk ((dw mk (enA qy lp ex tk i) i).1) (nI mK) mS (upd su i (enS qy lp ex tk mk i)) (nI uK) uS (upd sh i 0) (upd mu i ((dw mk (enA qy lp ex tk i) i).2)) (upd co i 0) sr du bi bb)) hx hb hK hP hD hS 8 0 rfl rfl hy (by decide) dX1_settleEnough_132 rfl (fun H locs hP hD hS => ?_)
        refine lv_aload_n hx hb dX1_settleEnough_133 rfl (lv_at hl 2 rfl) ?_
        refine va_get (D := D) (ci := 1) (C := RX1) (T := TX1) (N := 17) hx hb hts inX1_settleEnough_X1 hown hK hP 0 rfl rfl 13 (by decide) (hts _ hX1_settleEnough__fieldLink_RX1_60_MakeupGas_surplusPerYear_I_) (fun _ h9 => h9) rfl dX1_settleEnough_134 ?_
        refine lv_iload_n hx hb dX1_settleEnough_137 rfl (lv_at hl 3 rfl) ?_
        refine lv_iload hx hb dX1_settleEnough_138 (lv_at hl 0 rfl) ?_
        refine ga_iast (j := i) (ws' := (wG ad cI cL qy lp sp pr ex (nI c) dy tk ((dw mk (enA qy lp ex tk i) i).1) (nI mK) mS (upd su i (enS qy lp ex tk mk i)) (nI uK) uS (upd sh i 0) (upd mu i ((dw mk (enA qy lp ex tk i) i).2)) (upd co i 0) (upd sr i (enS qy lp ex tk mk i)) du bi bb)) hx hb hK hP hD hS 10 0 rfl rfl hy (by decide) dX1_settleEnough_140 rfl (fun H locs hP hD hS => ?_)
        refine lv_aload_n hx hb dX1_settleEnough_141 rfl (lv_at hl 2 rfl) ?_
        refine va_get (D := D) (ci := 1) (C := RX1) (T := TX1) (N := 17) hx hb hts inX1_settleEnough_X1 hown hK hP 0 rfl rfl 14 (by decide) (hts _ hX1_settleEnough__fieldLink_RX1_63_MakeupGas_duePerYear_J_) (fun _ h9 => h9) rfl dX1_settleEnough_142 ?_
        refine lv_iload_n hx hb dX1_settleEnough_145 rfl (lv_at hl 3 rfl) ?_
        refine lv_iload hx hb dX1_settleEnough_146 (lv_at hl 1 rfl) ?_
        refine lv_i2l hx hb dX1_settleEnough_148 rfl ?_
        refine lv_aload_n hx hb dX1_settleEnough_149 rfl (lv_at hl 2 rfl) ?_
        refine va_get (D := D) (ci := 1) (C := RX1) (T := TX1) (N := 17) hx hb hts inX1_settleEnough_X1 hown hK hP 0 rfl rfl 3 (by decide) (hts _ hX1_settleEnough__fieldLink_RX1_20_MakeupGas_pricePerYear_I_) (fun _ h9 => h9) rfl dX1_settleEnough_150 ?_
        refine lv_iload_n hx hb dX1_settleEnough_153 rfl (lv_at hl 3 rfl) ?_
        refine ga_iald (j := i) hx hb hK hP 1 0 rfl rfl hy (by decide) dX1_settleEnough_154 ?_
        refine lv_i2l hx hb dX1_settleEnough_155 rfl ?_
        refine lv_lmul hx hb dX1_settleEnough_156 ?_
        refine lv_lload hx hb dX1_settleEnough_157 (lv_at hl 6 rfl) ?_
        refine lv_ladd hx hb dX1_settleEnough_159 ?_
        refine ga_last (j := i) (ws' := (wG ad cI cL qy lp sp pr ex (nI c) dy tk ((dw mk (enA qy lp ex tk i) i).1) (nI mK) mS (upd su i (enS qy lp ex tk mk i)) (nI uK) uS (upd sh i 0) (upd mu i ((dw mk (enA qy lp ex tk i) i).2)) (upd co i 0) (upd sr i (enS qy lp ex tk mk i)) (vp_updL du i (enD qy lp sp pr ex tk mk i)) bi bb)) hx hb hK hP hD hS 11 1 rfl rfl hy (by decide) dX1_settleEnough_160 rfl (fun H locs hP hD hS => ?_)
        exact ge_v hx hb hr hlocks hK hP hD hS trivial (Nat.le_of_ble_eq_true rfl) (Nat.le_of_ble_eq_true rfl) dX1_settleEnough_161
      · have hiy : i < y := Nat.not_le.mp (fun h => c1 (nI_le h (by omega)))
        have hi3 : i < 20 := by omega
        refine lv_aload_n hx hb dX1_settleEnough_27 rfl (lv_at hl 0 rfl) ?_
        refine va_get (D := D) (ci := 1) (C := RX1) (T := TX1) (N := 17) hx hb hts inX1_settleEnough_X1 hown hK hP 0 rfl rfl 8 (by decide) (hts _ hX1_settleEnough__fieldLink_RX1_44_MakeupGas_makeUpStock_LMakeupGas_Stock_) (fun _ h9 => h9) rfl dX1_settleEnough_28 ?_
        refine lv_iload hx hb dX1_settleEnough_31 (lv_at hl 5 rfl) ?_
        refine lv_iload_n hx hb dX1_settleEnough_33 rfl (lv_at hl 2 rfl) ?_
        refine lv_iload_n hx hb dX1_settleEnough_34 rfl (lv_at hl 3 rfl) ?_
        refine lv_isub hx hb dX1_settleEnough_35 ?_
        refine gV_i (wc := (wK (ad 5) (ad 13) cI ((dw mk (enA qy lp ex tk y) i).1) (nI mK) mS)) (wr := [(ad 0, .inr (1, [.int qy, .int lp, .int sp, .ref (ad 1), .ref (ad 2), .int (nI c), .ref (ad 3), .ref (ad 4), .ref (ad 5), .ref (ad 6), .ref (ad 7), .ref (ad 8), .ref (ad 9), .ref (ad 10), .ref (ad 11), .ref (ad 12), .long bb])), (ad 1, .inl (cI, 20, .inl pr)), (ad 2, .inl (cI, 20, .inl ex)), (ad 3, .inl (cI, 360, .inl dy)), (ad 4, .inl (cI, 20, .inl tk)), (ad 6, .inr (0, [.ref (ad 14), .int (nI uK), .int uS])), (ad 7, .inl (cI, 20, .inl sh)), (ad 8, .inl (cI, 20, .inl mu)), (ad 9, .inl (cI, 20, .inl co)), (ad 10, .inl (cI, 20, .inl sr)), (ad 11, .inl (cL, 20, .inr (.inl du))), (ad 12, .inl (cL, 20, .inr (.inl bi))), (ad 14, .inl (cI, 20, .inl su))]) (w1 := (wK (ad 5) (ad 13) cI (upd ((dw mk (enA qy lp ex tk y) i).1) i (((dw mk (enA qy lp ex tk y) i).1) i - mnI ((enA qy lp ex tk y) - ((dw mk (enA qy lp ex tk y) i).2)) (((dw mk (enA qy lp ex tk y) i).1) i))) (nI mK) mS)) (W' := (wG ad cI cL qy lp sp pr ex (nI c) dy tk (upd ((dw mk (enA qy lp ex tk y) i).1) i (((dw mk (enA qy lp ex tk y) i).1) i - mnI ((enA qy lp ex tk y) - ((dw mk (enA qy lp ex tk y) i).2)) (((dw mk (enA qy lp ex tk y) i).1) i))) (nI mK) mS su (nI uK) uS sh mu co sr du bi bb)) (As := [.int (nI i), .int ((enA qy lp ex tk y) - ((dw mk (enA qy lp ex tk y) i).2))]) (rest := []) ⟨hx, hb, hml, hown, hts⟩ (c_X0_drawFrom l D H.size (ad 5) (ad 13) cI cL ((dw mk (enA qy lp ex tk y) i).1) (nI mK) mS i ((enA qy lp ex tk y) - ((dw mk (enA qy lp ex tk y) i).2)) hi3) (cwV 2 hts gX1_settleEnough_X0_drawFrom rfl rfl rfl (by decide +kernel) ⟨(Nat.le_of_ble_eq_true rfl), (Nat.le_of_ble_eq_true rfl)⟩) hS hA hK hP hD [0, 1] rfl [5, 13] [0, 1, 2, 3, 4, 6, 7, 8, 9, 10, 11, 12, 14] [0, 1, 2, 3, 4, 13, 5, 6, 7, 8, 9, 10, 11, 14, 12] rfl (by decide) rfl (by decide) (by decide) rfl (by decide) 0 0 rfl rfl rfl rfl hl.1 rfl (Nat.le_of_ble_eq_true rfl) dX1_settleEnough_36 ⟨(Nat.le_of_ble_eq_true rfl), (Nat.le_of_ble_eq_true rfl)⟩ (fun H locs _ hP hD hS => ?_)
        refine lv_istore (lv' := [(7, .int (mnI ((enA qy lp ex tk y) - ((dw mk (enA qy lp ex tk y) i).2)) (((dw mk (enA qy lp ex tk y) i).1) i))), (0, .ref (ad 0)), (1, .int (nI y)), (2, .int (enA qy lp ex tk y)), (3, .int ((dw mk (enA qy lp ex tk y) i).2)), (4, .long (dwa mk (enA qy lp ex tk y) pr sp y i)), (6, .int (nI i))]) hx hb dX1_settleEnough_39 hl (by decide) rfl (fun ls hl => ?_)
        refine lv_iload_n hx hb dX1_settleEnough_41 rfl (lv_at hl 4 rfl) ?_
        refine lv_iload hx hb dX1_settleEnough_42 (lv_at hl 0 rfl) ?_
        refine lv_iadd hx hb dX1_settleEnough_44 ?_
        refine lv_istore_n (lv' := [(3, .int ((dw mk (enA qy lp ex tk y) (i + 1)).2)), (7, .int (mnI ((enA qy lp ex tk y) - ((dw mk (enA qy lp ex tk y) i).2)) (((dw mk (enA qy lp ex tk y) i).1) i))), (0, .ref (ad 0)), (1, .int (nI y)), (2, .int (enA qy lp ex tk y)), (4, .long (dwa mk (enA qy lp ex tk y) pr sp y i)), (6, .int (nI i))]) hx hb dX1_settleEnough_45 rfl hl (by decide) rfl (fun ls hl => ?_)
        refine lv_lload hx hb dX1_settleEnough_46 (lv_at hl 5 rfl) ?_
        refine lv_iload hx hb dX1_settleEnough_48 (lv_at hl 1 rfl) ?_
        refine lv_i2l hx hb dX1_settleEnough_50 rfl ?_
        refine lv_iconst (v := 0) hx hb dX1_settleEnough_51 (by decide) ?_
        refine lv_aload_n hx hb dX1_settleEnough_52 rfl (lv_at hl 2 rfl) ?_
        refine va_get (D := D) (ci := 1) (C := RX1) (T := TX1) (N := 17) hx hb hts inX1_settleEnough_X1 hown hK hP 0 rfl rfl 3 (by decide) (hts _ hX1_settleEnough__fieldLink_RX1_20_MakeupGas_pricePerYear_I_) (fun _ h9 => h9) rfl dX1_settleEnough_53 ?_
        refine lv_iload_n hx hb dX1_settleEnough_56 rfl (lv_at hl 3 rfl) ?_
        refine ga_iald (j := y) hx hb hK hP 1 0 rfl rfl hy (by decide) dX1_settleEnough_57 ?_
        refine lv_aload_n hx hb dX1_settleEnough_58 rfl (lv_at hl 2 rfl) ?_
        refine lv_iload hx hb dX1_settleEnough_59 (lv_at hl 6 rfl) ?_
        refine gV_i (wc := (wG ad cI cL qy lp sp pr ex (nI c) dy tk ((dw mk (enA qy lp ex tk y) (i + 1)).1) (nI mK) mS su (nI uK) uS sh mu co sr du bi bb)) (wr := []) (w1 := (wG ad cI cL qy lp sp pr ex (nI c) dy tk ((dw mk (enA qy lp ex tk y) (i + 1)).1) (nI mK) mS su (nI uK) uS sh mu co sr du bi bb)) (W' := (wG ad cI cL qy lp sp pr ex (nI c) dy tk ((dw mk (enA qy lp ex tk y) (i + 1)).1) (nI mK) mS su (nI uK) uS sh mu co sr du bi bb)) (As := [.int (nI i)]) (rest := [.int (pr y), .int 0, .long ((mnI ((enA qy lp ex tk y) - ((dw mk (enA qy lp ex tk y) i).2)) (((dw mk (enA qy lp ex tk y) i).1) i)).toInt64), .long (dwa mk (enA qy lp ex tk y) pr sp y i)]) ⟨hx, hb, hml, hown, hts⟩ (c_X1_shortfallPrice l D H.size ad cI cL qy lp sp pr ex c dy tk ((dw mk (enA qy lp ex tk y) (i + 1)).1) mK mS su uK uS sh mu co sr du bi bb i hi3) (cwV 1 hts gX1_settleEnough_X1_shortfallPrice rfl rfl rfl (by decide +kernel) ⟨(Nat.le_of_ble_eq_true rfl), (Nat.le_of_ble_eq_true rfl)⟩) hS hA hK hP hD [0, 1] rfl [0, 1, 2, 3, 4, 5, 6, 7, 8, 9, 10, 11, 12, 13, 14] [] [0, 1, 2, 3, 4, 5, 6, 7, 8, 9, 10, 11, 12, 13, 14] rfl (by decide) rfl (by decide) (by decide) rfl (by decide) 0 1 rfl rfl rfl rfl hl.1 rfl (Nat.le_of_ble_eq_true rfl) dX1_settleEnough_61 ⟨(Nat.le_of_ble_eq_true rfl), (Nat.le_of_ble_eq_true rfl)⟩ (fun H locs _ hP hD hS => ?_)
        refine lv_isub hx hb dX1_settleEnough_64 ?_
        refine va_mmax hx hb (by rw [hml]; exact hl.1.symm) hown (hts _ hX1_settleEnough__methodLink_RX1_173_Lib_Math_max_name) (hts _ hX1_settleEnough__static_Lib_Math_max_name) (hts _ hX1_settleEnough__initialized_java_lang_Math_) (hts _ hX1_settleEnough__code_Lib_Math_max_name_Lib_Math_max_code_2_some_int_) (Nat.le_of_ble_eq_true rfl) (Nat.le_of_ble_eq_true rfl) (Nat.le_of_ble_eq_true rfl) (Nat.le_of_ble_eq_true rfl) dX1_settleEnough_65 ?_
        refine lv_i2l hx hb dX1_settleEnough_68 rfl ?_
        refine lv_lmul hx hb dX1_settleEnough_69 ?_
        refine lv_ladd hx hb dX1_settleEnough_70 ?_
        refine lv_lstore (lv' := [(4, .long (dwa mk (enA qy lp ex tk y) pr sp y (i + 1))), (3, .int ((dw mk (enA qy lp ex tk y) (i + 1)).2)), (7, .int (mnI ((enA qy lp ex tk y) - ((dw mk (enA qy lp ex tk y) i).2)) (((dw mk (enA qy lp ex tk y) i).1) i))), (0, .ref (ad 0)), (1, .int (nI y)), (2, .int (enA qy lp ex tk y)), (6, .int (nI i))]) hx hb dX1_settleEnough_71 hl (by decide) rfl (fun ls hl => ?_)
        refine lv_iinc (v := nI (i + 1)) (lv' := [(6, .int (nI (i + 1))), (4, .long (dwa mk (enA qy lp ex tk y) pr sp y (i + 1))), (3, .int ((dw mk (enA qy lp ex tk y) (i + 1)).2)), (7, .int (mnI ((enA qy lp ex tk y) - ((dw mk (enA qy lp ex tk y) i).2)) (((dw mk (enA qy lp ex tk y) i).1) i))), (0, .ref (ad 0)), (1, .int (nI y)), (2, .int (enA qy lp ex tk y))]) hx hb dX1_settleEnough_73 hl (k := 6) rfl (gi_1 _) (by decide) rfl (fun ls hl => ?_)
        refine lv_goto (tgt := 21) hx hb dX1_settleEnough_76 (by decide) ?_
        exact ih (i + 1) (by omega) (by omega) _ _ hP hD hS ls (lv_sub hl [4, 5, 6, 2, 1, 0] rfl)
  exact lp_21 (y + 1) 0 (by omega) (by omega) _ _ hP hD hS ls (lv_sub hl [4, 5, 3, 2, 1, 0] rfl)
theorem inX1_settleClosedYears_X1 : ∀ q ∈ wsX10, q ∈ wsX1_settleClosedYears := by decide +kernel
theorem hX1_settleClosedYears__fieldLink_RX1_44_MakeupGas_makeUpStock_LMakeupGas_Stock_ : Cond.fieldLink RX1 44 "MakeupGas" "makeUpStock" "LMakeupGas$Stock;" ∈ wsX1_settleClosedYears := by decide +kernel
theorem hX1_settleClosedYears__fieldLink_RX1_48_MakeupGas_surplusStock_LMakeupGas_Stock_ : Cond.fieldLink RX1 48 "MakeupGas" "surplusStock" "LMakeupGas$Stock;" ∈ wsX1_settleClosedYears := by decide +kernel
theorem hX1_settleClosedYears__fieldLink_RX1_103_MakeupGas_closedYears_I_ : Cond.fieldLink RX1 103 "MakeupGas" "closedYears" "I" ∈ wsX1_settleClosedYears := by decide +kernel
theorem hX1_settleClosedYears__fieldLink_RX1_36_MakeupGas_takenPerYear_I_ : Cond.fieldLink RX1 36 "MakeupGas" "takenPerYear" "[I" ∈ wsX1_settleClosedYears := by decide +kernel
set_option maxHeartbeats 4000000 in
set_option maxRecDepth 100000 in
theorem c_X1_settleClosedYears (l : Launch) (D : va_G) (sz : Nat) (ad : Nat → Nat) (cI cL : ClassId) (qy lp sp : Int32) (pr ex : Nat → Int32) (c : Nat) (dy tk mk : Nat → Int32) (mK : Nat) (mS : Int32) (su : Nat → Int32) (uK : Nat) (uS : Int32) (sh mu co sr : Nat → Int32) (du bi : Nat → Int64) (bb : Int64) (hc : c ≤ 20) (hmK : mK < 20) (huK : uK < 20) : gCv l yX1_settleClosedYears wsX1_settleClosedYears ({ frames := 4, cells := 0, slots := 0, locals := 92 } : Room) D [(cI, .int), (cL, .long)] [.ref (ad 0)] (wG ad cI cL qy lp sp pr ex (nI c) dy tk mk (nI mK) mS su (nI uK) uS sh mu co sr du bi bb) (wG ad cI cL qy lp sp pr ex (nI c) dy tk (rMk (stC qy lp sp pr ex tk mK uK (st0 sh mu co sr du) c)) (nI mK) (rMS (stC qy lp sp pr ex tk mK uK (st0 sh mu co sr du) c)) (rSu (stC qy lp sp pr ex tk mK uK (st0 sh mu co sr du) c)) (nI uK) (rUS (stC qy lp sp pr ex tk mK uK (st0 sh mu co sr du) c)) (rSh (stC qy lp sp pr ex tk mK uK (st0 sh mu co sr du) c)) (rMu (stC qy lp sp pr ex tk mK uK (st0 sh mu co sr du) c)) (rCo (stC qy lp sp pr ex tk mK uK (st0 sh mu co sr du) c)) (rSr (stC qy lp sp pr ex tk mK uK (st0 sh mu co sr du) c)) (rDu (stC qy lp sp pr ex tk mK uK (st0 sh mu co sr du) c)) bi bb) True 0 0 sz := by
  refine gm_v (cc := cX1_settleClosedYears) (maxL := 2) (by decide) rfl (Nat.le_of_ble_eq_true rfl) ?_
  intro pg en s m args below meth cd A ls hx hb hr hml hown hts hlocks hin hA hK hP hD hl
  have hl : lv_has ls 2 [(0, .ref (ad 0))] := hl
  have hS : va_S A s.heap s.heap [] := va_S.rf
  refine lv_aload_n hx hb dX1_settleClosedYears_0 rfl (lv_at hl 0 rfl) ?_
  refine va_get (D := D) (ci := 1) (C := RX1) (T := TX1) (N := 17) hx hb hts inX1_settleClosedYears_X1 hown hK hP 0 rfl rfl 8 (by decide) (hts _ hX1_settleClosedYears__fieldLink_RX1_44_MakeupGas_makeUpStock_LMakeupGas_Stock_) (fun _ h9 => h9) rfl dX1_settleClosedYears_1 ?_
  refine gV_v (wc := (wK (ad 5) (ad 13) cI mk (nI mK) mS)) (wr := [(ad 0, .inr (1, [.int qy, .int lp, .int sp, .ref (ad 1), .ref (ad 2), .int (nI c), .ref (ad 3), .ref (ad 4), .ref (ad 5), .ref (ad 6), .ref (ad 7), .ref (ad 8), .ref (ad 9), .ref (ad 10), .ref (ad 11), .ref (ad 12), .long bb])), (ad 1, .inl (cI, 20, .inl pr)), (ad 2, .inl (cI, 20, .inl ex)), (ad 3, .inl (cI, 360, .inl dy)), (ad 4, .inl (cI, 20, .inl tk)), (ad 6, .inr (0, [.ref (ad 14), .int (nI uK), .int uS])), (ad 7, .inl (cI, 20, .inl sh)), (ad 8, .inl (cI, 20, .inl mu)), (ad 9, .inl (cI, 20, .inl co)), (ad 10, .inl (cI, 20, .inl sr)), (ad 11, .inl (cL, 20, .inr (.inl du))), (ad 12, .inl (cL, 20, .inr (.inl bi))), (ad 14, .inl (cI, 20, .inl su))]) (w1 := (wK (ad 5) (ad 13) cI (fun _ => 0) (nI mK) 0)) (W' := (wG ad cI cL qy lp sp pr ex (nI c) dy tk (fun _ => 0) (nI mK) 0 su (nI uK) uS sh mu co sr du bi bb)) (As := []) (rest := []) ⟨hx, hb, hml, hown, hts⟩ (c_X0_empty l D s.heap.size (ad 5) (ad 13) cI cL mk (nI mK) mS ) (cwV 0 hts gX1_settleClosedYears_X0_empty rfl rfl rfl (by decide +kernel) ⟨(Nat.le_of_ble_eq_true rfl), (Nat.le_of_ble_eq_true rfl)⟩) hS hA hK hP hD [0, 1] rfl [5, 13] [0, 1, 2, 3, 4, 6, 7, 8, 9, 10, 11, 12, 14] [0, 1, 2, 3, 4, 13, 5, 6, 7, 8, 9, 10, 11, 14, 12] rfl (by decide) rfl (by decide) (by decide) rfl (by decide) 0 0 rfl rfl rfl rfl hl.1 rfl (Nat.le_of_ble_eq_true rfl) dX1_settleClosedYears_4 ⟨(Nat.le_of_ble_eq_true rfl), (Nat.le_of_ble_eq_true rfl)⟩ (fun H locs _ hP hD hS => ?_)
  refine lv_aload_n hx hb dX1_settleClosedYears_7 rfl (lv_at hl 0 rfl) ?_
  refine va_get (D := D) (ci := 1) (C := RX1) (T := TX1) (N := 17) hx hb hts inX1_settleClosedYears_X1 hown hK hP 0 rfl rfl 9 (by decide) (hts _ hX1_settleClosedYears__fieldLink_RX1_48_MakeupGas_surplusStock_LMakeupGas_Stock_) (fun _ h9 => h9) rfl dX1_settleClosedYears_8 ?_
  refine gV_v (wc := (wK (ad 6) (ad 14) cI su (nI uK) uS)) (wr := [(ad 0, .inr (1, [.int qy, .int lp, .int sp, .ref (ad 1), .ref (ad 2), .int (nI c), .ref (ad 3), .ref (ad 4), .ref (ad 5), .ref (ad 6), .ref (ad 7), .ref (ad 8), .ref (ad 9), .ref (ad 10), .ref (ad 11), .ref (ad 12), .long bb])), (ad 1, .inl (cI, 20, .inl pr)), (ad 2, .inl (cI, 20, .inl ex)), (ad 3, .inl (cI, 360, .inl dy)), (ad 4, .inl (cI, 20, .inl tk)), (ad 5, .inr (0, [.ref (ad 13), .int (nI mK), .int 0])), (ad 7, .inl (cI, 20, .inl sh)), (ad 8, .inl (cI, 20, .inl mu)), (ad 9, .inl (cI, 20, .inl co)), (ad 10, .inl (cI, 20, .inl sr)), (ad 11, .inl (cL, 20, .inr (.inl du))), (ad 12, .inl (cL, 20, .inr (.inl bi))), (ad 13, .inl (cI, 20, .inl (fun _ => 0)))]) (w1 := (wK (ad 6) (ad 14) cI (fun _ => 0) (nI uK) 0)) (W' := (wG ad cI cL qy lp sp pr ex (nI c) dy tk (fun _ => 0) (nI mK) 0 (fun _ => 0) (nI uK) 0 sh mu co sr du bi bb)) (As := []) (rest := []) ⟨hx, hb, hml, hown, hts⟩ (c_X0_empty l D H.size (ad 6) (ad 14) cI cL su (nI uK) uS ) (cwV 0 hts gX1_settleClosedYears_X0_empty rfl rfl rfl (by decide +kernel) ⟨(Nat.le_of_ble_eq_true rfl), (Nat.le_of_ble_eq_true rfl)⟩) hS hA hK hP hD [0, 1] rfl [6, 14] [0, 1, 2, 3, 4, 5, 7, 8, 9, 10, 11, 12, 13] [0, 1, 2, 3, 4, 5, 13, 6, 7, 8, 9, 10, 11, 12, 14] rfl (by decide) rfl (by decide) (by decide) rfl (by decide) 0 0 rfl rfl rfl rfl hl.1 rfl (Nat.le_of_ble_eq_true rfl) dX1_settleClosedYears_11 ⟨(Nat.le_of_ble_eq_true rfl), (Nat.le_of_ble_eq_true rfl)⟩ (fun H locs _ hP hD hS => ?_)
  refine lv_iconst (v := 0) hx hb dX1_settleClosedYears_14 (by decide) ?_
  refine lv_istore_n (lv' := [(1, .int 0), (0, .ref (ad 0))]) hx hb dX1_settleClosedYears_15 rfl hl (by decide) rfl (fun ls hl => ?_)
  obtain ⟨T, hT0, hTs, hTc⟩ : ∃ T : Nat → TR, T 0 = st0 sh mu co sr du ∧ (∀ n, T (n + 1) = stp qy lp sp pr ex tk mK uK n (T n)) ∧ T c = stC qy lp sp pr ex tk mK uK (st0 sh mu co sr du) c := ⟨stC qy lp sp pr ex tk mK uK (st0 sh mu co sr du), rfl, fun _ => rfl, rfl⟩
  rw [← hTc]
  have hP : va_P D vwCl (wG ad cI cL qy lp sp pr ex (nI c) dy tk (rMk (T 0)) (nI mK) (rMS (T 0)) (rSu (T 0)) (nI uK) (rUS (T 0)) (rSh (T 0)) (rMu (T 0)) (rCo (T 0)) (rSr (T 0)) (rDu (T 0)) bi bb) H := by rw [hT0]; exact hP
  have hD : va_D A (wG ad cI cL qy lp sp pr ex (nI c) dy tk (rMk (T 0)) (nI mK) (rMS (T 0)) (rSu (T 0)) (nI uK) (rUS (T 0)) (rSh (T 0)) (rMu (T 0)) (rCo (T 0)) (rSr (T 0)) (rDu (T 0)) bi bb) := by rw [hT0]; exact hD
  have lp_16 : ∀ (n i : Nat), i ≤ c → c < i + n → ∀ (H : Heap) (locs : List Loc), va_P D vwCl (wG ad cI cL qy lp sp pr ex (nI c) dy tk (rMk (T i)) (nI mK) (rMS (T i)) (rSu (T i)) (nI uK) (rUS (T i)) (rSh (T i)) (rMu (T i)) (rCo (T i)) (rSr (T i)) (rDu (T i)) bi bb) H → va_D A (wG ad cI cL qy lp sp pr ex (nI c) dy tk (rMk (T i)) (nI mK) (rMS (T i)) (rSu (T i)) (nI uK) (rUS (T i)) (rSh (T i)) (rMu (T i)) (rCo (T i)) (rSr (T i)) (rDu (T i)) bi bb) → va_S A s.heap H locs → ∀ (ls : Array Slot), lv_has ls 2 [(0, .ref (ad 0)), (1, .int (nI i))] → W pg l en ({ frames := 4, cells := 0, slots := 0, locals := 92 } : Room) s m args below meth cd H locs 0 0 (gEv True below D [(cI, .int), (cL, .long)] (wG ad cI cL qy lp sp pr ex (nI c) dy tk (rMk (T c)) (nI mK) (rMS (T c)) (rSu (T c)) (nI uK) (rUS (T c)) (rSh (T c)) (rMu (T c)) (rCo (T c)) (rSr (T c)) (rDu (T c)) bi bb) A args s 0 0) (F0 m 16 ls []) := by
    intro n
    induction n with
    | zero => intro i h1 h2; exact absurd h2 (by omega)
    | succ n ih =>
      intro i hi hin2  H locs hP hD hS ls hl
      refine lv_iload_n hx hb dX1_settleClosedYears_16 rfl (lv_at hl 1 rfl) ?_
      refine lv_aload_n hx hb dX1_settleClosedYears_17 rfl (lv_at hl 0 rfl) ?_
      refine va_get (D := D) (ci := 1) (C := RX1) (T := TX1) (N := 17) hx hb hts inX1_settleClosedYears_X1 hown hK hP 0 rfl rfl 5 (by decide) (hts _ hX1_settleClosedYears__fieldLink_RX1_103_MakeupGas_closedYears_I_) (fun _ h9 => h9) rfl dX1_settleClosedYears_18 ?_
      refine lv_icmp_ge (tgt := 73) hx hb dX1_settleClosedYears_21 (by decide) (fun c1 => ?_) (fun c1 => ?_)
      · obtain rfl : i = c := Nat.le_antisymm hi (Nat.not_lt.mp fun h => absurd c1 (nI_ge h (by omega)))
        exact ge_v hx hb hr hlocks hK hP hD hS trivial (Nat.le_of_ble_eq_true rfl) (Nat.le_of_ble_eq_true rfl) dX1_settleClosedYears_73
      · have hic : i < c := Nat.not_le.mp (fun h => c1 (nI_le h (by omega)))
        have hi3 : i < 20 := by omega
        refine lv_aload_n hx hb dX1_settleClosedYears_24 rfl (lv_at hl 0 rfl) ?_
        refine va_get (D := D) (ci := 1) (C := RX1) (T := TX1) (N := 17) hx hb hts inX1_settleClosedYears_X1 hown hK hP 0 rfl rfl 8 (by decide) (hts _ hX1_settleClosedYears__fieldLink_RX1_44_MakeupGas_makeUpStock_LMakeupGas_Stock_) (fun _ h9 => h9) rfl dX1_settleClosedYears_25 ?_
        refine lv_iload_n hx hb dX1_settleClosedYears_28 rfl (lv_at hl 1 rfl) ?_
        refine gV_v (wc := (wK (ad 5) (ad 13) cI (rMk (T i)) (nI mK) (rMS (T i)))) (wr := [(ad 0, .inr (1, [.int qy, .int lp, .int sp, .ref (ad 1), .ref (ad 2), .int (nI c), .ref (ad 3), .ref (ad 4), .ref (ad 5), .ref (ad 6), .ref (ad 7), .ref (ad 8), .ref (ad 9), .ref (ad 10), .ref (ad 11), .ref (ad 12), .long bb])), (ad 1, .inl (cI, 20, .inl pr)), (ad 2, .inl (cI, 20, .inl ex)), (ad 3, .inl (cI, 360, .inl dy)), (ad 4, .inl (cI, 20, .inl tk)), (ad 6, .inr (0, [.ref (ad 14), .int (nI uK), .int (rUS (T i))])), (ad 7, .inl (cI, 20, .inl (rSh (T i)))), (ad 8, .inl (cI, 20, .inl (rMu (T i)))), (ad 9, .inl (cI, 20, .inl (rCo (T i)))), (ad 10, .inl (cI, 20, .inl (rSr (T i)))), (ad 11, .inl (cL, 20, .inr (.inl (rDu (T i))))), (ad 12, .inl (cL, 20, .inr (.inl bi))), (ad 14, .inl (cI, 20, .inl (rSu (T i))))]) (w1 := (wK (ad 5) (ad 13) cI (lpF (rMk (T i)) mK i) (nI mK) (lpZ (rMk (T i)) (rMS (T i)) mK i))) (W' := (wG ad cI cL qy lp sp pr ex (nI c) dy tk (lpF (rMk (T i)) mK i) (nI mK) (lpZ (rMk (T i)) (rMS (T i)) mK i) (rSu (T i)) (nI uK) (rUS (T i)) (rSh (T i)) (rMu (T i)) (rCo (T i)) (rSr (T i)) (rDu (T i)) bi bb)) (As := [.int (nI i)]) (rest := []) ⟨hx, hb, hml, hown, hts⟩ (c_X0_lapseBefore l D H.size (ad 5) (ad 13) cI cL (rMk (T i)) mK (rMS (T i)) i hi3 hmK) (cwV 1 hts gX1_settleClosedYears_X0_lapseBefore rfl rfl rfl (by decide +kernel) ⟨(Nat.le_of_ble_eq_true rfl), (Nat.le_of_ble_eq_true rfl)⟩) hS hA hK hP hD [0, 1] rfl [5, 13] [0, 1, 2, 3, 4, 6, 7, 8, 9, 10, 11, 12, 14] [0, 1, 2, 3, 4, 13, 5, 6, 7, 8, 9, 10, 11, 14, 12] rfl (by decide) rfl (by decide) (by decide) rfl (by decide) 0 0 rfl rfl rfl rfl hl.1 rfl (Nat.le_of_ble_eq_true rfl) dX1_settleClosedYears_29 ⟨(Nat.le_of_ble_eq_true rfl), (Nat.le_of_ble_eq_true rfl)⟩ (fun H locs _ hP hD hS => ?_)
        refine lv_aload_n hx hb dX1_settleClosedYears_32 rfl (lv_at hl 0 rfl) ?_
        refine va_get (D := D) (ci := 1) (C := RX1) (T := TX1) (N := 17) hx hb hts inX1_settleClosedYears_X1 hown hK hP 0 rfl rfl 9 (by decide) (hts _ hX1_settleClosedYears__fieldLink_RX1_48_MakeupGas_surplusStock_LMakeupGas_Stock_) (fun _ h9 => h9) rfl dX1_settleClosedYears_33 ?_
        refine lv_iload_n hx hb dX1_settleClosedYears_36 rfl (lv_at hl 1 rfl) ?_
        refine gV_v (wc := (wK (ad 6) (ad 14) cI (rSu (T i)) (nI uK) (rUS (T i)))) (wr := [(ad 0, .inr (1, [.int qy, .int lp, .int sp, .ref (ad 1), .ref (ad 2), .int (nI c), .ref (ad 3), .ref (ad 4), .ref (ad 5), .ref (ad 6), .ref (ad 7), .ref (ad 8), .ref (ad 9), .ref (ad 10), .ref (ad 11), .ref (ad 12), .long bb])), (ad 1, .inl (cI, 20, .inl pr)), (ad 2, .inl (cI, 20, .inl ex)), (ad 3, .inl (cI, 360, .inl dy)), (ad 4, .inl (cI, 20, .inl tk)), (ad 5, .inr (0, [.ref (ad 13), .int (nI mK), .int (lpZ (rMk (T i)) (rMS (T i)) mK i)])), (ad 7, .inl (cI, 20, .inl (rSh (T i)))), (ad 8, .inl (cI, 20, .inl (rMu (T i)))), (ad 9, .inl (cI, 20, .inl (rCo (T i)))), (ad 10, .inl (cI, 20, .inl (rSr (T i)))), (ad 11, .inl (cL, 20, .inr (.inl (rDu (T i))))), (ad 12, .inl (cL, 20, .inr (.inl bi))), (ad 13, .inl (cI, 20, .inl (lpF (rMk (T i)) mK i)))]) (w1 := (wK (ad 6) (ad 14) cI (lpF (rSu (T i)) uK i) (nI uK) (lpZ (rSu (T i)) (rUS (T i)) uK i))) (W' := (wG ad cI cL qy lp sp pr ex (nI c) dy tk (lpF (rMk (T i)) mK i) (nI mK) (lpZ (rMk (T i)) (rMS (T i)) mK i) (lpF (rSu (T i)) uK i) (nI uK) (lpZ (rSu (T i)) (rUS (T i)) uK i) (rSh (T i)) (rMu (T i)) (rCo (T i)) (rSr (T i)) (rDu (T i)) bi bb)) (As := [.int (nI i)]) (rest := []) ⟨hx, hb, hml, hown, hts⟩ (c_X0_lapseBefore l D H.size (ad 6) (ad 14) cI cL (rSu (T i)) uK (rUS (T i)) i hi3 huK) (cwV 1 hts gX1_settleClosedYears_X0_lapseBefore rfl rfl rfl (by decide +kernel) ⟨(Nat.le_of_ble_eq_true rfl), (Nat.le_of_ble_eq_true rfl)⟩) hS hA hK hP hD [0, 1] rfl [6, 14] [0, 1, 2, 3, 4, 5, 7, 8, 9, 10, 11, 12, 13] [0, 1, 2, 3, 4, 5, 13, 6, 7, 8, 9, 10, 11, 12, 14] rfl (by decide) rfl (by decide) (by decide) rfl (by decide) 0 0 rfl rfl rfl rfl hl.1 rfl (Nat.le_of_ble_eq_true rfl) dX1_settleClosedYears_37 ⟨(Nat.le_of_ble_eq_true rfl), (Nat.le_of_ble_eq_true rfl)⟩ (fun H locs _ hP hD hS => ?_)
        refine lv_aload_n hx hb dX1_settleClosedYears_40 rfl (lv_at hl 0 rfl) ?_
        refine va_get (D := D) (ci := 1) (C := RX1) (T := TX1) (N := 17) hx hb hts inX1_settleClosedYears_X1 hown hK hP 0 rfl rfl 7 (by decide) (hts _ hX1_settleClosedYears__fieldLink_RX1_36_MakeupGas_takenPerYear_I_) (fun _ h9 => h9) rfl dX1_settleClosedYears_41 ?_
        refine lv_iload_n hx hb dX1_settleClosedYears_44 rfl (lv_at hl 1 rfl) ?_
        refine ga_iald (j := i) hx hb hK hP 4 0 rfl rfl hi3 (by decide) dX1_settleClosedYears_45 ?_
        refine lv_aload_n hx hb dX1_settleClosedYears_46 rfl (lv_at hl 0 rfl) ?_
        refine lv_iload_n hx hb dX1_settleClosedYears_47 rfl (lv_at hl 1 rfl) ?_
        refine gV_i (wc := (wG ad cI cL qy lp sp pr ex (nI c) dy tk (lpF (rMk (T i)) mK i) (nI mK) (lpZ (rMk (T i)) (rMS (T i)) mK i) (lpF (rSu (T i)) uK i) (nI uK) (lpZ (rSu (T i)) (rUS (T i)) uK i) (rSh (T i)) (rMu (T i)) (rCo (T i)) (rSr (T i)) (rDu (T i)) bi bb)) (wr := []) (w1 := (wG ad cI cL qy lp sp pr ex (nI c) dy tk (lpF (rMk (T i)) mK i) (nI mK) (lpZ (rMk (T i)) (rMS (T i)) mK i) (lpF (rSu (T i)) uK i) (nI uK) (lpZ (rSu (T i)) (rUS (T i)) uK i) (rSh (T i)) (rMu (T i)) (rCo (T i)) (rSr (T i)) (rDu (T i)) bi bb)) (W' := (wG ad cI cL qy lp sp pr ex (nI c) dy tk (lpF (rMk (T i)) mK i) (nI mK) (lpZ (rMk (T i)) (rMS (T i)) mK i) (lpF (rSu (T i)) uK i) (nI uK) (lpZ (rSu (T i)) (rUS (T i)) uK i) (rSh (T i)) (rMu (T i)) (rCo (T i)) (rSr (T i)) (rDu (T i)) bi bb)) (As := [.int (nI i)]) (rest := [.int (tk i)]) ⟨hx, hb, hml, hown, hts⟩ (c_X1_leastQuantity l D H.size ad cI cL qy lp sp pr ex c dy tk (lpF (rMk (T i)) mK i) mK (lpZ (rMk (T i)) (rMS (T i)) mK i) (lpF (rSu (T i)) uK i) uK (lpZ (rSu (T i)) (rUS (T i)) uK i) (rSh (T i)) (rMu (T i)) (rCo (T i)) (rSr (T i)) (rDu (T i)) bi bb i hi3) (cwV 1 hts gX1_settleClosedYears_X1_leastQuantity rfl rfl rfl (by decide +kernel) ⟨(Nat.le_of_ble_eq_true rfl), (Nat.le_of_ble_eq_true rfl)⟩) hS hA hK hP hD [0, 1] rfl [0, 1, 2, 3, 4, 5, 6, 7, 8, 9, 10, 11, 12, 13, 14] [] [0, 1, 2, 3, 4, 5, 6, 7, 8, 9, 10, 11, 12, 13, 14] rfl (by decide) rfl (by decide) (by decide) rfl (by decide) 0 1 rfl rfl rfl rfl hl.1 rfl (Nat.le_of_ble_eq_true rfl) dX1_settleClosedYears_48 ⟨(Nat.le_of_ble_eq_true rfl), (Nat.le_of_ble_eq_true rfl)⟩ (fun H locs _ hP hD hS => ?_)
        refine lv_icmp_ge (tgt := 62) hx hb dX1_settleClosedYears_51 (by decide) (fun c2 => ?_) (fun c2 => ?_)
        · refine lv_aload_n hx hb dX1_settleClosedYears_62 rfl (lv_at hl 0 rfl) ?_
          refine lv_iload_n hx hb dX1_settleClosedYears_63 rfl (lv_at hl 1 rfl) ?_
          refine gV_v (wc := (wG ad cI cL qy lp sp pr ex (nI c) dy tk (lpF (rMk (T i)) mK i) (nI mK) (lpZ (rMk (T i)) (rMS (T i)) mK i) (lpF (rSu (T i)) uK i) (nI uK) (lpZ (rSu (T i)) (rUS (T i)) uK i) (rSh (T i)) (rMu (T i)) (rCo (T i)) (rSr (T i)) (rDu (T i)) bi bb)) (wr := []) (w1 := (wG ad cI cL qy lp sp pr ex (nI c) dy tk ((dw (lpF (rMk (T i)) mK i) (enA qy lp ex tk i) i).1) (nI mK) (lpZ (rMk (T i)) (rMS (T i)) mK i) (upd (lpF (rSu (T i)) uK i) i (enS qy lp ex tk (lpF (rMk (T i)) mK i) i)) (nI uK) (lpZ (rSu (T i)) (rUS (T i)) uK i) (upd (rSh (T i)) i 0) (upd (rMu (T i)) i (enM qy lp ex tk (lpF (rMk (T i)) mK i) i)) (upd (rCo (T i)) i 0) (upd (rSr (T i)) i (enS qy lp ex tk (lpF (rMk (T i)) mK i) i)) (vp_updL (rDu (T i)) i (enD qy lp sp pr ex tk (lpF (rMk (T i)) mK i) i)) bi bb)) (W' := (wG ad cI cL qy lp sp pr ex (nI c) dy tk ((dw (lpF (rMk (T i)) mK i) (enA qy lp ex tk i) i).1) (nI mK) (lpZ (rMk (T i)) (rMS (T i)) mK i) (upd (lpF (rSu (T i)) uK i) i (enS qy lp ex tk (lpF (rMk (T i)) mK i) i)) (nI uK) (lpZ (rSu (T i)) (rUS (T i)) uK i) (upd (rSh (T i)) i 0) (upd (rMu (T i)) i (enM qy lp ex tk (lpF (rMk (T i)) mK i) i)) (upd (rCo (T i)) i 0) (upd (rSr (T i)) i (enS qy lp ex tk (lpF (rMk (T i)) mK i) i)) (vp_updL (rDu (T i)) i (enD qy lp sp pr ex tk (lpF (rMk (T i)) mK i) i)) bi bb)) (As := [.int (nI i)]) (rest := []) ⟨hx, hb, hml, hown, hts⟩ (c_X1_settleEnough l D H.size ad cI cL qy lp sp pr ex c dy tk (lpF (rMk (T i)) mK i) mK (lpZ (rMk (T i)) (rMS (T i)) mK i) (lpF (rSu (T i)) uK i) uK (lpZ (rSu (T i)) (rUS (T i)) uK i) (rSh (T i)) (rMu (T i)) (rCo (T i)) (rSr (T i)) (rDu (T i)) bi bb i hi3) (cwV 1 hts gX1_settleClosedYears_X1_settleEnough rfl rfl rfl (by decide +kernel) ⟨(Nat.le_of_ble_eq_true rfl), (Nat.le_of_ble_eq_true rfl)⟩) hS hA hK hP hD [0, 1] rfl [0, 1, 2, 3, 4, 5, 6, 7, 8, 9, 10, 11, 12, 13, 14] [] [0, 1, 2, 3, 4, 5, 6, 7, 8, 9, 10, 11, 12, 13, 14] rfl (by decide) rfl (by decide) (by decide) rfl (by decide) 0 1 rfl rfl rfl rfl hl.1 rfl (Nat.le_of_ble_eq_true rfl) dX1_settleClosedYears_64 ⟨(Nat.le_of_ble_eq_true rfl), (Nat.le_of_ble_eq_true rfl)⟩ (fun H locs _ hP hD hS => ?_)
          have hP : va_P D vwCl (wG ad cI cL qy lp sp pr ex (nI c) dy tk (rMk (T (i + 1))) (nI mK) (rMS (T (i + 1))) (rSu (T (i + 1))) (nI uK) (rUS (T (i + 1))) (rSh (T (i + 1))) (rMu (T (i + 1))) (rCo (T (i + 1))) (rSr (T (i + 1))) (rDu (T (i + 1))) bi bb) H := by rw [hTs, stp, if_neg (Int32.not_lt.mpr c2)]; exact hP
          have hD : va_D A (wG ad cI cL qy lp sp pr ex (nI c) dy tk (rMk (T (i + 1))) (nI mK) (rMS (T (i + 1))) (rSu (T (i + 1))) (nI uK) (rUS (T (i + 1))) (rSh (T (i + 1))) (rMu (T (i + 1))) (rCo (T (i + 1))) (rSr (T (i + 1))) (rDu (T (i + 1))) bi bb) := by rw [hTs, stp, if_neg (Int32.not_lt.mpr c2)]; exact hD
          refine lv_iinc (v := nI (i + 1)) (lv' := [(1, .int (nI (i + 1))), (0, .ref (ad 0))]) hx hb dX1_settleClosedYears_67 hl (k := 1) rfl (gi_1 _) (by decide) rfl (fun ls hl => ?_)
          refine lv_goto (tgt := 16) hx hb dX1_settleClosedYears_70 (by decide) ?_
          exact ih (i + 1) (by omega) (by omega) _ _ hP hD hS ls (lv_sub hl [1, 0] rfl)
        · refine lv_aload_n hx hb dX1_settleClosedYears_54 rfl (lv_at hl 0 rfl) ?_
          refine lv_iload_n hx hb dX1_settleClosedYears_55 rfl (lv_at hl 1 rfl) ?_
          refine gV_v (wc := (wG ad cI cL qy lp sp pr ex (nI c) dy tk (lpF (rMk (T i)) mK i) (nI mK) (lpZ (rMk (T i)) (rMS (T i)) mK i) (lpF (rSu (T i)) uK i) (nI uK) (lpZ (rSu (T i)) (rUS (T i)) uK i) (rSh (T i)) (rMu (T i)) (rCo (T i)) (rSr (T i)) (rDu (T i)) bi bb)) (wr := []) (w1 := (wG ad cI cL qy lp sp pr ex (nI c) dy tk (upd (lpF (rMk (T i)) mK i) i (gpM qy lp ex tk (lpF (rSu (T i)) uK i) i)) (nI mK) (lpZ (rMk (T i)) (rMS (T i)) mK i) ((dw (lpF (rSu (T i)) uK i) (gpG qy lp ex tk i) i).1) (nI uK) (lpZ (rSu (T i)) (rUS (T i)) uK i) (upd (rSh (T i)) i (gpM qy lp ex tk (lpF (rSu (T i)) uK i) i)) (upd (rMu (T i)) i 0) (upd (rCo (T i)) i (gpC qy lp ex tk (lpF (rSu (T i)) uK i) i)) (upd (rSr (T i)) i 0) (vp_updL (rDu (T i)) i (gpD qy lp sp pr ex tk (lpF (rSu (T i)) uK i) i)) bi bb)) (W' := (wG ad cI cL qy lp sp pr ex (nI c) dy tk (upd (lpF (rMk (T i)) mK i) i (gpM qy lp ex tk (lpF (rSu (T i)) uK i) i)) (nI mK) (lpZ (rMk (T i)) (rMS (T i)) mK i) ((dw (lpF (rSu (T i)) uK i) (gpG qy lp ex tk i) i).1) (nI uK) (lpZ (rSu (T i)) (rUS (T i)) uK i) (upd (rSh (T i)) i (gpM qy lp ex tk (lpF (rSu (T i)) uK i) i)) (upd (rMu (T i)) i 0) (upd (rCo (T i)) i (gpC qy lp ex tk (lpF (rSu (T i)) uK i) i)) (upd (rSr (T i)) i 0) (vp_updL (rDu (T i)) i (gpD qy lp sp pr ex tk (lpF (rSu (T i)) uK i) i)) bi bb)) (As := [.int (nI i)]) (rest := []) ⟨hx, hb, hml, hown, hts⟩ (c_X1_settleGap l D H.size ad cI cL qy lp sp pr ex c dy tk (lpF (rMk (T i)) mK i) mK (lpZ (rMk (T i)) (rMS (T i)) mK i) (lpF (rSu (T i)) uK i) uK (lpZ (rSu (T i)) (rUS (T i)) uK i) (rSh (T i)) (rMu (T i)) (rCo (T i)) (rSr (T i)) (rDu (T i)) bi bb i hi3) (cwV 1 hts gX1_settleClosedYears_X1_settleGap rfl rfl rfl (by decide +kernel) ⟨(Nat.le_of_ble_eq_true rfl), (Nat.le_of_ble_eq_true rfl)⟩) hS hA hK hP hD [0, 1] rfl [0, 1, 2, 3, 4, 5, 6, 7, 8, 9, 10, 11, 12, 13, 14] [] [0, 1, 2, 3, 4, 5, 6, 7, 8, 9, 10, 11, 12, 13, 14] rfl (by decide) rfl (by decide) (by decide) rfl (by decide) 0 1 rfl rfl rfl rfl hl.1 rfl (Nat.le_of_ble_eq_true rfl) dX1_settleClosedYears_56 ⟨(Nat.le_of_ble_eq_true rfl), (Nat.le_of_ble_eq_true rfl)⟩ (fun H locs _ hP hD hS => ?_)
          refine lv_goto (tgt := 67) hx hb dX1_settleClosedYears_59 (by decide) ?_
          have hP : va_P D vwCl (wG ad cI cL qy lp sp pr ex (nI c) dy tk (rMk (T (i + 1))) (nI mK) (rMS (T (i + 1))) (rSu (T (i + 1))) (nI uK) (rUS (T (i + 1))) (rSh (T (i + 1))) (rMu (T (i + 1))) (rCo (T (i + 1))) (rSr (T (i + 1))) (rDu (T (i + 1))) bi bb) H := by rw [hTs, stp, if_pos (Int32.not_le.mp c2)]; exact hP
          have hD : va_D A (wG ad cI cL qy lp sp pr ex (nI c) dy tk (rMk (T (i + 1))) (nI mK) (rMS (T (i + 1))) (rSu (T (i + 1))) (nI uK) (rUS (T (i + 1))) (rSh (T (i + 1))) (rMu (T (i + 1))) (rCo (T (i + 1))) (rSr (T (i + 1))) (rDu (T (i + 1))) bi bb) := by rw [hTs, stp, if_pos (Int32.not_le.mp c2)]; exact hD
          refine lv_iinc (v := nI (i + 1)) (lv' := [(1, .int (nI (i + 1))), (0, .ref (ad 0))]) hx hb dX1_settleClosedYears_67 hl (k := 1) rfl (gi_1 _) (by decide) rfl (fun ls hl => ?_)
          refine lv_goto (tgt := 16) hx hb dX1_settleClosedYears_70 (by decide) ?_
          exact ih (i + 1) (by omega) (by omega) _ _ hP hD hS ls (lv_sub hl [1, 0] rfl)
  exact lp_16 (c + 1) 0 (by omega) (by omega) _ _ hP hD hS ls (lv_sub hl [1, 0] rfl)
theorem inX1_dueInAll_X1 : ∀ q ∈ wsX10, q ∈ wsX1_dueInAll := by decide +kernel
theorem hX1_dueInAll__fieldLink_RX1_103_MakeupGas_closedYears_I_ : Cond.fieldLink RX1 103 "MakeupGas" "closedYears" "I" ∈ wsX1_dueInAll := by decide +kernel
theorem hX1_dueInAll__fieldLink_RX1_63_MakeupGas_duePerYear_J_ : Cond.fieldLink RX1 63 "MakeupGas" "duePerYear" "[J" ∈ wsX1_dueInAll := by decide +kernel
set_option maxHeartbeats 4000000 in
set_option maxRecDepth 100000 in
theorem c_X1_dueInAll (l : Launch) (D : va_G) (sz : Nat) (ad : Nat → Nat) (cI cL : ClassId) (qy lp sp : Int32) (pr ex : Nat → Int32) (c : Nat) (dy tk mk : Nat → Int32) (mK : Nat) (mS : Int32) (su : Nat → Int32) (uK : Nat) (uS : Int32) (sh mu co sr : Nat → Int32) (du bi : Nat → Int64) (bb : Int64) (hc : c ≤ 20) : gCl l yX1_dueInAll wsX1_dueInAll ({ frames := 0, cells := 0, slots := 0, locals := 0 } : Room) D [(cI, .int), (cL, .long)] [.ref (ad 0)] (wG ad cI cL qy lp sp pr ex (nI c) dy tk mk (nI mK) mS su (nI uK) uS sh mu co sr du bi bb) (wG ad cI cL qy lp sp pr ex (nI c) dy tk mk (nI mK) mS su (nI uK) uS sh mu co sr du bi bb) (smL du c) True 0 0 sz := by
  refine gm_l (cc := cX1_dueInAll) (maxL := 4) (by decide) rfl (Nat.le_of_ble_eq_true rfl) ?_
  intro pg en s m args below meth cd A ls hx hb hr hml hown hts hlocks hin hA hK hP hD hl
  have hl : lv_has ls 4 [(0, .ref (ad 0))] := hl
  have hS : va_S A s.heap s.heap [] := va_S.rf
  refine lv_lconst (v := 0) hx hb dX1_dueInAll_0 (by decide) ?_
  refine lv_lstore_n (lv' := [(1, .long 0), (0, .ref (ad 0))]) hx hb dX1_dueInAll_1 rfl hl (by decide) rfl (fun ls hl => ?_)
  refine lv_iconst (v := 0) hx hb dX1_dueInAll_2 (by decide) ?_
  refine lv_istore_n (lv' := [(3, .int 0), (1, .long 0), (0, .ref (ad 0))]) hx hb dX1_dueInAll_3 rfl hl (by decide) rfl (fun ls hl => ?_)
  have lp_4 : ∀ (n i : Nat), i ≤ c → c < i + n → ∀ (H : Heap) (locs : List Loc), va_P D vwCl (wG ad cI cL qy lp sp pr ex (nI c) dy tk mk (nI mK) mS su (nI uK) uS sh mu co sr du bi bb) H → va_D A (wG ad cI cL qy lp sp pr ex (nI c) dy tk mk (nI mK) mS su (nI uK) uS sh mu co sr du bi bb) → va_S A s.heap H locs → ∀ (ls : Array Slot), lv_has ls 4 [(0, .ref (ad 0)), (1, .long (smL du i)), (3, .int (nI i))] → W pg l en ({ frames := 0, cells := 0, slots := 0, locals := 0 } : Room) s m args below meth cd H locs 0 0 (gEl (smL du c) True below D [(cI, .int), (cL, .long)] (wG ad cI cL qy lp sp pr ex (nI c) dy tk mk (nI mK) mS su (nI uK) uS sh mu co sr du bi bb) A args s 0 0) (F0 m 4 ls []) := by
    intro n
    induction n with
    | zero => intro i h1 h2; exact absurd h2 (by omega)
    | succ n ih =>
      intro i hi hin2  H locs hP hD hS ls hl
      refine lv_iload_n hx hb dX1_dueInAll_4 rfl (lv_at hl 2 rfl) ?_
      refine lv_aload_n hx hb dX1_dueInAll_5 rfl (lv_at hl 0 rfl) ?_
      refine va_get (D := D) (ci := 1) (C := RX1) (T := TX1) (N := 17) hx hb hts inX1_dueInAll_X1 hown hK hP 0 rfl rfl 5 (by decide) (hts _ hX1_dueInAll__fieldLink_RX1_103_MakeupGas_closedYears_I_) (fun _ h9 => h9) rfl dX1_dueInAll_6 ?_
      refine lv_icmp_ge (tgt := 27) hx hb dX1_dueInAll_9 (by decide) (fun c1 => ?_) (fun c1 => ?_)
      · obtain rfl : i = c := Nat.le_antisymm hi (Nat.not_lt.mp fun h => absurd c1 (nI_ge h (by omega)))
        refine lv_lload_n hx hb dX1_dueInAll_27 rfl (lv_at hl 1 rfl) ?_
        exact ge_l hx hb hr hlocks hK hP hD hS trivial (Nat.le_of_ble_eq_true rfl) (Nat.le_of_ble_eq_true rfl) dX1_dueInAll_28
      · have hic : i < c := Nat.not_le.mp (fun h => c1 (nI_le h (by omega)))
        have hi3 : i < 20 := by omega
        refine lv_lload_n hx hb dX1_dueInAll_12 rfl (lv_at hl 1 rfl) ?_
        refine lv_aload_n hx hb dX1_dueInAll_13 rfl (lv_at hl 0 rfl) ?_
        refine va_get (D := D) (ci := 1) (C := RX1) (T := TX1) (N := 17) hx hb hts inX1_dueInAll_X1 hown hK hP 0 rfl rfl 14 (by decide) (hts _ hX1_dueInAll__fieldLink_RX1_63_MakeupGas_duePerYear_J_) (fun _ h9 => h9) rfl dX1_dueInAll_14 ?_
        refine lv_iload_n hx hb dX1_dueInAll_17 rfl (lv_at hl 2 rfl) ?_
        refine ga_lald (j := i) hx hb hK hP 11 1 rfl rfl hi3 (by decide) dX1_dueInAll_18 ?_
        refine lv_ladd hx hb dX1_dueInAll_19 ?_
        refine lv_lstore_n (lv' := [(1, .long (smL du (i + 1))), (0, .ref (ad 0)), (3, .int (nI i))]) hx hb dX1_dueInAll_20 rfl hl (by decide) rfl (fun ls hl => ?_)
        refine lv_iinc (v := nI (i + 1)) (lv' := [(3, .int (nI (i + 1))), (1, .long (smL du (i + 1))), (0, .ref (ad 0))]) hx hb dX1_dueInAll_21 hl (k := 2) rfl (gi_1 _) (by decide) rfl (fun ls hl => ?_)
        refine lv_goto (tgt := 4) hx hb dX1_dueInAll_24 (by decide) ?_
        exact ih (i + 1) (by omega) (by omega) _ _ hP hD hS ls (lv_sub hl [2, 1, 0] rfl)
  exact lp_4 (c + 1) 0 (by omega) (by omega) _ _ hP hD hS ls (lv_sub hl [2, 1, 0] rfl)
end
section
theorem hX1_set__constant_RX1_70_100000_ : Cond.constant RX1 70 (100000) ∈ wsX1_set := by decide +kernel
theorem inX1_set_X1 : ∀ q ∈ wsX10, q ∈ wsX1_set := by decide +kernel
theorem hX1_set__fieldLink_RX1_10_MakeupGas_yearlyQuantity_I_ : Cond.fieldLink RX1 10 "MakeupGas" "yearlyQuantity" "I" ∈ wsX1_set := by decide +kernel
theorem hX1_set__fieldLink_RX1_14_MakeupGas_leastPercent_I_ : Cond.fieldLink RX1 14 "MakeupGas" "leastPercent" "I" ∈ wsX1_set := by decide +kernel
theorem hX1_set__fieldLink_RX1_17_MakeupGas_shortfallPercent_I_ : Cond.fieldLink RX1 17 "MakeupGas" "shortfallPercent" "I" ∈ wsX1_set := by decide +kernel
theorem hX1_set__fieldLink_RX1_44_MakeupGas_makeUpStock_LMakeupGas_Stock_ : Cond.fieldLink RX1 44 "MakeupGas" "makeUpStock" "LMakeupGas$Stock;" ∈ wsX1_set := by decide +kernel
theorem hX1_set__fieldLink_RX1_48_MakeupGas_surplusStock_LMakeupGas_Stock_ : Cond.fieldLink RX1 48 "MakeupGas" "surplusStock" "LMakeupGas$Stock;" ∈ wsX1_set := by decide +kernel
set_option maxHeartbeats 4000000 in
set_option maxRecDepth 100000 in
theorem c_X1_set (l : Launch) (hst : l.stackTraces = false) (D : va_G) (sz : Nat) (ad : Nat → Nat) (cI cL : ClassId) (qy lp sp : Int32) (pr ex : Nat → Int32) (c : Nat) (dy tk mk : Nat → Int32) (mK : Nat) (mS : Int32) (su : Nat → Int32) (uK : Nat) (uS : Int32) (sh mu co sr : Nat → Int32) (du bi : Nat → Int64) (bb : Int64) (p0 p1 p2 p3 p4 : Int32) (r0 : inR p0 1 100000) (r1 : inR p1 0 100) (r2 : inR p2 0 100) (r3 : inR p3 1 5) (r4 : inR p4 1 5) (hu : ¬ 0 < nI c ∧ tk 0 ≤ 0) : gTv l yX1_set wsX1_set ({ frames := 7, cells := 6, slots := 36, locals := 112 } : Room) D [(cI, .int), (cL, .long)] [.ref (ad 0), .int p0, .int p1, .int p2, .int p3, .int p4] (wG ad cI cL qy lp sp pr ex (nI c) dy tk mk (nI mK) mS su (nI uK) uS sh mu co sr du bi bb) (wG ad cI cL p0 p1 p2 pr ex (nI c) dy tk mk p3 mS su p4 uS sh mu co sr du bi bb) True (fun _ => False) 6 36 sz := by
  refine gmx_v (cc := cX1_set) (maxL := 6) (by decide) rfl (Nat.le_of_ble_eq_true rfl) ?_
  intro pg en s m args below meth cd A ls hx hb hr hml hown hts hlocks hin hA hK hP hD hT hnx hl
  have hl : lv_has ls 6 [(0, .ref (ad 0)), (1, .int p0), (2, .int p1), (3, .int p2), (4, .int p3), (5, .int p4)] := hl
  have hS : va_S A s.heap s.heap [] := va_S.rf
  refine lv_iload_n hx hb dX1_set_0 rfl (lv_at hl 1 rfl) ?_
  refine lv_iconst (v := 1) hx hb dX1_set_1 (by decide) ?_
  refine lv_ldc (v := 100000) hx hb hown (hts _ hX1_set__constant_RX1_70_100000_) dX1_set_2 ?_
  refine gxS_v (wc := []) (wr := [(ad 0, .inr (1, [.int qy, .int lp, .int sp, .ref (ad 1), .ref (ad 2), .int (nI c), .ref (ad 3), .ref (ad 4), .ref (ad 5), .ref (ad 6), .ref (ad 7), .ref (ad 8), .ref (ad 9), .ref (ad 10), .ref (ad 11), .ref (ad 12), .long bb])), (ad 1, .inl (cI, 20, .inl pr)), (ad 2, .inl (cI, 20, .inl ex)), (ad 3, .inl (cI, 360, .inl dy)), (ad 4, .inl (cI, 20, .inl tk)), (ad 5, .inr (0, [.ref (ad 13), .int (nI mK), .int mS])), (ad 6, .inr (0, [.ref (ad 14), .int (nI uK), .int uS])), (ad 7, .inl (cI, 20, .inl sh)), (ad 8, .inl (cI, 20, .inl mu)), (ad 9, .inl (cI, 20, .inl co)), (ad 10, .inl (cI, 20, .inl sr)), (ad 11, .inl (cL, 20, .inr (.inl du))), (ad 12, .inl (cL, 20, .inr (.inl bi))), (ad 13, .inl (cI, 20, .inl mk)), (ad 14, .inl (cI, 20, .inl su))]) (w1 := []) (W' := (wG ad cI cL qy lp sp pr ex (nI c) dy tk mk (nI mK) mS su (nI uK) uS sh mu co sr du bi bb)) (As := [.int p0, .int 1, .int 100000]) (rest := []) ⟨hx, hb, hml, hown, hts⟩ (c_X1_requireRange l hst D s.heap.size cI cL p0 1 100000) (va_cwS 3 hts gX1_set_X1_requireRange rfl rfl rfl (by decide +kernel) ⟨(Nat.le_of_ble_eq_true rfl), (Nat.le_of_ble_eq_true rfl)⟩) hT hS hA hK hP hD [0, 1] rfl [] [0, 1, 2, 3, 4, 5, 6, 7, 8, 9, 10, 11, 12, 13, 14] [0, 1, 2, 3, 4, 5, 6, 7, 8, 9, 10, 11, 12, 13, 14] rfl (by decide) rfl (by decide) (by decide) rfl (by decide) rfl hl.1 rfl (Nat.le_of_ble_eq_true rfl) dX1_set_4 ⟨(Nat.le_of_ble_eq_true rfl), (Nat.le_of_ble_eq_true rfl)⟩ hnx hlocks (fun _ h => h.2 r0) (Nat.le_of_ble_eq_true rfl) (Nat.le_of_ble_eq_true rfl) [0, 1, 2, 3, 4, 5, 6, 7, 8, 9, 10, 11, 12, 13, 14] rfl (by decide) (fun H locs hok0 hP hD hS => ?_)
  refine lv_iload_n hx hb dX1_set_7 rfl (lv_at hl 2 rfl) ?_
  refine lv_iconst (v := 0) hx hb dX1_set_8 (by decide) ?_
  refine lv_bipush (v := 100) hx hb dX1_set_9 (by decide) ?_
  refine gxS_v (wc := []) (wr := [(ad 0, .inr (1, [.int qy, .int lp, .int sp, .ref (ad 1), .ref (ad 2), .int (nI c), .ref (ad 3), .ref (ad 4), .ref (ad 5), .ref (ad 6), .ref (ad 7), .ref (ad 8), .ref (ad 9), .ref (ad 10), .ref (ad 11), .ref (ad 12), .long bb])), (ad 1, .inl (cI, 20, .inl pr)), (ad 2, .inl (cI, 20, .inl ex)), (ad 3, .inl (cI, 360, .inl dy)), (ad 4, .inl (cI, 20, .inl tk)), (ad 5, .inr (0, [.ref (ad 13), .int (nI mK), .int mS])), (ad 6, .inr (0, [.ref (ad 14), .int (nI uK), .int uS])), (ad 7, .inl (cI, 20, .inl sh)), (ad 8, .inl (cI, 20, .inl mu)), (ad 9, .inl (cI, 20, .inl co)), (ad 10, .inl (cI, 20, .inl sr)), (ad 11, .inl (cL, 20, .inr (.inl du))), (ad 12, .inl (cL, 20, .inr (.inl bi))), (ad 13, .inl (cI, 20, .inl mk)), (ad 14, .inl (cI, 20, .inl su))]) (w1 := []) (W' := (wG ad cI cL qy lp sp pr ex (nI c) dy tk mk (nI mK) mS su (nI uK) uS sh mu co sr du bi bb)) (As := [.int p1, .int 0, .int 100]) (rest := []) ⟨hx, hb, hml, hown, hts⟩ (c_X1_requireRange l hst D H.size cI cL p1 0 100) (va_cwS 3 hts gX1_set_X1_requireRange rfl rfl rfl (by decide +kernel) ⟨(Nat.le_of_ble_eq_true rfl), (Nat.le_of_ble_eq_true rfl)⟩) hT hS hA hK hP hD [0, 1] rfl [] [0, 1, 2, 3, 4, 5, 6, 7, 8, 9, 10, 11, 12, 13, 14] [0, 1, 2, 3, 4, 5, 6, 7, 8, 9, 10, 11, 12, 13, 14] rfl (by decide) rfl (by decide) (by decide) rfl (by decide) rfl hl.1 rfl (Nat.le_of_ble_eq_true rfl) dX1_set_11 ⟨(Nat.le_of_ble_eq_true rfl), (Nat.le_of_ble_eq_true rfl)⟩ hnx hlocks (fun _ h => h.2 r1) (Nat.le_of_ble_eq_true rfl) (Nat.le_of_ble_eq_true rfl) [0, 1, 2, 3, 4, 5, 6, 7, 8, 9, 10, 11, 12, 13, 14] rfl (by decide) (fun H locs hok1 hP hD hS => ?_)
  refine lv_iload_n hx hb dX1_set_14 rfl (lv_at hl 3 rfl) ?_
  refine lv_iconst (v := 0) hx hb dX1_set_15 (by decide) ?_
  refine lv_bipush (v := 100) hx hb dX1_set_16 (by decide) ?_
  refine gxS_v (wc := []) (wr := [(ad 0, .inr (1, [.int qy, .int lp, .int sp, .ref (ad 1), .ref (ad 2), .int (nI c), .ref (ad 3), .ref (ad 4), .ref (ad 5), .ref (ad 6), .ref (ad 7), .ref (ad 8), .ref (ad 9), .ref (ad 10), .ref (ad 11), .ref (ad 12), .long bb])), (ad 1, .inl (cI, 20, .inl pr)), (ad 2, .inl (cI, 20, .inl ex)), (ad 3, .inl (cI, 360, .inl dy)), (ad 4, .inl (cI, 20, .inl tk)), (ad 5, .inr (0, [.ref (ad 13), .int (nI mK), .int mS])), (ad 6, .inr (0, [.ref (ad 14), .int (nI uK), .int uS])), (ad 7, .inl (cI, 20, .inl sh)), (ad 8, .inl (cI, 20, .inl mu)), (ad 9, .inl (cI, 20, .inl co)), (ad 10, .inl (cI, 20, .inl sr)), (ad 11, .inl (cL, 20, .inr (.inl du))), (ad 12, .inl (cL, 20, .inr (.inl bi))), (ad 13, .inl (cI, 20, .inl mk)), (ad 14, .inl (cI, 20, .inl su))]) (w1 := []) (W' := (wG ad cI cL qy lp sp pr ex (nI c) dy tk mk (nI mK) mS su (nI uK) uS sh mu co sr du bi bb)) (As := [.int p2, .int 0, .int 100]) (rest := []) ⟨hx, hb, hml, hown, hts⟩ (c_X1_requireRange l hst D H.size cI cL p2 0 100) (va_cwS 3 hts gX1_set_X1_requireRange rfl rfl rfl (by decide +kernel) ⟨(Nat.le_of_ble_eq_true rfl), (Nat.le_of_ble_eq_true rfl)⟩) hT hS hA hK hP hD [0, 1] rfl [] [0, 1, 2, 3, 4, 5, 6, 7, 8, 9, 10, 11, 12, 13, 14] [0, 1, 2, 3, 4, 5, 6, 7, 8, 9, 10, 11, 12, 13, 14] rfl (by decide) rfl (by decide) (by decide) rfl (by decide) rfl hl.1 rfl (Nat.le_of_ble_eq_true rfl) dX1_set_18 ⟨(Nat.le_of_ble_eq_true rfl), (Nat.le_of_ble_eq_true rfl)⟩ hnx hlocks (fun _ h => h.2 r2) (Nat.le_of_ble_eq_true rfl) (Nat.le_of_ble_eq_true rfl) [0, 1, 2, 3, 4, 5, 6, 7, 8, 9, 10, 11, 12, 13, 14] rfl (by decide) (fun H locs hok2 hP hD hS => ?_)
  refine lv_iload hx hb dX1_set_21 (lv_at hl 4 rfl) ?_
  refine lv_iconst (v := 1) hx hb dX1_set_23 (by decide) ?_
  refine lv_iconst (v := 5) hx hb dX1_set_24 (by decide) ?_
  refine gxS_v (wc := []) (wr := [(ad 0, .inr (1, [.int qy, .int lp, .int sp, .ref (ad 1), .ref (ad 2), .int (nI c), .ref (ad 3), .ref (ad 4), .ref (ad 5), .ref (ad 6), .ref (ad 7), .ref (ad 8), .ref (ad 9), .ref (ad 10), .ref (ad 11), .ref (ad 12), .long bb])), (ad 1, .inl (cI, 20, .inl pr)), (ad 2, .inl (cI, 20, .inl ex)), (ad 3, .inl (cI, 360, .inl dy)), (ad 4, .inl (cI, 20, .inl tk)), (ad 5, .inr (0, [.ref (ad 13), .int (nI mK), .int mS])), (ad 6, .inr (0, [.ref (ad 14), .int (nI uK), .int uS])), (ad 7, .inl (cI, 20, .inl sh)), (ad 8, .inl (cI, 20, .inl mu)), (ad 9, .inl (cI, 20, .inl co)), (ad 10, .inl (cI, 20, .inl sr)), (ad 11, .inl (cL, 20, .inr (.inl du))), (ad 12, .inl (cL, 20, .inr (.inl bi))), (ad 13, .inl (cI, 20, .inl mk)), (ad 14, .inl (cI, 20, .inl su))]) (w1 := []) (W' := (wG ad cI cL qy lp sp pr ex (nI c) dy tk mk (nI mK) mS su (nI uK) uS sh mu co sr du bi bb)) (As := [.int p3, .int 1, .int 5]) (rest := []) ⟨hx, hb, hml, hown, hts⟩ (c_X1_requireRange l hst D H.size cI cL p3 1 5) (va_cwS 3 hts gX1_set_X1_requireRange rfl rfl rfl (by decide +kernel) ⟨(Nat.le_of_ble_eq_true rfl), (Nat.le_of_ble_eq_true rfl)⟩) hT hS hA hK hP hD [0, 1] rfl [] [0, 1, 2, 3, 4, 5, 6, 7, 8, 9, 10, 11, 12, 13, 14] [0, 1, 2, 3, 4, 5, 6, 7, 8, 9, 10, 11, 12, 13, 14] rfl (by decide) rfl (by decide) (by decide) rfl (by decide) rfl hl.1 rfl (Nat.le_of_ble_eq_true rfl) dX1_set_25 ⟨(Nat.le_of_ble_eq_true rfl), (Nat.le_of_ble_eq_true rfl)⟩ hnx hlocks (fun _ h => h.2 r3) (Nat.le_of_ble_eq_true rfl) (Nat.le_of_ble_eq_true rfl) [0, 1, 2, 3, 4, 5, 6, 7, 8, 9, 10, 11, 12, 13, 14] rfl (by decide) (fun H locs hok3 hP hD hS => ?_)
  refine lv_iload hx hb dX1_set_28 (lv_at hl 5 rfl) ?_
  refine lv_iconst (v := 1) hx hb dX1_set_30 (by decide) ?_
  refine lv_iconst (v := 5) hx hb dX1_set_31 (by decide) ?_
  refine gxS_v (wc := []) (wr := [(ad 0, .inr (1, [.int qy, .int lp, .int sp, .ref (ad 1), .ref (ad 2), .int (nI c), .ref (ad 3), .ref (ad 4), .ref (ad 5), .ref (ad 6), .ref (ad 7), .ref (ad 8), .ref (ad 9), .ref (ad 10), .ref (ad 11), .ref (ad 12), .long bb])), (ad 1, .inl (cI, 20, .inl pr)), (ad 2, .inl (cI, 20, .inl ex)), (ad 3, .inl (cI, 360, .inl dy)), (ad 4, .inl (cI, 20, .inl tk)), (ad 5, .inr (0, [.ref (ad 13), .int (nI mK), .int mS])), (ad 6, .inr (0, [.ref (ad 14), .int (nI uK), .int uS])), (ad 7, .inl (cI, 20, .inl sh)), (ad 8, .inl (cI, 20, .inl mu)), (ad 9, .inl (cI, 20, .inl co)), (ad 10, .inl (cI, 20, .inl sr)), (ad 11, .inl (cL, 20, .inr (.inl du))), (ad 12, .inl (cL, 20, .inr (.inl bi))), (ad 13, .inl (cI, 20, .inl mk)), (ad 14, .inl (cI, 20, .inl su))]) (w1 := []) (W' := (wG ad cI cL qy lp sp pr ex (nI c) dy tk mk (nI mK) mS su (nI uK) uS sh mu co sr du bi bb)) (As := [.int p4, .int 1, .int 5]) (rest := []) ⟨hx, hb, hml, hown, hts⟩ (c_X1_requireRange l hst D H.size cI cL p4 1 5) (va_cwS 3 hts gX1_set_X1_requireRange rfl rfl rfl (by decide +kernel) ⟨(Nat.le_of_ble_eq_true rfl), (Nat.le_of_ble_eq_true rfl)⟩) hT hS hA hK hP hD [0, 1] rfl [] [0, 1, 2, 3, 4, 5, 6, 7, 8, 9, 10, 11, 12, 13, 14] [0, 1, 2, 3, 4, 5, 6, 7, 8, 9, 10, 11, 12, 13, 14] rfl (by decide) rfl (by decide) (by decide) rfl (by decide) rfl hl.1 rfl (Nat.le_of_ble_eq_true rfl) dX1_set_32 ⟨(Nat.le_of_ble_eq_true rfl), (Nat.le_of_ble_eq_true rfl)⟩ hnx hlocks (fun _ h => h.2 r4) (Nat.le_of_ble_eq_true rfl) (Nat.le_of_ble_eq_true rfl) [0, 1, 2, 3, 4, 5, 6, 7, 8, 9, 10, 11, 12, 13, 14] rfl (by decide) (fun H locs hok4 hP hD hS => ?_)
  refine lv_aload_n hx hb dX1_set_35 rfl (lv_at hl 0 rfl) ?_
  refine gxV_v (wc := (wG ad cI cL qy lp sp pr ex (nI c) dy tk mk (nI mK) mS su (nI uK) uS sh mu co sr du bi bb)) (wr := []) (w1 := (wG ad cI cL qy lp sp pr ex (nI c) dy tk mk (nI mK) mS su (nI uK) uS sh mu co sr du bi bb)) (W' := (wG ad cI cL qy lp sp pr ex (nI c) dy tk mk (nI mK) mS su (nI uK) uS sh mu co sr du bi bb)) (As := []) (rest := []) ⟨hx, hb, hml, hown, hts⟩ (c_X1_requireUnused l hst D H.size ad cI cL qy lp sp pr ex c dy tk mk mK mS su uK uS sh mu co sr du bi bb ) (cwV 0 hts gX1_set_X1_requireUnused rfl rfl rfl (by decide +kernel) ⟨(Nat.le_of_ble_eq_true rfl), (Nat.le_of_ble_eq_true rfl)⟩) hT hS hA hK hP hD [0, 1] rfl [0, 1, 2, 3, 4, 5, 6, 7, 8, 9, 10, 11, 12, 13, 14] [] [0, 1, 2, 3, 4, 5, 6, 7, 8, 9, 10, 11, 12, 13, 14] rfl (by decide) rfl (by decide) (by decide) rfl (by decide) 0 1 rfl rfl rfl rfl hl.1 rfl (Nat.le_of_ble_eq_true rfl) dX1_set_36 ⟨(Nat.le_of_ble_eq_true rfl), (Nat.le_of_ble_eq_true rfl)⟩ hnx hlocks (fun _ h => h.2 hu) (Nat.le_of_ble_eq_true rfl) (Nat.le_of_ble_eq_true rfl) [0, 1, 2, 3, 4, 5, 6, 7, 8, 9, 10, 11, 12, 13, 14] rfl (by decide) (fun H locs hok5 hP hD hS => ?_)
  refine lv_aload_n hx hb dX1_set_39 rfl (lv_at hl 0 rfl) ?_
  refine lv_iload_n hx hb dX1_set_40 rfl (lv_at hl 1 rfl) ?_
  refine va_put (D := D) (ci := 1) (v := .int p0) (ty := .int) (C := RX1) (T := TX1) (N := 17) hx hb hts inX1_set_X1 tyX1 tyX1_ok nmX1 hown hK hP hD hS 0 rfl rfl 0 (by decide) (hts _ hX1_set__fieldLink_RX1_10_MakeupGas_yearlyQuantity_I_) (fun _ h9 => h9) (by decide +kernel) (by decide +kernel) rfl rfl (Nat.le_of_ble_eq_true rfl) dX1_set_41 (fun H locs hP hD hS => ?_)
  have hP : va_P D vwCl (wG ad cI cL p0 lp sp pr ex (nI c) dy tk mk (nI mK) mS su (nI uK) uS sh mu co sr du bi bb) H := hP
  have hD : va_D A (wG ad cI cL p0 lp sp pr ex (nI c) dy tk mk (nI mK) mS su (nI uK) uS sh mu co sr du bi bb) := hD
  refine lv_aload_n hx hb dX1_set_44 rfl (lv_at hl 0 rfl) ?_
  refine lv_iload_n hx hb dX1_set_45 rfl (lv_at hl 2 rfl) ?_
  refine va_put (D := D) (ci := 1) (v := .int p1) (ty := .int) (C := RX1) (T := TX1) (N := 17) hx hb hts inX1_set_X1 tyX1 tyX1_ok nmX1 hown hK hP hD hS 0 rfl rfl 1 (by decide) (hts _ hX1_set__fieldLink_RX1_14_MakeupGas_leastPercent_I_) (fun _ h9 => h9) (by decide +kernel) (by decide +kernel) rfl rfl (Nat.le_of_ble_eq_true rfl) dX1_set_46 (fun H locs hP hD hS => ?_)
  have hP : va_P D vwCl (wG ad cI cL p0 p1 sp pr ex (nI c) dy tk mk (nI mK) mS su (nI uK) uS sh mu co sr du bi bb) H := hP
  have hD : va_D A (wG ad cI cL p0 p1 sp pr ex (nI c) dy tk mk (nI mK) mS su (nI uK) uS sh mu co sr du bi bb) := hD
  refine lv_aload_n hx hb dX1_set_49 rfl (lv_at hl 0 rfl) ?_
  refine lv_iload_n hx hb dX1_set_50 rfl (lv_at hl 3 rfl) ?_
  refine va_put (D := D) (ci := 1) (v := .int p2) (ty := .int) (C := RX1) (T := TX1) (N := 17) hx hb hts inX1_set_X1 tyX1 tyX1_ok nmX1 hown hK hP hD hS 0 rfl rfl 2 (by decide) (hts _ hX1_set__fieldLink_RX1_17_MakeupGas_shortfallPercent_I_) (fun _ h9 => h9) (by decide +kernel) (by decide +kernel) rfl rfl (Nat.le_of_ble_eq_true rfl) dX1_set_51 (fun H locs hP hD hS => ?_)
  have hP : va_P D vwCl (wG ad cI cL p0 p1 p2 pr ex (nI c) dy tk mk (nI mK) mS su (nI uK) uS sh mu co sr du bi bb) H := hP
  have hD : va_D A (wG ad cI cL p0 p1 p2 pr ex (nI c) dy tk mk (nI mK) mS su (nI uK) uS sh mu co sr du bi bb) := hD
  refine lv_aload_n hx hb dX1_set_54 rfl (lv_at hl 0 rfl) ?_
  refine va_get (D := D) (ci := 1) (C := RX1) (T := TX1) (N := 17) hx hb hts inX1_set_X1 hown hK hP 0 rfl rfl 8 (by decide) (hts _ hX1_set__fieldLink_RX1_44_MakeupGas_makeUpStock_LMakeupGas_Stock_) (fun _ h9 => h9) rfl dX1_set_55 ?_
  refine lv_iload hx hb dX1_set_58 (lv_at hl 4 rfl) ?_
  refine gV_v (wc := (wK (ad 5) (ad 13) cI mk (nI mK) mS)) (wr := [(ad 0, .inr (1, [.int p0, .int p1, .int p2, .ref (ad 1), .ref (ad 2), .int (nI c), .ref (ad 3), .ref (ad 4), .ref (ad 5), .ref (ad 6), .ref (ad 7), .ref (ad 8), .ref (ad 9), .ref (ad 10), .ref (ad 11), .ref (ad 12), .long bb])), (ad 1, .inl (cI, 20, .inl pr)), (ad 2, .inl (cI, 20, .inl ex)), (ad 3, .inl (cI, 360, .inl dy)), (ad 4, .inl (cI, 20, .inl tk)), (ad 6, .inr (0, [.ref (ad 14), .int (nI uK), .int uS])), (ad 7, .inl (cI, 20, .inl sh)), (ad 8, .inl (cI, 20, .inl mu)), (ad 9, .inl (cI, 20, .inl co)), (ad 10, .inl (cI, 20, .inl sr)), (ad 11, .inl (cL, 20, .inr (.inl du))), (ad 12, .inl (cL, 20, .inr (.inl bi))), (ad 14, .inl (cI, 20, .inl su))]) (w1 := (wK (ad 5) (ad 13) cI mk p3 mS)) (W' := (wG ad cI cL p0 p1 p2 pr ex (nI c) dy tk mk p3 mS su (nI uK) uS sh mu co sr du bi bb)) (As := [.int p3]) (rest := []) ⟨hx, hb, hml, hown, hts⟩ (c_X0_keepFor l D H.size (ad 5) (ad 13) cI cL mk (nI mK) mS p3) (cwV 1 hts gX1_set_X0_keepFor rfl rfl rfl (by decide +kernel) ⟨(Nat.le_of_ble_eq_true rfl), (Nat.le_of_ble_eq_true rfl)⟩) hS hA hK hP hD [0, 1] rfl [5, 13] [0, 1, 2, 3, 4, 6, 7, 8, 9, 10, 11, 12, 14] [0, 1, 2, 3, 4, 13, 5, 6, 7, 8, 9, 10, 11, 14, 12] rfl (by decide) rfl (by decide) (by decide) rfl (by decide) 0 0 rfl rfl rfl rfl hl.1 rfl (Nat.le_of_ble_eq_true rfl) dX1_set_60 ⟨(Nat.le_of_ble_eq_true rfl), (Nat.le_of_ble_eq_true rfl)⟩ (fun H locs _ hP hD hS => ?_)
  refine lv_aload_n hx hb dX1_set_63 rfl (lv_at hl 0 rfl) ?_
  refine va_get (D := D) (ci := 1) (C := RX1) (T := TX1) (N := 17) hx hb hts inX1_set_X1 hown hK hP 0 rfl rfl 9 (by decide) (hts _ hX1_set__fieldLink_RX1_48_MakeupGas_surplusStock_LMakeupGas_Stock_) (fun _ h9 => h9) rfl dX1_set_64 ?_
  refine lv_iload hx hb dX1_set_67 (lv_at hl 5 rfl) ?_
  refine gV_v (wc := (wK (ad 6) (ad 14) cI su (nI uK) uS)) (wr := [(ad 0, .inr (1, [.int p0, .int p1, .int p2, .ref (ad 1), .ref (ad 2), .int (nI c), .ref (ad 3), .ref (ad 4), .ref (ad 5), .ref (ad 6), .ref (ad 7), .ref (ad 8), .ref (ad 9), .ref (ad 10), .ref (ad 11), .ref (ad 12), .long bb])), (ad 1, .inl (cI, 20, .inl pr)), (ad 2, .inl (cI, 20, .inl ex)), (ad 3, .inl (cI, 360, .inl dy)), (ad 4, .inl (cI, 20, .inl tk)), (ad 5, .inr (0, [.ref (ad 13), .int p3, .int mS])), (ad 7, .inl (cI, 20, .inl sh)), (ad 8, .inl (cI, 20, .inl mu)), (ad 9, .inl (cI, 20, .inl co)), (ad 10, .inl (cI, 20, .inl sr)), (ad 11, .inl (cL, 20, .inr (.inl du))), (ad 12, .inl (cL, 20, .inr (.inl bi))), (ad 13, .inl (cI, 20, .inl mk))]) (w1 := (wK (ad 6) (ad 14) cI su p4 uS)) (W' := (wG ad cI cL p0 p1 p2 pr ex (nI c) dy tk mk p3 mS su p4 uS sh mu co sr du bi bb)) (As := [.int p4]) (rest := []) ⟨hx, hb, hml, hown, hts⟩ (c_X0_keepFor l D H.size (ad 6) (ad 14) cI cL su (nI uK) uS p4) (cwV 1 hts gX1_set_X0_keepFor rfl rfl rfl (by decide +kernel) ⟨(Nat.le_of_ble_eq_true rfl), (Nat.le_of_ble_eq_true rfl)⟩) hS hA hK hP hD [0, 1] rfl [6, 14] [0, 1, 2, 3, 4, 5, 7, 8, 9, 10, 11, 12, 13] [0, 1, 2, 3, 4, 5, 13, 6, 7, 8, 9, 10, 11, 12, 14] rfl (by decide) rfl (by decide) (by decide) rfl (by decide) 0 0 rfl rfl rfl rfl hl.1 rfl (Nat.le_of_ble_eq_true rfl) dX1_set_69 ⟨(Nat.le_of_ble_eq_true rfl), (Nat.le_of_ble_eq_true rfl)⟩ (fun H locs _ hP hD hS => ?_)
  exact gex_v hx hb hr hlocks hK hP hD hS trivial (Nat.le_of_ble_eq_true rfl) (Nat.le_of_ble_eq_true rfl) dX1_set_72
theorem inX1_review_X1 : ∀ q ∈ wsX10, q ∈ wsX1_review := by decide +kernel
theorem hX1_review__fieldLink_RX1_20_MakeupGas_pricePerYear_I_ : Cond.fieldLink RX1 20 "MakeupGas" "pricePerYear" "[I" ∈ wsX1_review := by decide +kernel
set_option maxHeartbeats 4000000 in
set_option maxRecDepth 100000 in
theorem c_X1_review (l : Launch) (hst : l.stackTraces = false) (D : va_G) (sz : Nat) (ad : Nat → Nat) (cI cL : ClassId) (qy lp sp : Int32) (pr ex : Nat → Int32) (c : Nat) (dy tk mk : Nat → Int32) (mK : Nat) (mS : Int32) (su : Nat → Int32) (uK : Nat) (uS : Int32) (sh mu co sr : Nat → Int32) (du bi : Nat → Int64) (bb : Int64) (j : Nat) (p : Int32) (hj : j < 20) (r1 : inR p 1 1000) (hc : c ≤ 20) (hmK : mK < 20) (huK : uK < 20) : gTi l yX1_review wsX1_review ({ frames := 8, cells := 2, slots := 12, locals := 132 } : Room) D [(cI, .int), (cL, .long)] [.ref (ad 0), .int (nI j), .int p] (wG ad cI cL qy lp sp pr ex (nI c) dy tk mk (nI mK) mS su (nI uK) uS sh mu co sr du bi bb) (wG ad cI cL qy lp sp (rvF pr j 20 p) ex (nI c) dy tk (rMk (stC qy lp sp (rvF pr j 20 p) ex tk mK uK (st0 sh mu co sr du) c)) (nI mK) (rMS (stC qy lp sp (rvF pr j 20 p) ex tk mK uK (st0 sh mu co sr du) c)) (rSu (stC qy lp sp (rvF pr j 20 p) ex tk mK uK (st0 sh mu co sr du) c)) (nI uK) (rUS (stC qy lp sp (rvF pr j 20 p) ex tk mK uK (st0 sh mu co sr du) c)) (rSh (stC qy lp sp (rvF pr j 20 p) ex tk mK uK (st0 sh mu co sr du) c)) (rMu (stC qy lp sp (rvF pr j 20 p) ex tk mK uK (st0 sh mu co sr du) c)) (rCo (stC qy lp sp (rvF pr j 20 p) ex tk mK uK (st0 sh mu co sr du) c)) (rSr (stC qy lp sp (rvF pr j 20 p) ex tk mK uK (st0 sh mu co sr du) c)) (rDu (stC qy lp sp (rvF pr j 20 p) ex tk mK uK (st0 sh mu co sr du) c)) bi bb) (pr j) True (fun _ => False) 2 12 sz := by
  refine gmx_i (cc := cX1_review) (maxL := 5) (by decide) rfl (Nat.le_of_ble_eq_true rfl) ?_
  intro pg en s m args below meth cd A ls hx hb hr hml hown hts hlocks hin hA hK hP hD hT hnx hl
  have hl : lv_has ls 5 [(0, .ref (ad 0)), (1, .int (nI j)), (2, .int p)] := hl
  have hS : va_S A s.heap s.heap [] := va_S.rf
  refine lv_iload_n hx hb dX1_review_0 rfl (lv_at hl 1 rfl) ?_
  refine gxS_v (wc := []) (wr := [(ad 0, .inr (1, [.int qy, .int lp, .int sp, .ref (ad 1), .ref (ad 2), .int (nI c), .ref (ad 3), .ref (ad 4), .ref (ad 5), .ref (ad 6), .ref (ad 7), .ref (ad 8), .ref (ad 9), .ref (ad 10), .ref (ad 11), .ref (ad 12), .long bb])), (ad 1, .inl (cI, 20, .inl pr)), (ad 2, .inl (cI, 20, .inl ex)), (ad 3, .inl (cI, 360, .inl dy)), (ad 4, .inl (cI, 20, .inl tk)), (ad 5, .inr (0, [.ref (ad 13), .int (nI mK), .int mS])), (ad 6, .inr (0, [.ref (ad 14), .int (nI uK), .int uS])), (ad 7, .inl (cI, 20, .inl sh)), (ad 8, .inl (cI, 20, .inl mu)), (ad 9, .inl (cI, 20, .inl co)), (ad 10, .inl (cI, 20, .inl sr)), (ad 11, .inl (cL, 20, .inr (.inl du))), (ad 12, .inl (cL, 20, .inr (.inl bi))), (ad 13, .inl (cI, 20, .inl mk)), (ad 14, .inl (cI, 20, .inl su))]) (w1 := []) (W' := (wG ad cI cL qy lp sp pr ex (nI c) dy tk mk (nI mK) mS su (nI uK) uS sh mu co sr du bi bb)) (As := [.int (nI j)]) (rest := []) ⟨hx, hb, hml, hown, hts⟩ (c_X1_requireYear l hst D s.heap.size cI cL (nI j)) (va_cwS 1 hts gX1_review_X1_requireYear rfl rfl rfl (by decide +kernel) ⟨(Nat.le_of_ble_eq_true rfl), (Nat.le_of_ble_eq_true rfl)⟩) hT hS hA hK hP hD [0, 1] rfl [] [0, 1, 2, 3, 4, 5, 6, 7, 8, 9, 10, 11, 12, 13, 14] [0, 1, 2, 3, 4, 5, 6, 7, 8, 9, 10, 11, 12, 13, 14] rfl (by decide) rfl (by decide) (by decide) rfl (by decide) rfl hl.1 rfl (Nat.le_of_ble_eq_true rfl) dX1_review_1 ⟨(Nat.le_of_ble_eq_true rfl), (Nat.le_of_ble_eq_true rfl)⟩ hnx hlocks (fun _ h => h.2 (inR_nI (n := 19) rfl (by omega) (by decide))) (Nat.le_of_ble_eq_true rfl) (Nat.le_of_ble_eq_true rfl) [0, 1, 2, 3, 4, 5, 6, 7, 8, 9, 10, 11, 12, 13, 14] rfl (by decide) (fun H locs hok0 hP hD hS => ?_)
  refine lv_iload_n hx hb dX1_review_4 rfl (lv_at hl 2 rfl) ?_
  refine lv_iconst (v := 1) hx hb dX1_review_5 (by decide) ?_
  refine lv_sipush (v := 1000) hx hb dX1_review_6 (by decide) ?_
  refine gxS_v (wc := []) (wr := [(ad 0, .inr (1, [.int qy, .int lp, .int sp, .ref (ad 1), .ref (ad 2), .int (nI c), .ref (ad 3), .ref (ad 4), .ref (ad 5), .ref (ad 6), .ref (ad 7), .ref (ad 8), .ref (ad 9), .ref (ad 10), .ref (ad 11), .ref (ad 12), .long bb])), (ad 1, .inl (cI, 20, .inl pr)), (ad 2, .inl (cI, 20, .inl ex)), (ad 3, .inl (cI, 360, .inl dy)), (ad 4, .inl (cI, 20, .inl tk)), (ad 5, .inr (0, [.ref (ad 13), .int (nI mK), .int mS])), (ad 6, .inr (0, [.ref (ad 14), .int (nI uK), .int uS])), (ad 7, .inl (cI, 20, .inl sh)), (ad 8, .inl (cI, 20, .inl mu)), (ad 9, .inl (cI, 20, .inl co)), (ad 10, .inl (cI, 20, .inl sr)), (ad 11, .inl (cL, 20, .inr (.inl du))), (ad 12, .inl (cL, 20, .inr (.inl bi))), (ad 13, .inl (cI, 20, .inl mk)), (ad 14, .inl (cI, 20, .inl su))]) (w1 := []) (W' := (wG ad cI cL qy lp sp pr ex (nI c) dy tk mk (nI mK) mS su (nI uK) uS sh mu co sr du bi bb)) (As := [.int p, .int 1, .int 1000]) (rest := []) ⟨hx, hb, hml, hown, hts⟩ (c_X1_requireRange l hst D H.size cI cL p 1 1000) (va_cwS 3 hts gX1_review_X1_requireRange rfl rfl rfl (by decide +kernel) ⟨(Nat.le_of_ble_eq_true rfl), (Nat.le_of_ble_eq_true rfl)⟩) hT hS hA hK hP hD [0, 1] rfl [] [0, 1, 2, 3, 4, 5, 6, 7, 8, 9, 10, 11, 12, 13, 14] [0, 1, 2, 3, 4, 5, 6, 7, 8, 9, 10, 11, 12, 13, 14] rfl (by decide) rfl (by decide) (by decide) rfl (by decide) rfl hl.1 rfl (Nat.le_of_ble_eq_true rfl) dX1_review_9 ⟨(Nat.le_of_ble_eq_true rfl), (Nat.le_of_ble_eq_true rfl)⟩ hnx hlocks (fun _ h => h.2 r1) (Nat.le_of_ble_eq_true rfl) (Nat.le_of_ble_eq_true rfl) [0, 1, 2, 3, 4, 5, 6, 7, 8, 9, 10, 11, 12, 13, 14] rfl (by decide) (fun H locs hok1 hP hD hS => ?_)
  refine lv_aload_n hx hb dX1_review_12 rfl (lv_at hl 0 rfl) ?_
  refine va_get (D := D) (ci := 1) (C := RX1) (T := TX1) (N := 17) hx hb hts inX1_review_X1 hown hK hP 0 rfl rfl 3 (by decide) (hts _ hX1_review__fieldLink_RX1_20_MakeupGas_pricePerYear_I_) (fun _ h9 => h9) rfl dX1_review_13 ?_
  refine lv_iload_n hx hb dX1_review_16 rfl (lv_at hl 1 rfl) ?_
  refine ga_iald (j := j) hx hb hK hP 1 0 rfl rfl hj (by decide) dX1_review_17 ?_
  refine lv_istore_n (lv' := [(3, .int (pr j)), (0, .ref (ad 0)), (1, .int (nI j)), (2, .int p)]) hx hb dX1_review_18 rfl hl (by decide) rfl (fun ls hl => ?_)
  refine lv_iload_n hx hb dX1_review_19 rfl (lv_at hl 2 rfl) ?_
  refine lv_istore (lv' := [(4, .int (nI j)), (3, .int (pr j)), (0, .ref (ad 0)), (1, .int (nI j)), (2, .int p)]) hx hb dX1_review_20 hl (by decide) rfl (fun ls hl => ?_)
  have lp_22 : ∀ (n i : Nat), i ≤ 20 → 20 < i + n → j ≤ i → ∀ (H : Heap) (locs : List Loc), va_P D vwCl (wG ad cI cL qy lp sp (rvF pr j i p) ex (nI c) dy tk mk (nI mK) mS su (nI uK) uS sh mu co sr du bi bb) H → va_D A (wG ad cI cL qy lp sp (rvF pr j i p) ex (nI c) dy tk mk (nI mK) mS su (nI uK) uS sh mu co sr du bi bb) → va_S A s.heap H locs → ∀ (ls : Array Slot), lv_has ls 5 [(0, .ref (ad 0)), (1, .int (nI j)), (2, .int p), (3, .int (pr j)), (4, .int (nI i))] → W pg l en ({ frames := 8, cells := 2, slots := 12, locals := 132 } : Room) s m args below meth cd H locs 2 12 (gFi (pr j) True (fun _ => False) below D [(cI, .int), (cL, .long)] (wG ad cI cL qy lp sp pr ex (nI c) dy tk mk (nI mK) mS su (nI uK) uS sh mu co sr du bi bb) (wG ad cI cL qy lp sp (rvF pr j 20 p) ex (nI c) dy tk (rMk (stC qy lp sp (rvF pr j 20 p) ex tk mK uK (st0 sh mu co sr du) c)) (nI mK) (rMS (stC qy lp sp (rvF pr j 20 p) ex tk mK uK (st0 sh mu co sr du) c)) (rSu (stC qy lp sp (rvF pr j 20 p) ex tk mK uK (st0 sh mu co sr du) c)) (nI uK) (rUS (stC qy lp sp (rvF pr j 20 p) ex tk mK uK (st0 sh mu co sr du) c)) (rSh (stC qy lp sp (rvF pr j 20 p) ex tk mK uK (st0 sh mu co sr du) c)) (rMu (stC qy lp sp (rvF pr j 20 p) ex tk mK uK (st0 sh mu co sr du) c)) (rCo (stC qy lp sp (rvF pr j 20 p) ex tk mK uK (st0 sh mu co sr du) c)) (rSr (stC qy lp sp (rvF pr j 20 p) ex tk mK uK (st0 sh mu co sr du) c)) (rDu (stC qy lp sp (rvF pr j 20 p) ex tk mK uK (st0 sh mu co sr du) c)) bi bb) A args s 2 12) (F0 m 22 ls []) := by
    intro n
    induction n with
    | zero => intro i h1 h2; exact absurd h2 (by omega)
    | succ n ih =>
      intro i hi hin2 hji H locs hP hD hS ls hl
      refine lv_iload hx hb dX1_review_22 (lv_at hl 4 rfl) ?_
      refine lv_bipush (v := 20) hx hb dX1_review_24 (by decide) ?_
      refine lv_icmp_ge (tgt := 43) hx hb dX1_review_26 (by decide) (fun c1 => ?_) (fun c1 => ?_)
      · obtain rfl : i = 20 := Nat.le_antisymm hi (Nat.not_lt.mp fun h => absurd c1 (nI_ge h (by decide)))
        refine lv_aload_n hx hb dX1_review_43 rfl (lv_at hl 0 rfl) ?_
        refine gV_v (wc := (wG ad cI cL qy lp sp (rvF pr j 20 p) ex (nI c) dy tk mk (nI mK) mS su (nI uK) uS sh mu co sr du bi bb)) (wr := []) (w1 := (wG ad cI cL qy lp sp (rvF pr j 20 p) ex (nI c) dy tk (rMk (stC qy lp sp (rvF pr j 20 p) ex tk mK uK (st0 sh mu co sr du) c)) (nI mK) (rMS (stC qy lp sp (rvF pr j 20 p) ex tk mK uK (st0 sh mu co sr du) c)) (rSu (stC qy lp sp (rvF pr j 20 p) ex tk mK uK (st0 sh mu co sr du) c)) (nI uK) (rUS (stC qy lp sp (rvF pr j 20 p) ex tk mK uK (st0 sh mu co sr du) c)) (rSh (stC qy lp sp (rvF pr j 20 p) ex tk mK uK (st0 sh mu co sr du) c)) (rMu (stC qy lp sp (rvF pr j 20 p) ex tk mK uK (st0 sh mu co sr du) c)) (rCo (stC qy lp sp (rvF pr j 20 p) ex tk mK uK (st0 sh mu co sr du) c)) (rSr (stC qy lp sp (rvF pr j 20 p) ex tk mK uK (st0 sh mu co sr du) c)) (rDu (stC qy lp sp (rvF pr j 20 p) ex tk mK uK (st0 sh mu co sr du) c)) bi bb)) (W' := (wG ad cI cL qy lp sp (rvF pr j 20 p) ex (nI c) dy tk (rMk (stC qy lp sp (rvF pr j 20 p) ex tk mK uK (st0 sh mu co sr du) c)) (nI mK) (rMS (stC qy lp sp (rvF pr j 20 p) ex tk mK uK (st0 sh mu co sr du) c)) (rSu (stC qy lp sp (rvF pr j 20 p) ex tk mK uK (st0 sh mu co sr du) c)) (nI uK) (rUS (stC qy lp sp (rvF pr j 20 p) ex tk mK uK (st0 sh mu co sr du) c)) (rSh (stC qy lp sp (rvF pr j 20 p) ex tk mK uK (st0 sh mu co sr du) c)) (rMu (stC qy lp sp (rvF pr j 20 p) ex tk mK uK (st0 sh mu co sr du) c)) (rCo (stC qy lp sp (rvF pr j 20 p) ex tk mK uK (st0 sh mu co sr du) c)) (rSr (stC qy lp sp (rvF pr j 20 p) ex tk mK uK (st0 sh mu co sr du) c)) (rDu (stC qy lp sp (rvF pr j 20 p) ex tk mK uK (st0 sh mu co sr du) c)) bi bb)) (As := []) (rest := []) ⟨hx, hb, hml, hown, hts⟩ (c_X1_settleClosedYears l D H.size ad cI cL qy lp sp (rvF pr j 20 p) ex c dy tk mk mK mS su uK uS sh mu co sr du bi bb  hc hmK huK) (cwV 0 hts gX1_review_X1_settleClosedYears rfl rfl rfl (by decide +kernel) ⟨(Nat.le_of_ble_eq_true rfl), (Nat.le_of_ble_eq_true rfl)⟩) hS hA hK hP hD [0, 1] rfl [0, 1, 2, 3, 4, 5, 6, 7, 8, 9, 10, 11, 12, 13, 14] [] [0, 1, 2, 3, 4, 5, 6, 7, 8, 9, 10, 11, 12, 13, 14] rfl (by decide) rfl (by decide) (by decide) rfl (by decide) 0 1 rfl rfl rfl rfl hl.1 rfl (Nat.le_of_ble_eq_true rfl) dX1_review_44 ⟨(Nat.le_of_ble_eq_true rfl), (Nat.le_of_ble_eq_true rfl)⟩ (fun H locs _ hP hD hS => ?_)
        refine lv_iload_n hx hb dX1_review_47 rfl (lv_at hl 3 rfl) ?_
        exact gex_i hx hb hr hlocks rfl hK hP hD hS trivial (Nat.le_of_ble_eq_true rfl) (Nat.le_of_ble_eq_true rfl) dX1_review_48
      · have hi3 : i < 20 := Nat.not_le.mp (fun h => c1 (nI_le h (by omega)))
        refine lv_aload_n hx hb dX1_review_29 rfl (lv_at hl 0 rfl) ?_
        refine va_get (D := D) (ci := 1) (C := RX1) (T := TX1) (N := 17) hx hb hts inX1_review_X1 hown hK hP 0 rfl rfl 3 (by decide) (hts _ hX1_review__fieldLink_RX1_20_MakeupGas_pricePerYear_I_) (fun _ h9 => h9) rfl dX1_review_30 ?_
        refine lv_iload hx hb dX1_review_33 (lv_at hl 4 rfl) ?_
        refine lv_iload_n hx hb dX1_review_35 rfl (lv_at hl 2 rfl) ?_
        refine ga_iast (j := i) (ws' := (wG ad cI cL qy lp sp (rvF pr j (i + 1) p) ex (nI c) dy tk mk (nI mK) mS su (nI uK) uS sh mu co sr du bi bb)) hx hb hK hP hD hS 1 0 rfl rfl hi3 (by decide) dX1_review_36 (by rw [rvF_s pr p hji]; rfl) (fun H locs hP hD hS => ?_)
        refine lv_iinc (v := nI (i + 1)) (lv' := [(4, .int (nI (i + 1))), (0, .ref (ad 0)), (1, .int (nI j)), (2, .int p), (3, .int (pr j))]) hx hb dX1_review_37 hl (k := 4) rfl (gi_1 _) (by decide) rfl (fun ls hl => ?_)
        refine lv_goto (tgt := 22) hx hb dX1_review_40 (by decide) ?_
        exact ih (i + 1) (by omega) (by omega) (by omega) _ _ hP hD hS ls (lv_sub hl [1, 2, 3, 4, 0] rfl)
  rw [← rvF_0 pr j p] at hP hD
  exact lp_22 (20 + 1) j (by omega) (by omega) (Nat.le_refl j) _ _ hP hD hS ls (lv_sub hl [2, 3, 4, 1, 0] rfl)
theorem inX1_excuse_X1 : ∀ q ∈ wsX10, q ∈ wsX1_excuse := by decide +kernel
theorem hX1_excuse__fieldLink_RX1_30_MakeupGas_excusedDays_I_ : Cond.fieldLink RX1 30 "MakeupGas" "excusedDays" "[I" ∈ wsX1_excuse := by decide +kernel
set_option maxHeartbeats 4000000 in
set_option maxRecDepth 100000 in
theorem c_X1_excuse (l : Launch) (hst : l.stackTraces = false) (D : va_G) (sz : Nat) (ad : Nat → Nat) (cI cL : ClassId) (qy lp sp : Int32) (pr ex : Nat → Int32) (c : Nat) (dy tk mk : Nat → Int32) (mK : Nat) (mS : Int32) (su : Nat → Int32) (uK : Nat) (uS : Int32) (sh mu co sr : Nat → Int32) (du bi : Nat → Int64) (bb : Int64) (j : Nat) (p : Int32) (hj : j < 20) (r1 : inR p 0 360) (hc : c ≤ 20) (hmK : mK < 20) (huK : uK < 20) : gTi l yX1_excuse wsX1_excuse ({ frames := 8, cells := 2, slots := 12, locals := 132 } : Room) D [(cI, .int), (cL, .long)] [.ref (ad 0), .int (nI j), .int p] (wG ad cI cL qy lp sp pr ex (nI c) dy tk mk (nI mK) mS su (nI uK) uS sh mu co sr du bi bb) (wG ad cI cL qy lp sp pr (upd ex j p) (nI c) dy tk (rMk (stC qy lp sp pr (upd ex j p) tk mK uK (st0 sh mu co sr du) c)) (nI mK) (rMS (stC qy lp sp pr (upd ex j p) tk mK uK (st0 sh mu co sr du) c)) (rSu (stC qy lp sp pr (upd ex j p) tk mK uK (st0 sh mu co sr du) c)) (nI uK) (rUS (stC qy lp sp pr (upd ex j p) tk mK uK (st0 sh mu co sr du) c)) (rSh (stC qy lp sp pr (upd ex j p) tk mK uK (st0 sh mu co sr du) c)) (rMu (stC qy lp sp pr (upd ex j p) tk mK uK (st0 sh mu co sr du) c)) (rCo (stC qy lp sp pr (upd ex j p) tk mK uK (st0 sh mu co sr du) c)) (rSr (stC qy lp sp pr (upd ex j p) tk mK uK (st0 sh mu co sr du) c)) (rDu (stC qy lp sp pr (upd ex j p) tk mK uK (st0 sh mu co sr du) c)) bi bb) (ex j) True (fun _ => False) 2 12 sz := by
  refine gmx_i (cc := cX1_excuse) (maxL := 4) (by decide) rfl (Nat.le_of_ble_eq_true rfl) ?_
  intro pg en s m args below meth cd A ls hx hb hr hml hown hts hlocks hin hA hK hP hD hT hnx hl
  have hl : lv_has ls 4 [(0, .ref (ad 0)), (1, .int (nI j)), (2, .int p)] := hl
  have hS : va_S A s.heap s.heap [] := va_S.rf
  refine lv_iload_n hx hb dX1_excuse_0 rfl (lv_at hl 1 rfl) ?_
  refine gxS_v (wc := []) (wr := [(ad 0, .inr (1, [.int qy, .int lp, .int sp, .ref (ad 1), .ref (ad 2), .int (nI c), .ref (ad 3), .ref (ad 4), .ref (ad 5), .ref (ad 6), .ref (ad 7), .ref (ad 8), .ref (ad 9), .ref (ad 10), .ref (ad 11), .ref (ad 12), .long bb])), (ad 1, .inl (cI, 20, .inl pr)), (ad 2, .inl (cI, 20, .inl ex)), (ad 3, .inl (cI, 360, .inl dy)), (ad 4, .inl (cI, 20, .inl tk)), (ad 5, .inr (0, [.ref (ad 13), .int (nI mK), .int mS])), (ad 6, .inr (0, [.ref (ad 14), .int (nI uK), .int uS])), (ad 7, .inl (cI, 20, .inl sh)), (ad 8, .inl (cI, 20, .inl mu)), (ad 9, .inl (cI, 20, .inl co)), (ad 10, .inl (cI, 20, .inl sr)), (ad 11, .inl (cL, 20, .inr (.inl du))), (ad 12, .inl (cL, 20, .inr (.inl bi))), (ad 13, .inl (cI, 20, .inl mk)), (ad 14, .inl (cI, 20, .inl su))]) (w1 := []) (W' := (wG ad cI cL qy lp sp pr ex (nI c) dy tk mk (nI mK) mS su (nI uK) uS sh mu co sr du bi bb)) (As := [.int (nI j)]) (rest := []) ⟨hx, hb, hml, hown, hts⟩ (c_X1_requireYear l hst D s.heap.size cI cL (nI j)) (va_cwS 1 hts gX1_excuse_X1_requireYear rfl rfl rfl (by decide +kernel) ⟨(Nat.le_of_ble_eq_true rfl), (Nat.le_of_ble_eq_true rfl)⟩) hT hS hA hK hP hD [0, 1] rfl [] [0, 1, 2, 3, 4, 5, 6, 7, 8, 9, 10, 11, 12, 13, 14] [0, 1, 2, 3, 4, 5, 6, 7, 8, 9, 10, 11, 12, 13, 14] rfl (by decide) rfl (by decide) (by decide) rfl (by decide) rfl hl.1 rfl (Nat.le_of_ble_eq_true rfl) dX1_excuse_1 ⟨(Nat.le_of_ble_eq_true rfl), (Nat.le_of_ble_eq_true rfl)⟩ hnx hlocks (fun _ h => h.2 (inR_nI (n := 19) rfl (by omega) (by decide))) (Nat.le_of_ble_eq_true rfl) (Nat.le_of_ble_eq_true rfl) [0, 1, 2, 3, 4, 5, 6, 7, 8, 9, 10, 11, 12, 13, 14] rfl (by decide) (fun H locs hok0 hP hD hS => ?_)
  refine lv_iload_n hx hb dX1_excuse_4 rfl (lv_at hl 2 rfl) ?_
  refine lv_iconst (v := 0) hx hb dX1_excuse_5 (by decide) ?_
  refine lv_sipush (v := 360) hx hb dX1_excuse_6 (by decide) ?_
  refine gxS_v (wc := []) (wr := [(ad 0, .inr (1, [.int qy, .int lp, .int sp, .ref (ad 1), .ref (ad 2), .int (nI c), .ref (ad 3), .ref (ad 4), .ref (ad 5), .ref (ad 6), .ref (ad 7), .ref (ad 8), .ref (ad 9), .ref (ad 10), .ref (ad 11), .ref (ad 12), .long bb])), (ad 1, .inl (cI, 20, .inl pr)), (ad 2, .inl (cI, 20, .inl ex)), (ad 3, .inl (cI, 360, .inl dy)), (ad 4, .inl (cI, 20, .inl tk)), (ad 5, .inr (0, [.ref (ad 13), .int (nI mK), .int mS])), (ad 6, .inr (0, [.ref (ad 14), .int (nI uK), .int uS])), (ad 7, .inl (cI, 20, .inl sh)), (ad 8, .inl (cI, 20, .inl mu)), (ad 9, .inl (cI, 20, .inl co)), (ad 10, .inl (cI, 20, .inl sr)), (ad 11, .inl (cL, 20, .inr (.inl du))), (ad 12, .inl (cL, 20, .inr (.inl bi))), (ad 13, .inl (cI, 20, .inl mk)), (ad 14, .inl (cI, 20, .inl su))]) (w1 := []) (W' := (wG ad cI cL qy lp sp pr ex (nI c) dy tk mk (nI mK) mS su (nI uK) uS sh mu co sr du bi bb)) (As := [.int p, .int 0, .int 360]) (rest := []) ⟨hx, hb, hml, hown, hts⟩ (c_X1_requireRange l hst D H.size cI cL p 0 360) (va_cwS 3 hts gX1_excuse_X1_requireRange rfl rfl rfl (by decide +kernel) ⟨(Nat.le_of_ble_eq_true rfl), (Nat.le_of_ble_eq_true rfl)⟩) hT hS hA hK hP hD [0, 1] rfl [] [0, 1, 2, 3, 4, 5, 6, 7, 8, 9, 10, 11, 12, 13, 14] [0, 1, 2, 3, 4, 5, 6, 7, 8, 9, 10, 11, 12, 13, 14] rfl (by decide) rfl (by decide) (by decide) rfl (by decide) rfl hl.1 rfl (Nat.le_of_ble_eq_true rfl) dX1_excuse_9 ⟨(Nat.le_of_ble_eq_true rfl), (Nat.le_of_ble_eq_true rfl)⟩ hnx hlocks (fun _ h => h.2 r1) (Nat.le_of_ble_eq_true rfl) (Nat.le_of_ble_eq_true rfl) [0, 1, 2, 3, 4, 5, 6, 7, 8, 9, 10, 11, 12, 13, 14] rfl (by decide) (fun H locs hok1 hP hD hS => ?_)
  refine lv_aload_n hx hb dX1_excuse_12 rfl (lv_at hl 0 rfl) ?_
  refine va_get (D := D) (ci := 1) (C := RX1) (T := TX1) (N := 17) hx hb hts inX1_excuse_X1 hown hK hP 0 rfl rfl 4 (by decide) (hts _ hX1_excuse__fieldLink_RX1_30_MakeupGas_excusedDays_I_) (fun _ h9 => h9) rfl dX1_excuse_13 ?_
  refine lv_iload_n hx hb dX1_excuse_16 rfl (lv_at hl 1 rfl) ?_
  refine ga_iald (j := j) hx hb hK hP 2 0 rfl rfl hj (by decide) dX1_excuse_17 ?_
  refine lv_istore_n (lv' := [(3, .int (ex j)), (0, .ref (ad 0)), (1, .int (nI j)), (2, .int p)]) hx hb dX1_excuse_18 rfl hl (by decide) rfl (fun ls hl => ?_)
  refine lv_aload_n hx hb dX1_excuse_19 rfl (lv_at hl 1 rfl) ?_
  refine va_get (D := D) (ci := 1) (C := RX1) (T := TX1) (N := 17) hx hb hts inX1_excuse_X1 hown hK hP 0 rfl rfl 4 (by decide) (hts _ hX1_excuse__fieldLink_RX1_30_MakeupGas_excusedDays_I_) (fun _ h9 => h9) rfl dX1_excuse_20 ?_
  refine lv_iload_n hx hb dX1_excuse_23 rfl (lv_at hl 2 rfl) ?_
  refine lv_iload_n hx hb dX1_excuse_24 rfl (lv_at hl 3 rfl) ?_
  refine ga_iast (j := j) (ws' := (wG ad cI cL qy lp sp pr (upd ex j p) (nI c) dy tk mk (nI mK) mS su (nI uK) uS sh mu co sr du bi bb)) hx hb hK hP hD hS 2 0 rfl rfl hj (by decide) dX1_excuse_25 rfl (fun H locs hP hD hS => ?_)
  refine lv_aload_n hx hb dX1_excuse_26 rfl (lv_at hl 1 rfl) ?_
  refine gV_v (wc := (wG ad cI cL qy lp sp pr (upd ex j p) (nI c) dy tk mk (nI mK) mS su (nI uK) uS sh mu co sr du bi bb)) (wr := []) (w1 := (wG ad cI cL qy lp sp pr (upd ex j p) (nI c) dy tk (rMk (stC qy lp sp pr (upd ex j p) tk mK uK (st0 sh mu co sr du) c)) (nI mK) (rMS (stC qy lp sp pr (upd ex j p) tk mK uK (st0 sh mu co sr du) c)) (rSu (stC qy lp sp pr (upd ex j p) tk mK uK (st0 sh mu co sr du) c)) (nI uK) (rUS (stC qy lp sp pr (upd ex j p) tk mK uK (st0 sh mu co sr du) c)) (rSh (stC qy lp sp pr (upd ex j p) tk mK uK (st0 sh mu co sr du) c)) (rMu (stC qy lp sp pr (upd ex j p) tk mK uK (st0 sh mu co sr du) c)) (rCo (stC qy lp sp pr (upd ex j p) tk mK uK (st0 sh mu co sr du) c)) (rSr (stC qy lp sp pr (upd ex j p) tk mK uK (st0 sh mu co sr du) c)) (rDu (stC qy lp sp pr (upd ex j p) tk mK uK (st0 sh mu co sr du) c)) bi bb)) (W' := (wG ad cI cL qy lp sp pr (upd ex j p) (nI c) dy tk (rMk (stC qy lp sp pr (upd ex j p) tk mK uK (st0 sh mu co sr du) c)) (nI mK) (rMS (stC qy lp sp pr (upd ex j p) tk mK uK (st0 sh mu co sr du) c)) (rSu (stC qy lp sp pr (upd ex j p) tk mK uK (st0 sh mu co sr du) c)) (nI uK) (rUS (stC qy lp sp pr (upd ex j p) tk mK uK (st0 sh mu co sr du) c)) (rSh (stC qy lp sp pr (upd ex j p) tk mK uK (st0 sh mu co sr du) c)) (rMu (stC qy lp sp pr (upd ex j p) tk mK uK (st0 sh mu co sr du) c)) (rCo (stC qy lp sp pr (upd ex j p) tk mK uK (st0 sh mu co sr du) c)) (rSr (stC qy lp sp pr (upd ex j p) tk mK uK (st0 sh mu co sr du) c)) (rDu (stC qy lp sp pr (upd ex j p) tk mK uK (st0 sh mu co sr du) c)) bi bb)) (As := []) (rest := []) ⟨hx, hb, hml, hown, hts⟩ (c_X1_settleClosedYears l D H.size ad cI cL qy lp sp pr (upd ex j p) c dy tk mk mK mS su uK uS sh mu co sr du bi bb  hc hmK huK) (cwV 0 hts gX1_excuse_X1_settleClosedYears rfl rfl rfl (by decide +kernel) ⟨(Nat.le_of_ble_eq_true rfl), (Nat.le_of_ble_eq_true rfl)⟩) hS hA hK hP hD [0, 1] rfl [0, 1, 2, 3, 4, 5, 6, 7, 8, 9, 10, 11, 12, 13, 14] [] [0, 1, 2, 3, 4, 5, 6, 7, 8, 9, 10, 11, 12, 13, 14] rfl (by decide) rfl (by decide) (by decide) rfl (by decide) 0 1 rfl rfl rfl rfl hl.1 rfl (Nat.le_of_ble_eq_true rfl) dX1_excuse_27 ⟨(Nat.le_of_ble_eq_true rfl), (Nat.le_of_ble_eq_true rfl)⟩ (fun H locs _ hP hD hS => ?_)
  refine lv_iload_n hx hb dX1_excuse_30 rfl (lv_at hl 0 rfl) ?_
  exact gex_i hx hb hr hlocks rfl hK hP hD hS trivial (Nat.le_of_ble_eq_true rfl) (Nat.le_of_ble_eq_true rfl) dX1_excuse_31
theorem inX1_take_X1 : ∀ q ∈ wsX10, q ∈ wsX1_take := by decide +kernel
theorem hX1_take__fieldLink_RX1_33_MakeupGas_takenPerDay_I_ : Cond.fieldLink RX1 33 "MakeupGas" "takenPerDay" "[I" ∈ wsX1_take := by decide +kernel
set_option maxHeartbeats 4000000 in
set_option maxRecDepth 100000 in
theorem c_X1_take (l : Launch) (hst : l.stackTraces = false) (D : va_G) (sz : Nat) (ad : Nat → Nat) (cI cL : ClassId) (qy lp sp : Int32) (pr ex : Nat → Int32) (c : Nat) (dy tk mk : Nat → Int32) (mK : Nat) (mS : Int32) (su : Nat → Int32) (uK : Nat) (uS : Int32) (sh mu co sr : Nat → Int32) (du bi : Nat → Int64) (bb : Int64) (a : Nat) (q : Int32) (ha : a < 360) (r1 : inR q 1 500) (hc : c < 20) (hroom : ∀ d, a ≤ d → d ≤ a → dy d + q ≤ 500) : gTi l yX1_take wsX1_take ({ frames := 8, cells := 4, slots := 24, locals := 132 } : Room) D [(cI, .int), (cL, .long)] [.ref (ad 0), .int (nI a), .int q] (wG ad cI cL qy lp sp pr ex (nI c) dy tk mk (nI mK) mS su (nI uK) uS sh mu co sr du bi bb) (wG ad cI cL qy lp sp pr ex (nI c) (adF dy a (a + 1) q) (upd tk c (tk c + q * (nI a - nI a + 1))) mk (nI mK) mS su (nI uK) uS sh mu co sr du bi bb) (adF dy a (a + 1) q a) True (fun _ => False) 4 24 sz := by
  refine gmx_i (cc := cX1_take) (maxL := 3) (by decide) rfl (Nat.le_of_ble_eq_true rfl) ?_
  intro pg en s m args below meth cd A ls hx hb hr hml hown hts hlocks hin hA hK hP hD hT hnx hl
  have hl : lv_has ls 3 [(0, .ref (ad 0)), (1, .int (nI a)), (2, .int q)] := hl
  have hS : va_S A s.heap s.heap [] := va_S.rf
  refine lv_iload_n hx hb dX1_take_0 rfl (lv_at hl 1 rfl) ?_
  refine gxS_v (wc := []) (wr := [(ad 0, .inr (1, [.int qy, .int lp, .int sp, .ref (ad 1), .ref (ad 2), .int (nI c), .ref (ad 3), .ref (ad 4), .ref (ad 5), .ref (ad 6), .ref (ad 7), .ref (ad 8), .ref (ad 9), .ref (ad 10), .ref (ad 11), .ref (ad 12), .long bb])), (ad 1, .inl (cI, 20, .inl pr)), (ad 2, .inl (cI, 20, .inl ex)), (ad 3, .inl (cI, 360, .inl dy)), (ad 4, .inl (cI, 20, .inl tk)), (ad 5, .inr (0, [.ref (ad 13), .int (nI mK), .int mS])), (ad 6, .inr (0, [.ref (ad 14), .int (nI uK), .int uS])), (ad 7, .inl (cI, 20, .inl sh)), (ad 8, .inl (cI, 20, .inl mu)), (ad 9, .inl (cI, 20, .inl co)), (ad 10, .inl (cI, 20, .inl sr)), (ad 11, .inl (cL, 20, .inr (.inl du))), (ad 12, .inl (cL, 20, .inr (.inl bi))), (ad 13, .inl (cI, 20, .inl mk)), (ad 14, .inl (cI, 20, .inl su))]) (w1 := []) (W' := (wG ad cI cL qy lp sp pr ex (nI c) dy tk mk (nI mK) mS su (nI uK) uS sh mu co sr du bi bb)) (As := [.int (nI a)]) (rest := []) ⟨hx, hb, hml, hown, hts⟩ (c_X1_requireDay l hst D s.heap.size cI cL (nI a)) (va_cwS 1 hts gX1_take_X1_requireDay rfl rfl rfl (by decide +kernel) ⟨(Nat.le_of_ble_eq_true rfl), (Nat.le_of_ble_eq_true rfl)⟩) hT hS hA hK hP hD [0, 1] rfl [] [0, 1, 2, 3, 4, 5, 6, 7, 8, 9, 10, 11, 12, 13, 14] [0, 1, 2, 3, 4, 5, 6, 7, 8, 9, 10, 11, 12, 13, 14] rfl (by decide) rfl (by decide) (by decide) rfl (by decide) rfl hl.1 rfl (Nat.le_of_ble_eq_true rfl) dX1_take_1 ⟨(Nat.le_of_ble_eq_true rfl), (Nat.le_of_ble_eq_true rfl)⟩ hnx hlocks (fun _ h => h.2 (inR_nI (n := 359) rfl (by omega) (by decide))) (Nat.le_of_ble_eq_true rfl) (Nat.le_of_ble_eq_true rfl) [0, 1, 2, 3, 4, 5, 6, 7, 8, 9, 10, 11, 12, 13, 14] rfl (by decide) (fun H locs hok0 hP hD hS => ?_)
  refine lv_iload_n hx hb dX1_take_4 rfl (lv_at hl 2 rfl) ?_
  refine lv_iconst (v := 1) hx hb dX1_take_5 (by decide) ?_
  refine lv_sipush (v := 500) hx hb dX1_take_6 (by decide) ?_
  refine gxS_v (wc := []) (wr := [(ad 0, .inr (1, [.int qy, .int lp, .int sp, .ref (ad 1), .ref (ad 2), .int (nI c), .ref (ad 3), .ref (ad 4), .ref (ad 5), .ref (ad 6), .ref (ad 7), .ref (ad 8), .ref (ad 9), .ref (ad 10), .ref (ad 11), .ref (ad 12), .long bb])), (ad 1, .inl (cI, 20, .inl pr)), (ad 2, .inl (cI, 20, .inl ex)), (ad 3, .inl (cI, 360, .inl dy)), (ad 4, .inl (cI, 20, .inl tk)), (ad 5, .inr (0, [.ref (ad 13), .int (nI mK), .int mS])), (ad 6, .inr (0, [.ref (ad 14), .int (nI uK), .int uS])), (ad 7, .inl (cI, 20, .inl sh)), (ad 8, .inl (cI, 20, .inl mu)), (ad 9, .inl (cI, 20, .inl co)), (ad 10, .inl (cI, 20, .inl sr)), (ad 11, .inl (cL, 20, .inr (.inl du))), (ad 12, .inl (cL, 20, .inr (.inl bi))), (ad 13, .inl (cI, 20, .inl mk)), (ad 14, .inl (cI, 20, .inl su))]) (w1 := []) (W' := (wG ad cI cL qy lp sp pr ex (nI c) dy tk mk (nI mK) mS su (nI uK) uS sh mu co sr du bi bb)) (As := [.int q, .int 1, .int 500]) (rest := []) ⟨hx, hb, hml, hown, hts⟩ (c_X1_requireRange l hst D H.size cI cL q 1 500) (va_cwS 3 hts gX1_take_X1_requireRange rfl rfl rfl (by decide +kernel) ⟨(Nat.le_of_ble_eq_true rfl), (Nat.le_of_ble_eq_true rfl)⟩) hT hS hA hK hP hD [0, 1] rfl [] [0, 1, 2, 3, 4, 5, 6, 7, 8, 9, 10, 11, 12, 13, 14] [0, 1, 2, 3, 4, 5, 6, 7, 8, 9, 10, 11, 12, 13, 14] rfl (by decide) rfl (by decide) (by decide) rfl (by decide) rfl hl.1 rfl (Nat.le_of_ble_eq_true rfl) dX1_take_9 ⟨(Nat.le_of_ble_eq_true rfl), (Nat.le_of_ble_eq_true rfl)⟩ hnx hlocks (fun _ h => h.2 r1) (Nat.le_of_ble_eq_true rfl) (Nat.le_of_ble_eq_true rfl) [0, 1, 2, 3, 4, 5, 6, 7, 8, 9, 10, 11, 12, 13, 14] rfl (by decide) (fun H locs hok1 hP hD hS => ?_)
  refine lv_aload_n hx hb dX1_take_12 rfl (lv_at hl 0 rfl) ?_
  refine gxV_v (wc := (wG ad cI cL qy lp sp pr ex (nI c) dy tk mk (nI mK) mS su (nI uK) uS sh mu co sr du bi bb)) (wr := []) (w1 := (wG ad cI cL qy lp sp pr ex (nI c) dy tk mk (nI mK) mS su (nI uK) uS sh mu co sr du bi bb)) (W' := (wG ad cI cL qy lp sp pr ex (nI c) dy tk mk (nI mK) mS su (nI uK) uS sh mu co sr du bi bb)) (As := []) (rest := []) ⟨hx, hb, hml, hown, hts⟩ (c_X1_requireYearGoingOn l hst D H.size ad cI cL qy lp sp pr ex c dy tk mk mK mS su uK uS sh mu co sr du bi bb ) (cwV 0 hts gX1_take_X1_requireYearGoingOn rfl rfl rfl (by decide +kernel) ⟨(Nat.le_of_ble_eq_true rfl), (Nat.le_of_ble_eq_true rfl)⟩) hT hS hA hK hP hD [0, 1] rfl [0, 1, 2, 3, 4, 5, 6, 7, 8, 9, 10, 11, 12, 13, 14] [] [0, 1, 2, 3, 4, 5, 6, 7, 8, 9, 10, 11, 12, 13, 14] rfl (by decide) rfl (by decide) (by decide) rfl (by decide) 0 1 rfl rfl rfl rfl hl.1 rfl (Nat.le_of_ble_eq_true rfl) dX1_take_13 ⟨(Nat.le_of_ble_eq_true rfl), (Nat.le_of_ble_eq_true rfl)⟩ hnx hlocks (fun _ h => h.2 (nI_lt hc (by decide))) (Nat.le_of_ble_eq_true rfl) (Nat.le_of_ble_eq_true rfl) [0, 1, 2, 3, 4, 5, 6, 7, 8, 9, 10, 11, 12, 13, 14] rfl (by decide) (fun H locs hok2 hP hD hS => ?_)
  refine lv_aload_n hx hb dX1_take_16 rfl (lv_at hl 0 rfl) ?_
  refine lv_iload_n hx hb dX1_take_17 rfl (lv_at hl 1 rfl) ?_
  refine lv_iload_n hx hb dX1_take_18 rfl (lv_at hl 1 rfl) ?_
  refine lv_iload_n hx hb dX1_take_19 rfl (lv_at hl 2 rfl) ?_
  refine gxV_v (wc := (wG ad cI cL qy lp sp pr ex (nI c) dy tk mk (nI mK) mS su (nI uK) uS sh mu co sr du bi bb)) (wr := []) (w1 := (wG ad cI cL qy lp sp pr ex (nI c) dy tk mk (nI mK) mS su (nI uK) uS sh mu co sr du bi bb)) (W' := (wG ad cI cL qy lp sp pr ex (nI c) dy tk mk (nI mK) mS su (nI uK) uS sh mu co sr du bi bb)) (As := [.int (nI a), .int (nI a), .int q]) (rest := []) ⟨hx, hb, hml, hown, hts⟩ (c_X1_requireRoom l hst D H.size ad cI cL qy lp sp pr ex c dy tk mk mK mS su uK uS sh mu co sr du bi bb a a q (Nat.le_refl a) ha) (cwV 3 hts gX1_take_X1_requireRoom rfl rfl rfl (by decide +kernel) ⟨(Nat.le_of_ble_eq_true rfl), (Nat.le_of_ble_eq_true rfl)⟩) hT hS hA hK hP hD [0, 1] rfl [0, 1, 2, 3, 4, 5, 6, 7, 8, 9, 10, 11, 12, 13, 14] [] [0, 1, 2, 3, 4, 5, 6, 7, 8, 9, 10, 11, 12, 13, 14] rfl (by decide) rfl (by decide) (by decide) rfl (by decide) 0 1 rfl rfl rfl rfl hl.1 rfl (Nat.le_of_ble_eq_true rfl) dX1_take_20 ⟨(Nat.le_of_ble_eq_true rfl), (Nat.le_of_ble_eq_true rfl)⟩ hnx hlocks (fun _ h => h.2 hroom) (Nat.le_of_ble_eq_true rfl) (Nat.le_of_ble_eq_true rfl) [0, 1, 2, 3, 4, 5, 6, 7, 8, 9, 10, 11, 12, 13, 14] rfl (by decide) (fun H locs hok3 hP hD hS => ?_)
  refine lv_aload_n hx hb dX1_take_23 rfl (lv_at hl 0 rfl) ?_
  refine lv_iload_n hx hb dX1_take_24 rfl (lv_at hl 1 rfl) ?_
  refine lv_iload_n hx hb dX1_take_25 rfl (lv_at hl 1 rfl) ?_
  refine lv_iload_n hx hb dX1_take_26 rfl (lv_at hl 2 rfl) ?_
  refine gV_v (wc := (wG ad cI cL qy lp sp pr ex (nI c) dy tk mk (nI mK) mS su (nI uK) uS sh mu co sr du bi bb)) (wr := []) (w1 := (wG ad cI cL qy lp sp pr ex (nI c) (adF dy a (a + 1) q) (upd tk c (tk c + q * (nI a - nI a + 1))) mk (nI mK) mS su (nI uK) uS sh mu co sr du bi bb)) (W' := (wG ad cI cL qy lp sp pr ex (nI c) (adF dy a (a + 1) q) (upd tk c (tk c + q * (nI a - nI a + 1))) mk (nI mK) mS su (nI uK) uS sh mu co sr du bi bb)) (As := [.int (nI a), .int (nI a), .int q]) (rest := []) ⟨hx, hb, hml, hown, hts⟩ (c_X1_addTakes l D H.size ad cI cL qy lp sp pr ex c dy tk mk mK mS su uK uS sh mu co sr du bi bb a a q (Nat.le_refl a) ha hc) (cwV 3 hts gX1_take_X1_addTakes rfl rfl rfl (by decide +kernel) ⟨(Nat.le_of_ble_eq_true rfl), (Nat.le_of_ble_eq_true rfl)⟩) hS hA hK hP hD [0, 1] rfl [0, 1, 2, 3, 4, 5, 6, 7, 8, 9, 10, 11, 12, 13, 14] [] [0, 1, 2, 3, 4, 5, 6, 7, 8, 9, 10, 11, 12, 13, 14] rfl (by decide) rfl (by decide) (by decide) rfl (by decide) 0 1 rfl rfl rfl rfl hl.1 rfl (Nat.le_of_ble_eq_true rfl) dX1_take_27 ⟨(Nat.le_of_ble_eq_true rfl), (Nat.le_of_ble_eq_true rfl)⟩ (fun H locs _ hP hD hS => ?_)
  refine lv_aload_n hx hb dX1_take_30 rfl (lv_at hl 0 rfl) ?_
  refine va_get (D := D) (ci := 1) (C := RX1) (T := TX1) (N := 17) hx hb hts inX1_take_X1 hown hK hP 0 rfl rfl 6 (by decide) (hts _ hX1_take__fieldLink_RX1_33_MakeupGas_takenPerDay_I_) (fun _ h9 => h9) rfl dX1_take_31 ?_
  refine lv_iload_n hx hb dX1_take_34 rfl (lv_at hl 1 rfl) ?_
  refine ga_iald (j := a) hx hb hK hP 3 0 rfl rfl ha (by decide) dX1_take_35 ?_
  exact gex_i hx hb hr hlocks rfl hK hP hD hS trivial (Nat.le_of_ble_eq_true rfl) (Nat.le_of_ble_eq_true rfl) dX1_take_36
theorem inX1_takeDaily_X1 : ∀ q ∈ wsX10, q ∈ wsX1_takeDaily := by decide +kernel
theorem hX1_takeDaily__fieldLink_RX1_36_MakeupGas_takenPerYear_I_ : Cond.fieldLink RX1 36 "MakeupGas" "takenPerYear" "[I" ∈ wsX1_takeDaily := by decide +kernel
theorem hX1_takeDaily__fieldLink_RX1_103_MakeupGas_closedYears_I_ : Cond.fieldLink RX1 103 "MakeupGas" "closedYears" "I" ∈ wsX1_takeDaily := by decide +kernel
set_option maxHeartbeats 4000000 in
set_option maxRecDepth 100000 in
theorem c_X1_takeDaily (l : Launch) (hst : l.stackTraces = false) (D : va_G) (sz : Nat) (ad : Nat → Nat) (cI cL : ClassId) (qy lp sp : Int32) (pr ex : Nat → Int32) (c : Nat) (dy tk mk : Nat → Int32) (mK : Nat) (mS : Int32) (su : Nat → Int32) (uK : Nat) (uS : Int32) (sh mu co sr : Nat → Int32) (du bi : Nat → Int64) (bb : Int64) (a b : Nat) (q : Int32) (hab : a ≤ b) (hb3 : b < 360) (r1 : inR q 1 500) (hc : c < 20) (hroom : ∀ d, a ≤ d → d ≤ b → dy d + q ≤ 500) : gTi l yX1_takeDaily wsX1_takeDaily ({ frames := 9, cells := 5, slots := 30, locals := 153 } : Room) D [(cI, .int), (cL, .long)] [.ref (ad 0), .int (nI a), .int (nI b), .int q] (wG ad cI cL qy lp sp pr ex (nI c) dy tk mk (nI mK) mS su (nI uK) uS sh mu co sr du bi bb) (wG ad cI cL qy lp sp pr ex (nI c) (adF dy a (b + 1) q) (upd tk c (tk c + q * (nI b - nI a + 1))) mk (nI mK) mS su (nI uK) uS sh mu co sr du bi bb) (upd tk c (tk c + q * (nI b - nI a + 1)) c) True (fun _ => False) 5 30 sz := by
  refine gmx_i (cc := cX1_takeDaily) (maxL := 4) (by decide) rfl (Nat.le_of_ble_eq_true rfl) ?_
  intro pg en s m args below meth cd A ls hx hb hr hml hown hts hlocks hin hA hK hP hD hT hnx hl
  have hl : lv_has ls 4 [(0, .ref (ad 0)), (1, .int (nI a)), (2, .int (nI b)), (3, .int q)] := hl
  have hS : va_S A s.heap s.heap [] := va_S.rf
  refine lv_iload_n hx hb dX1_takeDaily_0 rfl (lv_at hl 1 rfl) ?_
  refine lv_iload_n hx hb dX1_takeDaily_1 rfl (lv_at hl 2 rfl) ?_
  refine gxS_v (wc := []) (wr := [(ad 0, .inr (1, [.int qy, .int lp, .int sp, .ref (ad 1), .ref (ad 2), .int (nI c), .ref (ad 3), .ref (ad 4), .ref (ad 5), .ref (ad 6), .ref (ad 7), .ref (ad 8), .ref (ad 9), .ref (ad 10), .ref (ad 11), .ref (ad 12), .long bb])), (ad 1, .inl (cI, 20, .inl pr)), (ad 2, .inl (cI, 20, .inl ex)), (ad 3, .inl (cI, 360, .inl dy)), (ad 4, .inl (cI, 20, .inl tk)), (ad 5, .inr (0, [.ref (ad 13), .int (nI mK), .int mS])), (ad 6, .inr (0, [.ref (ad 14), .int (nI uK), .int uS])), (ad 7, .inl (cI, 20, .inl sh)), (ad 8, .inl (cI, 20, .inl mu)), (ad 9, .inl (cI, 20, .inl co)), (ad 10, .inl (cI, 20, .inl sr)), (ad 11, .inl (cL, 20, .inr (.inl du))), (ad 12, .inl (cL, 20, .inr (.inl bi))), (ad 13, .inl (cI, 20, .inl mk)), (ad 14, .inl (cI, 20, .inl su))]) (w1 := []) (W' := (wG ad cI cL qy lp sp pr ex (nI c) dy tk mk (nI mK) mS su (nI uK) uS sh mu co sr du bi bb)) (As := [.int (nI a), .int (nI b)]) (rest := []) ⟨hx, hb, hml, hown, hts⟩ (c_X1_requireDays l hst D s.heap.size cI cL (nI a) (nI b)) (va_cwS 2 hts gX1_takeDaily_X1_requireDays rfl rfl rfl (by decide +kernel) ⟨(Nat.le_of_ble_eq_true rfl), (Nat.le_of_ble_eq_true rfl)⟩) hT hS hA hK hP hD [0, 1] rfl [] [0, 1, 2, 3, 4, 5, 6, 7, 8, 9, 10, 11, 12, 13, 14] [0, 1, 2, 3, 4, 5, 6, 7, 8, 9, 10, 11, 12, 13, 14] rfl (by decide) rfl (by decide) (by decide) rfl (by decide) rfl hl.1 rfl (Nat.le_of_ble_eq_true rfl) dX1_takeDaily_2 ⟨(Nat.le_of_ble_eq_true rfl), (Nat.le_of_ble_eq_true rfl)⟩ hnx hlocks (fun _ h => h.2 ⟨inR_nI (n := 359) rfl (by omega) (by decide), ⟨Int32.not_lt.mpr (nI_le hab (by omega)), nI_le (b := 359) (by omega) (by decide)⟩⟩) (Nat.le_of_ble_eq_true rfl) (Nat.le_of_ble_eq_true rfl) [0, 1, 2, 3, 4, 5, 6, 7, 8, 9, 10, 11, 12, 13, 14] rfl (by decide) (fun H locs hok0 hP hD hS => ?_)
  refine lv_iload_n hx hb dX1_takeDaily_5 rfl (lv_at hl 3 rfl) ?_
  refine lv_iconst (v := 1) hx hb dX1_takeDaily_6 (by decide) ?_
  refine lv_sipush (v := 500) hx hb dX1_takeDaily_7 (by decide) ?_
  refine gxS_v (wc := []) (wr := [(ad 0, .inr (1, [.int qy, .int lp, .int sp, .ref (ad 1), .ref (ad 2), .int (nI c), .ref (ad 3), .ref (ad 4), .ref (ad 5), .ref (ad 6), .ref (ad 7), .ref (ad 8), .ref (ad 9), .ref (ad 10), .ref (ad 11), .ref (ad 12), .long bb])), (ad 1, .inl (cI, 20, .inl pr)), (ad 2, .inl (cI, 20, .inl ex)), (ad 3, .inl (cI, 360, .inl dy)), (ad 4, .inl (cI, 20, .inl tk)), (ad 5, .inr (0, [.ref (ad 13), .int (nI mK), .int mS])), (ad 6, .inr (0, [.ref (ad 14), .int (nI uK), .int uS])), (ad 7, .inl (cI, 20, .inl sh)), (ad 8, .inl (cI, 20, .inl mu)), (ad 9, .inl (cI, 20, .inl co)), (ad 10, .inl (cI, 20, .inl sr)), (ad 11, .inl (cL, 20, .inr (.inl du))), (ad 12, .inl (cL, 20, .inr (.inl bi))), (ad 13, .inl (cI, 20, .inl mk)), (ad 14, .inl (cI, 20, .inl su))]) (w1 := []) (W' := (wG ad cI cL qy lp sp pr ex (nI c) dy tk mk (nI mK) mS su (nI uK) uS sh mu co sr du bi bb)) (As := [.int q, .int 1, .int 500]) (rest := []) ⟨hx, hb, hml, hown, hts⟩ (c_X1_requireRange l hst D H.size cI cL q 1 500) (va_cwS 3 hts gX1_takeDaily_X1_requireRange rfl rfl rfl (by decide +kernel) ⟨(Nat.le_of_ble_eq_true rfl), (Nat.le_of_ble_eq_true rfl)⟩) hT hS hA hK hP hD [0, 1] rfl [] [0, 1, 2, 3, 4, 5, 6, 7, 8, 9, 10, 11, 12, 13, 14] [0, 1, 2, 3, 4, 5, 6, 7, 8, 9, 10, 11, 12, 13, 14] rfl (by decide) rfl (by decide) (by decide) rfl (by decide) rfl hl.1 rfl (Nat.le_of_ble_eq_true rfl) dX1_takeDaily_10 ⟨(Nat.le_of_ble_eq_true rfl), (Nat.le_of_ble_eq_true rfl)⟩ hnx hlocks (fun _ h => h.2 r1) (Nat.le_of_ble_eq_true rfl) (Nat.le_of_ble_eq_true rfl) [0, 1, 2, 3, 4, 5, 6, 7, 8, 9, 10, 11, 12, 13, 14] rfl (by decide) (fun H locs hok1 hP hD hS => ?_)
  refine lv_aload_n hx hb dX1_takeDaily_13 rfl (lv_at hl 0 rfl) ?_
  refine gxV_v (wc := (wG ad cI cL qy lp sp pr ex (nI c) dy tk mk (nI mK) mS su (nI uK) uS sh mu co sr du bi bb)) (wr := []) (w1 := (wG ad cI cL qy lp sp pr ex (nI c) dy tk mk (nI mK) mS su (nI uK) uS sh mu co sr du bi bb)) (W' := (wG ad cI cL qy lp sp pr ex (nI c) dy tk mk (nI mK) mS su (nI uK) uS sh mu co sr du bi bb)) (As := []) (rest := []) ⟨hx, hb, hml, hown, hts⟩ (c_X1_requireYearGoingOn l hst D H.size ad cI cL qy lp sp pr ex c dy tk mk mK mS su uK uS sh mu co sr du bi bb ) (cwV 0 hts gX1_takeDaily_X1_requireYearGoingOn rfl rfl rfl (by decide +kernel) ⟨(Nat.le_of_ble_eq_true rfl), (Nat.le_of_ble_eq_true rfl)⟩) hT hS hA hK hP hD [0, 1] rfl [0, 1, 2, 3, 4, 5, 6, 7, 8, 9, 10, 11, 12, 13, 14] [] [0, 1, 2, 3, 4, 5, 6, 7, 8, 9, 10, 11, 12, 13, 14] rfl (by decide) rfl (by decide) (by decide) rfl (by decide) 0 1 rfl rfl rfl rfl hl.1 rfl (Nat.le_of_ble_eq_true rfl) dX1_takeDaily_14 ⟨(Nat.le_of_ble_eq_true rfl), (Nat.le_of_ble_eq_true rfl)⟩ hnx hlocks (fun _ h => h.2 (nI_lt hc (by decide))) (Nat.le_of_ble_eq_true rfl) (Nat.le_of_ble_eq_true rfl) [0, 1, 2, 3, 4, 5, 6, 7, 8, 9, 10, 11, 12, 13, 14] rfl (by decide) (fun H locs hok2 hP hD hS => ?_)
  refine lv_aload_n hx hb dX1_takeDaily_17 rfl (lv_at hl 0 rfl) ?_
  refine lv_iload_n hx hb dX1_takeDaily_18 rfl (lv_at hl 1 rfl) ?_
  refine lv_iload_n hx hb dX1_takeDaily_19 rfl (lv_at hl 2 rfl) ?_
  refine lv_iload_n hx hb dX1_takeDaily_20 rfl (lv_at hl 3 rfl) ?_
  refine gxV_v (wc := (wG ad cI cL qy lp sp pr ex (nI c) dy tk mk (nI mK) mS su (nI uK) uS sh mu co sr du bi bb)) (wr := []) (w1 := (wG ad cI cL qy lp sp pr ex (nI c) dy tk mk (nI mK) mS su (nI uK) uS sh mu co sr du bi bb)) (W' := (wG ad cI cL qy lp sp pr ex (nI c) dy tk mk (nI mK) mS su (nI uK) uS sh mu co sr du bi bb)) (As := [.int (nI a), .int (nI b), .int q]) (rest := []) ⟨hx, hb, hml, hown, hts⟩ (c_X1_requireRoom l hst D H.size ad cI cL qy lp sp pr ex c dy tk mk mK mS su uK uS sh mu co sr du bi bb a b q hab hb3) (cwV 3 hts gX1_takeDaily_X1_requireRoom rfl rfl rfl (by decide +kernel) ⟨(Nat.le_of_ble_eq_true rfl), (Nat.le_of_ble_eq_true rfl)⟩) hT hS hA hK hP hD [0, 1] rfl [0, 1, 2, 3, 4, 5, 6, 7, 8, 9, 10, 11, 12, 13, 14] [] [0, 1, 2, 3, 4, 5, 6, 7, 8, 9, 10, 11, 12, 13, 14] rfl (by decide) rfl (by decide) (by decide) rfl (by decide) 0 1 rfl rfl rfl rfl hl.1 rfl (Nat.le_of_ble_eq_true rfl) dX1_takeDaily_21 ⟨(Nat.le_of_ble_eq_true rfl), (Nat.le_of_ble_eq_true rfl)⟩ hnx hlocks (fun _ h => h.2 hroom) (Nat.le_of_ble_eq_true rfl) (Nat.le_of_ble_eq_true rfl) [0, 1, 2, 3, 4, 5, 6, 7, 8, 9, 10, 11, 12, 13, 14] rfl (by decide) (fun H locs hok3 hP hD hS => ?_)
  refine lv_aload_n hx hb dX1_takeDaily_24 rfl (lv_at hl 0 rfl) ?_
  refine lv_iload_n hx hb dX1_takeDaily_25 rfl (lv_at hl 1 rfl) ?_
  refine lv_iload_n hx hb dX1_takeDaily_26 rfl (lv_at hl 2 rfl) ?_
  refine lv_iload_n hx hb dX1_takeDaily_27 rfl (lv_at hl 3 rfl) ?_
  refine gV_v (wc := (wG ad cI cL qy lp sp pr ex (nI c) dy tk mk (nI mK) mS su (nI uK) uS sh mu co sr du bi bb)) (wr := []) (w1 := (wG ad cI cL qy lp sp pr ex (nI c) (adF dy a (b + 1) q) (upd tk c (tk c + q * (nI b - nI a + 1))) mk (nI mK) mS su (nI uK) uS sh mu co sr du bi bb)) (W' := (wG ad cI cL qy lp sp pr ex (nI c) (adF dy a (b + 1) q) (upd tk c (tk c + q * (nI b - nI a + 1))) mk (nI mK) mS su (nI uK) uS sh mu co sr du bi bb)) (As := [.int (nI a), .int (nI b), .int q]) (rest := []) ⟨hx, hb, hml, hown, hts⟩ (c_X1_addTakes l D H.size ad cI cL qy lp sp pr ex c dy tk mk mK mS su uK uS sh mu co sr du bi bb a b q hab hb3 hc) (cwV 3 hts gX1_takeDaily_X1_addTakes rfl rfl rfl (by decide +kernel) ⟨(Nat.le_of_ble_eq_true rfl), (Nat.le_of_ble_eq_true rfl)⟩) hS hA hK hP hD [0, 1] rfl [0, 1, 2, 3, 4, 5, 6, 7, 8, 9, 10, 11, 12, 13, 14] [] [0, 1, 2, 3, 4, 5, 6, 7, 8, 9, 10, 11, 12, 13, 14] rfl (by decide) rfl (by decide) (by decide) rfl (by decide) 0 1 rfl rfl rfl rfl hl.1 rfl (Nat.le_of_ble_eq_true rfl) dX1_takeDaily_28 ⟨(Nat.le_of_ble_eq_true rfl), (Nat.le_of_ble_eq_true rfl)⟩ (fun H locs _ hP hD hS => ?_)
  refine lv_aload_n hx hb dX1_takeDaily_31 rfl (lv_at hl 0 rfl) ?_
  refine va_get (D := D) (ci := 1) (C := RX1) (T := TX1) (N := 17) hx hb hts inX1_takeDaily_X1 hown hK hP 0 rfl rfl 7 (by decide) (hts _ hX1_takeDaily__fieldLink_RX1_36_MakeupGas_takenPerYear_I_) (fun _ h9 => h9) rfl dX1_takeDaily_32 ?_
  refine lv_aload_n hx hb dX1_takeDaily_35 rfl (lv_at hl 0 rfl) ?_
  refine va_get (D := D) (ci := 1) (C := RX1) (T := TX1) (N := 17) hx hb hts inX1_takeDaily_X1 hown hK hP 0 rfl rfl 5 (by decide) (hts _ hX1_takeDaily__fieldLink_RX1_103_MakeupGas_closedYears_I_) (fun _ h9 => h9) rfl dX1_takeDaily_36 ?_
  refine ga_iald (j := c) hx hb hK hP 4 0 rfl rfl hc (by decide) dX1_takeDaily_39 ?_
  exact gex_i hx hb hr hlocks rfl hK hP hD hS trivial (Nat.le_of_ble_eq_true rfl) (Nat.le_of_ble_eq_true rfl) dX1_takeDaily_40
theorem inX1_close_X1 : ∀ q ∈ wsX10, q ∈ wsX1_close := by decide +kernel
theorem hX1_close__fieldLink_RX1_103_MakeupGas_closedYears_I_ : Cond.fieldLink RX1 103 "MakeupGas" "closedYears" "I" ∈ wsX1_close := by decide +kernel
theorem hX1_close__fieldLink_RX1_33_MakeupGas_takenPerDay_I_ : Cond.fieldLink RX1 33 "MakeupGas" "takenPerDay" "[I" ∈ wsX1_close := by decide +kernel
theorem hX1_close__fieldLink_RX1_110_MakeupGas_billedInAll_J_ : Cond.fieldLink RX1 110 "MakeupGas" "billedInAll" "J" ∈ wsX1_close := by decide +kernel
theorem hX1_close__fieldLink_RX1_67_MakeupGas_billPerYear_J_ : Cond.fieldLink RX1 67 "MakeupGas" "billPerYear" "[J" ∈ wsX1_close := by decide +kernel
set_option maxHeartbeats 4000000 in
set_option maxRecDepth 100000 in
theorem c_X1_close (l : Launch) (hst : l.stackTraces = false) (D : va_G) (sz : Nat) (ad : Nat → Nat) (cI cL : ClassId) (qy lp sp : Int32) (pr ex : Nat → Int32) (c : Nat) (dy tk mk : Nat → Int32) (mK : Nat) (mS : Int32) (su : Nat → Int32) (uK : Nat) (uS : Int32) (sh mu co sr : Nat → Int32) (du bi : Nat → Int64) (bb : Int64) (hc : c < 20) (hmK : mK < 20) (huK : uK < 20) : gTl l yX1_close wsX1_close ({ frames := 7, cells := 1, slots := 6, locals := 113 } : Room) D [(cI, .int), (cL, .long)] [.ref (ad 0)] (wG ad cI cL qy lp sp pr ex (nI c) dy tk mk (nI mK) mS su (nI uK) uS sh mu co sr du bi bb) (wG ad cI cL qy lp sp pr ex (nI (c + 1)) (fun _ => 0) tk (rMk (stC qy lp sp pr ex tk mK uK (st0 sh mu co sr du) (c + 1))) (nI mK) (rMS (stC qy lp sp pr ex tk mK uK (st0 sh mu co sr du) (c + 1))) (rSu (stC qy lp sp pr ex tk mK uK (st0 sh mu co sr du) (c + 1))) (nI uK) (rUS (stC qy lp sp pr ex tk mK uK (st0 sh mu co sr du) (c + 1))) (rSh (stC qy lp sp pr ex tk mK uK (st0 sh mu co sr du) (c + 1))) (rMu (stC qy lp sp pr ex tk mK uK (st0 sh mu co sr du) (c + 1))) (rCo (stC qy lp sp pr ex tk mK uK (st0 sh mu co sr du) (c + 1))) (rSr (stC qy lp sp pr ex tk mK uK (st0 sh mu co sr du) (c + 1))) (rDu (stC qy lp sp pr ex tk mK uK (st0 sh mu co sr du) (c + 1))) (vp_updL bi c (smL (rDu (stC qy lp sp pr ex tk mK uK (st0 sh mu co sr du) (c + 1))) (c + 1) - bb)) (bb + (smL (rDu (stC qy lp sp pr ex tk mK uK (st0 sh mu co sr du) (c + 1))) (c + 1) - bb))) (smL (rDu (stC qy lp sp pr ex tk mK uK (st0 sh mu co sr du) (c + 1))) (c + 1) - bb) True (fun _ => False) 1 6 sz := by
  refine gmx_l (cc := cX1_close) (maxL := 4) (by decide) rfl (Nat.le_of_ble_eq_true rfl) ?_
  intro pg en s m args below meth cd A ls hx hb hr hml hown hts hlocks hin hA hK hP hD hT hnx hl
  have hl : lv_has ls 4 [(0, .ref (ad 0))] := hl
  have hS : va_S A s.heap s.heap [] := va_S.rf
  refine lv_aload_n hx hb dX1_close_0 rfl (lv_at hl 0 rfl) ?_
  refine gxV_v (wc := (wG ad cI cL qy lp sp pr ex (nI c) dy tk mk (nI mK) mS su (nI uK) uS sh mu co sr du bi bb)) (wr := []) (w1 := (wG ad cI cL qy lp sp pr ex (nI c) dy tk mk (nI mK) mS su (nI uK) uS sh mu co sr du bi bb)) (W' := (wG ad cI cL qy lp sp pr ex (nI c) dy tk mk (nI mK) mS su (nI uK) uS sh mu co sr du bi bb)) (As := []) (rest := []) ⟨hx, hb, hml, hown, hts⟩ (c_X1_requireYearGoingOn l hst D s.heap.size ad cI cL qy lp sp pr ex c dy tk mk mK mS su uK uS sh mu co sr du bi bb ) (cwV 0 hts gX1_close_X1_requireYearGoingOn rfl rfl rfl (by decide +kernel) ⟨(Nat.le_of_ble_eq_true rfl), (Nat.le_of_ble_eq_true rfl)⟩) hT hS hA hK hP hD [0, 1] rfl [0, 1, 2, 3, 4, 5, 6, 7, 8, 9, 10, 11, 12, 13, 14] [] [0, 1, 2, 3, 4, 5, 6, 7, 8, 9, 10, 11, 12, 13, 14] rfl (by decide) rfl (by decide) (by decide) rfl (by decide) 0 1 rfl rfl rfl rfl hl.1 rfl (Nat.le_of_ble_eq_true rfl) dX1_close_1 ⟨(Nat.le_of_ble_eq_true rfl), (Nat.le_of_ble_eq_true rfl)⟩ hnx hlocks (fun _ h => h.2 (nI_lt hc (by decide))) (Nat.le_of_ble_eq_true rfl) (Nat.le_of_ble_eq_true rfl) [0, 1, 2, 3, 4, 5, 6, 7, 8, 9, 10, 11, 12, 13, 14] rfl (by decide) (fun H locs hok0 hP hD hS => ?_)
  refine lv_aload_n hx hb dX1_close_4 rfl (lv_at hl 0 rfl) ?_
  refine va_get (D := D) (ci := 1) (C := RX1) (T := TX1) (N := 17) hx hb hts inX1_close_X1 hown hK hP 0 rfl rfl 5 (by decide) (hts _ hX1_close__fieldLink_RX1_103_MakeupGas_closedYears_I_) (fun _ h9 => h9) rfl dX1_close_5 ?_
  refine lv_istore_n (lv' := [(1, .int (nI c)), (0, .ref (ad 0))]) hx hb dX1_close_8 rfl hl (by decide) rfl (fun ls hl => ?_)
  refine lv_aload_n hx hb dX1_close_9 rfl (lv_at hl 1 rfl) ?_
  refine lv_iload_n hx hb dX1_close_10 rfl (lv_at hl 0 rfl) ?_
  refine lv_iconst (v := 1) hx hb dX1_close_11 (by decide) ?_
  refine lv_iadd hx hb dX1_close_12 ?_
  refine gj_i (nI_1 c) ?_
  refine va_put (D := D) (ci := 1) (v := .int (nI (c + 1))) (ty := .int) (C := RX1) (T := TX1) (N := 17) hx hb hts inX1_close_X1 tyX1 tyX1_ok nmX1 hown hK hP hD hS 0 rfl rfl 5 (by decide) (hts _ hX1_close__fieldLink_RX1_103_MakeupGas_closedYears_I_) (fun _ h9 => h9) (by decide +kernel) (by decide +kernel) rfl rfl (Nat.le_of_ble_eq_true rfl) dX1_close_13 (fun H locs hP hD hS => ?_)
  have hP : va_P D vwCl (wG ad cI cL qy lp sp pr ex (nI (c + 1)) dy tk mk (nI mK) mS su (nI uK) uS sh mu co sr du bi bb) H := hP
  have hD : va_D A (wG ad cI cL qy lp sp pr ex (nI (c + 1)) dy tk mk (nI mK) mS su (nI uK) uS sh mu co sr du bi bb) := hD
  refine lv_aload_n hx hb dX1_close_16 rfl (lv_at hl 1 rfl) ?_
  refine va_get (D := D) (ci := 1) (C := RX1) (T := TX1) (N := 17) hx hb hts inX1_close_X1 hown hK hP 0 rfl rfl 6 (by decide) (hts _ hX1_close__fieldLink_RX1_33_MakeupGas_takenPerDay_I_) (fun _ h9 => h9) rfl dX1_close_17 ?_
  refine lv_iconst (v := 0) hx hb dX1_close_20 (by decide) ?_
  refine gS_v (wc := [(ad 3, .inl (cI, 360, .inl dy))]) (wr := [(ad 0, .inr (1, [.int qy, .int lp, .int sp, .ref (ad 1), .ref (ad 2), .int (nI (c + 1)), .ref (ad 3), .ref (ad 4), .ref (ad 5), .ref (ad 6), .ref (ad 7), .ref (ad 8), .ref (ad 9), .ref (ad 10), .ref (ad 11), .ref (ad 12), .long bb])), (ad 1, .inl (cI, 20, .inl pr)), (ad 2, .inl (cI, 20, .inl ex)), (ad 4, .inl (cI, 20, .inl tk)), (ad 5, .inr (0, [.ref (ad 13), .int (nI mK), .int mS])), (ad 6, .inr (0, [.ref (ad 14), .int (nI uK), .int uS])), (ad 7, .inl (cI, 20, .inl sh)), (ad 8, .inl (cI, 20, .inl mu)), (ad 9, .inl (cI, 20, .inl co)), (ad 10, .inl (cI, 20, .inl sr)), (ad 11, .inl (cL, 20, .inr (.inl du))), (ad 12, .inl (cL, 20, .inr (.inl bi))), (ad 13, .inl (cI, 20, .inl mk)), (ad 14, .inl (cI, 20, .inl su))]) (w1 := [(ad 3, .inl (cI, 360, .inl (fun _ => 0)))]) (W' := (wG ad cI cL qy lp sp pr ex (nI (c + 1)) (fun _ => 0) tk mk (nI mK) mS su (nI uK) uS sh mu co sr du bi bb)) (As := [.ref (ad 3), .int 0]) (rest := []) ⟨hx, hb, hml, hown, hts⟩ (c_J7_fill_53178 l D H.size (ad 3) 360 cI cL dy 0 (by decide)) (va_cwS 2 hts gX1_close_J7_fill_53178 rfl rfl rfl (by decide +kernel) ⟨(Nat.le_of_ble_eq_true rfl), (Nat.le_of_ble_eq_true rfl)⟩) hS hA hK hP hD [0, 1] rfl [3] [0, 1, 2, 4, 5, 6, 7, 8, 9, 10, 11, 12, 13, 14] [0, 1, 2, 14, 3, 4, 5, 6, 7, 8, 9, 10, 11, 12, 13] rfl (by decide) rfl (by decide) (by decide) rfl (by decide) rfl hl.1 rfl (Nat.le_of_ble_eq_true rfl) dX1_close_21 ⟨(Nat.le_of_ble_eq_true rfl), (Nat.le_of_ble_eq_true rfl)⟩ (fun H locs _ hP hD hS => ?_)
  refine lv_aload_n hx hb dX1_close_24 rfl (lv_at hl 1 rfl) ?_
  refine gV_v (wc := (wG ad cI cL qy lp sp pr ex (nI (c + 1)) (fun _ => 0) tk mk (nI mK) mS su (nI uK) uS sh mu co sr du bi bb)) (wr := []) (w1 := (wG ad cI cL qy lp sp pr ex (nI (c + 1)) (fun _ => 0) tk (rMk (stC qy lp sp pr ex tk mK uK (st0 sh mu co sr du) (c + 1))) (nI mK) (rMS (stC qy lp sp pr ex tk mK uK (st0 sh mu co sr du) (c + 1))) (rSu (stC qy lp sp pr ex tk mK uK (st0 sh mu co sr du) (c + 1))) (nI uK) (rUS (stC qy lp sp pr ex tk mK uK (st0 sh mu co sr du) (c + 1))) (rSh (stC qy lp sp pr ex tk mK uK (st0 sh mu co sr du) (c + 1))) (rMu (stC qy lp sp pr ex tk mK uK (st0 sh mu co sr du) (c + 1))) (rCo (stC qy lp sp pr ex tk mK uK (st0 sh mu co sr du) (c + 1))) (rSr (stC qy lp sp pr ex tk mK uK (st0 sh mu co sr du) (c + 1))) (rDu (stC qy lp sp pr ex tk mK uK (st0 sh mu co sr du) (c + 1))) bi bb)) (W' := (wG ad cI cL qy lp sp pr ex (nI (c + 1)) (fun _ => 0) tk (rMk (stC qy lp sp pr ex tk mK uK (st0 sh mu co sr du) (c + 1))) (nI mK) (rMS (stC qy lp sp pr ex tk mK uK (st0 sh mu co sr du) (c + 1))) (rSu (stC qy lp sp pr ex tk mK uK (st0 sh mu co sr du) (c + 1))) (nI uK) (rUS (stC qy lp sp pr ex tk mK uK (st0 sh mu co sr du) (c + 1))) (rSh (stC qy lp sp pr ex tk mK uK (st0 sh mu co sr du) (c + 1))) (rMu (stC qy lp sp pr ex tk mK uK (st0 sh mu co sr du) (c + 1))) (rCo (stC qy lp sp pr ex tk mK uK (st0 sh mu co sr du) (c + 1))) (rSr (stC qy lp sp pr ex tk mK uK (st0 sh mu co sr du) (c + 1))) (rDu (stC qy lp sp pr ex tk mK uK (st0 sh mu co sr du) (c + 1))) bi bb)) (As := []) (rest := []) ⟨hx, hb, hml, hown, hts⟩ (c_X1_settleClosedYears l D H.size ad cI cL qy lp sp pr ex (c + 1) (fun _ => 0) tk mk mK mS su uK uS sh mu co sr du bi bb  (Nat.succ_le_of_lt hc) hmK huK) (cwV 0 hts gX1_close_X1_settleClosedYears rfl rfl rfl (by decide +kernel) ⟨(Nat.le_of_ble_eq_true rfl), (Nat.le_of_ble_eq_true rfl)⟩) hS hA hK hP hD [0, 1] rfl [0, 1, 2, 3, 4, 5, 6, 7, 8, 9, 10, 11, 12, 13, 14] [] [0, 1, 2, 3, 4, 5, 6, 7, 8, 9, 10, 11, 12, 13, 14] rfl (by decide) rfl (by decide) (by decide) rfl (by decide) 0 1 rfl rfl rfl rfl hl.1 rfl (Nat.le_of_ble_eq_true rfl) dX1_close_25 ⟨(Nat.le_of_ble_eq_true rfl), (Nat.le_of_ble_eq_true rfl)⟩ (fun H locs _ hP hD hS => ?_)
  refine lv_aload_n hx hb dX1_close_28 rfl (lv_at hl 1 rfl) ?_
  refine gV_l (wc := (wG ad cI cL qy lp sp pr ex (nI (c + 1)) (fun _ => 0) tk (rMk (stC qy lp sp pr ex tk mK uK (st0 sh mu co sr du) (c + 1))) (nI mK) (rMS (stC qy lp sp pr ex tk mK uK (st0 sh mu co sr du) (c + 1))) (rSu (stC qy lp sp pr ex tk mK uK (st0 sh mu co sr du) (c + 1))) (nI uK) (rUS (stC qy lp sp pr ex tk mK uK (st0 sh mu co sr du) (c + 1))) (rSh (stC qy lp sp pr ex tk mK uK (st0 sh mu co sr du) (c + 1))) (rMu (stC qy lp sp pr ex tk mK uK (st0 sh mu co sr du) (c + 1))) (rCo (stC qy lp sp pr ex tk mK uK (st0 sh mu co sr du) (c + 1))) (rSr (stC qy lp sp pr ex tk mK uK (st0 sh mu co sr du) (c + 1))) (rDu (stC qy lp sp pr ex tk mK uK (st0 sh mu co sr du) (c + 1))) bi bb)) (wr := []) (w1 := (wG ad cI cL qy lp sp pr ex (nI (c + 1)) (fun _ => 0) tk (rMk (stC qy lp sp pr ex tk mK uK (st0 sh mu co sr du) (c + 1))) (nI mK) (rMS (stC qy lp sp pr ex tk mK uK (st0 sh mu co sr du) (c + 1))) (rSu (stC qy lp sp pr ex tk mK uK (st0 sh mu co sr du) (c + 1))) (nI uK) (rUS (stC qy lp sp pr ex tk mK uK (st0 sh mu co sr du) (c + 1))) (rSh (stC qy lp sp pr ex tk mK uK (st0 sh mu co sr du) (c + 1))) (rMu (stC qy lp sp pr ex tk mK uK (st0 sh mu co sr du) (c + 1))) (rCo (stC qy lp sp pr ex tk mK uK (st0 sh mu co sr du) (c + 1))) (rSr (stC qy lp sp pr ex tk mK uK (st0 sh mu co sr du) (c + 1))) (rDu (stC qy lp sp pr ex tk mK uK (st0 sh mu co sr du) (c + 1))) bi bb)) (W' := (wG ad cI cL qy lp sp pr ex (nI (c + 1)) (fun _ => 0) tk (rMk (stC qy lp sp pr ex tk mK uK (st0 sh mu co sr du) (c + 1))) (nI mK) (rMS (stC qy lp sp pr ex tk mK uK (st0 sh mu co sr du) (c + 1))) (rSu (stC qy lp sp pr ex tk mK uK (st0 sh mu co sr du) (c + 1))) (nI uK) (rUS (stC qy lp sp pr ex tk mK uK (st0 sh mu co sr du) (c + 1))) (rSh (stC qy lp sp pr ex tk mK uK (st0 sh mu co sr du) (c + 1))) (rMu (stC qy lp sp pr ex tk mK uK (st0 sh mu co sr du) (c + 1))) (rCo (stC qy lp sp pr ex tk mK uK (st0 sh mu co sr du) (c + 1))) (rSr (stC qy lp sp pr ex tk mK uK (st0 sh mu co sr du) (c + 1))) (rDu (stC qy lp sp pr ex tk mK uK (st0 sh mu co sr du) (c + 1))) bi bb)) (As := []) (rest := []) ⟨hx, hb, hml, hown, hts⟩ (c_X1_dueInAll l D H.size ad cI cL qy lp sp pr ex (c + 1) (fun _ => 0) tk (rMk (stC qy lp sp pr ex tk mK uK (st0 sh mu co sr du) (c + 1))) mK (rMS (stC qy lp sp pr ex tk mK uK (st0 sh mu co sr du) (c + 1))) (rSu (stC qy lp sp pr ex tk mK uK (st0 sh mu co sr du) (c + 1))) uK (rUS (stC qy lp sp pr ex tk mK uK (st0 sh mu co sr du) (c + 1))) (rSh (stC qy lp sp pr ex tk mK uK (st0 sh mu co sr du) (c + 1))) (rMu (stC qy lp sp pr ex tk mK uK (st0 sh mu co sr du) (c + 1))) (rCo (stC qy lp sp pr ex tk mK uK (st0 sh mu co sr du) (c + 1))) (rSr (stC qy lp sp pr ex tk mK uK (st0 sh mu co sr du) (c + 1))) (rDu (stC qy lp sp pr ex tk mK uK (st0 sh mu co sr du) (c + 1))) bi bb  (Nat.succ_le_of_lt hc)) (cwV 0 hts gX1_close_X1_dueInAll rfl rfl rfl (by decide +kernel) ⟨(Nat.le_of_ble_eq_true rfl), (Nat.le_of_ble_eq_true rfl)⟩) hS hA hK hP hD [0, 1] rfl [0, 1, 2, 3, 4, 5, 6, 7, 8, 9, 10, 11, 12, 13, 14] [] [0, 1, 2, 3, 4, 5, 6, 7, 8, 9, 10, 11, 12, 13, 14] rfl (by decide) rfl (by decide) (by decide) rfl (by decide) 0 1 rfl rfl rfl rfl hl.1 rfl (Nat.le_of_ble_eq_true rfl) dX1_close_29 ⟨(Nat.le_of_ble_eq_true rfl), (Nat.le_of_ble_eq_true rfl)⟩ (fun H locs _ hP hD hS => ?_)
  refine lv_aload_n hx hb dX1_close_32 rfl (lv_at hl 1 rfl) ?_
  refine va_get (D := D) (ci := 1) (C := RX1) (T := TX1) (N := 17) hx hb hts inX1_close_X1 hown hK hP 0 rfl rfl 16 (by decide) (hts _ hX1_close__fieldLink_RX1_110_MakeupGas_billedInAll_J_) (fun _ h9 => h9) rfl dX1_close_33 ?_
  refine lv_lsub hx hb dX1_close_36 ?_
  refine lv_lstore_n (lv' := [(2, .long (smL (rDu (stC qy lp sp pr ex tk mK uK (st0 sh mu co sr du) (c + 1))) (c + 1) - bb)), (1, .int (nI c)), (0, .ref (ad 0))]) hx hb dX1_close_37 rfl hl (by decide) rfl (fun ls hl => ?_)
  refine lv_aload_n hx hb dX1_close_38 rfl (lv_at hl 2 rfl) ?_
  refine va_get (D := D) (ci := 1) (C := RX1) (T := TX1) (N := 17) hx hb hts inX1_close_X1 hown hK hP 0 rfl rfl 15 (by decide) (hts _ hX1_close__fieldLink_RX1_67_MakeupGas_billPerYear_J_) (fun _ h9 => h9) rfl dX1_close_39 ?_
  refine lv_iload_n hx hb dX1_close_42 rfl (lv_at hl 1 rfl) ?_
  refine lv_lload_n hx hb dX1_close_43 rfl (lv_at hl 0 rfl) ?_
  refine ga_last (j := c) (ws' := (wG ad cI cL qy lp sp pr ex (nI (c + 1)) (fun _ => 0) tk (rMk (stC qy lp sp pr ex tk mK uK (st0 sh mu co sr du) (c + 1))) (nI mK) (rMS (stC qy lp sp pr ex tk mK uK (st0 sh mu co sr du) (c + 1))) (rSu (stC qy lp sp pr ex tk mK uK (st0 sh mu co sr du) (c + 1))) (nI uK) (rUS (stC qy lp sp pr ex tk mK uK (st0 sh mu co sr du) (c + 1))) (rSh (stC qy lp sp pr ex tk mK uK (st0 sh mu co sr du) (c + 1))) (rMu (stC qy lp sp pr ex tk mK uK (st0 sh mu co sr du) (c + 1))) (rCo (stC qy lp sp pr ex tk mK uK (st0 sh mu co sr du) (c + 1))) (rSr (stC qy lp sp pr ex tk mK uK (st0 sh mu co sr du) (c + 1))) (rDu (stC qy lp sp pr ex tk mK uK (st0 sh mu co sr du) (c + 1))) (vp_updL bi c (smL (rDu (stC qy lp sp pr ex tk mK uK (st0 sh mu co sr du) (c + 1))) (c + 1) - bb)) bb)) hx hb hK hP hD hS 12 1 rfl rfl hc (by decide) dX1_close_44 rfl (fun H locs hP hD hS => ?_)
  refine lv_aload_n hx hb dX1_close_45 rfl (lv_at hl 2 rfl) ?_
  refine lv_dup hx hb dX1_close_46 rfl ?_
  refine va_get (D := D) (ci := 1) (C := RX1) (T := TX1) (N := 17) hx hb hts inX1_close_X1 hown hK hP 0 rfl rfl 16 (by decide) (hts _ hX1_close__fieldLink_RX1_110_MakeupGas_billedInAll_J_) (fun _ h9 => h9) rfl dX1_close_47 ?_
  refine lv_lload_n hx hb dX1_close_50 rfl (lv_at hl 0 rfl) ?_
  refine lv_ladd hx hb dX1_close_51 ?_
  refine va_put (D := D) (ci := 1) (v := .long (bb + (smL (rDu (stC qy lp sp pr ex tk mK uK (st0 sh mu co sr du) (c + 1))) (c + 1) - bb))) (ty := .long) (C := RX1) (T := TX1) (N := 17) hx hb hts inX1_close_X1 tyX1 tyX1_ok nmX1 hown hK hP hD hS 0 rfl rfl 16 (by decide) (hts _ hX1_close__fieldLink_RX1_110_MakeupGas_billedInAll_J_) (fun _ h9 => h9) (by decide +kernel) (by decide +kernel) rfl rfl (Nat.le_of_ble_eq_true rfl) dX1_close_52 (fun H locs hP hD hS => ?_)
  have hP : va_P D vwCl (wG ad cI cL qy lp sp pr ex (nI (c + 1)) (fun _ => 0) tk (rMk (stC qy lp sp pr ex tk mK uK (st0 sh mu co sr du) (c + 1))) (nI mK) (rMS (stC qy lp sp pr ex tk mK uK (st0 sh mu co sr du) (c + 1))) (rSu (stC qy lp sp pr ex tk mK uK (st0 sh mu co sr du) (c + 1))) (nI uK) (rUS (stC qy lp sp pr ex tk mK uK (st0 sh mu co sr du) (c + 1))) (rSh (stC qy lp sp pr ex tk mK uK (st0 sh mu co sr du) (c + 1))) (rMu (stC qy lp sp pr ex tk mK uK (st0 sh mu co sr du) (c + 1))) (rCo (stC qy lp sp pr ex tk mK uK (st0 sh mu co sr du) (c + 1))) (rSr (stC qy lp sp pr ex tk mK uK (st0 sh mu co sr du) (c + 1))) (rDu (stC qy lp sp pr ex tk mK uK (st0 sh mu co sr du) (c + 1))) (vp_updL bi c (smL (rDu (stC qy lp sp pr ex tk mK uK (st0 sh mu co sr du) (c + 1))) (c + 1) - bb)) (bb + (smL (rDu (stC qy lp sp pr ex tk mK uK (st0 sh mu co sr du) (c + 1))) (c + 1) - bb))) H := hP
  have hD : va_D A (wG ad cI cL qy lp sp pr ex (nI (c + 1)) (fun _ => 0) tk (rMk (stC qy lp sp pr ex tk mK uK (st0 sh mu co sr du) (c + 1))) (nI mK) (rMS (stC qy lp sp pr ex tk mK uK (st0 sh mu co sr du) (c + 1))) (rSu (stC qy lp sp pr ex tk mK uK (st0 sh mu co sr du) (c + 1))) (nI uK) (rUS (stC qy lp sp pr ex tk mK uK (st0 sh mu co sr du) (c + 1))) (rSh (stC qy lp sp pr ex tk mK uK (st0 sh mu co sr du) (c + 1))) (rMu (stC qy lp sp pr ex tk mK uK (st0 sh mu co sr du) (c + 1))) (rCo (stC qy lp sp pr ex tk mK uK (st0 sh mu co sr du) (c + 1))) (rSr (stC qy lp sp pr ex tk mK uK (st0 sh mu co sr du) (c + 1))) (rDu (stC qy lp sp pr ex tk mK uK (st0 sh mu co sr du) (c + 1))) (vp_updL bi c (smL (rDu (stC qy lp sp pr ex tk mK uK (st0 sh mu co sr du) (c + 1))) (c + 1) - bb)) (bb + (smL (rDu (stC qy lp sp pr ex tk mK uK (st0 sh mu co sr du) (c + 1))) (c + 1) - bb))) := hD
  refine lv_lload_n hx hb dX1_close_55 rfl (lv_at hl 0 rfl) ?_
  exact gex_l hx hb hr hlocks hK hP hD hS trivial (Nat.le_of_ble_eq_true rfl) (Nat.le_of_ble_eq_true rfl) dX1_close_56
end
section
theorem inX1_closed_X1 : ∀ q ∈ wsX10, q ∈ wsX1_closed := by decide +kernel
theorem hX1_closed__fieldLink_RX1_103_MakeupGas_closedYears_I_ : Cond.fieldLink RX1 103 "MakeupGas" "closedYears" "I" ∈ wsX1_closed := by decide +kernel
set_option maxHeartbeats 4000000 in
set_option maxRecDepth 100000 in
theorem c_X1_closed (l : Launch) (D : va_G) (sz : Nat) (ad : Nat → Nat) (cI cL : ClassId) (qy lp sp : Int32) (pr ex : Nat → Int32) (c : Nat) (dy tk mk : Nat → Int32) (mK : Nat) (mS : Int32) (su : Nat → Int32) (uK : Nat) (uS : Int32) (sh mu co sr : Nat → Int32) (du bi : Nat → Int64) (bb : Int64)  : gCi l yX1_closed wsX1_closed ({ frames := 0, cells := 0, slots := 0, locals := 0 } : Room) D [(cI, .int), (cL, .long)] [.ref (ad 0)] (wG ad cI cL qy lp sp pr ex (nI c) dy tk mk (nI mK) mS su (nI uK) uS sh mu co sr du bi bb) (wG ad cI cL qy lp sp pr ex (nI c) dy tk mk (nI mK) mS su (nI uK) uS sh mu co sr du bi bb) (nI c) True 0 0 sz := by
  refine gm_i (cc := cX1_closed) (maxL := 1) (by decide) rfl (Nat.le_of_ble_eq_true rfl) ?_
  intro pg en s m args below meth cd A ls hx hb hr hml hown hts hlocks hin hA hK hP hD hl
  have hl : lv_has ls 1 [(0, .ref (ad 0))] := hl
  have hS : va_S A s.heap s.heap [] := va_S.rf
  refine lv_aload_n hx hb dX1_closed_0 rfl (lv_at hl 0 rfl) ?_
  refine va_get (D := D) (ci := 1) (C := RX1) (T := TX1) (N := 17) hx hb hts inX1_closed_X1 hown hK hP 0 rfl rfl 5 (by decide) (hts _ hX1_closed__fieldLink_RX1_103_MakeupGas_closedYears_I_) (fun _ h9 => h9) rfl dX1_closed_1 ?_
  exact ge_i hx hb hr hlocks rfl hK hP hD hS trivial (Nat.le_of_ble_eq_true rfl) (Nat.le_of_ble_eq_true rfl) dX1_closed_4
theorem inX1_lapsed_X1 : ∀ q ∈ wsX10, q ∈ wsX1_lapsed := by decide +kernel
theorem hX1_lapsed__fieldLink_RX1_44_MakeupGas_makeUpStock_LMakeupGas_Stock_ : Cond.fieldLink RX1 44 "MakeupGas" "makeUpStock" "LMakeupGas$Stock;" ∈ wsX1_lapsed := by decide +kernel
set_option maxHeartbeats 4000000 in
set_option maxRecDepth 100000 in
theorem c_X1_lapsed (l : Launch) (D : va_G) (sz : Nat) (ad : Nat → Nat) (cI cL : ClassId) (qy lp sp : Int32) (pr ex : Nat → Int32) (c : Nat) (dy tk mk : Nat → Int32) (mK : Nat) (mS : Int32) (su : Nat → Int32) (uK : Nat) (uS : Int32) (sh mu co sr : Nat → Int32) (du bi : Nat → Int64) (bb : Int64)  : gCi l yX1_lapsed wsX1_lapsed ({ frames := 1, cells := 0, slots := 0, locals := 20 } : Room) D [(cI, .int), (cL, .long)] [.ref (ad 0)] (wG ad cI cL qy lp sp pr ex (nI c) dy tk mk (nI mK) mS su (nI uK) uS sh mu co sr du bi bb) (wG ad cI cL qy lp sp pr ex (nI c) dy tk mk (nI mK) mS su (nI uK) uS sh mu co sr du bi bb) mS True 0 0 sz := by
  refine gm_i (cc := cX1_lapsed) (maxL := 1) (by decide) rfl (Nat.le_of_ble_eq_true rfl) ?_
  intro pg en s m args below meth cd A ls hx hb hr hml hown hts hlocks hin hA hK hP hD hl
  have hl : lv_has ls 1 [(0, .ref (ad 0))] := hl
  have hS : va_S A s.heap s.heap [] := va_S.rf
  refine lv_aload_n hx hb dX1_lapsed_0 rfl (lv_at hl 0 rfl) ?_
  refine va_get (D := D) (ci := 1) (C := RX1) (T := TX1) (N := 17) hx hb hts inX1_lapsed_X1 hown hK hP 0 rfl rfl 8 (by decide) (hts _ hX1_lapsed__fieldLink_RX1_44_MakeupGas_makeUpStock_LMakeupGas_Stock_) (fun _ h9 => h9) rfl dX1_lapsed_1 ?_
  refine gV_i (wc := (wK (ad 5) (ad 13) cI mk (nI mK) mS)) (wr := [(ad 0, .inr (1, [.int qy, .int lp, .int sp, .ref (ad 1), .ref (ad 2), .int (nI c), .ref (ad 3), .ref (ad 4), .ref (ad 5), .ref (ad 6), .ref (ad 7), .ref (ad 8), .ref (ad 9), .ref (ad 10), .ref (ad 11), .ref (ad 12), .long bb])), (ad 1, .inl (cI, 20, .inl pr)), (ad 2, .inl (cI, 20, .inl ex)), (ad 3, .inl (cI, 360, .inl dy)), (ad 4, .inl (cI, 20, .inl tk)), (ad 6, .inr (0, [.ref (ad 14), .int (nI uK), .int uS])), (ad 7, .inl (cI, 20, .inl sh)), (ad 8, .inl (cI, 20, .inl mu)), (ad 9, .inl (cI, 20, .inl co)), (ad 10, .inl (cI, 20, .inl sr)), (ad 11, .inl (cL, 20, .inr (.inl du))), (ad 12, .inl (cL, 20, .inr (.inl bi))), (ad 14, .inl (cI, 20, .inl su))]) (w1 := (wK (ad 5) (ad 13) cI mk (nI mK) mS)) (W' := (wG ad cI cL qy lp sp pr ex (nI c) dy tk mk (nI mK) mS su (nI uK) uS sh mu co sr du bi bb)) (As := []) (rest := []) ⟨hx, hb, hml, hown, hts⟩ (c_X0_lapsedInAll l D s.heap.size (ad 5) (ad 13) cI cL mk (nI mK) mS ) (cwV 0 hts gX1_lapsed_X0_lapsedInAll rfl rfl rfl (by decide +kernel) ⟨(Nat.le_of_ble_eq_true rfl), (Nat.le_of_ble_eq_true rfl)⟩) hS hA hK hP hD [0, 1] rfl [5, 13] [0, 1, 2, 3, 4, 6, 7, 8, 9, 10, 11, 12, 14] [0, 1, 2, 3, 4, 13, 5, 6, 7, 8, 9, 10, 11, 14, 12] rfl (by decide) rfl (by decide) (by decide) rfl (by decide) 0 0 rfl rfl rfl rfl hl.1 rfl (Nat.le_of_ble_eq_true rfl) dX1_lapsed_4 ⟨(Nat.le_of_ble_eq_true rfl), (Nat.le_of_ble_eq_true rfl)⟩ (fun H locs _ hP hD hS => ?_)
  exact ge_i hx hb hr hlocks rfl hK hP hD hS trivial (Nat.le_of_ble_eq_true rfl) (Nat.le_of_ble_eq_true rfl) dX1_lapsed_7
theorem inX1_open_X1 : ∀ q ∈ wsX10, q ∈ wsX1_open := by decide +kernel
theorem hX1_open__fieldLink_RX1_110_MakeupGas_billedInAll_J_ : Cond.fieldLink RX1 110 "MakeupGas" "billedInAll" "J" ∈ wsX1_open := by decide +kernel
set_option maxHeartbeats 4000000 in
set_option maxRecDepth 100000 in
theorem c_X1_open (l : Launch) (D : va_G) (sz : Nat) (ad : Nat → Nat) (cI cL : ClassId) (qy lp sp : Int32) (pr ex : Nat → Int32) (c : Nat) (dy tk mk : Nat → Int32) (mK : Nat) (mS : Int32) (su : Nat → Int32) (uK : Nat) (uS : Int32) (sh mu co sr : Nat → Int32) (du bi : Nat → Int64) (bb : Int64) (hc : c ≤ 20) : gCl l yX1_open wsX1_open ({ frames := 1, cells := 0, slots := 0, locals := 23 } : Room) D [(cI, .int), (cL, .long)] [.ref (ad 0)] (wG ad cI cL qy lp sp pr ex (nI c) dy tk mk (nI mK) mS su (nI uK) uS sh mu co sr du bi bb) (wG ad cI cL qy lp sp pr ex (nI c) dy tk mk (nI mK) mS su (nI uK) uS sh mu co sr du bi bb) (smL du c - bb) True 0 0 sz := by
  refine gm_l (cc := cX1_open) (maxL := 1) (by decide) rfl (Nat.le_of_ble_eq_true rfl) ?_
  intro pg en s m args below meth cd A ls hx hb hr hml hown hts hlocks hin hA hK hP hD hl
  have hl : lv_has ls 1 [(0, .ref (ad 0))] := hl
  have hS : va_S A s.heap s.heap [] := va_S.rf
  refine lv_aload_n hx hb dX1_open_0 rfl (lv_at hl 0 rfl) ?_
  refine gV_l (wc := (wG ad cI cL qy lp sp pr ex (nI c) dy tk mk (nI mK) mS su (nI uK) uS sh mu co sr du bi bb)) (wr := []) (w1 := (wG ad cI cL qy lp sp pr ex (nI c) dy tk mk (nI mK) mS su (nI uK) uS sh mu co sr du bi bb)) (W' := (wG ad cI cL qy lp sp pr ex (nI c) dy tk mk (nI mK) mS su (nI uK) uS sh mu co sr du bi bb)) (As := []) (rest := []) ⟨hx, hb, hml, hown, hts⟩ (c_X1_dueInAll l D s.heap.size ad cI cL qy lp sp pr ex c dy tk mk mK mS su uK uS sh mu co sr du bi bb  hc) (cwV 0 hts gX1_open_X1_dueInAll rfl rfl rfl (by decide +kernel) ⟨(Nat.le_of_ble_eq_true rfl), (Nat.le_of_ble_eq_true rfl)⟩) hS hA hK hP hD [0, 1] rfl [0, 1, 2, 3, 4, 5, 6, 7, 8, 9, 10, 11, 12, 13, 14] [] [0, 1, 2, 3, 4, 5, 6, 7, 8, 9, 10, 11, 12, 13, 14] rfl (by decide) rfl (by decide) (by decide) rfl (by decide) 0 1 rfl rfl rfl rfl hl.1 rfl (Nat.le_of_ble_eq_true rfl) dX1_open_1 ⟨(Nat.le_of_ble_eq_true rfl), (Nat.le_of_ble_eq_true rfl)⟩ (fun H locs _ hP hD hS => ?_)
  refine lv_aload_n hx hb dX1_open_4 rfl (lv_at hl 0 rfl) ?_
  refine va_get (D := D) (ci := 1) (C := RX1) (T := TX1) (N := 17) hx hb hts inX1_open_X1 hown hK hP 0 rfl rfl 16 (by decide) (hts _ hX1_open__fieldLink_RX1_110_MakeupGas_billedInAll_J_) (fun _ h9 => h9) rfl dX1_open_5 ?_
  refine lv_lsub hx hb dX1_open_8 ?_
  exact ge_l hx hb hr hlocks hK hP hD hS trivial (Nat.le_of_ble_eq_true rfl) (Nat.le_of_ble_eq_true rfl) dX1_open_9
theorem inX1_taken_X1 : ∀ q ∈ wsX10, q ∈ wsX1_taken := by decide +kernel
theorem hX1_taken__fieldLink_RX1_36_MakeupGas_takenPerYear_I_ : Cond.fieldLink RX1 36 "MakeupGas" "takenPerYear" "[I" ∈ wsX1_taken := by decide +kernel
set_option maxHeartbeats 4000000 in
set_option maxRecDepth 100000 in
theorem c_X1_taken (l : Launch) (hst : l.stackTraces = false) (D : va_G) (sz : Nat) (ad : Nat → Nat) (cI cL : ClassId) (qy lp sp : Int32) (pr ex : Nat → Int32) (c : Nat) (dy tk mk : Nat → Int32) (mK : Nat) (mS : Int32) (su : Nat → Int32) (uK : Nat) (uS : Int32) (sh mu co sr : Nat → Int32) (du bi : Nat → Int64) (bb : Int64) (j : Nat) (hj : j < 20) : gTi l yX1_taken wsX1_taken ({ frames := 8, cells := 1, slots := 6, locals := 132 } : Room) D [(cI, .int), (cL, .long)] [.ref (ad 0), .int (nI j)] (wG ad cI cL qy lp sp pr ex (nI c) dy tk mk (nI mK) mS su (nI uK) uS sh mu co sr du bi bb) (wG ad cI cL qy lp sp pr ex (nI c) dy tk mk (nI mK) mS su (nI uK) uS sh mu co sr du bi bb) (tk j) True (fun _ => False) 1 6 sz := by
  refine gmx_i (cc := cX1_taken) (maxL := 2) (by decide) rfl (Nat.le_of_ble_eq_true rfl) ?_
  intro pg en s m args below meth cd A ls hx hb hr hml hown hts hlocks hin hA hK hP hD hT hnx hl
  have hl : lv_has ls 2 [(0, .ref (ad 0)), (1, .int (nI j))] := hl
  have hS : va_S A s.heap s.heap [] := va_S.rf
  refine lv_iload_n hx hb dX1_taken_0 rfl (lv_at hl 1 rfl) ?_
  refine gxS_v (wc := []) (wr := [(ad 0, .inr (1, [.int qy, .int lp, .int sp, .ref (ad 1), .ref (ad 2), .int (nI c), .ref (ad 3), .ref (ad 4), .ref (ad 5), .ref (ad 6), .ref (ad 7), .ref (ad 8), .ref (ad 9), .ref (ad 10), .ref (ad 11), .ref (ad 12), .long bb])), (ad 1, .inl (cI, 20, .inl pr)), (ad 2, .inl (cI, 20, .inl ex)), (ad 3, .inl (cI, 360, .inl dy)), (ad 4, .inl (cI, 20, .inl tk)), (ad 5, .inr (0, [.ref (ad 13), .int (nI mK), .int mS])), (ad 6, .inr (0, [.ref (ad 14), .int (nI uK), .int uS])), (ad 7, .inl (cI, 20, .inl sh)), (ad 8, .inl (cI, 20, .inl mu)), (ad 9, .inl (cI, 20, .inl co)), (ad 10, .inl (cI, 20, .inl sr)), (ad 11, .inl (cL, 20, .inr (.inl du))), (ad 12, .inl (cL, 20, .inr (.inl bi))), (ad 13, .inl (cI, 20, .inl mk)), (ad 14, .inl (cI, 20, .inl su))]) (w1 := []) (W' := (wG ad cI cL qy lp sp pr ex (nI c) dy tk mk (nI mK) mS su (nI uK) uS sh mu co sr du bi bb)) (As := [.int (nI j)]) (rest := []) ⟨hx, hb, hml, hown, hts⟩ (c_X1_requireYear l hst D s.heap.size cI cL (nI j)) (va_cwS 1 hts gX1_taken_X1_requireYear rfl rfl rfl (by decide +kernel) ⟨(Nat.le_of_ble_eq_true rfl), (Nat.le_of_ble_eq_true rfl)⟩) hT hS hA hK hP hD [0, 1] rfl [] [0, 1, 2, 3, 4, 5, 6, 7, 8, 9, 10, 11, 12, 13, 14] [0, 1, 2, 3, 4, 5, 6, 7, 8, 9, 10, 11, 12, 13, 14] rfl (by decide) rfl (by decide) (by decide) rfl (by decide) rfl hl.1 rfl (Nat.le_of_ble_eq_true rfl) dX1_taken_1 ⟨(Nat.le_of_ble_eq_true rfl), (Nat.le_of_ble_eq_true rfl)⟩ hnx hlocks (fun _ h => h.2 (inR_nI (n := 19) rfl (by omega) (by decide))) (Nat.le_of_ble_eq_true rfl) (Nat.le_of_ble_eq_true rfl) [0, 1, 2, 3, 4, 5, 6, 7, 8, 9, 10, 11, 12, 13, 14] rfl (by decide) (fun H locs hok0 hP hD hS => ?_)
  refine lv_aload_n hx hb dX1_taken_4 rfl (lv_at hl 0 rfl) ?_
  refine va_get (D := D) (ci := 1) (C := RX1) (T := TX1) (N := 17) hx hb hts inX1_taken_X1 hown hK hP 0 rfl rfl 7 (by decide) (hts _ hX1_taken__fieldLink_RX1_36_MakeupGas_takenPerYear_I_) (fun _ h9 => h9) rfl dX1_taken_5 ?_
  refine lv_iload_n hx hb dX1_taken_8 rfl (lv_at hl 1 rfl) ?_
  refine ga_iald (j := j) hx hb hK hP 4 0 rfl rfl hj (by decide) dX1_taken_9 ?_
  exact gex_i hx hb hr hlocks rfl hK hP hD hS trivial (Nat.le_of_ble_eq_true rfl) (Nat.le_of_ble_eq_true rfl) dX1_taken_10
theorem inX1_price_X1 : ∀ q ∈ wsX10, q ∈ wsX1_price := by decide +kernel
theorem hX1_price__fieldLink_RX1_20_MakeupGas_pricePerYear_I_ : Cond.fieldLink RX1 20 "MakeupGas" "pricePerYear" "[I" ∈ wsX1_price := by decide +kernel
set_option maxHeartbeats 4000000 in
set_option maxRecDepth 100000 in
theorem c_X1_price (l : Launch) (hst : l.stackTraces = false) (D : va_G) (sz : Nat) (ad : Nat → Nat) (cI cL : ClassId) (qy lp sp : Int32) (pr ex : Nat → Int32) (c : Nat) (dy tk mk : Nat → Int32) (mK : Nat) (mS : Int32) (su : Nat → Int32) (uK : Nat) (uS : Int32) (sh mu co sr : Nat → Int32) (du bi : Nat → Int64) (bb : Int64) (j : Nat) (hj : j < 20) : gTi l yX1_price wsX1_price ({ frames := 8, cells := 1, slots := 6, locals := 132 } : Room) D [(cI, .int), (cL, .long)] [.ref (ad 0), .int (nI j)] (wG ad cI cL qy lp sp pr ex (nI c) dy tk mk (nI mK) mS su (nI uK) uS sh mu co sr du bi bb) (wG ad cI cL qy lp sp pr ex (nI c) dy tk mk (nI mK) mS su (nI uK) uS sh mu co sr du bi bb) (pr j) True (fun _ => False) 1 6 sz := by
  refine gmx_i (cc := cX1_price) (maxL := 2) (by decide) rfl (Nat.le_of_ble_eq_true rfl) ?_
  intro pg en s m args below meth cd A ls hx hb hr hml hown hts hlocks hin hA hK hP hD hT hnx hl
  have hl : lv_has ls 2 [(0, .ref (ad 0)), (1, .int (nI j))] := hl
  have hS : va_S A s.heap s.heap [] := va_S.rf
  refine lv_iload_n hx hb dX1_price_0 rfl (lv_at hl 1 rfl) ?_
  refine gxS_v (wc := []) (wr := [(ad 0, .inr (1, [.int qy, .int lp, .int sp, .ref (ad 1), .ref (ad 2), .int (nI c), .ref (ad 3), .ref (ad 4), .ref (ad 5), .ref (ad 6), .ref (ad 7), .ref (ad 8), .ref (ad 9), .ref (ad 10), .ref (ad 11), .ref (ad 12), .long bb])), (ad 1, .inl (cI, 20, .inl pr)), (ad 2, .inl (cI, 20, .inl ex)), (ad 3, .inl (cI, 360, .inl dy)), (ad 4, .inl (cI, 20, .inl tk)), (ad 5, .inr (0, [.ref (ad 13), .int (nI mK), .int mS])), (ad 6, .inr (0, [.ref (ad 14), .int (nI uK), .int uS])), (ad 7, .inl (cI, 20, .inl sh)), (ad 8, .inl (cI, 20, .inl mu)), (ad 9, .inl (cI, 20, .inl co)), (ad 10, .inl (cI, 20, .inl sr)), (ad 11, .inl (cL, 20, .inr (.inl du))), (ad 12, .inl (cL, 20, .inr (.inl bi))), (ad 13, .inl (cI, 20, .inl mk)), (ad 14, .inl (cI, 20, .inl su))]) (w1 := []) (W' := (wG ad cI cL qy lp sp pr ex (nI c) dy tk mk (nI mK) mS su (nI uK) uS sh mu co sr du bi bb)) (As := [.int (nI j)]) (rest := []) ⟨hx, hb, hml, hown, hts⟩ (c_X1_requireYear l hst D s.heap.size cI cL (nI j)) (va_cwS 1 hts gX1_price_X1_requireYear rfl rfl rfl (by decide +kernel) ⟨(Nat.le_of_ble_eq_true rfl), (Nat.le_of_ble_eq_true rfl)⟩) hT hS hA hK hP hD [0, 1] rfl [] [0, 1, 2, 3, 4, 5, 6, 7, 8, 9, 10, 11, 12, 13, 14] [0, 1, 2, 3, 4, 5, 6, 7, 8, 9, 10, 11, 12, 13, 14] rfl (by decide) rfl (by decide) (by decide) rfl (by decide) rfl hl.1 rfl (Nat.le_of_ble_eq_true rfl) dX1_price_1 ⟨(Nat.le_of_ble_eq_true rfl), (Nat.le_of_ble_eq_true rfl)⟩ hnx hlocks (fun _ h => h.2 (inR_nI (n := 19) rfl (by omega) (by decide))) (Nat.le_of_ble_eq_true rfl) (Nat.le_of_ble_eq_true rfl) [0, 1, 2, 3, 4, 5, 6, 7, 8, 9, 10, 11, 12, 13, 14] rfl (by decide) (fun H locs hok0 hP hD hS => ?_)
  refine lv_aload_n hx hb dX1_price_4 rfl (lv_at hl 0 rfl) ?_
  refine va_get (D := D) (ci := 1) (C := RX1) (T := TX1) (N := 17) hx hb hts inX1_price_X1 hown hK hP 0 rfl rfl 3 (by decide) (hts _ hX1_price__fieldLink_RX1_20_MakeupGas_pricePerYear_I_) (fun _ h9 => h9) rfl dX1_price_5 ?_
  refine lv_iload_n hx hb dX1_price_8 rfl (lv_at hl 1 rfl) ?_
  refine ga_iald (j := j) hx hb hK hP 1 0 rfl rfl hj (by decide) dX1_price_9 ?_
  exact gex_i hx hb hr hlocks rfl hK hP hD hS trivial (Nat.le_of_ble_eq_true rfl) (Nat.le_of_ble_eq_true rfl) dX1_price_10
set_option maxHeartbeats 4000000 in
set_option maxRecDepth 100000 in
theorem c_X1_least (l : Launch) (hst : l.stackTraces = false) (D : va_G) (sz : Nat) (ad : Nat → Nat) (cI cL : ClassId) (qy lp sp : Int32) (pr ex : Nat → Int32) (c : Nat) (dy tk mk : Nat → Int32) (mK : Nat) (mS : Int32) (su : Nat → Int32) (uK : Nat) (uS : Int32) (sh mu co sr : Nat → Int32) (du bi : Nat → Int64) (bb : Int64) (j : Nat) (hj : j < 20) : gTi l yX1_least wsX1_least ({ frames := 8, cells := 1, slots := 6, locals := 132 } : Room) D [(cI, .int), (cL, .long)] [.ref (ad 0), .int (nI j)] (wG ad cI cL qy lp sp pr ex (nI c) dy tk mk (nI mK) mS su (nI uK) uS sh mu co sr du bi bb) (wG ad cI cL qy lp sp pr ex (nI c) dy tk mk (nI mK) mS su (nI uK) uS sh mu co sr du bi bb) (lqf qy lp ex j) True (fun _ => False) 1 6 sz := by
  refine gmx_i (cc := cX1_least) (maxL := 2) (by decide) rfl (Nat.le_of_ble_eq_true rfl) ?_
  intro pg en s m args below meth cd A ls hx hb hr hml hown hts hlocks hin hA hK hP hD hT hnx hl
  have hl : lv_has ls 2 [(0, .ref (ad 0)), (1, .int (nI j))] := hl
  have hS : va_S A s.heap s.heap [] := va_S.rf
  refine lv_iload_n hx hb dX1_least_0 rfl (lv_at hl 1 rfl) ?_
  refine gxS_v (wc := []) (wr := [(ad 0, .inr (1, [.int qy, .int lp, .int sp, .ref (ad 1), .ref (ad 2), .int (nI c), .ref (ad 3), .ref (ad 4), .ref (ad 5), .ref (ad 6), .ref (ad 7), .ref (ad 8), .ref (ad 9), .ref (ad 10), .ref (ad 11), .ref (ad 12), .long bb])), (ad 1, .inl (cI, 20, .inl pr)), (ad 2, .inl (cI, 20, .inl ex)), (ad 3, .inl (cI, 360, .inl dy)), (ad 4, .inl (cI, 20, .inl tk)), (ad 5, .inr (0, [.ref (ad 13), .int (nI mK), .int mS])), (ad 6, .inr (0, [.ref (ad 14), .int (nI uK), .int uS])), (ad 7, .inl (cI, 20, .inl sh)), (ad 8, .inl (cI, 20, .inl mu)), (ad 9, .inl (cI, 20, .inl co)), (ad 10, .inl (cI, 20, .inl sr)), (ad 11, .inl (cL, 20, .inr (.inl du))), (ad 12, .inl (cL, 20, .inr (.inl bi))), (ad 13, .inl (cI, 20, .inl mk)), (ad 14, .inl (cI, 20, .inl su))]) (w1 := []) (W' := (wG ad cI cL qy lp sp pr ex (nI c) dy tk mk (nI mK) mS su (nI uK) uS sh mu co sr du bi bb)) (As := [.int (nI j)]) (rest := []) ⟨hx, hb, hml, hown, hts⟩ (c_X1_requireYear l hst D s.heap.size cI cL (nI j)) (va_cwS 1 hts gX1_least_X1_requireYear rfl rfl rfl (by decide +kernel) ⟨(Nat.le_of_ble_eq_true rfl), (Nat.le_of_ble_eq_true rfl)⟩) hT hS hA hK hP hD [0, 1] rfl [] [0, 1, 2, 3, 4, 5, 6, 7, 8, 9, 10, 11, 12, 13, 14] [0, 1, 2, 3, 4, 5, 6, 7, 8, 9, 10, 11, 12, 13, 14] rfl (by decide) rfl (by decide) (by decide) rfl (by decide) rfl hl.1 rfl (Nat.le_of_ble_eq_true rfl) dX1_least_1 ⟨(Nat.le_of_ble_eq_true rfl), (Nat.le_of_ble_eq_true rfl)⟩ hnx hlocks (fun _ h => h.2 (inR_nI (n := 19) rfl (by omega) (by decide))) (Nat.le_of_ble_eq_true rfl) (Nat.le_of_ble_eq_true rfl) [0, 1, 2, 3, 4, 5, 6, 7, 8, 9, 10, 11, 12, 13, 14] rfl (by decide) (fun H locs hok0 hP hD hS => ?_)
  refine lv_aload_n hx hb dX1_least_4 rfl (lv_at hl 0 rfl) ?_
  refine lv_iload_n hx hb dX1_least_5 rfl (lv_at hl 1 rfl) ?_
  refine gV_i (wc := (wG ad cI cL qy lp sp pr ex (nI c) dy tk mk (nI mK) mS su (nI uK) uS sh mu co sr du bi bb)) (wr := []) (w1 := (wG ad cI cL qy lp sp pr ex (nI c) dy tk mk (nI mK) mS su (nI uK) uS sh mu co sr du bi bb)) (W' := (wG ad cI cL qy lp sp pr ex (nI c) dy tk mk (nI mK) mS su (nI uK) uS sh mu co sr du bi bb)) (As := [.int (nI j)]) (rest := []) ⟨hx, hb, hml, hown, hts⟩ (c_X1_leastQuantity l D H.size ad cI cL qy lp sp pr ex c dy tk mk mK mS su uK uS sh mu co sr du bi bb j hj) (cwV 1 hts gX1_least_X1_leastQuantity rfl rfl rfl (by decide +kernel) ⟨(Nat.le_of_ble_eq_true rfl), (Nat.le_of_ble_eq_true rfl)⟩) hS hA hK hP hD [0, 1] rfl [0, 1, 2, 3, 4, 5, 6, 7, 8, 9, 10, 11, 12, 13, 14] [] [0, 1, 2, 3, 4, 5, 6, 7, 8, 9, 10, 11, 12, 13, 14] rfl (by decide) rfl (by decide) (by decide) rfl (by decide) 0 1 rfl rfl rfl rfl hl.1 rfl (Nat.le_of_ble_eq_true rfl) dX1_least_6 ⟨(Nat.le_of_ble_eq_true rfl), (Nat.le_of_ble_eq_true rfl)⟩ (fun H locs _ hP hD hS => ?_)
  exact gex_i hx hb hr hlocks rfl hK hP hD hS trivial (Nat.le_of_ble_eq_true rfl) (Nat.le_of_ble_eq_true rfl) dX1_least_9
theorem inX1_takenFrom_X1 : ∀ q ∈ wsX10, q ∈ wsX1_takenFrom := by decide +kernel
theorem hX1_takenFrom__fieldLink_RX1_33_MakeupGas_takenPerDay_I_ : Cond.fieldLink RX1 33 "MakeupGas" "takenPerDay" "[I" ∈ wsX1_takenFrom := by decide +kernel
set_option maxHeartbeats 4000000 in
set_option maxRecDepth 100000 in
theorem c_X1_takenFrom (l : Launch) (hst : l.stackTraces = false) (D : va_G) (sz : Nat) (ad : Nat → Nat) (cI cL : ClassId) (qy lp sp : Int32) (pr ex : Nat → Int32) (c : Nat) (dy tk mk : Nat → Int32) (mK : Nat) (mS : Int32) (su : Nat → Int32) (uK : Nat) (uS : Int32) (sh mu co sr : Nat → Int32) (du bi : Nat → Int64) (bb : Int64) (a b : Nat) (hab : a ≤ b) (hb3 : b < 360) : gTi l yX1_takenFrom wsX1_takenFrom ({ frames := 9, cells := 2, slots := 12, locals := 153 } : Room) D [(cI, .int), (cL, .long)] [.ref (ad 0), .int (nI a), .int (nI b)] (wG ad cI cL qy lp sp pr ex (nI c) dy tk mk (nI mK) mS su (nI uK) uS sh mu co sr du bi bb) (wG ad cI cL qy lp sp pr ex (nI c) dy tk mk (nI mK) mS su (nI uK) uS sh mu co sr du bi bb) (smI dy a (b + 1 - a)) True (fun _ => False) 2 12 sz := by
  refine gmx_i (cc := cX1_takenFrom) (maxL := 5) (by decide) rfl (Nat.le_of_ble_eq_true rfl) ?_
  intro pg en s m args below meth cd A ls hx hb hr hml hown hts hlocks hin hA hK hP hD hT hnx hl
  have hl : lv_has ls 5 [(0, .ref (ad 0)), (1, .int (nI a)), (2, .int (nI b))] := hl
  have hS : va_S A s.heap s.heap [] := va_S.rf
  refine lv_iload_n hx hb dX1_takenFrom_0 rfl (lv_at hl 1 rfl) ?_
  refine lv_iload_n hx hb dX1_takenFrom_1 rfl (lv_at hl 2 rfl) ?_
  refine gxS_v (wc := []) (wr := [(ad 0, .inr (1, [.int qy, .int lp, .int sp, .ref (ad 1), .ref (ad 2), .int (nI c), .ref (ad 3), .ref (ad 4), .ref (ad 5), .ref (ad 6), .ref (ad 7), .ref (ad 8), .ref (ad 9), .ref (ad 10), .ref (ad 11), .ref (ad 12), .long bb])), (ad 1, .inl (cI, 20, .inl pr)), (ad 2, .inl (cI, 20, .inl ex)), (ad 3, .inl (cI, 360, .inl dy)), (ad 4, .inl (cI, 20, .inl tk)), (ad 5, .inr (0, [.ref (ad 13), .int (nI mK), .int mS])), (ad 6, .inr (0, [.ref (ad 14), .int (nI uK), .int uS])), (ad 7, .inl (cI, 20, .inl sh)), (ad 8, .inl (cI, 20, .inl mu)), (ad 9, .inl (cI, 20, .inl co)), (ad 10, .inl (cI, 20, .inl sr)), (ad 11, .inl (cL, 20, .inr (.inl du))), (ad 12, .inl (cL, 20, .inr (.inl bi))), (ad 13, .inl (cI, 20, .inl mk)), (ad 14, .inl (cI, 20, .inl su))]) (w1 := []) (W' := (wG ad cI cL qy lp sp pr ex (nI c) dy tk mk (nI mK) mS su (nI uK) uS sh mu co sr du bi bb)) (As := [.int (nI a), .int (nI b)]) (rest := []) ⟨hx, hb, hml, hown, hts⟩ (c_X1_requireDays l hst D s.heap.size cI cL (nI a) (nI b)) (va_cwS 2 hts gX1_takenFrom_X1_requireDays rfl rfl rfl (by decide +kernel) ⟨(Nat.le_of_ble_eq_true rfl), (Nat.le_of_ble_eq_true rfl)⟩) hT hS hA hK hP hD [0, 1] rfl [] [0, 1, 2, 3, 4, 5, 6, 7, 8, 9, 10, 11, 12, 13, 14] [0, 1, 2, 3, 4, 5, 6, 7, 8, 9, 10, 11, 12, 13, 14] rfl (by decide) rfl (by decide) (by decide) rfl (by decide) rfl hl.1 rfl (Nat.le_of_ble_eq_true rfl) dX1_takenFrom_2 ⟨(Nat.le_of_ble_eq_true rfl), (Nat.le_of_ble_eq_true rfl)⟩ hnx hlocks (fun _ h => h.2 ⟨inR_nI (n := 359) rfl (by omega) (by decide), ⟨Int32.not_lt.mpr (nI_le hab (by omega)), nI_le (b := 359) (by omega) (by decide)⟩⟩) (Nat.le_of_ble_eq_true rfl) (Nat.le_of_ble_eq_true rfl) [0, 1, 2, 3, 4, 5, 6, 7, 8, 9, 10, 11, 12, 13, 14] rfl (by decide) (fun H locs hok0 hP hD hS => ?_)
  refine lv_iconst (v := 0) hx hb dX1_takenFrom_5 (by decide) ?_
  refine lv_istore_n (lv' := [(3, .int 0), (0, .ref (ad 0)), (1, .int (nI a)), (2, .int (nI b))]) hx hb dX1_takenFrom_6 rfl hl (by decide) rfl (fun ls hl => ?_)
  refine lv_iload_n hx hb dX1_takenFrom_7 rfl (lv_at hl 2 rfl) ?_
  refine lv_istore (lv' := [(4, .int (nI a)), (3, .int 0), (0, .ref (ad 0)), (1, .int (nI a)), (2, .int (nI b))]) hx hb dX1_takenFrom_8 hl (by decide) rfl (fun ls hl => ?_)
  have lp_10 : ∀ (n i : Nat), i ≤ (b + 1) → (b + 1) < i + n → a ≤ i → ∀ (H : Heap) (locs : List Loc), va_P D vwCl (wG ad cI cL qy lp sp pr ex (nI c) dy tk mk (nI mK) mS su (nI uK) uS sh mu co sr du bi bb) H → va_D A (wG ad cI cL qy lp sp pr ex (nI c) dy tk mk (nI mK) mS su (nI uK) uS sh mu co sr du bi bb) → va_S A s.heap H locs → ∀ (ls : Array Slot), lv_has ls 5 [(0, .ref (ad 0)), (1, .int (nI a)), (2, .int (nI b)), (3, .int (smI dy a (i - a))), (4, .int (nI i))] → W pg l en ({ frames := 9, cells := 2, slots := 12, locals := 153 } : Room) s m args below meth cd H locs 2 12 (gFi (smI dy a (b + 1 - a)) True (fun _ => False) below D [(cI, .int), (cL, .long)] (wG ad cI cL qy lp sp pr ex (nI c) dy tk mk (nI mK) mS su (nI uK) uS sh mu co sr du bi bb) (wG ad cI cL qy lp sp pr ex (nI c) dy tk mk (nI mK) mS su (nI uK) uS sh mu co sr du bi bb) A args s 2 12) (F0 m 10 ls []) := by
    intro n
    induction n with
    | zero => intro i h1 h2; exact absurd h2 (by omega)
    | succ n ih =>
      intro i hi hin2 hai H locs hP hD hS ls hl
      refine lv_iload hx hb dX1_takenFrom_10 (lv_at hl 4 rfl) ?_
      refine lv_iload_n hx hb dX1_takenFrom_12 rfl (lv_at hl 2 rfl) ?_
      refine lv_icmp_gt (tgt := 32) hx hb dX1_takenFrom_13 (by decide) (fun c6 => ?_) (fun c6 => ?_)
      · have hbi : ¬ i ≤ b := fun h => absurd c6 (Int32.not_lt.mpr (nI_le h (by omega)))
        obtain rfl : i = b + 1 := by omega
        refine lv_iload_n hx hb dX1_takenFrom_32 rfl (lv_at hl 3 rfl) ?_
        exact gex_i hx hb hr hlocks rfl hK hP hD hS trivial (Nat.le_of_ble_eq_true rfl) (Nat.le_of_ble_eq_true rfl) dX1_takenFrom_33
      · have hib : i ≤ b := Nat.not_lt.mp (fun h => c6 (nI_lt h (by omega)))
        have hi3 : i < 360 := by omega
        refine lv_iload_n hx hb dX1_takenFrom_16 rfl (lv_at hl 3 rfl) ?_
        refine lv_aload_n hx hb dX1_takenFrom_17 rfl (lv_at hl 0 rfl) ?_
        refine va_get (D := D) (ci := 1) (C := RX1) (T := TX1) (N := 17) hx hb hts inX1_takenFrom_X1 hown hK hP 0 rfl rfl 6 (by decide) (hts _ hX1_takenFrom__fieldLink_RX1_33_MakeupGas_takenPerDay_I_) (fun _ h9 => h9) rfl dX1_takenFrom_18 ?_
        refine lv_iload hx hb dX1_takenFrom_21 (lv_at hl 4 rfl) ?_
        refine ga_iald (j := i) hx hb hK hP 3 0 rfl rfl hi3 (by decide) dX1_takenFrom_23 ?_
        refine lv_iadd hx hb dX1_takenFrom_24 ?_
        refine gj_i (y := smI dy a (i + 1 - a)) (by rw [show i + 1 - a = (i - a) + 1 by omega, smI, show a + (i - a) = i by omega]) ?_
        refine lv_istore_n (lv' := [(3, .int (smI dy a (i + 1 - a))), (0, .ref (ad 0)), (1, .int (nI a)), (2, .int (nI b)), (4, .int (nI i))]) hx hb dX1_takenFrom_25 rfl hl (by decide) rfl (fun ls hl => ?_)
        refine lv_iinc (v := nI (i + 1)) (lv' := [(4, .int (nI (i + 1))), (3, .int (smI dy a (i + 1 - a))), (0, .ref (ad 0)), (1, .int (nI a)), (2, .int (nI b))]) hx hb dX1_takenFrom_26 hl (k := 4) rfl (gi_1 _) (by decide) rfl (fun ls hl => ?_)
        refine lv_goto (tgt := 10) hx hb dX1_takenFrom_29 (by decide) ?_
        exact ih (i + 1) (by omega) (by omega) (by omega) _ _ hP hD hS ls (lv_sub hl [2, 3, 4, 1, 0] rfl)
  have e0 : a - a = 0 := Nat.sub_self a
  exact lp_10 ((b + 1) + 1) a (by omega) (by omega) (Nat.le_refl a) _ _ hP hD hS ls (by rw [e0]; exact lv_sub hl [2, 3, 4, 1, 0] rfl)
theorem inX1_shortfall_X1 : ∀ q ∈ wsX10, q ∈ wsX1_shortfall := by decide +kernel
theorem hX1_shortfall__fieldLink_RX1_51_MakeupGas_shortfallPerYear_I_ : Cond.fieldLink RX1 51 "MakeupGas" "shortfallPerYear" "[I" ∈ wsX1_shortfall := by decide +kernel
set_option maxHeartbeats 4000000 in
set_option maxRecDepth 100000 in
theorem c_X1_shortfall (l : Launch) (hst : l.stackTraces = false) (D : va_G) (sz : Nat) (ad : Nat → Nat) (cI cL : ClassId) (qy lp sp : Int32) (pr ex : Nat → Int32) (c : Nat) (dy tk mk : Nat → Int32) (mK : Nat) (mS : Int32) (su : Nat → Int32) (uK : Nat) (uS : Int32) (sh mu co sr : Nat → Int32) (du bi : Nat → Int64) (bb : Int64) (j : Nat) (hj : j < c) (hc : c ≤ 20) : gTi l yX1_shortfall wsX1_shortfall ({ frames := 9, cells := 2, slots := 12, locals := 153 } : Room) D [(cI, .int), (cL, .long)] [.ref (ad 0), .int (nI j)] (wG ad cI cL qy lp sp pr ex (nI c) dy tk mk (nI mK) mS su (nI uK) uS sh mu co sr du bi bb) (wG ad cI cL qy lp sp pr ex (nI c) dy tk mk (nI mK) mS su (nI uK) uS sh mu co sr du bi bb) (sh j) True (fun _ => False) 2 12 sz := by
  refine gmx_i (cc := cX1_shortfall) (maxL := 2) (by decide) rfl (Nat.le_of_ble_eq_true rfl) ?_
  intro pg en s m args below meth cd A ls hx hb hr hml hown hts hlocks hin hA hK hP hD hT hnx hl
  have hl : lv_has ls 2 [(0, .ref (ad 0)), (1, .int (nI j))] := hl
  have hS : va_S A s.heap s.heap [] := va_S.rf
  refine lv_aload_n hx hb dX1_shortfall_0 rfl (lv_at hl 0 rfl) ?_
  refine lv_iload_n hx hb dX1_shortfall_1 rfl (lv_at hl 1 rfl) ?_
  refine gxV_v (wc := (wG ad cI cL qy lp sp pr ex (nI c) dy tk mk (nI mK) mS su (nI uK) uS sh mu co sr du bi bb)) (wr := []) (w1 := (wG ad cI cL qy lp sp pr ex (nI c) dy tk mk (nI mK) mS su (nI uK) uS sh mu co sr du bi bb)) (W' := (wG ad cI cL qy lp sp pr ex (nI c) dy tk mk (nI mK) mS su (nI uK) uS sh mu co sr du bi bb)) (As := [.int (nI j)]) (rest := []) ⟨hx, hb, hml, hown, hts⟩ (c_X1_requireClosedYear l hst D s.heap.size ad cI cL qy lp sp pr ex c dy tk mk mK mS su uK uS sh mu co sr du bi bb (nI j)) (cwV 1 hts gX1_shortfall_X1_requireClosedYear rfl rfl rfl (by decide +kernel) ⟨(Nat.le_of_ble_eq_true rfl), (Nat.le_of_ble_eq_true rfl)⟩) hT hS hA hK hP hD [0, 1] rfl [0, 1, 2, 3, 4, 5, 6, 7, 8, 9, 10, 11, 12, 13, 14] [] [0, 1, 2, 3, 4, 5, 6, 7, 8, 9, 10, 11, 12, 13, 14] rfl (by decide) rfl (by decide) (by decide) rfl (by decide) 0 1 rfl rfl rfl rfl hl.1 rfl (Nat.le_of_ble_eq_true rfl) dX1_shortfall_2 ⟨(Nat.le_of_ble_eq_true rfl), (Nat.le_of_ble_eq_true rfl)⟩ hnx hlocks (fun _ h => h.elim (fun h => h.2 (inR_nI (n := 19) rfl (by omega) (by decide))) (fun h => h.2.2 (nI_lt hj (by omega)))) (Nat.le_of_ble_eq_true rfl) (Nat.le_of_ble_eq_true rfl) [0, 1, 2, 3, 4, 5, 6, 7, 8, 9, 10, 11, 12, 13, 14] rfl (by decide) (fun H locs hok0 hP hD hS => ?_)
  refine lv_aload_n hx hb dX1_shortfall_5 rfl (lv_at hl 0 rfl) ?_
  refine va_get (D := D) (ci := 1) (C := RX1) (T := TX1) (N := 17) hx hb hts inX1_shortfall_X1 hown hK hP 0 rfl rfl 10 (by decide) (hts _ hX1_shortfall__fieldLink_RX1_51_MakeupGas_shortfallPerYear_I_) (fun _ h9 => h9) rfl dX1_shortfall_6 ?_
  refine lv_iload_n hx hb dX1_shortfall_9 rfl (lv_at hl 1 rfl) ?_
  refine ga_iald (j := j) hx hb hK hP 7 0 rfl rfl (show j < 20 by omega) (by decide) dX1_shortfall_10 ?_
  exact gex_i hx hb hr hlocks rfl hK hP hD hS trivial (Nat.le_of_ble_eq_true rfl) (Nat.le_of_ble_eq_true rfl) dX1_shortfall_11
theorem inX1_madeUp_X1 : ∀ q ∈ wsX10, q ∈ wsX1_madeUp := by decide +kernel
theorem hX1_madeUp__fieldLink_RX1_54_MakeupGas_madeUpPerYear_I_ : Cond.fieldLink RX1 54 "MakeupGas" "madeUpPerYear" "[I" ∈ wsX1_madeUp := by decide +kernel
set_option maxHeartbeats 4000000 in
set_option maxRecDepth 100000 in
theorem c_X1_madeUp (l : Launch) (hst : l.stackTraces = false) (D : va_G) (sz : Nat) (ad : Nat → Nat) (cI cL : ClassId) (qy lp sp : Int32) (pr ex : Nat → Int32) (c : Nat) (dy tk mk : Nat → Int32) (mK : Nat) (mS : Int32) (su : Nat → Int32) (uK : Nat) (uS : Int32) (sh mu co sr : Nat → Int32) (du bi : Nat → Int64) (bb : Int64) (j : Nat) (hj : j < c) (hc : c ≤ 20) : gTi l yX1_madeUp wsX1_madeUp ({ frames := 9, cells := 2, slots := 12, locals := 153 } : Room) D [(cI, .int), (cL, .long)] [.ref (ad 0), .int (nI j)] (wG ad cI cL qy lp sp pr ex (nI c) dy tk mk (nI mK) mS su (nI uK) uS sh mu co sr du bi bb) (wG ad cI cL qy lp sp pr ex (nI c) dy tk mk (nI mK) mS su (nI uK) uS sh mu co sr du bi bb) (mu j) True (fun _ => False) 2 12 sz := by
  refine gmx_i (cc := cX1_madeUp) (maxL := 2) (by decide) rfl (Nat.le_of_ble_eq_true rfl) ?_
  intro pg en s m args below meth cd A ls hx hb hr hml hown hts hlocks hin hA hK hP hD hT hnx hl
  have hl : lv_has ls 2 [(0, .ref (ad 0)), (1, .int (nI j))] := hl
  have hS : va_S A s.heap s.heap [] := va_S.rf
  refine lv_aload_n hx hb dX1_madeUp_0 rfl (lv_at hl 0 rfl) ?_
  refine lv_iload_n hx hb dX1_madeUp_1 rfl (lv_at hl 1 rfl) ?_
  refine gxV_v (wc := (wG ad cI cL qy lp sp pr ex (nI c) dy tk mk (nI mK) mS su (nI uK) uS sh mu co sr du bi bb)) (wr := []) (w1 := (wG ad cI cL qy lp sp pr ex (nI c) dy tk mk (nI mK) mS su (nI uK) uS sh mu co sr du bi bb)) (W' := (wG ad cI cL qy lp sp pr ex (nI c) dy tk mk (nI mK) mS su (nI uK) uS sh mu co sr du bi bb)) (As := [.int (nI j)]) (rest := []) ⟨hx, hb, hml, hown, hts⟩ (c_X1_requireClosedYear l hst D s.heap.size ad cI cL qy lp sp pr ex c dy tk mk mK mS su uK uS sh mu co sr du bi bb (nI j)) (cwV 1 hts gX1_madeUp_X1_requireClosedYear rfl rfl rfl (by decide +kernel) ⟨(Nat.le_of_ble_eq_true rfl), (Nat.le_of_ble_eq_true rfl)⟩) hT hS hA hK hP hD [0, 1] rfl [0, 1, 2, 3, 4, 5, 6, 7, 8, 9, 10, 11, 12, 13, 14] [] [0, 1, 2, 3, 4, 5, 6, 7, 8, 9, 10, 11, 12, 13, 14] rfl (by decide) rfl (by decide) (by decide) rfl (by decide) 0 1 rfl rfl rfl rfl hl.1 rfl (Nat.le_of_ble_eq_true rfl) dX1_madeUp_2 ⟨(Nat.le_of_ble_eq_true rfl), (Nat.le_of_ble_eq_true rfl)⟩ hnx hlocks (fun _ h => h.elim (fun h => h.2 (inR_nI (n := 19) rfl (by omega) (by decide))) (fun h => h.2.2 (nI_lt hj (by omega)))) (Nat.le_of_ble_eq_true rfl) (Nat.le_of_ble_eq_true rfl) [0, 1, 2, 3, 4, 5, 6, 7, 8, 9, 10, 11, 12, 13, 14] rfl (by decide) (fun H locs hok0 hP hD hS => ?_)
  refine lv_aload_n hx hb dX1_madeUp_5 rfl (lv_at hl 0 rfl) ?_
  refine va_get (D := D) (ci := 1) (C := RX1) (T := TX1) (N := 17) hx hb hts inX1_madeUp_X1 hown hK hP 0 rfl rfl 11 (by decide) (hts _ hX1_madeUp__fieldLink_RX1_54_MakeupGas_madeUpPerYear_I_) (fun _ h9 => h9) rfl dX1_madeUp_6 ?_
  refine lv_iload_n hx hb dX1_madeUp_9 rfl (lv_at hl 1 rfl) ?_
  refine ga_iald (j := j) hx hb hK hP 8 0 rfl rfl (show j < 20 by omega) (by decide) dX1_madeUp_10 ?_
  exact gex_i hx hb hr hlocks rfl hK hP hD hS trivial (Nat.le_of_ble_eq_true rfl) (Nat.le_of_ble_eq_true rfl) dX1_madeUp_11
theorem inX1_covered_X1 : ∀ q ∈ wsX10, q ∈ wsX1_covered := by decide +kernel
theorem hX1_covered__fieldLink_RX1_57_MakeupGas_coveredPerYear_I_ : Cond.fieldLink RX1 57 "MakeupGas" "coveredPerYear" "[I" ∈ wsX1_covered := by decide +kernel
set_option maxHeartbeats 4000000 in
set_option maxRecDepth 100000 in
theorem c_X1_covered (l : Launch) (hst : l.stackTraces = false) (D : va_G) (sz : Nat) (ad : Nat → Nat) (cI cL : ClassId) (qy lp sp : Int32) (pr ex : Nat → Int32) (c : Nat) (dy tk mk : Nat → Int32) (mK : Nat) (mS : Int32) (su : Nat → Int32) (uK : Nat) (uS : Int32) (sh mu co sr : Nat → Int32) (du bi : Nat → Int64) (bb : Int64) (j : Nat) (hj : j < c) (hc : c ≤ 20) : gTi l yX1_covered wsX1_covered ({ frames := 9, cells := 2, slots := 12, locals := 153 } : Room) D [(cI, .int), (cL, .long)] [.ref (ad 0), .int (nI j)] (wG ad cI cL qy lp sp pr ex (nI c) dy tk mk (nI mK) mS su (nI uK) uS sh mu co sr du bi bb) (wG ad cI cL qy lp sp pr ex (nI c) dy tk mk (nI mK) mS su (nI uK) uS sh mu co sr du bi bb) (co j) True (fun _ => False) 2 12 sz := by
  refine gmx_i (cc := cX1_covered) (maxL := 2) (by decide) rfl (Nat.le_of_ble_eq_true rfl) ?_
  intro pg en s m args below meth cd A ls hx hb hr hml hown hts hlocks hin hA hK hP hD hT hnx hl
  have hl : lv_has ls 2 [(0, .ref (ad 0)), (1, .int (nI j))] := hl
  have hS : va_S A s.heap s.heap [] := va_S.rf
  refine lv_aload_n hx hb dX1_covered_0 rfl (lv_at hl 0 rfl) ?_
  refine lv_iload_n hx hb dX1_covered_1 rfl (lv_at hl 1 rfl) ?_
  refine gxV_v (wc := (wG ad cI cL qy lp sp pr ex (nI c) dy tk mk (nI mK) mS su (nI uK) uS sh mu co sr du bi bb)) (wr := []) (w1 := (wG ad cI cL qy lp sp pr ex (nI c) dy tk mk (nI mK) mS su (nI uK) uS sh mu co sr du bi bb)) (W' := (wG ad cI cL qy lp sp pr ex (nI c) dy tk mk (nI mK) mS su (nI uK) uS sh mu co sr du bi bb)) (As := [.int (nI j)]) (rest := []) ⟨hx, hb, hml, hown, hts⟩ (c_X1_requireClosedYear l hst D s.heap.size ad cI cL qy lp sp pr ex c dy tk mk mK mS su uK uS sh mu co sr du bi bb (nI j)) (cwV 1 hts gX1_covered_X1_requireClosedYear rfl rfl rfl (by decide +kernel) ⟨(Nat.le_of_ble_eq_true rfl), (Nat.le_of_ble_eq_true rfl)⟩) hT hS hA hK hP hD [0, 1] rfl [0, 1, 2, 3, 4, 5, 6, 7, 8, 9, 10, 11, 12, 13, 14] [] [0, 1, 2, 3, 4, 5, 6, 7, 8, 9, 10, 11, 12, 13, 14] rfl (by decide) rfl (by decide) (by decide) rfl (by decide) 0 1 rfl rfl rfl rfl hl.1 rfl (Nat.le_of_ble_eq_true rfl) dX1_covered_2 ⟨(Nat.le_of_ble_eq_true rfl), (Nat.le_of_ble_eq_true rfl)⟩ hnx hlocks (fun _ h => h.elim (fun h => h.2 (inR_nI (n := 19) rfl (by omega) (by decide))) (fun h => h.2.2 (nI_lt hj (by omega)))) (Nat.le_of_ble_eq_true rfl) (Nat.le_of_ble_eq_true rfl) [0, 1, 2, 3, 4, 5, 6, 7, 8, 9, 10, 11, 12, 13, 14] rfl (by decide) (fun H locs hok0 hP hD hS => ?_)
  refine lv_aload_n hx hb dX1_covered_5 rfl (lv_at hl 0 rfl) ?_
  refine va_get (D := D) (ci := 1) (C := RX1) (T := TX1) (N := 17) hx hb hts inX1_covered_X1 hown hK hP 0 rfl rfl 12 (by decide) (hts _ hX1_covered__fieldLink_RX1_57_MakeupGas_coveredPerYear_I_) (fun _ h9 => h9) rfl dX1_covered_6 ?_
  refine lv_iload_n hx hb dX1_covered_9 rfl (lv_at hl 1 rfl) ?_
  refine ga_iald (j := j) hx hb hK hP 9 0 rfl rfl (show j < 20 by omega) (by decide) dX1_covered_10 ?_
  exact gex_i hx hb hr hlocks rfl hK hP hD hS trivial (Nat.le_of_ble_eq_true rfl) (Nat.le_of_ble_eq_true rfl) dX1_covered_11
theorem inX1_surplus_X1 : ∀ q ∈ wsX10, q ∈ wsX1_surplus := by decide +kernel
theorem hX1_surplus__fieldLink_RX1_60_MakeupGas_surplusPerYear_I_ : Cond.fieldLink RX1 60 "MakeupGas" "surplusPerYear" "[I" ∈ wsX1_surplus := by decide +kernel
set_option maxHeartbeats 4000000 in
set_option maxRecDepth 100000 in
theorem c_X1_surplus (l : Launch) (hst : l.stackTraces = false) (D : va_G) (sz : Nat) (ad : Nat → Nat) (cI cL : ClassId) (qy lp sp : Int32) (pr ex : Nat → Int32) (c : Nat) (dy tk mk : Nat → Int32) (mK : Nat) (mS : Int32) (su : Nat → Int32) (uK : Nat) (uS : Int32) (sh mu co sr : Nat → Int32) (du bi : Nat → Int64) (bb : Int64) (j : Nat) (hj : j < c) (hc : c ≤ 20) : gTi l yX1_surplus wsX1_surplus ({ frames := 9, cells := 2, slots := 12, locals := 153 } : Room) D [(cI, .int), (cL, .long)] [.ref (ad 0), .int (nI j)] (wG ad cI cL qy lp sp pr ex (nI c) dy tk mk (nI mK) mS su (nI uK) uS sh mu co sr du bi bb) (wG ad cI cL qy lp sp pr ex (nI c) dy tk mk (nI mK) mS su (nI uK) uS sh mu co sr du bi bb) (sr j) True (fun _ => False) 2 12 sz := by
  refine gmx_i (cc := cX1_surplus) (maxL := 2) (by decide) rfl (Nat.le_of_ble_eq_true rfl) ?_
  intro pg en s m args below meth cd A ls hx hb hr hml hown hts hlocks hin hA hK hP hD hT hnx hl
  have hl : lv_has ls 2 [(0, .ref (ad 0)), (1, .int (nI j))] := hl
  have hS : va_S A s.heap s.heap [] := va_S.rf
  refine lv_aload_n hx hb dX1_surplus_0 rfl (lv_at hl 0 rfl) ?_
  refine lv_iload_n hx hb dX1_surplus_1 rfl (lv_at hl 1 rfl) ?_
  refine gxV_v (wc := (wG ad cI cL qy lp sp pr ex (nI c) dy tk mk (nI mK) mS su (nI uK) uS sh mu co sr du bi bb)) (wr := []) (w1 := (wG ad cI cL qy lp sp pr ex (nI c) dy tk mk (nI mK) mS su (nI uK) uS sh mu co sr du bi bb)) (W' := (wG ad cI cL qy lp sp pr ex (nI c) dy tk mk (nI mK) mS su (nI uK) uS sh mu co sr du bi bb)) (As := [.int (nI j)]) (rest := []) ⟨hx, hb, hml, hown, hts⟩ (c_X1_requireClosedYear l hst D s.heap.size ad cI cL qy lp sp pr ex c dy tk mk mK mS su uK uS sh mu co sr du bi bb (nI j)) (cwV 1 hts gX1_surplus_X1_requireClosedYear rfl rfl rfl (by decide +kernel) ⟨(Nat.le_of_ble_eq_true rfl), (Nat.le_of_ble_eq_true rfl)⟩) hT hS hA hK hP hD [0, 1] rfl [0, 1, 2, 3, 4, 5, 6, 7, 8, 9, 10, 11, 12, 13, 14] [] [0, 1, 2, 3, 4, 5, 6, 7, 8, 9, 10, 11, 12, 13, 14] rfl (by decide) rfl (by decide) (by decide) rfl (by decide) 0 1 rfl rfl rfl rfl hl.1 rfl (Nat.le_of_ble_eq_true rfl) dX1_surplus_2 ⟨(Nat.le_of_ble_eq_true rfl), (Nat.le_of_ble_eq_true rfl)⟩ hnx hlocks (fun _ h => h.elim (fun h => h.2 (inR_nI (n := 19) rfl (by omega) (by decide))) (fun h => h.2.2 (nI_lt hj (by omega)))) (Nat.le_of_ble_eq_true rfl) (Nat.le_of_ble_eq_true rfl) [0, 1, 2, 3, 4, 5, 6, 7, 8, 9, 10, 11, 12, 13, 14] rfl (by decide) (fun H locs hok0 hP hD hS => ?_)
  refine lv_aload_n hx hb dX1_surplus_5 rfl (lv_at hl 0 rfl) ?_
  refine va_get (D := D) (ci := 1) (C := RX1) (T := TX1) (N := 17) hx hb hts inX1_surplus_X1 hown hK hP 0 rfl rfl 13 (by decide) (hts _ hX1_surplus__fieldLink_RX1_60_MakeupGas_surplusPerYear_I_) (fun _ h9 => h9) rfl dX1_surplus_6 ?_
  refine lv_iload_n hx hb dX1_surplus_9 rfl (lv_at hl 1 rfl) ?_
  refine ga_iald (j := j) hx hb hK hP 10 0 rfl rfl (show j < 20 by omega) (by decide) dX1_surplus_10 ?_
  exact gex_i hx hb hr hlocks rfl hK hP hD hS trivial (Nat.le_of_ble_eq_true rfl) (Nat.le_of_ble_eq_true rfl) dX1_surplus_11
theorem inX1_due_X1 : ∀ q ∈ wsX10, q ∈ wsX1_due := by decide +kernel
theorem hX1_due__fieldLink_RX1_63_MakeupGas_duePerYear_J_ : Cond.fieldLink RX1 63 "MakeupGas" "duePerYear" "[J" ∈ wsX1_due := by decide +kernel
set_option maxHeartbeats 4000000 in
set_option maxRecDepth 100000 in
theorem c_X1_due (l : Launch) (hst : l.stackTraces = false) (D : va_G) (sz : Nat) (ad : Nat → Nat) (cI cL : ClassId) (qy lp sp : Int32) (pr ex : Nat → Int32) (c : Nat) (dy tk mk : Nat → Int32) (mK : Nat) (mS : Int32) (su : Nat → Int32) (uK : Nat) (uS : Int32) (sh mu co sr : Nat → Int32) (du bi : Nat → Int64) (bb : Int64) (j : Nat) (hj : j < c) (hc : c ≤ 20) : gTl l yX1_due wsX1_due ({ frames := 9, cells := 2, slots := 12, locals := 153 } : Room) D [(cI, .int), (cL, .long)] [.ref (ad 0), .int (nI j)] (wG ad cI cL qy lp sp pr ex (nI c) dy tk mk (nI mK) mS su (nI uK) uS sh mu co sr du bi bb) (wG ad cI cL qy lp sp pr ex (nI c) dy tk mk (nI mK) mS su (nI uK) uS sh mu co sr du bi bb) (du j) True (fun _ => False) 2 12 sz := by
  refine gmx_l (cc := cX1_due) (maxL := 2) (by decide) rfl (Nat.le_of_ble_eq_true rfl) ?_
  intro pg en s m args below meth cd A ls hx hb hr hml hown hts hlocks hin hA hK hP hD hT hnx hl
  have hl : lv_has ls 2 [(0, .ref (ad 0)), (1, .int (nI j))] := hl
  have hS : va_S A s.heap s.heap [] := va_S.rf
  refine lv_aload_n hx hb dX1_due_0 rfl (lv_at hl 0 rfl) ?_
  refine lv_iload_n hx hb dX1_due_1 rfl (lv_at hl 1 rfl) ?_
  refine gxV_v (wc := (wG ad cI cL qy lp sp pr ex (nI c) dy tk mk (nI mK) mS su (nI uK) uS sh mu co sr du bi bb)) (wr := []) (w1 := (wG ad cI cL qy lp sp pr ex (nI c) dy tk mk (nI mK) mS su (nI uK) uS sh mu co sr du bi bb)) (W' := (wG ad cI cL qy lp sp pr ex (nI c) dy tk mk (nI mK) mS su (nI uK) uS sh mu co sr du bi bb)) (As := [.int (nI j)]) (rest := []) ⟨hx, hb, hml, hown, hts⟩ (c_X1_requireClosedYear l hst D s.heap.size ad cI cL qy lp sp pr ex c dy tk mk mK mS su uK uS sh mu co sr du bi bb (nI j)) (cwV 1 hts gX1_due_X1_requireClosedYear rfl rfl rfl (by decide +kernel) ⟨(Nat.le_of_ble_eq_true rfl), (Nat.le_of_ble_eq_true rfl)⟩) hT hS hA hK hP hD [0, 1] rfl [0, 1, 2, 3, 4, 5, 6, 7, 8, 9, 10, 11, 12, 13, 14] [] [0, 1, 2, 3, 4, 5, 6, 7, 8, 9, 10, 11, 12, 13, 14] rfl (by decide) rfl (by decide) (by decide) rfl (by decide) 0 1 rfl rfl rfl rfl hl.1 rfl (Nat.le_of_ble_eq_true rfl) dX1_due_2 ⟨(Nat.le_of_ble_eq_true rfl), (Nat.le_of_ble_eq_true rfl)⟩ hnx hlocks (fun _ h => h.elim (fun h => h.2 (inR_nI (n := 19) rfl (by omega) (by decide))) (fun h => h.2.2 (nI_lt hj (by omega)))) (Nat.le_of_ble_eq_true rfl) (Nat.le_of_ble_eq_true rfl) [0, 1, 2, 3, 4, 5, 6, 7, 8, 9, 10, 11, 12, 13, 14] rfl (by decide) (fun H locs hok0 hP hD hS => ?_)
  refine lv_aload_n hx hb dX1_due_5 rfl (lv_at hl 0 rfl) ?_
  refine va_get (D := D) (ci := 1) (C := RX1) (T := TX1) (N := 17) hx hb hts inX1_due_X1 hown hK hP 0 rfl rfl 14 (by decide) (hts _ hX1_due__fieldLink_RX1_63_MakeupGas_duePerYear_J_) (fun _ h9 => h9) rfl dX1_due_6 ?_
  refine lv_iload_n hx hb dX1_due_9 rfl (lv_at hl 1 rfl) ?_
  refine ga_lald (j := j) hx hb hK hP 11 1 rfl rfl (show j < 20 by omega) (by decide) dX1_due_10 ?_
  exact gex_l hx hb hr hlocks hK hP hD hS trivial (Nat.le_of_ble_eq_true rfl) (Nat.le_of_ble_eq_true rfl) dX1_due_11
theorem inX1_bill_X1 : ∀ q ∈ wsX10, q ∈ wsX1_bill := by decide +kernel
theorem hX1_bill__fieldLink_RX1_67_MakeupGas_billPerYear_J_ : Cond.fieldLink RX1 67 "MakeupGas" "billPerYear" "[J" ∈ wsX1_bill := by decide +kernel
set_option maxHeartbeats 4000000 in
set_option maxRecDepth 100000 in
theorem c_X1_bill (l : Launch) (hst : l.stackTraces = false) (D : va_G) (sz : Nat) (ad : Nat → Nat) (cI cL : ClassId) (qy lp sp : Int32) (pr ex : Nat → Int32) (c : Nat) (dy tk mk : Nat → Int32) (mK : Nat) (mS : Int32) (su : Nat → Int32) (uK : Nat) (uS : Int32) (sh mu co sr : Nat → Int32) (du bi : Nat → Int64) (bb : Int64) (j : Nat) (hj : j < c) (hc : c ≤ 20) : gTl l yX1_bill wsX1_bill ({ frames := 9, cells := 2, slots := 12, locals := 153 } : Room) D [(cI, .int), (cL, .long)] [.ref (ad 0), .int (nI j)] (wG ad cI cL qy lp sp pr ex (nI c) dy tk mk (nI mK) mS su (nI uK) uS sh mu co sr du bi bb) (wG ad cI cL qy lp sp pr ex (nI c) dy tk mk (nI mK) mS su (nI uK) uS sh mu co sr du bi bb) (bi j) True (fun _ => False) 2 12 sz := by
  refine gmx_l (cc := cX1_bill) (maxL := 2) (by decide) rfl (Nat.le_of_ble_eq_true rfl) ?_
  intro pg en s m args below meth cd A ls hx hb hr hml hown hts hlocks hin hA hK hP hD hT hnx hl
  have hl : lv_has ls 2 [(0, .ref (ad 0)), (1, .int (nI j))] := hl
  have hS : va_S A s.heap s.heap [] := va_S.rf
  refine lv_aload_n hx hb dX1_bill_0 rfl (lv_at hl 0 rfl) ?_
  refine lv_iload_n hx hb dX1_bill_1 rfl (lv_at hl 1 rfl) ?_
  refine gxV_v (wc := (wG ad cI cL qy lp sp pr ex (nI c) dy tk mk (nI mK) mS su (nI uK) uS sh mu co sr du bi bb)) (wr := []) (w1 := (wG ad cI cL qy lp sp pr ex (nI c) dy tk mk (nI mK) mS su (nI uK) uS sh mu co sr du bi bb)) (W' := (wG ad cI cL qy lp sp pr ex (nI c) dy tk mk (nI mK) mS su (nI uK) uS sh mu co sr du bi bb)) (As := [.int (nI j)]) (rest := []) ⟨hx, hb, hml, hown, hts⟩ (c_X1_requireClosedYear l hst D s.heap.size ad cI cL qy lp sp pr ex c dy tk mk mK mS su uK uS sh mu co sr du bi bb (nI j)) (cwV 1 hts gX1_bill_X1_requireClosedYear rfl rfl rfl (by decide +kernel) ⟨(Nat.le_of_ble_eq_true rfl), (Nat.le_of_ble_eq_true rfl)⟩) hT hS hA hK hP hD [0, 1] rfl [0, 1, 2, 3, 4, 5, 6, 7, 8, 9, 10, 11, 12, 13, 14] [] [0, 1, 2, 3, 4, 5, 6, 7, 8, 9, 10, 11, 12, 13, 14] rfl (by decide) rfl (by decide) (by decide) rfl (by decide) 0 1 rfl rfl rfl rfl hl.1 rfl (Nat.le_of_ble_eq_true rfl) dX1_bill_2 ⟨(Nat.le_of_ble_eq_true rfl), (Nat.le_of_ble_eq_true rfl)⟩ hnx hlocks (fun _ h => h.elim (fun h => h.2 (inR_nI (n := 19) rfl (by omega) (by decide))) (fun h => h.2.2 (nI_lt hj (by omega)))) (Nat.le_of_ble_eq_true rfl) (Nat.le_of_ble_eq_true rfl) [0, 1, 2, 3, 4, 5, 6, 7, 8, 9, 10, 11, 12, 13, 14] rfl (by decide) (fun H locs hok0 hP hD hS => ?_)
  refine lv_aload_n hx hb dX1_bill_5 rfl (lv_at hl 0 rfl) ?_
  refine va_get (D := D) (ci := 1) (C := RX1) (T := TX1) (N := 17) hx hb hts inX1_bill_X1 hown hK hP 0 rfl rfl 15 (by decide) (hts _ hX1_bill__fieldLink_RX1_67_MakeupGas_billPerYear_J_) (fun _ h9 => h9) rfl dX1_bill_6 ?_
  refine lv_iload_n hx hb dX1_bill_9 rfl (lv_at hl 1 rfl) ?_
  refine ga_lald (j := j) hx hb hK hP 12 1 rfl rfl (show j < 20 by omega) (by decide) dX1_bill_10 ?_
  exact gex_l hx hb hr hlocks hK hP hD hS trivial (Nat.le_of_ble_eq_true rfl) (Nat.le_of_ble_eq_true rfl) dX1_bill_11
theorem inX1_makeUpLeft_X1 : ∀ q ∈ wsX10, q ∈ wsX1_makeUpLeft := by decide +kernel
theorem hX1_makeUpLeft__fieldLink_RX1_44_MakeupGas_makeUpStock_LMakeupGas_Stock_ : Cond.fieldLink RX1 44 "MakeupGas" "makeUpStock" "LMakeupGas$Stock;" ∈ wsX1_makeUpLeft := by decide +kernel
set_option maxHeartbeats 4000000 in
set_option maxRecDepth 100000 in
theorem c_X1_makeUpLeft (l : Launch) (hst : l.stackTraces = false) (D : va_G) (sz : Nat) (ad : Nat → Nat) (cI cL : ClassId) (qy lp sp : Int32) (pr ex : Nat → Int32) (c : Nat) (dy tk mk : Nat → Int32) (mK : Nat) (mS : Int32) (su : Nat → Int32) (uK : Nat) (uS : Int32) (sh mu co sr : Nat → Int32) (du bi : Nat → Int64) (bb : Int64) (j : Nat) (hj : j < c) (hc : c ≤ 20) : gTi l yX1_makeUpLeft wsX1_makeUpLeft ({ frames := 9, cells := 2, slots := 12, locals := 153 } : Room) D [(cI, .int), (cL, .long)] [.ref (ad 0), .int (nI j)] (wG ad cI cL qy lp sp pr ex (nI c) dy tk mk (nI mK) mS su (nI uK) uS sh mu co sr du bi bb) (wG ad cI cL qy lp sp pr ex (nI c) dy tk mk (nI mK) mS su (nI uK) uS sh mu co sr du bi bb) (mk j) True (fun _ => False) 2 12 sz := by
  refine gmx_i (cc := cX1_makeUpLeft) (maxL := 2) (by decide) rfl (Nat.le_of_ble_eq_true rfl) ?_
  intro pg en s m args below meth cd A ls hx hb hr hml hown hts hlocks hin hA hK hP hD hT hnx hl
  have hl : lv_has ls 2 [(0, .ref (ad 0)), (1, .int (nI j))] := hl
  have hS : va_S A s.heap s.heap [] := va_S.rf
  refine lv_aload_n hx hb dX1_makeUpLeft_0 rfl (lv_at hl 0 rfl) ?_
  refine lv_iload_n hx hb dX1_makeUpLeft_1 rfl (lv_at hl 1 rfl) ?_
  refine gxV_v (wc := (wG ad cI cL qy lp sp pr ex (nI c) dy tk mk (nI mK) mS su (nI uK) uS sh mu co sr du bi bb)) (wr := []) (w1 := (wG ad cI cL qy lp sp pr ex (nI c) dy tk mk (nI mK) mS su (nI uK) uS sh mu co sr du bi bb)) (W' := (wG ad cI cL qy lp sp pr ex (nI c) dy tk mk (nI mK) mS su (nI uK) uS sh mu co sr du bi bb)) (As := [.int (nI j)]) (rest := []) ⟨hx, hb, hml, hown, hts⟩ (c_X1_requireClosedYear l hst D s.heap.size ad cI cL qy lp sp pr ex c dy tk mk mK mS su uK uS sh mu co sr du bi bb (nI j)) (cwV 1 hts gX1_makeUpLeft_X1_requireClosedYear rfl rfl rfl (by decide +kernel) ⟨(Nat.le_of_ble_eq_true rfl), (Nat.le_of_ble_eq_true rfl)⟩) hT hS hA hK hP hD [0, 1] rfl [0, 1, 2, 3, 4, 5, 6, 7, 8, 9, 10, 11, 12, 13, 14] [] [0, 1, 2, 3, 4, 5, 6, 7, 8, 9, 10, 11, 12, 13, 14] rfl (by decide) rfl (by decide) (by decide) rfl (by decide) 0 1 rfl rfl rfl rfl hl.1 rfl (Nat.le_of_ble_eq_true rfl) dX1_makeUpLeft_2 ⟨(Nat.le_of_ble_eq_true rfl), (Nat.le_of_ble_eq_true rfl)⟩ hnx hlocks (fun _ h => h.elim (fun h => h.2 (inR_nI (n := 19) rfl (by omega) (by decide))) (fun h => h.2.2 (nI_lt hj (by omega)))) (Nat.le_of_ble_eq_true rfl) (Nat.le_of_ble_eq_true rfl) [0, 1, 2, 3, 4, 5, 6, 7, 8, 9, 10, 11, 12, 13, 14] rfl (by decide) (fun H locs hok0 hP hD hS => ?_)
  refine lv_aload_n hx hb dX1_makeUpLeft_5 rfl (lv_at hl 0 rfl) ?_
  refine va_get (D := D) (ci := 1) (C := RX1) (T := TX1) (N := 17) hx hb hts inX1_makeUpLeft_X1 hown hK hP 0 rfl rfl 8 (by decide) (hts _ hX1_makeUpLeft__fieldLink_RX1_44_MakeupGas_makeUpStock_LMakeupGas_Stock_) (fun _ h9 => h9) rfl dX1_makeUpLeft_6 ?_
  refine lv_iload_n hx hb dX1_makeUpLeft_9 rfl (lv_at hl 1 rfl) ?_
  refine gV_i (wc := (wK (ad 5) (ad 13) cI mk (nI mK) mS)) (wr := [(ad 0, .inr (1, [.int qy, .int lp, .int sp, .ref (ad 1), .ref (ad 2), .int (nI c), .ref (ad 3), .ref (ad 4), .ref (ad 5), .ref (ad 6), .ref (ad 7), .ref (ad 8), .ref (ad 9), .ref (ad 10), .ref (ad 11), .ref (ad 12), .long bb])), (ad 1, .inl (cI, 20, .inl pr)), (ad 2, .inl (cI, 20, .inl ex)), (ad 3, .inl (cI, 360, .inl dy)), (ad 4, .inl (cI, 20, .inl tk)), (ad 6, .inr (0, [.ref (ad 14), .int (nI uK), .int uS])), (ad 7, .inl (cI, 20, .inl sh)), (ad 8, .inl (cI, 20, .inl mu)), (ad 9, .inl (cI, 20, .inl co)), (ad 10, .inl (cI, 20, .inl sr)), (ad 11, .inl (cL, 20, .inr (.inl du))), (ad 12, .inl (cL, 20, .inr (.inl bi))), (ad 14, .inl (cI, 20, .inl su))]) (w1 := (wK (ad 5) (ad 13) cI mk (nI mK) mS)) (W' := (wG ad cI cL qy lp sp pr ex (nI c) dy tk mk (nI mK) mS su (nI uK) uS sh mu co sr du bi bb)) (As := [.int (nI j)]) (rest := []) ⟨hx, hb, hml, hown, hts⟩ (c_X0_leftFrom l D H.size (ad 5) (ad 13) cI cL mk (nI mK) mS j (show j < 20 by omega)) (cwV 1 hts gX1_makeUpLeft_X0_leftFrom rfl rfl rfl (by decide +kernel) ⟨(Nat.le_of_ble_eq_true rfl), (Nat.le_of_ble_eq_true rfl)⟩) hS hA hK hP hD [0, 1] rfl [5, 13] [0, 1, 2, 3, 4, 6, 7, 8, 9, 10, 11, 12, 14] [0, 1, 2, 3, 4, 13, 5, 6, 7, 8, 9, 10, 11, 14, 12] rfl (by decide) rfl (by decide) (by decide) rfl (by decide) 0 0 rfl rfl rfl rfl hl.1 rfl (Nat.le_of_ble_eq_true rfl) dX1_makeUpLeft_10 ⟨(Nat.le_of_ble_eq_true rfl), (Nat.le_of_ble_eq_true rfl)⟩ (fun H locs _ hP hD hS => ?_)
  exact gex_i hx hb hr hlocks rfl hK hP hD hS trivial (Nat.le_of_ble_eq_true rfl) (Nat.le_of_ble_eq_true rfl) dX1_makeUpLeft_13
theorem inX1_surplusLeft_X1 : ∀ q ∈ wsX10, q ∈ wsX1_surplusLeft := by decide +kernel
theorem hX1_surplusLeft__fieldLink_RX1_48_MakeupGas_surplusStock_LMakeupGas_Stock_ : Cond.fieldLink RX1 48 "MakeupGas" "surplusStock" "LMakeupGas$Stock;" ∈ wsX1_surplusLeft := by decide +kernel
set_option maxHeartbeats 4000000 in
set_option maxRecDepth 100000 in
theorem c_X1_surplusLeft (l : Launch) (hst : l.stackTraces = false) (D : va_G) (sz : Nat) (ad : Nat → Nat) (cI cL : ClassId) (qy lp sp : Int32) (pr ex : Nat → Int32) (c : Nat) (dy tk mk : Nat → Int32) (mK : Nat) (mS : Int32) (su : Nat → Int32) (uK : Nat) (uS : Int32) (sh mu co sr : Nat → Int32) (du bi : Nat → Int64) (bb : Int64) (j : Nat) (hj : j < c) (hc : c ≤ 20) : gTi l yX1_surplusLeft wsX1_surplusLeft ({ frames := 9, cells := 2, slots := 12, locals := 153 } : Room) D [(cI, .int), (cL, .long)] [.ref (ad 0), .int (nI j)] (wG ad cI cL qy lp sp pr ex (nI c) dy tk mk (nI mK) mS su (nI uK) uS sh mu co sr du bi bb) (wG ad cI cL qy lp sp pr ex (nI c) dy tk mk (nI mK) mS su (nI uK) uS sh mu co sr du bi bb) (su j) True (fun _ => False) 2 12 sz := by
  refine gmx_i (cc := cX1_surplusLeft) (maxL := 2) (by decide) rfl (Nat.le_of_ble_eq_true rfl) ?_
  intro pg en s m args below meth cd A ls hx hb hr hml hown hts hlocks hin hA hK hP hD hT hnx hl
  have hl : lv_has ls 2 [(0, .ref (ad 0)), (1, .int (nI j))] := hl
  have hS : va_S A s.heap s.heap [] := va_S.rf
  refine lv_aload_n hx hb dX1_surplusLeft_0 rfl (lv_at hl 0 rfl) ?_
  refine lv_iload_n hx hb dX1_surplusLeft_1 rfl (lv_at hl 1 rfl) ?_
  refine gxV_v (wc := (wG ad cI cL qy lp sp pr ex (nI c) dy tk mk (nI mK) mS su (nI uK) uS sh mu co sr du bi bb)) (wr := []) (w1 := (wG ad cI cL qy lp sp pr ex (nI c) dy tk mk (nI mK) mS su (nI uK) uS sh mu co sr du bi bb)) (W' := (wG ad cI cL qy lp sp pr ex (nI c) dy tk mk (nI mK) mS su (nI uK) uS sh mu co sr du bi bb)) (As := [.int (nI j)]) (rest := []) ⟨hx, hb, hml, hown, hts⟩ (c_X1_requireClosedYear l hst D s.heap.size ad cI cL qy lp sp pr ex c dy tk mk mK mS su uK uS sh mu co sr du bi bb (nI j)) (cwV 1 hts gX1_surplusLeft_X1_requireClosedYear rfl rfl rfl (by decide +kernel) ⟨(Nat.le_of_ble_eq_true rfl), (Nat.le_of_ble_eq_true rfl)⟩) hT hS hA hK hP hD [0, 1] rfl [0, 1, 2, 3, 4, 5, 6, 7, 8, 9, 10, 11, 12, 13, 14] [] [0, 1, 2, 3, 4, 5, 6, 7, 8, 9, 10, 11, 12, 13, 14] rfl (by decide) rfl (by decide) (by decide) rfl (by decide) 0 1 rfl rfl rfl rfl hl.1 rfl (Nat.le_of_ble_eq_true rfl) dX1_surplusLeft_2 ⟨(Nat.le_of_ble_eq_true rfl), (Nat.le_of_ble_eq_true rfl)⟩ hnx hlocks (fun _ h => h.elim (fun h => h.2 (inR_nI (n := 19) rfl (by omega) (by decide))) (fun h => h.2.2 (nI_lt hj (by omega)))) (Nat.le_of_ble_eq_true rfl) (Nat.le_of_ble_eq_true rfl) [0, 1, 2, 3, 4, 5, 6, 7, 8, 9, 10, 11, 12, 13, 14] rfl (by decide) (fun H locs hok0 hP hD hS => ?_)
  refine lv_aload_n hx hb dX1_surplusLeft_5 rfl (lv_at hl 0 rfl) ?_
  refine va_get (D := D) (ci := 1) (C := RX1) (T := TX1) (N := 17) hx hb hts inX1_surplusLeft_X1 hown hK hP 0 rfl rfl 9 (by decide) (hts _ hX1_surplusLeft__fieldLink_RX1_48_MakeupGas_surplusStock_LMakeupGas_Stock_) (fun _ h9 => h9) rfl dX1_surplusLeft_6 ?_
  refine lv_iload_n hx hb dX1_surplusLeft_9 rfl (lv_at hl 1 rfl) ?_
  refine gV_i (wc := (wK (ad 6) (ad 14) cI su (nI uK) uS)) (wr := [(ad 0, .inr (1, [.int qy, .int lp, .int sp, .ref (ad 1), .ref (ad 2), .int (nI c), .ref (ad 3), .ref (ad 4), .ref (ad 5), .ref (ad 6), .ref (ad 7), .ref (ad 8), .ref (ad 9), .ref (ad 10), .ref (ad 11), .ref (ad 12), .long bb])), (ad 1, .inl (cI, 20, .inl pr)), (ad 2, .inl (cI, 20, .inl ex)), (ad 3, .inl (cI, 360, .inl dy)), (ad 4, .inl (cI, 20, .inl tk)), (ad 5, .inr (0, [.ref (ad 13), .int (nI mK), .int mS])), (ad 7, .inl (cI, 20, .inl sh)), (ad 8, .inl (cI, 20, .inl mu)), (ad 9, .inl (cI, 20, .inl co)), (ad 10, .inl (cI, 20, .inl sr)), (ad 11, .inl (cL, 20, .inr (.inl du))), (ad 12, .inl (cL, 20, .inr (.inl bi))), (ad 13, .inl (cI, 20, .inl mk))]) (w1 := (wK (ad 6) (ad 14) cI su (nI uK) uS)) (W' := (wG ad cI cL qy lp sp pr ex (nI c) dy tk mk (nI mK) mS su (nI uK) uS sh mu co sr du bi bb)) (As := [.int (nI j)]) (rest := []) ⟨hx, hb, hml, hown, hts⟩ (c_X0_leftFrom l D H.size (ad 6) (ad 14) cI cL su (nI uK) uS j (show j < 20 by omega)) (cwV 1 hts gX1_surplusLeft_X0_leftFrom rfl rfl rfl (by decide +kernel) ⟨(Nat.le_of_ble_eq_true rfl), (Nat.le_of_ble_eq_true rfl)⟩) hS hA hK hP hD [0, 1] rfl [6, 14] [0, 1, 2, 3, 4, 5, 7, 8, 9, 10, 11, 12, 13] [0, 1, 2, 3, 4, 5, 13, 6, 7, 8, 9, 10, 11, 12, 14] rfl (by decide) rfl (by decide) (by decide) rfl (by decide) 0 0 rfl rfl rfl rfl hl.1 rfl (Nat.le_of_ble_eq_true rfl) dX1_surplusLeft_10 ⟨(Nat.le_of_ble_eq_true rfl), (Nat.le_of_ble_eq_true rfl)⟩ (fun H locs _ hP hD hS => ?_)
  exact gex_i hx hb hr hlocks rfl hK hP hD hS trivial (Nat.le_of_ble_eq_true rfl) (Nat.le_of_ble_eq_true rfl) dX1_surplusLeft_13
end
section
/-! numbers -/
theorem fb_rng (x : Int32) : -2147483648 ≤ x.toInt ∧ x.toInt < 2147483648 := by
  have h1 := Int32.le_toInt x
  have h2 := Int32.toInt_lt x
  omega
theorem fb_bmod {z : Int} (h1 : -2147483648 ≤ z) (h2 : z < 2147483648) : z.bmod (2 ^ 32) = z := by
  rw [Int.bmod_eq_of_le (by omega) (by omega)]
theorem fb_addI {x y : Int32} (h1 : -2147483648 ≤ x.toInt + y.toInt) (h2 : x.toInt + y.toInt < 2147483648) : (x + y).toInt = x.toInt + y.toInt := by
  rw [Int32.toInt_add, fb_bmod h1 h2]
theorem fb_subI {x y : Int32} (h1 : -2147483648 ≤ x.toInt - y.toInt) (h2 : x.toInt - y.toInt < 2147483648) : (x - y).toInt = x.toInt - y.toInt := by
  rw [Int32.toInt_sub, fb_bmod h1 h2]
theorem fb_rngL (x : Int64) : -9223372036854775808 ≤ x.toInt ∧ x.toInt < 9223372036854775808 := by
  have h1 := Int64.le_toInt x
  have h2 := Int64.toInt_lt x
  omega
theorem fb_bmodL {z : Int} (h1 : -9223372036854775808 ≤ z) (h2 : z < 9223372036854775808) : z.bmod (2 ^ 64) = z := by
  rw [Int.bmod_eq_of_le (by omega) (by omega)]
theorem fb_mulL {x y : Int64} (h1 : -9223372036854775808 ≤ x.toInt * y.toInt) (h2 : x.toInt * y.toInt < 9223372036854775808) : (x * y).toInt = x.toInt * y.toInt := by
  rw [Int64.toInt_mul, fb_bmodL h1 h2]
theorem ux_s {f : Nat → Int32} {k : Nat} {x : Int32} : upd f k x k = x := pk_us
theorem ux_n {f : Nat → Int32} {k j : Nat} {x : Int32} (h : j ≠ k) : upd f k x j = f j := pk_un h
theorem ul_s {f : Nat → Int64} {k : Nat} {x : Int64} : vp_updL f k x k = x := pk_uLs
theorem ul_n {f : Nat → Int64} {k j : Nat} {x : Int64} (h : j ≠ k) : vp_updL f k x j = f j := pk_uLn h
theorem i32_eq {a b : Int32} (h : a.toInt = b.toInt) : a = b := Int32.toInt_inj.1 h
theorem mn_int (x y : Int32) : (mnI x y).toInt = min x.toInt y.toInt := by
  unfold mnI
  by_cases h : y < x
  · rw [if_pos h]
    have := Int32.lt_iff_toInt_lt.mp h
    omega
  · rw [if_neg h]
    have := Int32.le_iff_toInt_le.mp (Int32.not_lt.mp h)
    omega
/-- what a year's least quantity is -/
theorem lqf_val {qy lp : Int32} {ex : Nat → Int32} {y : Nat} (h1 : 0 ≤ qy.toInt) (h2 : qy.toInt ≤ 100000) (h3 : 0 ≤ lp.toInt) (h4 : lp.toInt ≤ 100) (h5 : 0 ≤ (ex y).toInt) (h6 : (ex y).toInt ≤ 360) : (lqf qy lp ex y).toInt = qy.toInt * lp.toInt * (360 - (ex y).toInt) / 36000 ∧ 0 ≤ (lqf qy lp ex y).toInt ∧ (lqf qy lp ex y).toInt ≤ 100000 := by
  have e0 : (360 : Int32).toInt = 360 := by decide
  have a1 : (360 - ex y).toInt = 360 - (ex y).toInt := by rw [fb_subI (by omega) (by omega), e0]
  have b1 : 0 ≤ qy.toInt * lp.toInt := Int.mul_nonneg h1 h3
  have b2 : qy.toInt * lp.toInt ≤ 100000 * 100 := Int.mul_le_mul h2 h4 h3 (by decide)
  have a2 : (qy.toInt64 * lp.toInt64).toInt = qy.toInt * lp.toInt := by
    rw [fb_mulL] <;> rw [Int32.toInt_toInt64, Int32.toInt_toInt64] <;> omega
  generalize hP : qy.toInt * lp.toInt = P at *
  generalize hE : 360 - (ex y).toInt = E at *
  have b3 : 0 ≤ P * E := Int.mul_nonneg b1 (by omega)
  have b4 : P * E ≤ 100000 * 100 * 360 := Int.mul_le_mul b2 (by omega) (by omega) (by decide)
  have a3 : (qy.toInt64 * lp.toInt64 * (360 - ex y).toInt64).toInt = P * E := by
    rw [fb_mulL] <;> rw [Int32.toInt_toInt64, a1, a2] <;> omega
  have e1 : (36000 : Int64).toInt = 36000 := by decide
  have a4 : (lqf qy lp ex y).toInt = P * E / 36000 := by
    unfold lqf
    rw [Int64.toInt_toInt32, Int64.toInt_div, a3, e1, Int.tdiv_eq_ediv_of_nonneg b3]
    have c1 : 0 ≤ P * E / 36000 := Int.ediv_nonneg b3 (by decide)
    have c2 : P * E / 36000 ≤ 100000 := by omega
    rw [fb_bmodL (by omega) (by omega), fb_bmod (by omega) (by omega)]
  refine ⟨a4, ?_, ?_⟩ <;> rw [a4] <;> omega
/-- drawing: what is drawn, what is left -/
theorem dw_ok {f : Nat → Int32} {w : Int32} (hf : ∀ j, 0 ≤ (f j).toInt) (hw : 0 ≤ w.toInt) : ∀ n, 0 ≤ (dw f w n).2.toInt ∧ (dw f w n).2.toInt ≤ w.toInt ∧ (∀ j, 0 ≤ ((dw f w n).1 j).toInt ∧ ((dw f w n).1 j).toInt ≤ (f j).toInt) ∧ ∀ j, n ≤ j → (dw f w n).1 j = f j
  | 0 => ⟨by rw [dw_0]; show 0 ≤ (0 : Int32).toInt; decide, by rw [dw_0]; exact hw, fun j => ⟨hf j, Int.le_refl _⟩, fun j _ => rfl⟩
  | n + 1 => by
    obtain ⟨h1, h2, h3, h4⟩ := dw_ok hf hw n
    have hx := h3 n
    have hr := fb_rng w
    have hs : (w - (dw f w n).2).toInt = w.toInt - (dw f w n).2.toInt := fb_subI (by omega) (by omega)
    have hm := mn_int (w - (dw f w n).2) ((dw f w n).1 n)
    have hrx := fb_rng ((dw f w n).1 n)
    have ha : ((dw f w n).2 + mnI (w - (dw f w n).2) ((dw f w n).1 n)).toInt = (dw f w n).2.toInt + (mnI (w - (dw f w n).2) ((dw f w n).1 n)).toInt := fb_addI (by omega) (by omega)
    have hb : ((dw f w n).1 n - mnI (w - (dw f w n).2) ((dw f w n).1 n)).toInt = ((dw f w n).1 n).toInt - (mnI (w - (dw f w n).2) ((dw f w n).1 n)).toInt := fb_subI (by omega) (by omega)
    refine ⟨?_, ?_, fun j => ?_, fun j hj => ?_⟩
    · rw [dw_2, ha]; omega
    · rw [dw_2, ha]; omega
    · rw [dw_1]
      by_cases e : j = n
      · subst e; rw [ux_s, hb]; omega
      · rw [ux_n e]; exact h3 j
    · rw [dw_1, ux_n (by omega)]; exact h4 j (by omega)
theorem dw_hi (f : Nat → Int32) (w : Int32) : ∀ n {j : Nat}, n ≤ j → (dw f w n).1 j = f j
  | 0, _, _ => rfl
  | n + 1, j, h => by rw [dw_1, ux_n (by omega)]; exact dw_hi f w n (by omega)
/-- what lapses: one place, or all that are old enough -/
theorem lpF_z {f : Nat → Int32} {k y : Nat} (hz : ∀ j, j + k + 1 < y → f j = 0) : ∀ j, j + k < y → lpF f k y j = 0 := by
  intro j hj
  unfold lpF
  rw [if_pos (by omega)]
  by_cases e : j = y - k - 1
  · subst e; exact ux_s
  · rw [ux_n e]; exact hz j (by omega)
theorem lpF_o {f : Nat → Int32} {k y j : Nat} (h : ¬ j + k < y) : lpF f k y j = f j := by
  unfold lpF
  by_cases e : k + 1 ≤ y
  · rw [if_pos e, ux_n (by omega)]
  · rw [if_neg e]
theorem lpF_e (f : Nat → Int32) (k y j : Nat) : lpF f k y j = f j ∨ lpF f k y j = 0 := by
  unfold lpF
  by_cases e : k + 1 ≤ y
  · rw [if_pos e]
    by_cases q : j = y - k - 1
    · subst q; exact Or.inr ux_s
    · exact Or.inl (ux_n q)
  · rw [if_neg e]; exact Or.inl rfl
def sD (f : Nat → Int32) : Nat → Int
  | 0 => 0
  | n + 1 => sD f n + (f n).toInt
theorem sD_rng {f : Nat → Int32} (h : ∀ d, 0 ≤ (f d).toInt ∧ (f d).toInt ≤ 500) : ∀ n, 0 ≤ sD f n ∧ sD f n ≤ 500 * (n : Int)
  | 0 => ⟨Int.le_refl _, Int.le_refl _⟩
  | n + 1 => by
    have h1 := sD_rng h n
    have h2 := h n
    show 0 ≤ sD f n + (f n).toInt ∧ sD f n + (f n).toInt ≤ 500 * ((n + 1 : Nat) : Int)
    omega
theorem sD_cg {f g : Nat → Int32} : ∀ n, (∀ j, j < n → f j = g j) → sD f n = sD g n
  | 0, _ => rfl
  | n + 1, h => by rw [sD, sD, sD_cg n (fun j hj => h j (by omega)), h n (by omega)]
theorem sD_upd {f : Nat → Int32} {i : Nat} {x : Int32} : ∀ n, i < n → sD (upd f i x) n = sD f n + (x.toInt - (f i).toInt)
  | 0, h => absurd h (by omega)
  | n + 1, h => by
    rw [sD, sD]
    by_cases e : i = n
    · subst e
      rw [ux_s, sD_cg i (g := f) (fun j hj => ux_n (by omega))]; omega
    · rw [ux_n (fun z => e z.symm), sD_upd n (by omega)]; omega
theorem mx_int (x y : Int32) : (mxI x y).toInt = max x.toInt y.toInt := by
  unfold mxI
  by_cases h : x < y
  · rw [if_pos h]
    have := Int32.lt_iff_toInt_lt.mp h
    omega
  · rw [if_neg h]
    have := Int32.le_iff_toInt_le.mp (Int32.not_lt.mp h)
    omega
theorem fb_addL {x y : Int64} (h1 : -9223372036854775808 ≤ x.toInt + y.toInt) (h2 : x.toInt + y.toInt < 9223372036854775808) : (x + y).toInt = x.toInt + y.toInt := by
  rw [Int64.toInt_add, fb_bmodL h1 h2]
theorem fb_mulI {x y : Int32} (h1 : -2147483648 ≤ x.toInt * y.toInt) (h2 : x.toInt * y.toInt < 2147483648) : (x * y).toInt = x.toInt * y.toInt := by
  rw [Int32.toInt_mul, fb_bmod h1 h2]
/-- a product of two int amounts, as long -/
theorem fb_ml {x y : Int32} (h1 : -9223372036854775808 ≤ x.toInt * y.toInt) (h2 : x.toInt * y.toInt < 9223372036854775808) : (x.toInt64 * y.toInt64).toInt = x.toInt * y.toInt := by
  rw [fb_mulL] <;> rw [Int32.toInt_toInt64, Int32.toInt_toInt64] <;> assumption
theorem mul_rng {a b A B : Int} (h1 : 0 ≤ a) (h2 : a ≤ A) (h3 : 0 ≤ b) (h4 : b ≤ B) : 0 ≤ a * b ∧ a * b ≤ A * B := ⟨Int.mul_nonneg h1 h3, Int.mul_le_mul h2 h4 h3 (Int.le_trans h1 h2)⟩
/-- what a year's shortfall price is -/
theorem spf_val {pr : Nat → Int32} {sp : Int32} {y : Nat} (h1 : 1 ≤ (pr y).toInt) (h2 : (pr y).toInt ≤ 1000) (h3 : 0 ≤ sp.toInt) (h4 : sp.toInt ≤ 100) : 0 ≤ (spf pr sp y).toInt ∧ (spf pr sp y).toInt ≤ 1000 := by
  have e1 : (100 : Int32).toInt = 100 := by decide
  have b := mul_rng (a := (pr y).toInt) (b := sp.toInt) (A := 1000) (B := 100) (by omega) h2 h3 h4
  have a1 : (pr y * sp).toInt = (pr y).toInt * sp.toInt := fb_mulI (by omega) (by omega)
  generalize hP : (pr y).toInt * sp.toInt = P at *
  have a4 : (spf pr sp y).toInt = P / 100 := by
    unfold spf
    rw [Int32.toInt_div, a1, e1, Int.tdiv_eq_ediv_of_nonneg b.1]
    rw [fb_bmod (by omega) (by omega)]
  rw [a4]
  omega
theorem sD_b {f : Nat → Int32} : ∀ n, (∀ j, j < n → 0 ≤ (f j).toInt ∧ (f j).toInt ≤ 180000) → 0 ≤ sD f n ∧ sD f n ≤ 180000 * (n : Int)
  | 0, _ => ⟨Int.le_refl _, Int.le_refl _⟩
  | n + 1, h => by
    have h1 := sD_b n (fun j hj => h j (by omega))
    have h2 := h n (by omega)
    show 0 ≤ sD f n + (f n).toInt ∧ sD f n + (f n).toInt ≤ 180000 * ((n + 1 : Nat) : Int)
    omega
/-- what is drawn and what is left make up what there was -/
theorem dw_sum {f : Nat → Int32} {w : Int32} (hf : ∀ j, 0 ≤ (f j).toInt) (hw : 0 ≤ w.toInt) : ∀ n N, n ≤ N → sD (dw f w n).1 N + (dw f w n).2.toInt = sD f N
  | 0, N, _ => by
    have z0 : (0 : Int32).toInt = 0 := by decide
    rw [dw_0]
    show sD f N + (0 : Int32).toInt = sD f N
    omega
  | n + 1, N, hN => by
    obtain ⟨h1, h2, h3, h4⟩ := dw_ok hf hw n
    have ih := dw_sum hf hw n N (by omega)
    have hx := h3 n
    have hr := fb_rng w
    have hs : (w - (dw f w n).2).toInt = w.toInt - (dw f w n).2.toInt := fb_subI (by omega) (by omega)
    have hm := mn_int (w - (dw f w n).2) ((dw f w n).1 n)
    have hrx := fb_rng ((dw f w n).1 n)
    have ha : ((dw f w n).2 + mnI (w - (dw f w n).2) ((dw f w n).1 n)).toInt = (dw f w n).2.toInt + (mnI (w - (dw f w n).2) ((dw f w n).1 n)).toInt := fb_addI (by omega) (by omega)
    have hb : ((dw f w n).1 n - mnI (w - (dw f w n).2) ((dw f w n).1 n)).toInt = ((dw f w n).1 n).toInt - (mnI (w - (dw f w n).2) ((dw f w n).1 n)).toInt := fb_subI (by omega) (by omega)
    rw [dw_1, dw_2, sD_upd N (by omega), ha, hb]
    omega
/-- what make-up gas adds is at most its year's price for each -/
theorem dwa_b {f : Nat → Int32} {w : Int32} {pr : Nat → Int32} {sp : Int32} {y : Nat} (hf : ∀ j, 0 ≤ (f j).toInt ∧ (f j).toInt ≤ 100000) (hw : 0 ≤ w.toInt ∧ w.toInt ≤ 180000) (hp : ∀ j, 1 ≤ (pr j).toInt ∧ (pr j).toInt ≤ 1000) (hs : 0 ≤ sp.toInt ∧ sp.toInt ≤ 100) : ∀ n, 0 ≤ (dwa f w pr sp y n).toInt ∧ (dwa f w pr sp y n).toInt ≤ (dw f w n).2.toInt * (pr y).toInt
  | 0 => by
    have z0 : (0 : Int32).toInt = 0 := by decide
    have z1 : (0 : Int64).toInt = 0 := by decide
    rw [dw_0]
    show 0 ≤ (0 : Int64).toInt ∧ (0 : Int64).toInt ≤ (0 : Int32).toInt * (pr y).toInt
    rw [z0, z1, Int.zero_mul]
    exact ⟨Int.le_refl _, Int.le_refl _⟩
  | n + 1 => by
    have ih := dwa_b hf hw hp hs n (y := y)
    obtain ⟨h1, h2, h3, h4⟩ := dw_ok (f := f) (w := w) (fun j => (hf j).1) hw.1 n
    have hx := h3 n
    have hfn := hf n
    have hsub : (w - (dw f w n).2).toInt = w.toInt - (dw f w n).2.toInt := fb_subI (by omega) (by omega)
    have hm := mn_int (w - (dw f w n).2) ((dw f w n).1 n)
    have ha : ((dw f w n).2 + mnI (w - (dw f w n).2) ((dw f w n).1 n)).toInt = (dw f w n).2.toInt + (mnI (w - (dw f w n).2) ((dw f w n).1 n)).toInt := fb_addI (by omega) (by omega)
    obtain ⟨v1, v2⟩ := spf_val (y := n) (hp n).1 (hp n).2 hs.1 hs.2
    have hpy := hp y
    have hd : (pr y - spf pr sp n).toInt = (pr y).toInt - (spf pr sp n).toInt := fb_subI (by omega) (by omega)
    have hxm := mx_int 0 (pr y - spf pr sp n)
    have z0 : (0 : Int32).toInt = 0 := by decide
    have m0 : 0 ≤ (mnI (w - (dw f w n).2) ((dw f w n).1 n)).toInt := by omega
    have m1 : (mnI (w - (dw f w n).2) ((dw f w n).1 n)).toInt ≤ 180000 := by omega
    have m2 : (dw f w n).2.toInt + (mnI (w - (dw f w n).2) ((dw f w n).1 n)).toInt ≤ 180000 := by omega
    rw [dw_2, ha, dwa_1]
    generalize mnI (w - (dw f w n).2) ((dw f w n).1 n) = M at *
    have x0 : 0 ≤ (mxI 0 (pr y - spf pr sp n)).toInt := by omega
    have x1 : (mxI 0 (pr y - spf pr sp n)).toInt ≤ (pr y).toInt := by omega
    generalize mxI 0 (pr y - spf pr sp n) = X at *
    have p1 : 0 ≤ M.toInt * X.toInt := Int.mul_nonneg m0 x0
    have p2 : M.toInt * X.toInt ≤ M.toInt * (pr y).toInt := Int.mul_le_mul_of_nonneg_left x1 m0
    have p3 : M.toInt * (pr y).toInt ≤ 180000 * 1000 := Int.mul_le_mul m1 hpy.2 (by omega) (by decide)
    have p4 : (dw f w n).2.toInt * (pr y).toInt ≤ 180000 * 1000 := Int.mul_le_mul (by omega) hpy.2 (by omega) (by decide)
    have e1 : (M.toInt64 * X.toInt64).toInt = M.toInt * X.toInt := fb_ml (by omega) (by omega)
    have e2 : (dwa f w pr sp y n + M.toInt64 * X.toInt64).toInt = (dwa f w pr sp y n).toInt + M.toInt * X.toInt := by
      rw [fb_addL] <;> rw [e1] <;> omega
    rw [e2, Int.add_mul]
    omega
theorem lap_sum {f : Nat → Int32} {z : Int32} {k n : Nat} (hf : ∀ j, 0 ≤ (f j).toInt ∧ (f j).toInt ≤ 180000) (hz : 0 ≤ z.toInt ∧ z.toInt ≤ 4000000) : sD (lpF f k n) n + (lpZ f z k n).toInt = sD f n + z.toInt ∧ 0 ≤ (lpZ f z k n).toInt := by
  unfold lpF lpZ
  have z0 : (0 : Int32).toInt = 0 := by decide
  by_cases e : k + 1 ≤ n
  · rw [if_pos e, if_pos e]
    have h1 := hf (n - k - 1)
    have h2 : (z + f (n - k - 1)).toInt = z.toInt + (f (n - k - 1)).toInt := fb_addI (by omega) (by omega)
    rw [sD_upd n (by omega), h2]
    omega
  · rw [if_neg e, if_neg e]
    omega
end
section
/-! the closed years -/
/-- what the class's rows are before the year n -/
def mCI (mK uK n : Nat) (t : TR) : Prop :=
  (∀ j, 0 ≤ (rMk t j).toInt ∧ (rMk t j).toInt ≤ 100000) ∧ (∀ j, 0 ≤ (rSu t j).toInt ∧ (rSu t j).toInt ≤ 180000) ∧
  (∀ j, n ≤ j → rMk t j = 0 ∧ rSu t j = 0) ∧ (∀ j, j + mK + 1 < n → rMk t j = 0) ∧ (∀ j, j + uK + 1 < n → rSu t j = 0)
/-- the ranges that the argument tests give -/
def mRG (qy lp : Int32) (ex tk : Nat → Int32) : Prop :=
  (0 ≤ qy.toInt ∧ qy.toInt ≤ 100000) ∧ (0 ≤ lp.toInt ∧ lp.toInt ≤ 100) ∧ (∀ j, 0 ≤ (ex j).toInt ∧ (ex j).toInt ≤ 360) ∧ ∀ j, 0 ≤ (tk j).toInt ∧ (tk j).toInt ≤ 180000
theorem CI_0 {mK uK : Nat} {sh mu co sr : Nat → Int32} {du : Nat → Int64} : mCI mK uK 0 (st0 sh mu co sr du) :=
  ⟨fun _ => (by decide : 0 ≤ (0 : Int32).toInt ∧ (0 : Int32).toInt ≤ 100000), fun _ => (by decide : 0 ≤ (0 : Int32).toInt ∧ (0 : Int32).toInt ≤ 180000), fun _ _ => ⟨rfl, rfl⟩, fun j h => absurd h (by omega), fun j h => absurd h (by omega)⟩
/-- behind what lapses before the year n -/
theorem CI_L {mK uK n : Nat} {t : TR} (h : mCI mK uK n t) : (∀ j, 0 ≤ (rMk (stL mK uK n t) j).toInt ∧ (rMk (stL mK uK n t) j).toInt ≤ 100000) ∧ (∀ j, 0 ≤ (rSu (stL mK uK n t) j).toInt ∧ (rSu (stL mK uK n t) j).toInt ≤ 180000) ∧
    (∀ j, n ≤ j → rMk (stL mK uK n t) j = 0 ∧ rSu (stL mK uK n t) j = 0) ∧ (∀ j, j + mK < n → rMk (stL mK uK n t) j = 0) ∧ (∀ j, j + uK < n → rSu (stL mK uK n t) j = 0) := by
  obtain ⟨h1, h2, h3, h4, h5⟩ := h
  have z0 : (0 : Int32).toInt = 0 := by decide
  refine ⟨fun j => ?_, fun j => ?_, fun j hj => ⟨?_, ?_⟩, fun j hj => ?_, fun j hj => ?_⟩
  · show 0 ≤ (lpF (rMk t) mK n j).toInt ∧ (lpF (rMk t) mK n j).toInt ≤ 100000
    rcases lpF_e (rMk t) mK n j with e | e <;> rw [e]
    · exact h1 j
    · omega
  · show 0 ≤ (lpF (rSu t) uK n j).toInt ∧ (lpF (rSu t) uK n j).toInt ≤ 180000
    rcases lpF_e (rSu t) uK n j with e | e <;> rw [e]
    · exact h2 j
    · omega
  · show lpF (rMk t) mK n j = 0
    rcases lpF_e (rMk t) mK n j with e | e <;> rw [e]
    exact (h3 j hj).1
  · show lpF (rSu t) uK n j = 0
    rcases lpF_e (rSu t) uK n j with e | e <;> rw [e]
    exact (h3 j hj).2
  · exact lpF_z h4 j hj
  · exact lpF_z h5 j hj
/-- prices, and the share of them that is paid for a shortfall -/
def mPR (sp : Int32) (pr : Nat → Int32) : Prop := (0 ≤ sp.toInt ∧ sp.toInt ≤ 100) ∧ ∀ j, 1 ≤ (pr j).toInt ∧ (pr j).toInt ≤ 1000
/-- what holds of a closed year -/
def yOK (qy lp sp : Int32) (pr ex tk : Nat → Int32) (t : TR) (j : Nat) : Prop :=
  (0 ≤ (rMk t j).toInt ∧ (rMk t j).toInt ≤ (rSh t j).toInt ∧ (rSh t j).toInt ≤ 100000 ∧ 0 ≤ (rSu t j).toInt ∧ (rSu t j).toInt ≤ (rSr t j).toInt ∧ (rSr t j).toInt ≤ 180000 ∧ 0 ≤ (rMu t j).toInt ∧ (rMu t j).toInt ≤ 180000 ∧ 0 ≤ (rCo t j).toInt ∧ (rCo t j).toInt ≤ 100000) ∧
  (tk j < lqf qy lp ex j → (rCo t j).toInt + (rSh t j).toInt = (lqf qy lp ex j).toInt - (tk j).toInt ∧ rMu t j = 0 ∧ rSr t j = 0 ∧ rDu t j = (tk j).toInt64 * (pr j).toInt64 + (rSh t j).toInt64 * (spf pr sp j).toInt64) ∧
  (¬ tk j < lqf qy lp ex j → rCo t j = 0 ∧ rSh t j = 0 ∧ (rMu t j).toInt ≤ (tk j).toInt - (lqf qy lp ex j).toInt ∧ (rSr t j).toInt = max 0 ((tk j).toInt - (rMu t j).toInt - qy.toInt) ∧ ((tk j).toInt - (rMu t j).toInt) * (pr j).toInt ≤ (rDu t j).toInt ∧ (rDu t j).toInt ≤ (tk j).toInt * (pr j).toInt)
/-- what came is used, left or lapsed -/
def ySM (n : Nat) (t : TR) : Prop := sD (rSh t) n = sD (rMu t) n + sD (rMk t) n + (rMS t).toInt ∧ 0 ≤ (rMS t).toInt ∧ sD (rSr t) n = sD (rCo t) n + sD (rSu t) n + (rUS t).toInt ∧ 0 ≤ (rUS t).toInt
section YS
variable {qy lp sp : Int32} {pr ex tk : Nat → Int32} {mK uK n : Nat} {t : TR}
theorem ySM_b (hn : n ≤ 20) (hy : ∀ j, j < n → yOK qy lp sp pr ex tk t j) (hs : ySM n t) : (rMS t).toInt ≤ 4000000 ∧ (rUS t).toInt ≤ 4000000 ∧ sD (rSh t) n ≤ 4000000 ∧ sD (rSr t) n ≤ 4000000 := by
  obtain ⟨h1, h2, h3, h4⟩ := hs
  have a1 := sD_b (f := rSh t) n (fun j hj => by have := (hy j hj).1; omega)
  have a2 := sD_b (f := rMu t) n (fun j hj => by have := (hy j hj).1; omega)
  have a3 := sD_b (f := rMk t) n (fun j hj => by have := (hy j hj).1; omega)
  have a4 := sD_b (f := rSr t) n (fun j hj => by have := (hy j hj).1; omega)
  have a5 := sD_b (f := rCo t) n (fun j hj => by have := (hy j hj).1; omega)
  have a6 := sD_b (f := rSu t) n (fun j hj => by have := (hy j hj).1; omega)
  omega
theorem y_lapA {j : Nat} (hy : yOK qy lp sp pr ex tk t j) : yOK qy lp sp pr ex tk (stL mK uK n t) j := by
  obtain ⟨⟨h1, h2, h3, h4, h5, h6⟩, hG, hE⟩ := hy
  have z0 : (0 : Int32).toInt = 0 := by decide
  refine ⟨?_, hG, hE⟩
  show 0 ≤ (lpF (rMk t) mK n j).toInt ∧ (lpF (rMk t) mK n j).toInt ≤ (rSh t j).toInt ∧ (rSh t j).toInt ≤ 100000 ∧ 0 ≤ (lpF (rSu t) uK n j).toInt ∧ (lpF (rSu t) uK n j).toInt ≤ (rSr t j).toInt ∧ (rSr t j).toInt ≤ 180000 ∧ 0 ≤ (rMu t j).toInt ∧ (rMu t j).toInt ≤ 180000 ∧ 0 ≤ (rCo t j).toInt ∧ (rCo t j).toInt ≤ 100000
  rcases lpF_e (rMk t) mK n j with e | e <;> rcases lpF_e (rSu t) uK n j with e2 | e2 <;> rw [e, e2] <;> omega
theorem y_lapS (hn : n ≤ 20) (h : mCI mK uK n t) (hy : ∀ j, j < n → yOK qy lp sp pr ex tk t j) (hs : ySM n t) : ySM n (stL mK uK n t) := by
  have hb := ySM_b hn hy hs
  obtain ⟨h1, h2, h3, h4⟩ := hs
  obtain ⟨c1, c2, -⟩ := h
  have a1 := lap_sum (f := rMk t) (z := rMS t) (k := mK) (n := n) (fun j => by have := c1 j; omega) (by omega)
  have a2 := lap_sum (f := rSu t) (z := rUS t) (k := uK) (n := n) c2 (by omega)
  show sD (rSh t) n = sD (rMu t) n + sD (lpF (rMk t) mK n) n + (lpZ (rMk t) (rMS t) mK n).toInt ∧ 0 ≤ (lpZ (rMk t) (rMS t) mK n).toInt ∧ sD (rSr t) n = sD (rCo t) n + sD (lpF (rSu t) uK n) n + (lpZ (rSu t) (rUS t) uK n).toInt ∧ 0 ≤ (lpZ (rSu t) (rUS t) uK n).toInt
  omega
theorem sD_ux {f : Nat → Int32} {x : Int32} : sD (upd f n x) (n + 1) = sD f n + x.toInt := by
  rw [sD, ux_s, sD_cg n (g := f) (fun j hj => ux_n (by omega))]
theorem y_step (hn : n < 20) (hg : mRG qy lp ex tk) (hp : mPR sp pr) (h : mCI mK uK n t) (hy : ∀ j, j < n → yOK qy lp sp pr ex tk t j) (hs : ySM n t) : mCI mK uK (n + 1) (stp qy lp sp pr ex tk mK uK n t) ∧ (∀ j, j < n + 1 → yOK qy lp sp pr ex tk (stp qy lp sp pr ex tk mK uK n t) j) ∧ ySM (n + 1) (stp qy lp sp pr ex tk mK uK n t) := by
  obtain ⟨g1, g2, g3, g4⟩ := hg
  obtain ⟨p1, p2⟩ := hp
  have hyL : ∀ j, j < n → yOK qy lp sp pr ex tk (stL mK uK n t) j := fun j hj => y_lapA (hy j hj)
  have hsL := y_lapS (Nat.le_of_lt hn) h hy hs
  obtain ⟨c1, c2, c3, c4, c5⟩ := CI_L h
  obtain ⟨lv, l0, l1⟩ := lqf_val (qy := qy) (lp := lp) (ex := ex) (y := n) g1.1 g1.2 g2.1 g2.2 (g3 n).1 (g3 n).2
  have k0 := g4 n
  have z0 : (0 : Int32).toInt = 0 := by decide
  unfold stp
  by_cases hc : tk n < lqf qy lp ex n
  · rw [if_pos hc]
    generalize stL mK uK n t = T at *
    have hlt := Int32.lt_iff_toInt_lt.mp hc
    have hgap : (gpG qy lp ex tk n).toInt = (lqf qy lp ex n).toInt - (tk n).toInt := fb_subI (by omega) (by omega)
    obtain ⟨d1, d2, d3, d4⟩ := dw_ok (f := rSu T) (w := gpG qy lp ex tk n) (fun j => (c2 j).1) (by omega) n
    have ds := dw_sum (f := rSu T) (w := gpG qy lp ex tk n) (fun j => (c2 j).1) (by omega) n n (Nat.le_refl n)
    have hC : (gpC qy lp ex tk (rSu T) n).toInt = (dw (rSu T) (gpG qy lp ex tk n) n).2.toInt := rfl
    have hM : (gpM qy lp ex tk (rSu T) n).toInt = (gpG qy lp ex tk n).toInt - (gpC qy lp ex tk (rSu T) n).toInt := fb_subI (by omega) (by omega)
    have hDu : gpD qy lp sp pr ex tk (rSu T) n = (tk n).toInt64 * (pr n).toInt64 + (gpM qy lp ex tk (rSu T) n).toInt64 * (spf pr sp n).toInt64 := rfl
    obtain ⟨U, hU⟩ : ∃ U, U = stG qy lp sp pr ex tk n T := ⟨_, rfl⟩
    rw [← hU]
    have uMk : rMk U = upd (rMk T) n (gpM qy lp ex tk (rSu T) n) := by rw [hU]; rfl
    have uMS : rMS U = rMS T := by rw [hU]; rfl
    have uSu : rSu U = (dw (rSu T) (gpG qy lp ex tk n) n).1 := by rw [hU]; rfl
    have uUS : rUS U = rUS T := by rw [hU]; rfl
    have uSh : rSh U = upd (rSh T) n (gpM qy lp ex tk (rSu T) n) := by rw [hU]; rfl
    have uMu : rMu U = upd (rMu T) n 0 := by rw [hU]; rfl
    have uCo : rCo U = upd (rCo T) n (gpC qy lp ex tk (rSu T) n) := by rw [hU]; rfl
    have uSr : rSr U = upd (rSr T) n 0 := by rw [hU]; rfl
    have uDu : rDu U = vp_updL (rDu T) n (gpD qy lp sp pr ex tk (rSu T) n) := by rw [hU]; rfl
    clear hU
    generalize gpM qy lp ex tk (rSu T) n = M at *
    generalize gpC qy lp ex tk (rSu T) n = C at *
    generalize gpD qy lp sp pr ex tk (rSu T) n = Du at *
    generalize gpG qy lp ex tk n = G at *
    have dn : (dw (rSu T) G n).1 n = 0 := by rw [d4 n (Nat.le_refl n)]; exact (c3 n (Nat.le_refl n)).2
    refine ⟨⟨fun j => ?_, fun j => ?_, fun j hj => ⟨?_, ?_⟩, fun j hj => ?_, fun j hj => ?_⟩, fun j hj => ?_, ?_⟩
    · rw [uMk]
      by_cases e : j = n
      · subst e; rw [ux_s]; omega
      · rw [ux_n e]; exact c1 j
    · rw [uSu]
      have := d3 j; have := c2 j; omega
    · rw [uMk, ux_n (by omega)]; exact (c3 j (by omega)).1
    · rw [uSu, d4 j (by omega)]; exact (c3 j (by omega)).2
    · rw [uMk, ux_n (by omega)]; exact c4 j (by omega)
    · rw [uSu]
      have h7 := d3 j
      rw [c5 j (by omega)] at h7
      exact i32_eq (by omega)
    · unfold yOK
      rw [uMk, uSu, uSh, uMu, uCo, uSr, uDu]
      by_cases e : j = n
      · subst e
        rw [ux_s, ux_s, ux_s, ux_s, ux_s, ul_s, dn]
        exact ⟨by omega, fun _ => ⟨by omega, rfl, rfl, hDu⟩, fun z => absurd hc z⟩
      · obtain ⟨q1, q2, q3⟩ := hyL j (by omega)
        rw [ux_n e, ux_n e, ux_n e, ux_n e, ux_n e, ul_n e]
        have := d3 j
        exact ⟨by omega, q2, q3⟩
    · unfold ySM at hsL ⊢
      rw [uMk, uSu, uSh, uMu, uCo, uSr, uMS, uUS, sD_ux, sD_ux, sD_ux, sD_ux, sD_ux, sD, dn]
      omega
  · rw [if_neg hc]
    generalize stL mK uK n t = T at *
    have hge := Int32.le_iff_toInt_le.mp (Int32.not_lt.mp hc)
    have hab : (enA qy lp ex tk n).toInt = (tk n).toInt - (lqf qy lp ex n).toInt := fb_subI (by omega) (by omega)
    obtain ⟨d1, d2, d3, d4⟩ := dw_ok (f := rMk T) (w := enA qy lp ex tk n) (fun j => (c1 j).1) (by omega) n
    have ds := dw_sum (f := rMk T) (w := enA qy lp ex tk n) (fun j => (c1 j).1) (by omega) n n (Nat.le_refl n)
    have da := dwa_b (f := rMk T) (w := enA qy lp ex tk n) (pr := pr) (sp := sp) (y := n) c1 (by omega) p2 p1 n
    have hM : (enM qy lp ex tk (rMk T) n).toInt = (dw (rMk T) (enA qy lp ex tk n) n).2.toInt := rfl
    have hO : (enO qy lp ex tk (rMk T) n).toInt = (tk n).toInt - (enM qy lp ex tk (rMk T) n).toInt := fb_subI (by omega) (by omega)
    have hoq : (enO qy lp ex tk (rMk T) n - qy).toInt = (enO qy lp ex tk (rMk T) n).toInt - qy.toInt := fb_subI (by omega) (by omega)
    have hS : (enS qy lp ex tk (rMk T) n).toInt = max 0 ((enO qy lp ex tk (rMk T) n).toInt - qy.toInt) := by
      show (mxI 0 (enO qy lp ex tk (rMk T) n - qy)).toInt = _
      rw [mx_int, hoq, z0]
    have hpn := p2 n
    have m1 := mul_rng (a := (enO qy lp ex tk (rMk T) n).toInt) (b := (pr n).toInt) (A := 180000) (B := 1000) (by omega) (by omega) (by omega) hpn.2
    have m2 := mul_rng (a := (dw (rMk T) (enA qy lp ex tk n) n).2.toInt) (b := (pr n).toInt) (A := 180000) (B := 1000) d1 (by omega) (by omega) hpn.2
    have e1 : ((enO qy lp ex tk (rMk T) n).toInt64 * (pr n).toInt64).toInt = (enO qy lp ex tk (rMk T) n).toInt * (pr n).toInt := fb_ml (by omega) (by omega)
    have hDu : (enD qy lp sp pr ex tk (rMk T) n).toInt = (enO qy lp ex tk (rMk T) n).toInt * (pr n).toInt + (dwa (rMk T) (enA qy lp ex tk n) pr sp n n).toInt := by
      show ((enO qy lp ex tk (rMk T) n).toInt64 * (pr n).toInt64 + dwa (rMk T) (enA qy lp ex tk n) pr sp n n).toInt = _
      rw [fb_addL] <;> rw [e1] <;> omega
    have hDl : ((tk n).toInt - (enM qy lp ex tk (rMk T) n).toInt) * (pr n).toInt ≤ (enD qy lp sp pr ex tk (rMk T) n).toInt := by rw [hDu, ← hO]; omega
    have hDh : (enD qy lp sp pr ex tk (rMk T) n).toInt ≤ (tk n).toInt * (pr n).toInt := by
      have e2 : (tk n).toInt * (pr n).toInt = (enO qy lp ex tk (rMk T) n).toInt * (pr n).toInt + (dw (rMk T) (enA qy lp ex tk n) n).2.toInt * (pr n).toInt := by
        rw [← Int.add_mul, hO, hM]; congr 1; omega
      rw [hDu, e2]; omega
    obtain ⟨U, hU⟩ : ∃ U, U = stE qy lp sp pr ex tk n T := ⟨_, rfl⟩
    rw [← hU]
    have uMk : rMk U = (dw (rMk T) (enA qy lp ex tk n) n).1 := by rw [hU]; rfl
    have uMS : rMS U = rMS T := by rw [hU]; rfl
    have uSu : rSu U = upd (rSu T) n (enS qy lp ex tk (rMk T) n) := by rw [hU]; rfl
    have uUS : rUS U = rUS T := by rw [hU]; rfl
    have uSh : rSh U = upd (rSh T) n 0 := by rw [hU]; rfl
    have uMu : rMu U = upd (rMu T) n (enM qy lp ex tk (rMk T) n) := by rw [hU]; rfl
    have uCo : rCo U = upd (rCo T) n 0 := by rw [hU]; rfl
    have uSr : rSr U = upd (rSr T) n (enS qy lp ex tk (rMk T) n) := by rw [hU]; rfl
    have uDu : rDu U = vp_updL (rDu T) n (enD qy lp sp pr ex tk (rMk T) n) := by rw [hU]; rfl
    clear hU
    generalize enM qy lp ex tk (rMk T) n = M at *
    generalize enS qy lp ex tk (rMk T) n = X at *
    generalize enD qy lp sp pr ex tk (rMk T) n = Du at *
    generalize enA qy lp ex tk n = G at *
    have dn : (dw (rMk T) G n).1 n = 0 := by rw [d4 n (Nat.le_refl n)]; exact (c3 n (Nat.le_refl n)).1
    refine ⟨⟨fun j => ?_, fun j => ?_, fun j hj => ⟨?_, ?_⟩, fun j hj => ?_, fun j hj => ?_⟩, fun j hj => ?_, ?_⟩
    · rw [uMk]
      have := d3 j; have := c1 j; omega
    · rw [uSu]
      by_cases e : j = n
      · subst e; rw [ux_s]; omega
      · rw [ux_n e]; exact c2 j
    · rw [uMk, d4 j (by omega)]; exact (c3 j (by omega)).1
    · rw [uSu, ux_n (by omega)]; exact (c3 j (by omega)).2
    · rw [uMk]
      have h7 := d3 j
      rw [c4 j (by omega)] at h7
      exact i32_eq (by omega)
    · rw [uSu, ux_n (by omega)]; exact c5 j (by omega)
    · unfold yOK
      rw [uMk, uSu, uSh, uMu, uCo, uSr, uDu]
      by_cases e : j = n
      · subst e
        rw [ux_s, ux_s, ux_s, ux_s, ux_s, ul_s, dn]
        exact ⟨by omega, fun z => absurd z hc, fun _ => ⟨rfl, rfl, by omega, by omega, hDl, hDh⟩⟩
      · obtain ⟨q1, q2, q3⟩ := hyL j (by omega)
        rw [ux_n e, ux_n e, ux_n e, ux_n e, ux_n e, ul_n e]
        have := d3 j
        exact ⟨by omega, q2, q3⟩
    · unfold ySM at hsL ⊢
      rw [uMk, uSu, uSh, uMu, uCo, uSr, uMS, uUS, sD_ux, sD_ux, sD_ux, sD_ux, sD_ux, sD, dn]
      omega
end YS
theorem y_all {qy lp sp : Int32} {pr ex tk : Nat → Int32} {mK uK : Nat} {sh mu co sr : Nat → Int32} {du : Nat → Int64} (hg : mRG qy lp ex tk) (hp : mPR sp pr) : ∀ n, n ≤ 20 → mCI mK uK n (stC qy lp sp pr ex tk mK uK (st0 sh mu co sr du) n) ∧ (∀ j, j < n → yOK qy lp sp pr ex tk (stC qy lp sp pr ex tk mK uK (st0 sh mu co sr du) n) j) ∧ ySM n (stC qy lp sp pr ex tk mK uK (st0 sh mu co sr du) n)
  | 0, _ => ⟨CI_0, fun j h => absurd h (by omega), by
      have z0 : (0 : Int32).toInt = 0 := by decide
      show (0 : Int) = 0 + 0 + (0 : Int32).toInt ∧ 0 ≤ (0 : Int32).toInt ∧ (0 : Int) = 0 + 0 + (0 : Int32).toInt ∧ 0 ≤ (0 : Int32).toInt
      omega⟩
  | n + 1, hn => by
    obtain ⟨h1, h2, h3⟩ := y_all (sp := sp) (pr := pr) (sh := sh) (mu := mu) (co := co) (sr := sr) (du := du) (mK := mK) (uK := uK) hg hp n (by omega)
    exact y_step (by omega) hg hp h1 h2 h3
/-- the closed years don't look at the rows that they write -/
theorem stp_rows {qy lp sp : Int32} {pr ex tk : Nat → Int32} {mK uK n : Nat} {t u : TR} (h1 : rMk t = rMk u) (h3 : rSu t = rSu u) (h5 : ∀ j, j < n → rDu t j = rDu u j) : rMk (stp qy lp sp pr ex tk mK uK n t) = rMk (stp qy lp sp pr ex tk mK uK n u) ∧ rSu (stp qy lp sp pr ex tk mK uK n t) = rSu (stp qy lp sp pr ex tk mK uK n u) ∧ ∀ j, j < n + 1 → rDu (stp qy lp sp pr ex tk mK uK n t) j = rDu (stp qy lp sp pr ex tk mK uK n u) j := by
  have a1 : rMk (stL mK uK n t) = rMk (stL mK uK n u) := by show lpF (rMk t) mK n = lpF (rMk u) mK n; rw [h1]
  have a3 : rSu (stL mK uK n t) = rSu (stL mK uK n u) := by show lpF (rSu t) uK n = lpF (rSu u) uK n; rw [h3]
  have a5 : ∀ j, j < n → rDu (stL mK uK n t) j = rDu (stL mK uK n u) j := h5
  unfold stp
  by_cases hc : tk n < lqf qy lp ex n
  · rw [if_pos hc, if_pos hc]
    generalize stL mK uK n t = T at *
    generalize stL mK uK n u = V at *
    refine ⟨?_, ?_, fun j hj => ?_⟩
    · show upd (rMk T) n (gpM qy lp ex tk (rSu T) n) = upd (rMk V) n (gpM qy lp ex tk (rSu V) n); rw [a1, a3]
    · show (dw (rSu T) (gpG qy lp ex tk n) n).1 = (dw (rSu V) (gpG qy lp ex tk n) n).1; rw [a3]
    · show vp_updL (rDu T) n (gpD qy lp sp pr ex tk (rSu T) n) j = vp_updL (rDu V) n (gpD qy lp sp pr ex tk (rSu V) n) j
      rw [a3]
      by_cases e : j = n
      · subst e; rw [ul_s, ul_s]
      · rw [ul_n e, ul_n e]; exact a5 j (by omega)
  · rw [if_neg hc, if_neg hc]
    generalize stL mK uK n t = T at *
    generalize stL mK uK n u = V at *
    refine ⟨?_, ?_, fun j hj => ?_⟩
    · show (dw (rMk T) (enA qy lp ex tk n) n).1 = (dw (rMk V) (enA qy lp ex tk n) n).1; rw [a1]
    · show upd (rSu T) n (enS qy lp ex tk (rMk T) n) = upd (rSu V) n (enS qy lp ex tk (rMk V) n); rw [a1, a3]
    · show vp_updL (rDu T) n (enD qy lp sp pr ex tk (rMk T) n) j = vp_updL (rDu V) n (enD qy lp sp pr ex tk (rMk V) n) j
      rw [a1]
      by_cases e : j = n
      · subst e; rw [ul_s, ul_s]
      · rw [ul_n e, ul_n e]; exact a5 j (by omega)
theorem stC_rows {qy lp sp : Int32} {pr ex tk : Nat → Int32} {mK uK : Nat} {sh mu co sr sh2 mu2 co2 sr2 : Nat → Int32} {du du2 : Nat → Int64} : ∀ n, rMk (stC qy lp sp pr ex tk mK uK (st0 sh mu co sr du) n) = rMk (stC qy lp sp pr ex tk mK uK (st0 sh2 mu2 co2 sr2 du2) n) ∧ rSu (stC qy lp sp pr ex tk mK uK (st0 sh mu co sr du) n) = rSu (stC qy lp sp pr ex tk mK uK (st0 sh2 mu2 co2 sr2 du2) n) ∧ ∀ j, j < n → rDu (stC qy lp sp pr ex tk mK uK (st0 sh mu co sr du) n) j = rDu (stC qy lp sp pr ex tk mK uK (st0 sh2 mu2 co2 sr2 du2) n) j
  | 0 => ⟨rfl, rfl, fun j h => absurd h (by omega)⟩
  | n + 1 => by
    obtain ⟨h1, h3, h5⟩ := stC_rows (qy := qy) (lp := lp) (sp := sp) (pr := pr) (ex := ex) (tk := tk) (mK := mK) (uK := uK) (sh := sh) (mu := mu) (co := co) (sr := sr) (sh2 := sh2) (mu2 := mu2) (co2 := co2) (sr2 := sr2) (du := du) (du2 := du2) n
    exact stp_rows h1 h3 h5
/-- what is taken in a year that isn't closed changes nothing -/
theorem stp_tk {qy lp sp : Int32} {pr ex tk tk2 : Nat → Int32} {mK uK y : Nat} {t : TR} (h : tk2 y = tk y) : stp qy lp sp pr ex tk2 mK uK y t = stp qy lp sp pr ex tk mK uK y t := by
  simp only [stp, stG, stE, gpD, gpM, gpC, gpG, enD, enS, enO, enM, enA, h]
theorem stC_tk {qy lp sp : Int32} {pr ex tk tk2 : Nat → Int32} {mK uK : Nat} {t : TR} : ∀ n, (∀ j, j < n → tk2 j = tk j) → stC qy lp sp pr ex tk2 mK uK t n = stC qy lp sp pr ex tk mK uK t n
  | 0, _ => rfl
  | n + 1, h => by
    show stp qy lp sp pr ex tk2 mK uK n _ = stp qy lp sp pr ex tk mK uK n _
    rw [stC_tk n (fun j hj => h j (by omega)), stp_tk (h n (by omega))]
/-- sums of amounts -/
theorem smL_cg {f g : Nat → Int64} : ∀ n, (∀ j, j < n → f j = g j) → smL f n = smL g n
  | 0, _ => rfl
  | n + 1, h => by rw [smL, smL, smL_cg n (fun j hj => h j (by omega)), h n (by omega)]
end
section
/-! constructors: heads, ends, calls; new rows -/
theorem gK_eq {D : va_G} {cl : List vw_C} {tys : List (ClassId × FieldType)} {U : State} {c1 c2 : ClassId} {ty : FieldType} (hp : ∀ C, ty ≠ .object C) (hK : va_K D cl tys U) (i j : Nat) (hi : tys[i]? = some (c1, ty)) (hj : tys[j]? = some (c2, ty)) : c1 = c2 := by
  have h1 := (hK.2 i _ hi).2
  have h2 := (hK.2 j _ hj).2
  have k1 : U.vm.findClass ("[" ++ ty.toString) = some c1 := by
    cases ty with
    | object C => exact absurd rfl (hp C)
    | _ => exact h1
  have k2 : U.vm.findClass ("[" ++ ty.toString) = some c2 := by
    cases ty with
    | object C => exact absurd rfl (hp C)
    | _ => exact h2
  exact Option.some.inj (k1.symm.trans k2)
theorem gK_of {args : Array Value} {s : State} (h1 : (Cond.arrayClass .int).before args s = true) (h2 : (Cond.arrayClass .long).before args s = true) {D : va_G} (h : va_K D vwCl [] s) : ∃ cI cL, va_K D vwCl [(cI, .int), (cL, .long)] s := by
  obtain ⟨cA, kA, comp, f1, f2, f3⟩ := Cond.arrayClass_spec h1
  obtain ⟨cB, kB, comp2, g1, g2, g3⟩ := Cond.arrayClass_spec h2
  refine ⟨cA, cB, h.1, fun k q hq => ?_⟩
  match k, hq with
  | 0, hq => cases hq; exact ⟨fun n z => ⟨fun k h => (by cases h), kA, f2, comp, f3⟩, f1⟩
  | 1, hq => cases hq; exact ⟨fun n z => ⟨fun k h => (by cases h), kB, g2, comp2, g3⟩, g1⟩
  | k + 2, hq => simp at hq
def gEs {S : Type} (P : S → Prop) (w1 : S → va_W) (below : List Frame) (D : va_G) (tys : List (ClassId × FieldType)) (A : Nat → Prop) (args : Array Value) (s : State) (mc ms : Nat) : State → Prop := MQ below (va_Qv P (fun u t => va_P D vwCl (w1 u) t.heap ∧ va_K D vwCl tys t ∧ va_D A (w1 u)) A) args s mc ms A
abbrev gCs {S : Type} (l : Launch) (y : MethodName) (ws : List Cond) (rm : Room) (D : va_G) (tys : List (ClassId × FieldType)) (av : List Value) (w : va_W) (P : S → Prop) (w1 : S → va_W) (mc ms sz : Nat) : Prop := Met l y ws rm (va_Pc av (gPre D tys w sz)) (va_Qv P (fun u => gPost D tys w (w1 u) sz) (va_A w sz)) mc ms (va_A w sz)
theorem gm_s {S : Type} {P : S → Prop} {w1 : S → va_W} {l : Launch} {y : MethodName} {ws ws' : List Cond} {rm : Room} {D : va_G} {tys : List (ClassId × FieldType)} {av : List Value} {w : va_W} {mc ms sz : Nat} {cc : ByteArray} {maxL : Nat} (hy : plainName y.cls = true) (hw : ws = Cond.code y cc maxL none :: ws') (hlen : (lg_sl av).length ≤ maxL)
    (body : ∀ (p : Program) (e : Env) (s : State) (m : MethodId) (args : Array Value) (below : List Frame) (meth : Method) (c : Code) (A : Nat → Prop) (ls : Array Slot), p.tables.exec = Jvm.exec → c.code = cc → meth.sig.returnType = none → c.maxLocals = maxL → s.vm.findClass y.cls = some m.cls → (∀ q ∈ ws, q.before args s = true) → meth.locks = false → meth.name = y.name → (∀ q : Nat, s.heap.size ≤ q → A q) → va_K D vwCl tys s → va_P D vwCl w s.heap → va_D A w → lv_has ls maxL (lv_args 0 av) → W p l e rm s m args below meth c s.heap [] 0 0 (gEs P w1 below D tys A args s mc ms) (F0 m 0 ls [])) : gCs l y ws rm D tys av w P w1 mc ms sz := by
  refine Met.ofW (cc := cc) (maxL := maxL) (ret := none) hy hw ?_
  intro p e s m args below meth c s₁ B hml hv
  obtain ⟨rfl, hsz, hP, hK, hD0⟩ := hv
  subst hsz
  rw [lg_entry_eq]
  exact body p e s m _ below meth c _ _ B.exec B.bytes B.returns hml (findClass_of_methodNamed B.named) (atoms_spec (ws := ws) B.pre) B.notSynchronized (name_of_methodNamed B.named B.method).1 (fun q h => Or.inr h) hK hP hD0.self (lv_entry av hlen)
section GS
variable {p : Program} {l : Launch} {e : Env} {R : Room} {s : State} {m : MethodId} {args : Array Value} {below : List Frame} {meth : Method} {c : Code} {H : Heap} {locs : List Loc} {cells slots : Nat} {Q : State → Prop}
variable {D : va_G} {A : Nat → Prop} {tys : List (ClassId × FieldType)} {cc : ByteArray} {mc ms pc : Nat} {ls : Array Slot}
theorem ge_s {S : Type} {P : S → Prop} {w1 : S → va_W} (u : S) (hu : P u) (hx : p.tables.exec = Jvm.exec) (hb : c.code = cc) (hr : meth.sig.returnType = none) (hlocks : meth.locks = false) (hK : va_K D vwCl tys s) (hP : va_P D vwCl (w1 u) H) (hD : va_D A (w1 u)) (hS : va_S A s.heap H locs) (hc : cells ≤ mc) (hs : slots ≤ ms) (hdg : decode cc pc = .ok (.return_, 1)) : W p l e R s m args below meth c H locs cells slots (gEs P w1 below D tys A args s mc ms) (F0 m pc ls []) :=
  W.widen hc hs (W.vret hx hb hr (fun t ht hW => ⟨⟨u, rfl, hu, by rw [ht]; exact hP, va_K.moved hW.alike hK, hD⟩, hS.F ht⟩) hS.2.2 hdg hlocks)
theorem gI_s {S : Type} {P : S → Prop} {w1 W' : S → va_W} {Wd wc wr : va_W} {tc : List (ClassId × FieldType)} {H0 : Heap} {bytes : ByteArray} {nL maxL n index : Nat} {own : String} {y : MethodName} {wsy Ts : List Cond} {rm : Room} {b : Addr} {As rest st0 : List Value} (S9 : CallFix p m c cc nL s args Ts own) (hM : gCs l y wsy rm D tc (.ref b :: As) wc P w1 mc ms H.size) (cw : CallB R s args own index y bytes maxL none wsy rm mc ms n ∧ y.name = "<init>" ∧ (Cond.instanceMethod y).before args s = true) (hS : va_S A H0 H locs) (hA : ∀ q : Nat, H0.size ≤ q → A q) (hK : va_K D vwCl tys s) (hP : va_P D vwCl Wd H) (hD : va_D A Wd) (ks : List Nat) (hk : ks.filterMap (fun i => tys[i]?) = tc) (isC isR perm : List Nat) (hC : isC.map (fun i => Wd[i]?) = wc.map some) (hnC : va_nd isC = true) (hR : isR.map (fun i => Wd[i]?) = wr.map some) (hn : va_nd isR = true) (hdis : ∀ i ∈ isR, i ∉ isC) (hpm : ∀ u, perm.map (fun i => (wr ++ w1 u)[i]?) = (W' u).map some) (hpn : va_nd perm = true)
    (hAs : As.length = n) (hsize : ls.size = nL) (hst : st0 = As.reverse ++ .ref b :: rest) (hW : (rest.map fun v => v.category).sum ≤ 8) (hdg : decode cc pc = .ok (.invokespecial index, 3)) (hf : cells + mc ≤ R.cells ∧ slots + ms ≤ R.slots)
    (kk : ∀ (u : S) (H : Heap) (locs : List Loc), P u → va_P D vwCl (W' u) H → va_D A (W' u) → va_S A H0 H locs → W p l e R s m args below meth c H locs (cells + mc) (slots + ms) Q (F0 m (pc + 3) ls rest)) : W p l e R s m args below meth c H locs cells slots Q (F0 m pc ls st0) := by
  have hF := va_free (wc := wc) hD hS hA isC hC
  refine va_callv (va_runI S9 hM cw ⟨gPre.blind, (fun U hU hW => ⟨rfl, gc_S (av := As) hK hP hD ks hk isC hC hnC U hU hW⟩)⟩ rfl hAs hsize hst (lv_room hW) hdg hf) hS (fun q _ h => hF q h) hF (fun u t H1 locs1 ht hvm hw hB hz1 hk1 hS1 => ?_)
  obtain ⟨hP1, hK1, hD1⟩ := hB
  rw [ht] at hP1
  obtain ⟨hPn, hDn⟩ := gc_join (H0 := H0) hP hD isC isR perm hC hR hn hdis (hpm u) hpn hk1 hF hP1 hD1
  exact kk u H1 locs1 hw hPn hDn hS1
variable {rest : List Value} {ws : va_W} {H0 : Heap} {cI cL : ClassId}
theorem gn_I (hexec : p.tables.exec = Jvm.exec) (hb : c.code = cc) (harr : (Cond.arrayClass .int).before args s = true) (hK : va_K D vwCl [(cI, .int), (cL, .long)] s) (hP : va_P D vwCl ws H) (hD : va_D A ws) (hS : va_S A H0 H locs) (hA : ∀ q, H0.size ≤ q → A q)
    {n : Int32} {N' : Nat} (hn : ¬ n < 0) (hN : n.toNatClampNeg = N') (hbytes : N' * 4 ≤ 536870912) (hcells : cells + 1 ≤ R.cells) (hslots : slots + N' ≤ R.slots) (hdg : decode cc pc = .ok (.newarray .int, 2))
    (kk : ∀ (q : Nat) (H1 : Heap), va_P D vwCl (ws ++ [(q, .inl (cI, N', .inl (fun _ => 0)))]) H1 → va_D A (ws ++ [(q, .inl (cI, N', .inl (fun _ => 0)))]) → va_S A H0 H1 locs → W p l e R s m args below meth c H1 locs (cells + 1) (slots + N') Q (F0 m (pc + 2) ls (.ref q :: rest))) : W p l e R s m args below meth c H locs cells slots Q (F0 m pc ls (.int n :: rest)) := by
  refine va_newa (atype := .int) hexec hb harr (ty := .int) rfl hK hP hD hS hA (a0 := (N', .inl (fun _ => 0))) (fun cA => rfl) hn hN hbytes hcells hslots hdg (fun q cA H1 hK1 hP1 hD1 hS1 => ?_)
  have e := gK_eq (ty := .int) (fun C h => by cases h) hK1 2 0 rfl rfl
  rw [e] at hP1 hD1
  exact kk q H1 hP1 hD1 hS1
theorem gn_L (hexec : p.tables.exec = Jvm.exec) (hb : c.code = cc) (harr : (Cond.arrayClass .long).before args s = true) (hK : va_K D vwCl [(cI, .int), (cL, .long)] s) (hP : va_P D vwCl ws H) (hD : va_D A ws) (hS : va_S A H0 H locs) (hA : ∀ q, H0.size ≤ q → A q)
    {n : Int32} {N' : Nat} (hn : ¬ n < 0) (hN : n.toNatClampNeg = N') (hbytes : N' * 8 ≤ 536870912) (hcells : cells + 1 ≤ R.cells) (hslots : slots + N' ≤ R.slots) (hdg : decode cc pc = .ok (.newarray .long, 2))
    (kk : ∀ (q : Nat) (H1 : Heap), va_P D vwCl (ws ++ [(q, .inl (cL, N', .inr (.inl (fun _ => 0))))]) H1 → va_D A (ws ++ [(q, .inl (cL, N', .inr (.inl (fun _ => 0))))]) → va_S A H0 H1 locs → W p l e R s m args below meth c H1 locs (cells + 1) (slots + N') Q (F0 m (pc + 2) ls (.ref q :: rest))) : W p l e R s m args below meth c H locs cells slots Q (F0 m pc ls (.int n :: rest)) := by
  refine va_newa (atype := .long) hexec hb harr (ty := .long) rfl hK hP hD hS hA (a0 := (N', .inr (.inl (fun _ => 0)))) (fun cA => rfl) hn hN hbytes hcells hslots hdg (fun q cA H1 hK1 hP1 hD1 hS1 => ?_)
  have e := gK_eq (ty := .long) (fun C h => by cases h) hK1 2 1 rfl rfl
  rw [e] at hP1 hD1
  exact kk q H1 hP1 hD1 hS1
end GS
end
section
theorem hX0_init__methodLink_RX0_3_objectInit : Cond.methodLink RX0 3 objectInit ∈ wsX0_init := by decide +kernel
theorem hX0_init__instanceMethod_objectInit : Cond.instanceMethod objectInit ∈ wsX0_init := by decide +kernel
theorem hX0_init__code_objectInit_0xb1_1_none : Cond.code objectInit ⟨#[0xb1]⟩ 1 none ∈ wsX0_init := by decide +kernel
theorem hX0_init__arrayClass_int : Cond.arrayClass .int ∈ wsX0_init := by decide +kernel
theorem inX0_init_X0 : ∀ q ∈ wsX00, q ∈ wsX0_init := by decide +kernel
theorem hX0_init__fieldLink_RX0_9_MakeupGas_Stock_left_I_ : Cond.fieldLink RX0 9 "MakeupGas$Stock" "left" "[I" ∈ wsX0_init := by decide +kernel
theorem hX0_init__fieldLink_RX0_15_MakeupGas_Stock_yearsKept_I_ : Cond.fieldLink RX0 15 "MakeupGas$Stock" "yearsKept" "I" ∈ wsX0_init := by decide +kernel
set_option maxHeartbeats 8000000 in
set_option maxRecDepth 100000 in
theorem c_X0_init (l : Launch) (D : va_G) (sz : Nat) (h : Nat) (cI cL : ClassId) (k : Int32) : gCs (S := Nat) l yX0_init wsX0_init ({ frames := 1, cells := 1, slots := 20, locals := 20 } : Room) D [(cI, .int), (cL, .long)] [.ref h, .int k] [(h, .inr (0, [.null, .int 0, .int 0]))] (fun _ => True) (fun r => wK h r cI (fun _ => 0) k 0) 1 20 sz := by
  refine gm_s (cc := cX0_init) (maxL := 2) (by decide) rfl (Nat.le_of_ble_eq_true rfl) ?_
  intro pg en s m args below meth cd A ls hx hb hr hml hown hts hlocks hin hA hK hP hD hl
  have hl : lv_has ls 2 [(0, .ref h), (1, .int k)] := hl
  have hS : va_S A s.heap s.heap [] := va_S.rf
  refine lv_aload_n hx hb dX0_init_0 rfl (lv_at hl 0 rfl) ?_
  refine W.objInit hx hb hown (hts _ hX0_init__methodLink_RX0_3_objectInit) (hts _ hX0_init__instanceMethod_objectInit) (hts _ hX0_init__code_objectInit_0xb1_1_none) rfl (by rw [hml]; exact hl.1) rfl dX0_init_1 (Nat.le_of_ble_eq_true rfl) (Nat.le_of_ble_eq_true rfl) ?_
  refine W.eq (g2 := F0 m 4 ls []) rfl ?_
  refine lv_aload_n hx hb dX0_init_4 rfl (lv_at hl 0 rfl) ?_
  refine lv_bipush (v := 20) hx hb dX0_init_5 (by decide) ?_
  refine gn_I (N' := 20) hx hb (hts _ hX0_init__arrayClass_int) hK hP hD hS hA (by decide) (by decide) (Nat.le_of_ble_eq_true rfl) (Nat.le_of_ble_eq_true rfl) (Nat.le_of_ble_eq_true rfl) dX0_init_7 (fun q_1 H hP hD hS => ?_)
  have hP : va_P D vwCl [(h, .inr (0, [.null, .int 0, .int 0])), (q_1, .inl (cI, 20, .inl (fun _ => 0)))] H := hP
  have hD : va_D A [(h, .inr (0, [.null, .int 0, .int 0])), (q_1, .inl (cI, 20, .inl (fun _ => 0)))] := hD
  refine va_putF (D := D) (ci := 0) (v := .ref q_1) (ty := .array .int) (C := RX0) (T := TX0) (N := 3) hx hb hts inX0_init_X0 tyX0 tyX0_ok nmX0 hown hK hP hD hS 0 rfl rfl 0 (by decide) (hts _ hX0_init__fieldLink_RX0_9_MakeupGas_Stock_left_I_) (fun _ h9 => h9) rfl hin rfl (by decide +kernel) rfl rfl (Nat.le_of_ble_eq_true rfl) dX0_init_9 (fun H locs hP hD hS => ?_)
  have hP : va_P D vwCl [(h, .inr (0, [.ref q_1, .int 0, .int 0])), (q_1, .inl (cI, 20, .inl (fun _ => 0)))] H := hP
  have hD : va_D A [(h, .inr (0, [.ref q_1, .int 0, .int 0])), (q_1, .inl (cI, 20, .inl (fun _ => 0)))] := hD
  refine lv_aload_n hx hb dX0_init_12 rfl (lv_at hl 0 rfl) ?_
  refine lv_iload_n hx hb dX0_init_13 rfl (lv_at hl 1 rfl) ?_
  refine va_put (D := D) (ci := 0) (v := .int k) (ty := .int) (C := RX0) (T := TX0) (N := 3) hx hb hts inX0_init_X0 tyX0 tyX0_ok nmX0 hown hK hP hD hS 0 rfl rfl 1 (by decide) (hts _ hX0_init__fieldLink_RX0_15_MakeupGas_Stock_yearsKept_I_) (fun _ h9 => h9) (by decide +kernel) (by decide +kernel) rfl rfl (Nat.le_of_ble_eq_true rfl) dX0_init_14 (fun H locs hP hD hS => ?_)
  have hP : va_P D vwCl [(h, .inr (0, [.ref q_1, .int k, .int 0])), (q_1, .inl (cI, 20, .inl (fun _ => 0)))] H := hP
  have hD : va_D A [(h, .inr (0, [.ref q_1, .int k, .int 0])), (q_1, .inl (cI, 20, .inl (fun _ => 0)))] := hD
  exact ge_s (S := Nat) q_1 trivial hx hb hr hlocks hK hP hD hS (Nat.le_of_ble_eq_true rfl) (Nat.le_of_ble_eq_true rfl) dX0_init_17
theorem hX1_init__methodLink_RX1_1_objectInit : Cond.methodLink RX1 1 objectInit ∈ wsX1_init := by decide +kernel
theorem hX1_init__instanceMethod_objectInit : Cond.instanceMethod objectInit ∈ wsX1_init := by decide +kernel
theorem hX1_init__code_objectInit_0xb1_1_none : Cond.code objectInit ⟨#[0xb1]⟩ 1 none ∈ wsX1_init := by decide +kernel
theorem hX1_init__constant_RX1_9_36000_ : Cond.constant RX1 9 (36000) ∈ wsX1_init := by decide +kernel
theorem inX1_init_X1 : ∀ q ∈ wsX10, q ∈ wsX1_init := by decide +kernel
theorem hX1_init__fieldLink_RX1_10_MakeupGas_yearlyQuantity_I_ : Cond.fieldLink RX1 10 "MakeupGas" "yearlyQuantity" "I" ∈ wsX1_init := by decide +kernel
theorem hX1_init__fieldLink_RX1_14_MakeupGas_leastPercent_I_ : Cond.fieldLink RX1 14 "MakeupGas" "leastPercent" "I" ∈ wsX1_init := by decide +kernel
theorem hX1_init__fieldLink_RX1_17_MakeupGas_shortfallPercent_I_ : Cond.fieldLink RX1 17 "MakeupGas" "shortfallPercent" "I" ∈ wsX1_init := by decide +kernel
theorem hX1_init__arrayClass_int : Cond.arrayClass .int ∈ wsX1_init := by decide +kernel
theorem hX1_init__fieldLink_RX1_20_MakeupGas_pricePerYear_I_ : Cond.fieldLink RX1 20 "MakeupGas" "pricePerYear" "[I" ∈ wsX1_init := by decide +kernel
theorem hX1_init__fieldLink_RX1_30_MakeupGas_excusedDays_I_ : Cond.fieldLink RX1 30 "MakeupGas" "excusedDays" "[I" ∈ wsX1_init := by decide +kernel
theorem hX1_init__fieldLink_RX1_33_MakeupGas_takenPerDay_I_ : Cond.fieldLink RX1 33 "MakeupGas" "takenPerDay" "[I" ∈ wsX1_init := by decide +kernel
theorem hX1_init__fieldLink_RX1_36_MakeupGas_takenPerYear_I_ : Cond.fieldLink RX1 36 "MakeupGas" "takenPerYear" "[I" ∈ wsX1_init := by decide +kernel
theorem inX1_init_X0 : ∀ q ∈ wsX00, q ∈ wsX1_init := by decide +kernel
theorem hX1_init__classLink_RX1_39_RX0 : Cond.classLink RX1 39 RX0 ∈ wsX1_init := by decide +kernel
theorem hX1_init__instantiable_RX0_3 : Cond.instantiable RX0 3 ∈ wsX1_init := by decide +kernel
theorem hX1_init__initialized_RX0 : Cond.initialized RX0 ∈ wsX1_init := by decide +kernel
theorem hX1_init__methodLink_RX1_41_yX0_init : Cond.methodLink RX1 41 yX0_init ∈ wsX1_init := by decide +kernel
theorem hX1_init__instanceMethod_yX0_init : Cond.instanceMethod yX0_init ∈ wsX1_init := by decide +kernel
theorem hX1_init__fieldLink_RX1_44_MakeupGas_makeUpStock_LMakeupGas_Stock_ : Cond.fieldLink RX1 44 "MakeupGas" "makeUpStock" "LMakeupGas$Stock;" ∈ wsX1_init := by decide +kernel
theorem hX1_init__fieldLink_RX1_48_MakeupGas_surplusStock_LMakeupGas_Stock_ : Cond.fieldLink RX1 48 "MakeupGas" "surplusStock" "LMakeupGas$Stock;" ∈ wsX1_init := by decide +kernel
theorem hX1_init__fieldLink_RX1_51_MakeupGas_shortfallPerYear_I_ : Cond.fieldLink RX1 51 "MakeupGas" "shortfallPerYear" "[I" ∈ wsX1_init := by decide +kernel
theorem hX1_init__fieldLink_RX1_54_MakeupGas_madeUpPerYear_I_ : Cond.fieldLink RX1 54 "MakeupGas" "madeUpPerYear" "[I" ∈ wsX1_init := by decide +kernel
theorem hX1_init__fieldLink_RX1_57_MakeupGas_coveredPerYear_I_ : Cond.fieldLink RX1 57 "MakeupGas" "coveredPerYear" "[I" ∈ wsX1_init := by decide +kernel
theorem hX1_init__fieldLink_RX1_60_MakeupGas_surplusPerYear_I_ : Cond.fieldLink RX1 60 "MakeupGas" "surplusPerYear" "[I" ∈ wsX1_init := by decide +kernel
theorem hX1_init__arrayClass_long : Cond.arrayClass .long ∈ wsX1_init := by decide +kernel
theorem hX1_init__fieldLink_RX1_63_MakeupGas_duePerYear_J_ : Cond.fieldLink RX1 63 "MakeupGas" "duePerYear" "[J" ∈ wsX1_init := by decide +kernel
theorem hX1_init__fieldLink_RX1_67_MakeupGas_billPerYear_J_ : Cond.fieldLink RX1 67 "MakeupGas" "billPerYear" "[J" ∈ wsX1_init := by decide +kernel
set_option maxHeartbeats 8000000 in
set_option maxRecDepth 100000 in
theorem c_X1_init (l : Launch) (D : va_G) (sz : Nat) (h : Nat) (cI cL : ClassId) : gCs (S := (Nat → Nat)) l yX1_init wsX1_init ({ frames := 2, cells := 14, slots := 586, locals := 41 } : Room) D [(cI, .int), (cL, .long)] [.ref h] [(h, .inr (1, [.int 0, .int 0, .int 0, .null, .null, .int 0, .null, .null, .null, .null, .null, .null, .null, .null, .null, .null, .long 0]))] (fun ad : Nat → Nat => ad 0 = h) (fun ad : Nat → Nat => wG ad cI cL 36000 80 100 (fun _ => 100) (fun _ => 0) (nI 0) (fun _ => 0) (fun _ => 0) (fun _ => 0) (nI 3) 0 (fun _ => 0) (nI 2) 0 (fun _ => 0) (fun _ => 0) (fun _ => 0) (fun _ => 0) (fun _ => 0) (fun _ => 0) 0) 14 586 sz := by
  refine gm_s (cc := cX1_init) (maxL := 1) (by decide) rfl (Nat.le_of_ble_eq_true rfl) ?_
  intro pg en s m args below meth cd A ls hx hb hr hml hown hts hlocks hin hA hK hP hD hl
  have hl : lv_has ls 1 [(0, .ref h)] := hl
  have hS : va_S A s.heap s.heap [] := va_S.rf
  refine lv_aload_n hx hb dX1_init_0 rfl (lv_at hl 0 rfl) ?_
  refine W.objInit hx hb hown (hts _ hX1_init__methodLink_RX1_1_objectInit) (hts _ hX1_init__instanceMethod_objectInit) (hts _ hX1_init__code_objectInit_0xb1_1_none) rfl (by rw [hml]; exact hl.1) rfl dX1_init_1 (Nat.le_of_ble_eq_true rfl) (Nat.le_of_ble_eq_true rfl) ?_
  refine W.eq (g2 := F0 m 4 ls []) rfl ?_
  refine lv_aload_n hx hb dX1_init_4 rfl (lv_at hl 0 rfl) ?_
  refine lv_ldc (v := 36000) hx hb hown (hts _ hX1_init__constant_RX1_9_36000_) dX1_init_5 ?_
  refine va_put (D := D) (ci := 1) (v := .int 36000) (ty := .int) (C := RX1) (T := TX1) (N := 17) hx hb hts inX1_init_X1 tyX1 tyX1_ok nmX1 hown hK hP hD hS 0 rfl rfl 0 (by decide) (hts _ hX1_init__fieldLink_RX1_10_MakeupGas_yearlyQuantity_I_) (fun _ h9 => h9) (by decide +kernel) (by decide +kernel) rfl rfl (Nat.le_of_ble_eq_true rfl) dX1_init_7 (fun H locs hP hD hS => ?_)
  have hP : va_P D vwCl [(h, .inr (1, [.int 36000, .int 0, .int 0, .null, .null, .int 0, .null, .null, .null, .null, .null, .null, .null, .null, .null, .null, .long 0]))] H := hP
  have hD : va_D A [(h, .inr (1, [.int 36000, .int 0, .int 0, .null, .null, .int 0, .null, .null, .null, .null, .null, .null, .null, .null, .null, .null, .long 0]))] := hD
  refine lv_aload_n hx hb dX1_init_10 rfl (lv_at hl 0 rfl) ?_
  refine lv_bipush (v := 80) hx hb dX1_init_11 (by decide) ?_
  refine va_put (D := D) (ci := 1) (v := .int 80) (ty := .int) (C := RX1) (T := TX1) (N := 17) hx hb hts inX1_init_X1 tyX1 tyX1_ok nmX1 hown hK hP hD hS 0 rfl rfl 1 (by decide) (hts _ hX1_init__fieldLink_RX1_14_MakeupGas_leastPercent_I_) (fun _ h9 => h9) (by decide +kernel) (by decide +kernel) rfl rfl (Nat.le_of_ble_eq_true rfl) dX1_init_13 (fun H locs hP hD hS => ?_)
  have hP : va_P D vwCl [(h, .inr (1, [.int 36000, .int 80, .int 0, .null, .null, .int 0, .null, .null, .null, .null, .null, .null, .null, .null, .null, .null, .long 0]))] H := hP
  have hD : va_D A [(h, .inr (1, [.int 36000, .int 80, .int 0, .null, .null, .int 0, .null, .null, .null, .null, .null, .null, .null, .null, .null, .null, .long 0]))] := hD
  refine lv_aload_n hx hb dX1_init_16 rfl (lv_at hl 0 rfl) ?_
  refine lv_bipush (v := 100) hx hb dX1_init_17 (by decide) ?_
  refine va_put (D := D) (ci := 1) (v := .int 100) (ty := .int) (C := RX1) (T := TX1) (N := 17) hx hb hts inX1_init_X1 tyX1 tyX1_ok nmX1 hown hK hP hD hS 0 rfl rfl 2 (by decide) (hts _ hX1_init__fieldLink_RX1_17_MakeupGas_shortfallPercent_I_) (fun _ h9 => h9) (by decide +kernel) (by decide +kernel) rfl rfl (Nat.le_of_ble_eq_true rfl) dX1_init_19 (fun H locs hP hD hS => ?_)
  have hP : va_P D vwCl [(h, .inr (1, [.int 36000, .int 80, .int 100, .null, .null, .int 0, .null, .null, .null, .null, .null, .null, .null, .null, .null, .null, .long 0]))] H := hP
  have hD : va_D A [(h, .inr (1, [.int 36000, .int 80, .int 100, .null, .null, .int 0, .null, .null, .null, .null, .null, .null, .null, .null, .null, .null, .long 0]))] := hD
  refine lv_aload_n hx hb dX1_init_22 rfl (lv_at hl 0 rfl) ?_
  refine lv_bipush (v := 20) hx hb dX1_init_23 (by decide) ?_
  refine gn_I (N' := 20) hx hb (hts _ hX1_init__arrayClass_int) hK hP hD hS hA (by decide) (by decide) (Nat.le_of_ble_eq_true rfl) (Nat.le_of_ble_eq_true rfl) (Nat.le_of_ble_eq_true rfl) dX1_init_25 (fun q_1 H hP hD hS => ?_)
  have hP : va_P D vwCl [(h, .inr (1, [.int 36000, .int 80, .int 100, .null, .null, .int 0, .null, .null, .null, .null, .null, .null, .null, .null, .null, .null, .long 0])), (q_1, .inl (cI, 20, .inl (fun _ => 0)))] H := hP
  have hD : va_D A [(h, .inr (1, [.int 36000, .int 80, .int 100, .null, .null, .int 0, .null, .null, .null, .null, .null, .null, .null, .null, .null, .null, .long 0])), (q_1, .inl (cI, 20, .inl (fun _ => 0)))] := hD
  refine va_putF (D := D) (ci := 1) (v := .ref q_1) (ty := .array .int) (C := RX1) (T := TX1) (N := 17) hx hb hts inX1_init_X1 tyX1 tyX1_ok nmX1 hown hK hP hD hS 0 rfl rfl 3 (by decide) (hts _ hX1_init__fieldLink_RX1_20_MakeupGas_pricePerYear_I_) (fun _ h9 => h9) rfl hin rfl (by decide +kernel) rfl rfl (Nat.le_of_ble_eq_true rfl) dX1_init_27 (fun H locs hP hD hS => ?_)
  have hP : va_P D vwCl [(h, .inr (1, [.int 36000, .int 80, .int 100, .ref q_1, .null, .int 0, .null, .null, .null, .null, .null, .null, .null, .null, .null, .null, .long 0])), (q_1, .inl (cI, 20, .inl (fun _ => 0)))] H := hP
  have hD : va_D A [(h, .inr (1, [.int 36000, .int 80, .int 100, .ref q_1, .null, .int 0, .null, .null, .null, .null, .null, .null, .null, .null, .null, .null, .long 0])), (q_1, .inl (cI, 20, .inl (fun _ => 0)))] := hD
  refine lv_aload_n hx hb dX1_init_30 rfl (lv_at hl 0 rfl) ?_
  refine va_get (D := D) (ci := 1) (C := RX1) (T := TX1) (N := 17) hx hb hts inX1_init_X1 hown hK hP 0 rfl rfl 3 (by decide) (hts _ hX1_init__fieldLink_RX1_20_MakeupGas_pricePerYear_I_) (fun _ h9 => h9) rfl dX1_init_31 ?_
  refine lv_bipush (v := 100) hx hb dX1_init_34 (by decide) ?_
  refine gS_v (wc := [(q_1, .inl (cI, 20, .inl (fun _ => 0)))]) (wr := [(h, .inr (1, [.int 36000, .int 80, .int 100, .ref q_1, .null, .int 0, .null, .null, .null, .null, .null, .null, .null, .null, .null, .null, .long 0]))]) (w1 := [(q_1, .inl (cI, 20, .inl (fun _ => 100)))]) (W' := [(h, .inr (1, [.int 36000, .int 80, .int 100, .ref q_1, .null, .int 0, .null, .null, .null, .null, .null, .null, .null, .null, .null, .null, .long 0])), (q_1, .inl (cI, 20, .inl (fun _ => 100)))]) (As := [.ref q_1, .int 100]) (rest := []) ⟨hx, hb, hml, hown, hts⟩ (c_J7_fill_53178 l D H.size q_1 20 cI cL (fun _ => 0) 100 (by decide)) (va_cwS 2 hts gX1_init_J7_fill_53178 rfl rfl rfl (by decide +kernel) ⟨(Nat.le_of_ble_eq_true rfl), (Nat.le_of_ble_eq_true rfl)⟩) hS hA hK hP hD [0, 1] rfl [1] [0] [0, 1] rfl (by decide) rfl (by decide) (by decide) rfl (by decide) rfl hl.1 rfl (Nat.le_of_ble_eq_true rfl) dX1_init_36 ⟨(Nat.le_of_ble_eq_true rfl), (Nat.le_of_ble_eq_true rfl)⟩ (fun H locs _ hP hD hS => ?_)
  refine lv_aload_n hx hb dX1_init_39 rfl (lv_at hl 0 rfl) ?_
  refine lv_bipush (v := 20) hx hb dX1_init_40 (by decide) ?_
  refine gn_I (N' := 20) hx hb (hts _ hX1_init__arrayClass_int) hK hP hD hS hA (by decide) (by decide) (Nat.le_of_ble_eq_true rfl) (Nat.le_of_ble_eq_true rfl) (Nat.le_of_ble_eq_true rfl) dX1_init_42 (fun q_2 H hP hD hS => ?_)
  have hP : va_P D vwCl [(h, .inr (1, [.int 36000, .int 80, .int 100, .ref q_1, .null, .int 0, .null, .null, .null, .null, .null, .null, .null, .null, .null, .null, .long 0])), (q_1, .inl (cI, 20, .inl (fun _ => 100))), (q_2, .inl (cI, 20, .inl (fun _ => 0)))] H := hP
  have hD : va_D A [(h, .inr (1, [.int 36000, .int 80, .int 100, .ref q_1, .null, .int 0, .null, .null, .null, .null, .null, .null, .null, .null, .null, .null, .long 0])), (q_1, .inl (cI, 20, .inl (fun _ => 100))), (q_2, .inl (cI, 20, .inl (fun _ => 0)))] := hD
  refine va_putF (D := D) (ci := 1) (v := .ref q_2) (ty := .array .int) (C := RX1) (T := TX1) (N := 17) hx hb hts inX1_init_X1 tyX1 tyX1_ok nmX1 hown hK hP hD hS 0 rfl rfl 4 (by decide) (hts _ hX1_init__fieldLink_RX1_30_MakeupGas_excusedDays_I_) (fun _ h9 => h9) rfl hin rfl (by decide +kernel) rfl rfl (Nat.le_of_ble_eq_true rfl) dX1_init_44 (fun H locs hP hD hS => ?_)
  have hP : va_P D vwCl [(h, .inr (1, [.int 36000, .int 80, .int 100, .ref q_1, .ref q_2, .int 0, .null, .null, .null, .null, .null, .null, .null, .null, .null, .null, .long 0])), (q_1, .inl (cI, 20, .inl (fun _ => 100))), (q_2, .inl (cI, 20, .inl (fun _ => 0)))] H := hP
  have hD : va_D A [(h, .inr (1, [.int 36000, .int 80, .int 100, .ref q_1, .ref q_2, .int 0, .null, .null, .null, .null, .null, .null, .null, .null, .null, .null, .long 0])), (q_1, .inl (cI, 20, .inl (fun _ => 100))), (q_2, .inl (cI, 20, .inl (fun _ => 0)))] := hD
  refine lv_aload_n hx hb dX1_init_47 rfl (lv_at hl 0 rfl) ?_
  refine lv_sipush (v := 360) hx hb dX1_init_48 (by decide) ?_
  refine gn_I (N' := 360) hx hb (hts _ hX1_init__arrayClass_int) hK hP hD hS hA (by decide) (by decide) (Nat.le_of_ble_eq_true rfl) (Nat.le_of_ble_eq_true rfl) (Nat.le_of_ble_eq_true rfl) dX1_init_51 (fun q_3 H hP hD hS => ?_)
  have hP : va_P D vwCl [(h, .inr (1, [.int 36000, .int 80, .int 100, .ref q_1, .ref q_2, .int 0, .null, .null, .null, .null, .null, .null, .null, .null, .null, .null, .long 0])), (q_1, .inl (cI, 20, .inl (fun _ => 100))), (q_2, .inl (cI, 20, .inl (fun _ => 0))), (q_3, .inl (cI, 360, .inl (fun _ => 0)))] H := hP
  have hD : va_D A [(h, .inr (1, [.int 36000, .int 80, .int 100, .ref q_1, .ref q_2, .int 0, .null, .null, .null, .null, .null, .null, .null, .null, .null, .null, .long 0])), (q_1, .inl (cI, 20, .inl (fun _ => 100))), (q_2, .inl (cI, 20, .inl (fun _ => 0))), (q_3, .inl (cI, 360, .inl (fun _ => 0)))] := hD
  refine va_putF (D := D) (ci := 1) (v := .ref q_3) (ty := .array .int) (C := RX1) (T := TX1) (N := 17) hx hb hts inX1_init_X1 tyX1 tyX1_ok nmX1 hown hK hP hD hS 0 rfl rfl 6 (by decide) (hts _ hX1_init__fieldLink_RX1_33_MakeupGas_takenPerDay_I_) (fun _ h9 => h9) rfl hin rfl (by decide +kernel) rfl rfl (Nat.le_of_ble_eq_true rfl) dX1_init_53 (fun H locs hP hD hS => ?_)
  have hP : va_P D vwCl [(h, .inr (1, [.int 36000, .int 80, .int 100, .ref q_1, .ref q_2, .int 0, .ref q_3, .null, .null, .null, .null, .null, .null, .null, .null, .null, .long 0])), (q_1, .inl (cI, 20, .inl (fun _ => 100))), (q_2, .inl (cI, 20, .inl (fun _ => 0))), (q_3, .inl (cI, 360, .inl (fun _ => 0)))] H := hP
  have hD : va_D A [(h, .inr (1, [.int 36000, .int 80, .int 100, .ref q_1, .ref q_2, .int 0, .ref q_3, .null, .null, .null, .null, .null, .null, .null, .null, .null, .long 0])), (q_1, .inl (cI, 20, .inl (fun _ => 100))), (q_2, .inl (cI, 20, .inl (fun _ => 0))), (q_3, .inl (cI, 360, .inl (fun _ => 0)))] := hD
  refine lv_aload_n hx hb dX1_init_56 rfl (lv_at hl 0 rfl) ?_
  refine lv_bipush (v := 20) hx hb dX1_init_57 (by decide) ?_
  refine gn_I (N' := 20) hx hb (hts _ hX1_init__arrayClass_int) hK hP hD hS hA (by decide) (by decide) (Nat.le_of_ble_eq_true rfl) (Nat.le_of_ble_eq_true rfl) (Nat.le_of_ble_eq_true rfl) dX1_init_59 (fun q_4 H hP hD hS => ?_)
  have hP : va_P D vwCl [(h, .inr (1, [.int 36000, .int 80, .int 100, .ref q_1, .ref q_2, .int 0, .ref q_3, .null, .null, .null, .null, .null, .null, .null, .null, .null, .long 0])), (q_1, .inl (cI, 20, .inl (fun _ => 100))), (q_2, .inl (cI, 20, .inl (fun _ => 0))), (q_3, .inl (cI, 360, .inl (fun _ => 0))), (q_4, .inl (cI, 20, .inl (fun _ => 0)))] H := hP
  have hD : va_D A [(h, .inr (1, [.int 36000, .int 80, .int 100, .ref q_1, .ref q_2, .int 0, .ref q_3, .null, .null, .null, .null, .null, .null, .null, .null, .null, .long 0])), (q_1, .inl (cI, 20, .inl (fun _ => 100))), (q_2, .inl (cI, 20, .inl (fun _ => 0))), (q_3, .inl (cI, 360, .inl (fun _ => 0))), (q_4, .inl (cI, 20, .inl (fun _ => 0)))] := hD
  refine va_putF (D := D) (ci := 1) (v := .ref q_4) (ty := .array .int) (C := RX1) (T := TX1) (N := 17) hx hb hts inX1_init_X1 tyX1 tyX1_ok nmX1 hown hK hP hD hS 0 rfl rfl 7 (by decide) (hts _ hX1_init__fieldLink_RX1_36_MakeupGas_takenPerYear_I_) (fun _ h9 => h9) rfl hin rfl (by decide +kernel) rfl rfl (Nat.le_of_ble_eq_true rfl) dX1_init_61 (fun H locs hP hD hS => ?_)
  have hP : va_P D vwCl [(h, .inr (1, [.int 36000, .int 80, .int 100, .ref q_1, .ref q_2, .int 0, .ref q_3, .ref q_4, .null, .null, .null, .null, .null, .null, .null, .null, .long 0])), (q_1, .inl (cI, 20, .inl (fun _ => 100))), (q_2, .inl (cI, 20, .inl (fun _ => 0))), (q_3, .inl (cI, 360, .inl (fun _ => 0))), (q_4, .inl (cI, 20, .inl (fun _ => 0)))] H := hP
  have hD : va_D A [(h, .inr (1, [.int 36000, .int 80, .int 100, .ref q_1, .ref q_2, .int 0, .ref q_3, .ref q_4, .null, .null, .null, .null, .null, .null, .null, .null, .long 0])), (q_1, .inl (cI, 20, .inl (fun _ => 100))), (q_2, .inl (cI, 20, .inl (fun _ => 0))), (q_3, .inl (cI, 360, .inl (fun _ => 0))), (q_4, .inl (cI, 20, .inl (fun _ => 0)))] := hD
  refine lv_aload_n hx hb dX1_init_64 rfl (lv_at hl 0 rfl) ?_
  refine va_new (D := D) (ci := 0) (fs := [.null, .int 0, .int 0]) (C := RX0) (T := TX0) (N := 3) hx hb hts inX1_init_X0 tyX0 tyX0_ok hown (hts _ hX1_init__classLink_RX1_39_RX0) (hts _ hX1_init__instantiable_RX0_3) (hts _ hX1_init__initialized_RX0) hK hP hD hS hA rfl (fun j hj => by rcases (show j = 0 ∨ j = 1 ∨ j = 2 by omega) with rfl | rfl | rfl <;> rfl) (Nat.le_of_ble_eq_true rfl) (Nat.le_of_ble_eq_true rfl) dX1_init_65 (fun q_5 H hP hD hS => ?_)
  have hP : va_P D vwCl [(h, .inr (1, [.int 36000, .int 80, .int 100, .ref q_1, .ref q_2, .int 0, .ref q_3, .ref q_4, .null, .null, .null, .null, .null, .null, .null, .null, .long 0])), (q_1, .inl (cI, 20, .inl (fun _ => 100))), (q_2, .inl (cI, 20, .inl (fun _ => 0))), (q_3, .inl (cI, 360, .inl (fun _ => 0))), (q_4, .inl (cI, 20, .inl (fun _ => 0))), (q_5, .inr (0, [.null, .int 0, .int 0]))] H := hP
  have hD : va_D A [(h, .inr (1, [.int 36000, .int 80, .int 100, .ref q_1, .ref q_2, .int 0, .ref q_3, .ref q_4, .null, .null, .null, .null, .null, .null, .null, .null, .long 0])), (q_1, .inl (cI, 20, .inl (fun _ => 100))), (q_2, .inl (cI, 20, .inl (fun _ => 0))), (q_3, .inl (cI, 360, .inl (fun _ => 0))), (q_4, .inl (cI, 20, .inl (fun _ => 0))), (q_5, .inr (0, [.null, .int 0, .int 0]))] := hD
  refine lv_dup hx hb dX1_init_68 rfl ?_
  refine lv_iconst (v := 3) hx hb dX1_init_69 (by decide) ?_
  refine gI_s (S := Nat) (w1 := fun r => wK q_5 r cI (fun _ => 0) 3 0) (wc := [(q_5, .inr (0, [.null, .int 0, .int 0]))]) (wr := [(h, .inr (1, [.int 36000, .int 80, .int 100, .ref q_1, .ref q_2, .int 0, .ref q_3, .ref q_4, .null, .null, .null, .null, .null, .null, .null, .null, .long 0])), (q_1, .inl (cI, 20, .inl (fun _ => 100))), (q_2, .inl (cI, 20, .inl (fun _ => 0))), (q_3, .inl (cI, 360, .inl (fun _ => 0))), (q_4, .inl (cI, 20, .inl (fun _ => 0)))]) (W' := fun r_6 => [(h, .inr (1, [.int 36000, .int 80, .int 100, .ref q_1, .ref q_2, .int 0, .ref q_3, .ref q_4, .null, .null, .null, .null, .null, .null, .null, .null, .long 0])), (q_1, .inl (cI, 20, .inl (fun _ => 100))), (q_2, .inl (cI, 20, .inl (fun _ => 0))), (q_3, .inl (cI, 360, .inl (fun _ => 0))), (q_4, .inl (cI, 20, .inl (fun _ => 0))), (q_5, .inr (0, [.ref r_6, .int 3, .int 0])), (r_6, .inl (cI, 20, .inl (fun _ => 0)))]) (As := [.int 3]) (rest := [.ref q_5, .ref h]) ⟨hx, hb, hml, hown, hts⟩ (c_X0_init l D H.size q_5 cI cL 3) (cwI 1 hts ggX1_init_X0_init rfl rfl rfl (hts _ hX1_init__initialized_RX0) (hts _ hX1_init__methodLink_RX1_41_yX0_init) (hts _ hX1_init__instanceMethod_yX0_init) rfl (by decide +kernel) ⟨(Nat.le_of_ble_eq_true rfl), (Nat.le_of_ble_eq_true rfl)⟩) hS hA hK hP hD [0, 1] rfl [5] [0, 1, 2, 3, 4] [0, 1, 2, 3, 4, 5, 6] rfl (by decide) rfl (by decide) (by decide) (fun _ => rfl) (by decide) rfl hl.1 rfl (Nat.le_of_ble_eq_true rfl) dX1_init_70 ⟨(Nat.le_of_ble_eq_true rfl), (Nat.le_of_ble_eq_true rfl)⟩ (fun r_6 H locs _ hP hD hS => ?_)
  have hP : va_P D vwCl [(h, .inr (1, [.int 36000, .int 80, .int 100, .ref q_1, .ref q_2, .int 0, .ref q_3, .ref q_4, .null, .null, .null, .null, .null, .null, .null, .null, .long 0])), (q_1, .inl (cI, 20, .inl (fun _ => 100))), (q_2, .inl (cI, 20, .inl (fun _ => 0))), (q_3, .inl (cI, 360, .inl (fun _ => 0))), (q_4, .inl (cI, 20, .inl (fun _ => 0))), (q_5, .inr (0, [.ref r_6, .int 3, .int 0])), (r_6, .inl (cI, 20, .inl (fun _ => 0)))] H := hP
  have hD : va_D A [(h, .inr (1, [.int 36000, .int 80, .int 100, .ref q_1, .ref q_2, .int 0, .ref q_3, .ref q_4, .null, .null, .null, .null, .null, .null, .null, .null, .long 0])), (q_1, .inl (cI, 20, .inl (fun _ => 100))), (q_2, .inl (cI, 20, .inl (fun _ => 0))), (q_3, .inl (cI, 360, .inl (fun _ => 0))), (q_4, .inl (cI, 20, .inl (fun _ => 0))), (q_5, .inr (0, [.ref r_6, .int 3, .int 0])), (r_6, .inl (cI, 20, .inl (fun _ => 0)))] := hD
  refine va_putF (D := D) (ci := 1) (v := .ref q_5) (ty := .object "MakeupGas$Stock") (C := RX1) (T := TX1) (N := 17) hx hb hts inX1_init_X1 tyX1 tyX1_ok nmX1 hown hK hP hD hS 0 rfl rfl 8 (by decide) (hts _ hX1_init__fieldLink_RX1_44_MakeupGas_makeUpStock_LMakeupGas_Stock_) (fun _ h9 => h9) rfl hin rfl (by decide +kernel) rfl rfl (Nat.le_of_ble_eq_true rfl) dX1_init_73 (fun H locs hP hD hS => ?_)
  have hP : va_P D vwCl [(h, .inr (1, [.int 36000, .int 80, .int 100, .ref q_1, .ref q_2, .int 0, .ref q_3, .ref q_4, .ref q_5, .null, .null, .null, .null, .null, .null, .null, .long 0])), (q_1, .inl (cI, 20, .inl (fun _ => 100))), (q_2, .inl (cI, 20, .inl (fun _ => 0))), (q_3, .inl (cI, 360, .inl (fun _ => 0))), (q_4, .inl (cI, 20, .inl (fun _ => 0))), (q_5, .inr (0, [.ref r_6, .int 3, .int 0])), (r_6, .inl (cI, 20, .inl (fun _ => 0)))] H := hP
  have hD : va_D A [(h, .inr (1, [.int 36000, .int 80, .int 100, .ref q_1, .ref q_2, .int 0, .ref q_3, .ref q_4, .ref q_5, .null, .null, .null, .null, .null, .null, .null, .long 0])), (q_1, .inl (cI, 20, .inl (fun _ => 100))), (q_2, .inl (cI, 20, .inl (fun _ => 0))), (q_3, .inl (cI, 360, .inl (fun _ => 0))), (q_4, .inl (cI, 20, .inl (fun _ => 0))), (q_5, .inr (0, [.ref r_6, .int 3, .int 0])), (r_6, .inl (cI, 20, .inl (fun _ => 0)))] := hD
  refine lv_aload_n hx hb dX1_init_76 rfl (lv_at hl 0 rfl) ?_
  refine va_new (D := D) (ci := 0) (fs := [.null, .int 0, .int 0]) (C := RX0) (T := TX0) (N := 3) hx hb hts inX1_init_X0 tyX0 tyX0_ok hown (hts _ hX1_init__classLink_RX1_39_RX0) (hts _ hX1_init__instantiable_RX0_3) (hts _ hX1_init__initialized_RX0) hK hP hD hS hA rfl (fun j hj => by rcases (show j = 0 ∨ j = 1 ∨ j = 2 by omega) with rfl | rfl | rfl <;> rfl) (Nat.le_of_ble_eq_true rfl) (Nat.le_of_ble_eq_true rfl) dX1_init_77 (fun q_7 H hP hD hS => ?_)
  have hP : va_P D vwCl [(h, .inr (1, [.int 36000, .int 80, .int 100, .ref q_1, .ref q_2, .int 0, .ref q_3, .ref q_4, .ref q_5, .null, .null, .null, .null, .null, .null, .null, .long 0])), (q_1, .inl (cI, 20, .inl (fun _ => 100))), (q_2, .inl (cI, 20, .inl (fun _ => 0))), (q_3, .inl (cI, 360, .inl (fun _ => 0))), (q_4, .inl (cI, 20, .inl (fun _ => 0))), (q_5, .inr (0, [.ref r_6, .int 3, .int 0])), (r_6, .inl (cI, 20, .inl (fun _ => 0))), (q_7, .inr (0, [.null, .int 0, .int 0]))] H := hP
  have hD : va_D A [(h, .inr (1, [.int 36000, .int 80, .int 100, .ref q_1, .ref q_2, .int 0, .ref q_3, .ref q_4, .ref q_5, .null, .null, .null, .null, .null, .null, .null, .long 0])), (q_1, .inl (cI, 20, .inl (fun _ => 100))), (q_2, .inl (cI, 20, .inl (fun _ => 0))), (q_3, .inl (cI, 360, .inl (fun _ => 0))), (q_4, .inl (cI, 20, .inl (fun _ => 0))), (q_5, .inr (0, [.ref r_6, .int 3, .int 0])), (r_6, .inl (cI, 20, .inl (fun _ => 0))), (q_7, .inr (0, [.null, .int 0, .int 0]))] := hD
  refine lv_dup hx hb dX1_init_80 rfl ?_
  refine lv_iconst (v := 2) hx hb dX1_init_81 (by decide) ?_
  refine gI_s (S := Nat) (w1 := fun r => wK q_7 r cI (fun _ => 0) 2 0) (wc := [(q_7, .inr (0, [.null, .int 0, .int 0]))]) (wr := [(h, .inr (1, [.int 36000, .int 80, .int 100, .ref q_1, .ref q_2, .int 0, .ref q_3, .ref q_4, .ref q_5, .null, .null, .null, .null, .null, .null, .null, .long 0])), (q_1, .inl (cI, 20, .inl (fun _ => 100))), (q_2, .inl (cI, 20, .inl (fun _ => 0))), (q_3, .inl (cI, 360, .inl (fun _ => 0))), (q_4, .inl (cI, 20, .inl (fun _ => 0))), (q_5, .inr (0, [.ref r_6, .int 3, .int 0])), (r_6, .inl (cI, 20, .inl (fun _ => 0)))]) (W' := fun r_8 => [(h, .inr (1, [.int 36000, .int 80, .int 100, .ref q_1, .ref q_2, .int 0, .ref q_3, .ref q_4, .ref q_5, .null, .null, .null, .null, .null, .null, .null, .long 0])), (q_1, .inl (cI, 20, .inl (fun _ => 100))), (q_2, .inl (cI, 20, .inl (fun _ => 0))), (q_3, .inl (cI, 360, .inl (fun _ => 0))), (q_4, .inl (cI, 20, .inl (fun _ => 0))), (q_5, .inr (0, [.ref r_6, .int 3, .int 0])), (r_6, .inl (cI, 20, .inl (fun _ => 0))), (q_7, .inr (0, [.ref r_8, .int 2, .int 0])), (r_8, .inl (cI, 20, .inl (fun _ => 0)))]) (As := [.int 2]) (rest := [.ref q_7, .ref h]) ⟨hx, hb, hml, hown, hts⟩ (c_X0_init l D H.size q_7 cI cL 2) (cwI 1 hts ggX1_init_X0_init rfl rfl rfl (hts _ hX1_init__initialized_RX0) (hts _ hX1_init__methodLink_RX1_41_yX0_init) (hts _ hX1_init__instanceMethod_yX0_init) rfl (by decide +kernel) ⟨(Nat.le_of_ble_eq_true rfl), (Nat.le_of_ble_eq_true rfl)⟩) hS hA hK hP hD [0, 1] rfl [7] [0, 1, 2, 3, 4, 5, 6] [0, 1, 2, 3, 4, 5, 6, 7, 8] rfl (by decide) rfl (by decide) (by decide) (fun _ => rfl) (by decide) rfl hl.1 rfl (Nat.le_of_ble_eq_true rfl) dX1_init_82 ⟨(Nat.le_of_ble_eq_true rfl), (Nat.le_of_ble_eq_true rfl)⟩ (fun r_8 H locs _ hP hD hS => ?_)
  have hP : va_P D vwCl [(h, .inr (1, [.int 36000, .int 80, .int 100, .ref q_1, .ref q_2, .int 0, .ref q_3, .ref q_4, .ref q_5, .null, .null, .null, .null, .null, .null, .null, .long 0])), (q_1, .inl (cI, 20, .inl (fun _ => 100))), (q_2, .inl (cI, 20, .inl (fun _ => 0))), (q_3, .inl (cI, 360, .inl (fun _ => 0))), (q_4, .inl (cI, 20, .inl (fun _ => 0))), (q_5, .inr (0, [.ref r_6, .int 3, .int 0])), (r_6, .inl (cI, 20, .inl (fun _ => 0))), (q_7, .inr (0, [.ref r_8, .int 2, .int 0])), (r_8, .inl (cI, 20, .inl (fun _ => 0)))] H := hP
  have hD : va_D A [(h, .inr (1, [.int 36000, .int 80, .int 100, .ref q_1, .ref q_2, .int 0, .ref q_3, .ref q_4, .ref q_5, .null, .null, .null, .null, .null, .null, .null, .long 0])), (q_1, .inl (cI, 20, .inl (fun _ => 100))), (q_2, .inl (cI, 20, .inl (fun _ => 0))), (q_3, .inl (cI, 360, .inl (fun _ => 0))), (q_4, .inl (cI, 20, .inl (fun _ => 0))), (q_5, .inr (0, [.ref r_6, .int 3, .int 0])), (r_6, .inl (cI, 20, .inl (fun _ => 0))), (q_7, .inr (0, [.ref r_8, .int 2, .int 0])), (r_8, .inl (cI, 20, .inl (fun _ => 0)))] := hD
  refine va_putF (D := D) (ci := 1) (v := .ref q_7) (ty := .object "MakeupGas$Stock") (C := RX1) (T := TX1) (N := 17) hx hb hts inX1_init_X1 tyX1 tyX1_ok nmX1 hown hK hP hD hS 0 rfl rfl 9 (by decide) (hts _ hX1_init__fieldLink_RX1_48_MakeupGas_surplusStock_LMakeupGas_Stock_) (fun _ h9 => h9) rfl hin rfl (by decide +kernel) rfl rfl (Nat.le_of_ble_eq_true rfl) dX1_init_85 (fun H locs hP hD hS => ?_)
  have hP : va_P D vwCl [(h, .inr (1, [.int 36000, .int 80, .int 100, .ref q_1, .ref q_2, .int 0, .ref q_3, .ref q_4, .ref q_5, .ref q_7, .null, .null, .null, .null, .null, .null, .long 0])), (q_1, .inl (cI, 20, .inl (fun _ => 100))), (q_2, .inl (cI, 20, .inl (fun _ => 0))), (q_3, .inl (cI, 360, .inl (fun _ => 0))), (q_4, .inl (cI, 20, .inl (fun _ => 0))), (q_5, .inr (0, [.ref r_6, .int 3, .int 0])), (r_6, .inl (cI, 20, .inl (fun _ => 0))), (q_7, .inr (0, [.ref r_8, .int 2, .int 0])), (r_8, .inl (cI, 20, .inl (fun _ => 0)))] H := hP
  have hD : va_D A [(h, .inr (1, [.int 36000, .int 80, .int 100, .ref q_1, .ref q_2, .int 0, .ref q_3, .ref q_4, .ref q_5, .ref q_7, .null, .null, .null, .null, .null, .null, .long 0])), (q_1, .inl (cI, 20, .inl (fun _ => 100))), (q_2, .inl (cI, 20, .inl (fun _ => 0))), (q_3, .inl (cI, 360, .inl (fun _ => 0))), (q_4, .inl (cI, 20, .inl (fun _ => 0))), (q_5, .inr (0, [.ref r_6, .int 3, .int 0])), (r_6, .inl (cI, 20, .inl (fun _ => 0))), (q_7, .inr (0, [.ref r_8, .int 2, .int 0])), (r_8, .inl (cI, 20, .inl (fun _ => 0)))] := hD
  refine lv_aload_n hx hb dX1_init_88 rfl (lv_at hl 0 rfl) ?_
  refine lv_bipush (v := 20) hx hb dX1_init_89 (by decide) ?_
  refine gn_I (N' := 20) hx hb (hts _ hX1_init__arrayClass_int) hK hP hD hS hA (by decide) (by decide) (Nat.le_of_ble_eq_true rfl) (Nat.le_of_ble_eq_true rfl) (Nat.le_of_ble_eq_true rfl) dX1_init_91 (fun q_9 H hP hD hS => ?_)
  have hP : va_P D vwCl [(h, .inr (1, [.int 36000, .int 80, .int 100, .ref q_1, .ref q_2, .int 0, .ref q_3, .ref q_4, .ref q_5, .ref q_7, .null, .null, .null, .null, .null, .null, .long 0])), (q_1, .inl (cI, 20, .inl (fun _ => 100))), (q_2, .inl (cI, 20, .inl (fun _ => 0))), (q_3, .inl (cI, 360, .inl (fun _ => 0))), (q_4, .inl (cI, 20, .inl (fun _ => 0))), (q_5, .inr (0, [.ref r_6, .int 3, .int 0])), (r_6, .inl (cI, 20, .inl (fun _ => 0))), (q_7, .inr (0, [.ref r_8, .int 2, .int 0])), (r_8, .inl (cI, 20, .inl (fun _ => 0))), (q_9, .inl (cI, 20, .inl (fun _ => 0)))] H := hP
  have hD : va_D A [(h, .inr (1, [.int 36000, .int 80, .int 100, .ref q_1, .ref q_2, .int 0, .ref q_3, .ref q_4, .ref q_5, .ref q_7, .null, .null, .null, .null, .null, .null, .long 0])), (q_1, .inl (cI, 20, .inl (fun _ => 100))), (q_2, .inl (cI, 20, .inl (fun _ => 0))), (q_3, .inl (cI, 360, .inl (fun _ => 0))), (q_4, .inl (cI, 20, .inl (fun _ => 0))), (q_5, .inr (0, [.ref r_6, .int 3, .int 0])), (r_6, .inl (cI, 20, .inl (fun _ => 0))), (q_7, .inr (0, [.ref r_8, .int 2, .int 0])), (r_8, .inl (cI, 20, .inl (fun _ => 0))), (q_9, .inl (cI, 20, .inl (fun _ => 0)))] := hD
  refine va_putF (D := D) (ci := 1) (v := .ref q_9) (ty := .array .int) (C := RX1) (T := TX1) (N := 17) hx hb hts inX1_init_X1 tyX1 tyX1_ok nmX1 hown hK hP hD hS 0 rfl rfl 10 (by decide) (hts _ hX1_init__fieldLink_RX1_51_MakeupGas_shortfallPerYear_I_) (fun _ h9 => h9) rfl hin rfl (by decide +kernel) rfl rfl (Nat.le_of_ble_eq_true rfl) dX1_init_93 (fun H locs hP hD hS => ?_)
  have hP : va_P D vwCl [(h, .inr (1, [.int 36000, .int 80, .int 100, .ref q_1, .ref q_2, .int 0, .ref q_3, .ref q_4, .ref q_5, .ref q_7, .ref q_9, .null, .null, .null, .null, .null, .long 0])), (q_1, .inl (cI, 20, .inl (fun _ => 100))), (q_2, .inl (cI, 20, .inl (fun _ => 0))), (q_3, .inl (cI, 360, .inl (fun _ => 0))), (q_4, .inl (cI, 20, .inl (fun _ => 0))), (q_5, .inr (0, [.ref r_6, .int 3, .int 0])), (r_6, .inl (cI, 20, .inl (fun _ => 0))), (q_7, .inr (0, [.ref r_8, .int 2, .int 0])), (r_8, .inl (cI, 20, .inl (fun _ => 0))), (q_9, .inl (cI, 20, .inl (fun _ => 0)))] H := hP
  have hD : va_D A [(h, .inr (1, [.int 36000, .int 80, .int 100, .ref q_1, .ref q_2, .int 0, .ref q_3, .ref q_4, .ref q_5, .ref q_7, .ref q_9, .null, .null, .null, .null, .null, .long 0])), (q_1, .inl (cI, 20, .inl (fun _ => 100))), (q_2, .inl (cI, 20, .inl (fun _ => 0))), (q_3, .inl (cI, 360, .inl (fun _ => 0))), (q_4, .inl (cI, 20, .inl (fun _ => 0))), (q_5, .inr (0, [.ref r_6, .int 3, .int 0])), (r_6, .inl (cI, 20, .inl (fun _ => 0))), (q_7, .inr (0, [.ref r_8, .int 2, .int 0])), (r_8, .inl (cI, 20, .inl (fun _ => 0))), (q_9, .inl (cI, 20, .inl (fun _ => 0)))] := hD
  refine lv_aload_n hx hb dX1_init_96 rfl (lv_at hl 0 rfl) ?_
  refine lv_bipush (v := 20) hx hb dX1_init_97 (by decide) ?_
  refine gn_I (N' := 20) hx hb (hts _ hX1_init__arrayClass_int) hK hP hD hS hA (by decide) (by decide) (Nat.le_of_ble_eq_true rfl) (Nat.le_of_ble_eq_true rfl) (Nat.le_of_ble_eq_true rfl) dX1_init_99 (fun q_10 H hP hD hS => ?_)
  have hP : va_P D vwCl [(h, .inr (1, [.int 36000, .int 80, .int 100, .ref q_1, .ref q_2, .int 0, .ref q_3, .ref q_4, .ref q_5, .ref q_7, .ref q_9, .null, .null, .null, .null, .null, .long 0])), (q_1, .inl (cI, 20, .inl (fun _ => 100))), (q_2, .inl (cI, 20, .inl (fun _ => 0))), (q_3, .inl (cI, 360, .inl (fun _ => 0))), (q_4, .inl (cI, 20, .inl (fun _ => 0))), (q_5, .inr (0, [.ref r_6, .int 3, .int 0])), (r_6, .inl (cI, 20, .inl (fun _ => 0))), (q_7, .inr (0, [.ref r_8, .int 2, .int 0])), (r_8, .inl (cI, 20, .inl (fun _ => 0))), (q_9, .inl (cI, 20, .inl (fun _ => 0))), (q_10, .inl (cI, 20, .inl (fun _ => 0)))] H := hP
  have hD : va_D A [(h, .inr (1, [.int 36000, .int 80, .int 100, .ref q_1, .ref q_2, .int 0, .ref q_3, .ref q_4, .ref q_5, .ref q_7, .ref q_9, .null, .null, .null, .null, .null, .long 0])), (q_1, .inl (cI, 20, .inl (fun _ => 100))), (q_2, .inl (cI, 20, .inl (fun _ => 0))), (q_3, .inl (cI, 360, .inl (fun _ => 0))), (q_4, .inl (cI, 20, .inl (fun _ => 0))), (q_5, .inr (0, [.ref r_6, .int 3, .int 0])), (r_6, .inl (cI, 20, .inl (fun _ => 0))), (q_7, .inr (0, [.ref r_8, .int 2, .int 0])), (r_8, .inl (cI, 20, .inl (fun _ => 0))), (q_9, .inl (cI, 20, .inl (fun _ => 0))), (q_10, .inl (cI, 20, .inl (fun _ => 0)))] := hD
  refine va_putF (D := D) (ci := 1) (v := .ref q_10) (ty := .array .int) (C := RX1) (T := TX1) (N := 17) hx hb hts inX1_init_X1 tyX1 tyX1_ok nmX1 hown hK hP hD hS 0 rfl rfl 11 (by decide) (hts _ hX1_init__fieldLink_RX1_54_MakeupGas_madeUpPerYear_I_) (fun _ h9 => h9) rfl hin rfl (by decide +kernel) rfl rfl (Nat.le_of_ble_eq_true rfl) dX1_init_101 (fun H locs hP hD hS => ?_)
  have hP : va_P D vwCl [(h, .inr (1, [.int 36000, .int 80, .int 100, .ref q_1, .ref q_2, .int 0, .ref q_3, .ref q_4, .ref q_5, .ref q_7, .ref q_9, .ref q_10, .null, .null, .null, .null, .long 0])), (q_1, .inl (cI, 20, .inl (fun _ => 100))), (q_2, .inl (cI, 20, .inl (fun _ => 0))), (q_3, .inl (cI, 360, .inl (fun _ => 0))), (q_4, .inl (cI, 20, .inl (fun _ => 0))), (q_5, .inr (0, [.ref r_6, .int 3, .int 0])), (r_6, .inl (cI, 20, .inl (fun _ => 0))), (q_7, .inr (0, [.ref r_8, .int 2, .int 0])), (r_8, .inl (cI, 20, .inl (fun _ => 0))), (q_9, .inl (cI, 20, .inl (fun _ => 0))), (q_10, .inl (cI, 20, .inl (fun _ => 0)))] H := hP
  have hD : va_D A [(h, .inr (1, [.int 36000, .int 80, .int 100, .ref q_1, .ref q_2, .int 0, .ref q_3, .ref q_4, .ref q_5, .ref q_7, .ref q_9, .ref q_10, .null, .null, .null, .null, .long 0])), (q_1, .inl (cI, 20, .inl (fun _ => 100))), (q_2, .inl (cI, 20, .inl (fun _ => 0))), (q_3, .inl (cI, 360, .inl (fun _ => 0))), (q_4, .inl (cI, 20, .inl (fun _ => 0))), (q_5, .inr (0, [.ref r_6, .int 3, .int 0])), (r_6, .inl (cI, 20, .inl (fun _ => 0))), (q_7, .inr (0, [.ref r_8, .int 2, .int 0])), (r_8, .inl (cI, 20, .inl (fun _ => 0))), (q_9, .inl (cI, 20, .inl (fun _ => 0))), (q_10, .inl (cI, 20, .inl (fun _ => 0)))] := hD
  refine lv_aload_n hx hb dX1_init_104 rfl (lv_at hl 0 rfl) ?_
  refine lv_bipush (v := 20) hx hb dX1_init_105 (by decide) ?_
  refine gn_I (N' := 20) hx hb (hts _ hX1_init__arrayClass_int) hK hP hD hS hA (by decide) (by decide) (Nat.le_of_ble_eq_true rfl) (Nat.le_of_ble_eq_true rfl) (Nat.le_of_ble_eq_true rfl) dX1_init_107 (fun q_11 H hP hD hS => ?_)
  have hP : va_P D vwCl [(h, .inr (1, [.int 36000, .int 80, .int 100, .ref q_1, .ref q_2, .int 0, .ref q_3, .ref q_4, .ref q_5, .ref q_7, .ref q_9, .ref q_10, .null, .null, .null, .null, .long 0])), (q_1, .inl (cI, 20, .inl (fun _ => 100))), (q_2, .inl (cI, 20, .inl (fun _ => 0))), (q_3, .inl (cI, 360, .inl (fun _ => 0))), (q_4, .inl (cI, 20, .inl (fun _ => 0))), (q_5, .inr (0, [.ref r_6, .int 3, .int 0])), (r_6, .inl (cI, 20, .inl (fun _ => 0))), (q_7, .inr (0, [.ref r_8, .int 2, .int 0])), (r_8, .inl (cI, 20, .inl (fun _ => 0))), (q_9, .inl (cI, 20, .inl (fun _ => 0))), (q_10, .inl (cI, 20, .inl (fun _ => 0))), (q_11, .inl (cI, 20, .inl (fun _ => 0)))] H := hP
  have hD : va_D A [(h, .inr (1, [.int 36000, .int 80, .int 100, .ref q_1, .ref q_2, .int 0, .ref q_3, .ref q_4, .ref q_5, .ref q_7, .ref q_9, .ref q_10, .null, .null, .null, .null, .long 0])), (q_1, .inl (cI, 20, .inl (fun _ => 100))), (q_2, .inl (cI, 20, .inl (fun _ => 0))), (q_3, .inl (cI, 360, .inl (fun _ => 0))), (q_4, .inl (cI, 20, .inl (fun _ => 0))), (q_5, .inr (0, [.ref r_6, .int 3, .int 0])), (r_6, .inl (cI, 20, .inl (fun _ => 0))), (q_7, .inr (0, [.ref r_8, .int 2, .int 0])), (r_8, .inl (cI, 20, .inl (fun _ => 0))), (q_9, .inl (cI, 20, .inl (fun _ => 0))), (q_10, .inl (cI, 20, .inl (fun _ => 0))), (q_11, .inl (cI, 20, .inl (fun _ => 0)))] := hD
  refine va_putF (D := D) (ci := 1) (v := .ref q_11) (ty := .array .int) (C := RX1) (T := TX1) (N := 17) hx hb hts inX1_init_X1 tyX1 tyX1_ok nmX1 hown hK hP hD hS 0 rfl rfl 12 (by decide) (hts _ hX1_init__fieldLink_RX1_57_MakeupGas_coveredPerYear_I_) (fun _ h9 => h9) rfl hin rfl (by decide +kernel) rfl rfl (Nat.le_of_ble_eq_true rfl) dX1_init_109 (fun H locs hP hD hS => ?_)
  have hP : va_P D vwCl [(h, .inr (1, [.int 36000, .int 80, .int 100, .ref q_1, .ref q_2, .int 0, .ref q_3, .ref q_4, .ref q_5, .ref q_7, .ref q_9, .ref q_10, .ref q_11, .null, .null, .null, .long 0])), (q_1, .inl (cI, 20, .inl (fun _ => 100))), (q_2, .inl (cI, 20, .inl (fun _ => 0))), (q_3, .inl (cI, 360, .inl (fun _ => 0))), (q_4, .inl (cI, 20, .inl (fun _ => 0))), (q_5, .inr (0, [.ref r_6, .int 3, .int 0])), (r_6, .inl (cI, 20, .inl (fun _ => 0))), (q_7, .inr (0, [.ref r_8, .int 2, .int 0])), (r_8, .inl (cI, 20, .inl (fun _ => 0))), (q_9, .inl (cI, 20, .inl (fun _ => 0))), (q_10, .inl (cI, 20, .inl (fun _ => 0))), (q_11, .inl (cI, 20, .inl (fun _ => 0)))] H := hP
  have hD : va_D A [(h, .inr (1, [.int 36000, .int 80, .int 100, .ref q_1, .ref q_2, .int 0, .ref q_3, .ref q_4, .ref q_5, .ref q_7, .ref q_9, .ref q_10, .ref q_11, .null, .null, .null, .long 0])), (q_1, .inl (cI, 20, .inl (fun _ => 100))), (q_2, .inl (cI, 20, .inl (fun _ => 0))), (q_3, .inl (cI, 360, .inl (fun _ => 0))), (q_4, .inl (cI, 20, .inl (fun _ => 0))), (q_5, .inr (0, [.ref r_6, .int 3, .int 0])), (r_6, .inl (cI, 20, .inl (fun _ => 0))), (q_7, .inr (0, [.ref r_8, .int 2, .int 0])), (r_8, .inl (cI, 20, .inl (fun _ => 0))), (q_9, .inl (cI, 20, .inl (fun _ => 0))), (q_10, .inl (cI, 20, .inl (fun _ => 0))), (q_11, .inl (cI, 20, .inl (fun _ => 0)))] := hD
  refine lv_aload_n hx hb dX1_init_112 rfl (lv_at hl 0 rfl) ?_
  refine lv_bipush (v := 20) hx hb dX1_init_113 (by decide) ?_
  refine gn_I (N' := 20) hx hb (hts _ hX1_init__arrayClass_int) hK hP hD hS hA (by decide) (by decide) (Nat.le_of_ble_eq_true rfl) (Nat.le_of_ble_eq_true rfl) (Nat.le_of_ble_eq_true rfl) dX1_init_115 (fun q_12 H hP hD hS => ?_)
  have hP : va_P D vwCl [(h, .inr (1, [.int 36000, .int 80, .int 100, .ref q_1, .ref q_2, .int 0, .ref q_3, .ref q_4, .ref q_5, .ref q_7, .ref q_9, .ref q_10, .ref q_11, .null, .null, .null, .long 0])), (q_1, .inl (cI, 20, .inl (fun _ => 100))), (q_2, .inl (cI, 20, .inl (fun _ => 0))), (q_3, .inl (cI, 360, .inl (fun _ => 0))), (q_4, .inl (cI, 20, .inl (fun _ => 0))), (q_5, .inr (0, [.ref r_6, .int 3, .int 0])), (r_6, .inl (cI, 20, .inl (fun _ => 0))), (q_7, .inr (0, [.ref r_8, .int 2, .int 0])), (r_8, .inl (cI, 20, .inl (fun _ => 0))), (q_9, .inl (cI, 20, .inl (fun _ => 0))), (q_10, .inl (cI, 20, .inl (fun _ => 0))), (q_11, .inl (cI, 20, .inl (fun _ => 0))), (q_12, .inl (cI, 20, .inl (fun _ => 0)))] H := hP
  have hD : va_D A [(h, .inr (1, [.int 36000, .int 80, .int 100, .ref q_1, .ref q_2, .int 0, .ref q_3, .ref q_4, .ref q_5, .ref q_7, .ref q_9, .ref q_10, .ref q_11, .null, .null, .null, .long 0])), (q_1, .inl (cI, 20, .inl (fun _ => 100))), (q_2, .inl (cI, 20, .inl (fun _ => 0))), (q_3, .inl (cI, 360, .inl (fun _ => 0))), (q_4, .inl (cI, 20, .inl (fun _ => 0))), (q_5, .inr (0, [.ref r_6, .int 3, .int 0])), (r_6, .inl (cI, 20, .inl (fun _ => 0))), (q_7, .inr (0, [.ref r_8, .int 2, .int 0])), (r_8, .inl (cI, 20, .inl (fun _ => 0))), (q_9, .inl (cI, 20, .inl (fun _ => 0))), (q_10, .inl (cI, 20, .inl (fun _ => 0))), (q_11, .inl (cI, 20, .inl (fun _ => 0))), (q_12, .inl (cI, 20, .inl (fun _ => 0)))] := hD
  refine va_putF (D := D) (ci := 1) (v := .ref q_12) (ty := .array .int) (C := RX1) (T := TX1) (N := 17) hx hb hts inX1_init_X1 tyX1 tyX1_ok nmX1 hown hK hP hD hS 0 rfl rfl 13 (by decide) (hts _ hX1_init__fieldLink_RX1_60_MakeupGas_surplusPerYear_I_) (fun _ h9 => h9) rfl hin rfl (by decide +kernel) rfl rfl (Nat.le_of_ble_eq_true rfl) dX1_init_117 (fun H locs hP hD hS => ?_)
  have hP : va_P D vwCl [(h, .inr (1, [.int 36000, .int 80, .int 100, .ref q_1, .ref q_2, .int 0, .ref q_3, .ref q_4, .ref q_5, .ref q_7, .ref q_9, .ref q_10, .ref q_11, .ref q_12, .null, .null, .long 0])), (q_1, .inl (cI, 20, .inl (fun _ => 100))), (q_2, .inl (cI, 20, .inl (fun _ => 0))), (q_3, .inl (cI, 360, .inl (fun _ => 0))), (q_4, .inl (cI, 20, .inl (fun _ => 0))), (q_5, .inr (0, [.ref r_6, .int 3, .int 0])), (r_6, .inl (cI, 20, .inl (fun _ => 0))), (q_7, .inr (0, [.ref r_8, .int 2, .int 0])), (r_8, .inl (cI, 20, .inl (fun _ => 0))), (q_9, .inl (cI, 20, .inl (fun _ => 0))), (q_10, .inl (cI, 20, .inl (fun _ => 0))), (q_11, .inl (cI, 20, .inl (fun _ => 0))), (q_12, .inl (cI, 20, .inl (fun _ => 0)))] H := hP
  have hD : va_D A [(h, .inr (1, [.int 36000, .int 80, .int 100, .ref q_1, .ref q_2, .int 0, .ref q_3, .ref q_4, .ref q_5, .ref q_7, .ref q_9, .ref q_10, .ref q_11, .ref q_12, .null, .null, .long 0])), (q_1, .inl (cI, 20, .inl (fun _ => 100))), (q_2, .inl (cI, 20, .inl (fun _ => 0))), (q_3, .inl (cI, 360, .inl (fun _ => 0))), (q_4, .inl (cI, 20, .inl (fun _ => 0))), (q_5, .inr (0, [.ref r_6, .int 3, .int 0])), (r_6, .inl (cI, 20, .inl (fun _ => 0))), (q_7, .inr (0, [.ref r_8, .int 2, .int 0])), (r_8, .inl (cI, 20, .inl (fun _ => 0))), (q_9, .inl (cI, 20, .inl (fun _ => 0))), (q_10, .inl (cI, 20, .inl (fun _ => 0))), (q_11, .inl (cI, 20, .inl (fun _ => 0))), (q_12, .inl (cI, 20, .inl (fun _ => 0)))] := hD
  refine lv_aload_n hx hb dX1_init_120 rfl (lv_at hl 0 rfl) ?_
  refine lv_bipush (v := 20) hx hb dX1_init_121 (by decide) ?_
  refine gn_L (N' := 20) hx hb (hts _ hX1_init__arrayClass_long) hK hP hD hS hA (by decide) (by decide) (Nat.le_of_ble_eq_true rfl) (Nat.le_of_ble_eq_true rfl) (Nat.le_of_ble_eq_true rfl) dX1_init_123 (fun q_13 H hP hD hS => ?_)
  have hP : va_P D vwCl [(h, .inr (1, [.int 36000, .int 80, .int 100, .ref q_1, .ref q_2, .int 0, .ref q_3, .ref q_4, .ref q_5, .ref q_7, .ref q_9, .ref q_10, .ref q_11, .ref q_12, .null, .null, .long 0])), (q_1, .inl (cI, 20, .inl (fun _ => 100))), (q_2, .inl (cI, 20, .inl (fun _ => 0))), (q_3, .inl (cI, 360, .inl (fun _ => 0))), (q_4, .inl (cI, 20, .inl (fun _ => 0))), (q_5, .inr (0, [.ref r_6, .int 3, .int 0])), (r_6, .inl (cI, 20, .inl (fun _ => 0))), (q_7, .inr (0, [.ref r_8, .int 2, .int 0])), (r_8, .inl (cI, 20, .inl (fun _ => 0))), (q_9, .inl (cI, 20, .inl (fun _ => 0))), (q_10, .inl (cI, 20, .inl (fun _ => 0))), (q_11, .inl (cI, 20, .inl (fun _ => 0))), (q_12, .inl (cI, 20, .inl (fun _ => 0))), (q_13, .inl (cL, 20, .inr (.inl (fun _ => 0))))] H := hP
  have hD : va_D A [(h, .inr (1, [.int 36000, .int 80, .int 100, .ref q_1, .ref q_2, .int 0, .ref q_3, .ref q_4, .ref q_5, .ref q_7, .ref q_9, .ref q_10, .ref q_11, .ref q_12, .null, .null, .long 0])), (q_1, .inl (cI, 20, .inl (fun _ => 100))), (q_2, .inl (cI, 20, .inl (fun _ => 0))), (q_3, .inl (cI, 360, .inl (fun _ => 0))), (q_4, .inl (cI, 20, .inl (fun _ => 0))), (q_5, .inr (0, [.ref r_6, .int 3, .int 0])), (r_6, .inl (cI, 20, .inl (fun _ => 0))), (q_7, .inr (0, [.ref r_8, .int 2, .int 0])), (r_8, .inl (cI, 20, .inl (fun _ => 0))), (q_9, .inl (cI, 20, .inl (fun _ => 0))), (q_10, .inl (cI, 20, .inl (fun _ => 0))), (q_11, .inl (cI, 20, .inl (fun _ => 0))), (q_12, .inl (cI, 20, .inl (fun _ => 0))), (q_13, .inl (cL, 20, .inr (.inl (fun _ => 0))))] := hD
  refine va_putF (D := D) (ci := 1) (v := .ref q_13) (ty := .array .long) (C := RX1) (T := TX1) (N := 17) hx hb hts inX1_init_X1 tyX1 tyX1_ok nmX1 hown hK hP hD hS 0 rfl rfl 14 (by decide) (hts _ hX1_init__fieldLink_RX1_63_MakeupGas_duePerYear_J_) (fun _ h9 => h9) rfl hin rfl (by decide +kernel) rfl rfl (Nat.le_of_ble_eq_true rfl) dX1_init_125 (fun H locs hP hD hS => ?_)
  have hP : va_P D vwCl [(h, .inr (1, [.int 36000, .int 80, .int 100, .ref q_1, .ref q_2, .int 0, .ref q_3, .ref q_4, .ref q_5, .ref q_7, .ref q_9, .ref q_10, .ref q_11, .ref q_12, .ref q_13, .null, .long 0])), (q_1, .inl (cI, 20, .inl (fun _ => 100))), (q_2, .inl (cI, 20, .inl (fun _ => 0))), (q_3, .inl (cI, 360, .inl (fun _ => 0))), (q_4, .inl (cI, 20, .inl (fun _ => 0))), (q_5, .inr (0, [.ref r_6, .int 3, .int 0])), (r_6, .inl (cI, 20, .inl (fun _ => 0))), (q_7, .inr (0, [.ref r_8, .int 2, .int 0])), (r_8, .inl (cI, 20, .inl (fun _ => 0))), (q_9, .inl (cI, 20, .inl (fun _ => 0))), (q_10, .inl (cI, 20, .inl (fun _ => 0))), (q_11, .inl (cI, 20, .inl (fun _ => 0))), (q_12, .inl (cI, 20, .inl (fun _ => 0))), (q_13, .inl (cL, 20, .inr (.inl (fun _ => 0))))] H := hP
  have hD : va_D A [(h, .inr (1, [.int 36000, .int 80, .int 100, .ref q_1, .ref q_2, .int 0, .ref q_3, .ref q_4, .ref q_5, .ref q_7, .ref q_9, .ref q_10, .ref q_11, .ref q_12, .ref q_13, .null, .long 0])), (q_1, .inl (cI, 20, .inl (fun _ => 100))), (q_2, .inl (cI, 20, .inl (fun _ => 0))), (q_3, .inl (cI, 360, .inl (fun _ => 0))), (q_4, .inl (cI, 20, .inl (fun _ => 0))), (q_5, .inr (0, [.ref r_6, .int 3, .int 0])), (r_6, .inl (cI, 20, .inl (fun _ => 0))), (q_7, .inr (0, [.ref r_8, .int 2, .int 0])), (r_8, .inl (cI, 20, .inl (fun _ => 0))), (q_9, .inl (cI, 20, .inl (fun _ => 0))), (q_10, .inl (cI, 20, .inl (fun _ => 0))), (q_11, .inl (cI, 20, .inl (fun _ => 0))), (q_12, .inl (cI, 20, .inl (fun _ => 0))), (q_13, .inl (cL, 20, .inr (.inl (fun _ => 0))))] := hD
  refine lv_aload_n hx hb dX1_init_128 rfl (lv_at hl 0 rfl) ?_
  refine lv_bipush (v := 20) hx hb dX1_init_129 (by decide) ?_
  refine gn_L (N' := 20) hx hb (hts _ hX1_init__arrayClass_long) hK hP hD hS hA (by decide) (by decide) (Nat.le_of_ble_eq_true rfl) (Nat.le_of_ble_eq_true rfl) (Nat.le_of_ble_eq_true rfl) dX1_init_131 (fun q_14 H hP hD hS => ?_)
  have hP : va_P D vwCl [(h, .inr (1, [.int 36000, .int 80, .int 100, .ref q_1, .ref q_2, .int 0, .ref q_3, .ref q_4, .ref q_5, .ref q_7, .ref q_9, .ref q_10, .ref q_11, .ref q_12, .ref q_13, .null, .long 0])), (q_1, .inl (cI, 20, .inl (fun _ => 100))), (q_2, .inl (cI, 20, .inl (fun _ => 0))), (q_3, .inl (cI, 360, .inl (fun _ => 0))), (q_4, .inl (cI, 20, .inl (fun _ => 0))), (q_5, .inr (0, [.ref r_6, .int 3, .int 0])), (r_6, .inl (cI, 20, .inl (fun _ => 0))), (q_7, .inr (0, [.ref r_8, .int 2, .int 0])), (r_8, .inl (cI, 20, .inl (fun _ => 0))), (q_9, .inl (cI, 20, .inl (fun _ => 0))), (q_10, .inl (cI, 20, .inl (fun _ => 0))), (q_11, .inl (cI, 20, .inl (fun _ => 0))), (q_12, .inl (cI, 20, .inl (fun _ => 0))), (q_13, .inl (cL, 20, .inr (.inl (fun _ => 0)))), (q_14, .inl (cL, 20, .inr (.inl (fun _ => 0))))] H := hP
  have hD : va_D A [(h, .inr (1, [.int 36000, .int 80, .int 100, .ref q_1, .ref q_2, .int 0, .ref q_3, .ref q_4, .ref q_5, .ref q_7, .ref q_9, .ref q_10, .ref q_11, .ref q_12, .ref q_13, .null, .long 0])), (q_1, .inl (cI, 20, .inl (fun _ => 100))), (q_2, .inl (cI, 20, .inl (fun _ => 0))), (q_3, .inl (cI, 360, .inl (fun _ => 0))), (q_4, .inl (cI, 20, .inl (fun _ => 0))), (q_5, .inr (0, [.ref r_6, .int 3, .int 0])), (r_6, .inl (cI, 20, .inl (fun _ => 0))), (q_7, .inr (0, [.ref r_8, .int 2, .int 0])), (r_8, .inl (cI, 20, .inl (fun _ => 0))), (q_9, .inl (cI, 20, .inl (fun _ => 0))), (q_10, .inl (cI, 20, .inl (fun _ => 0))), (q_11, .inl (cI, 20, .inl (fun _ => 0))), (q_12, .inl (cI, 20, .inl (fun _ => 0))), (q_13, .inl (cL, 20, .inr (.inl (fun _ => 0)))), (q_14, .inl (cL, 20, .inr (.inl (fun _ => 0))))] := hD
  refine va_putF (D := D) (ci := 1) (v := .ref q_14) (ty := .array .long) (C := RX1) (T := TX1) (N := 17) hx hb hts inX1_init_X1 tyX1 tyX1_ok nmX1 hown hK hP hD hS 0 rfl rfl 15 (by decide) (hts _ hX1_init__fieldLink_RX1_67_MakeupGas_billPerYear_J_) (fun _ h9 => h9) rfl hin rfl (by decide +kernel) rfl rfl (Nat.le_of_ble_eq_true rfl) dX1_init_133 (fun H locs hP hD hS => ?_)
  have hP : va_P D vwCl [(h, .inr (1, [.int 36000, .int 80, .int 100, .ref q_1, .ref q_2, .int 0, .ref q_3, .ref q_4, .ref q_5, .ref q_7, .ref q_9, .ref q_10, .ref q_11, .ref q_12, .ref q_13, .ref q_14, .long 0])), (q_1, .inl (cI, 20, .inl (fun _ => 100))), (q_2, .inl (cI, 20, .inl (fun _ => 0))), (q_3, .inl (cI, 360, .inl (fun _ => 0))), (q_4, .inl (cI, 20, .inl (fun _ => 0))), (q_5, .inr (0, [.ref r_6, .int 3, .int 0])), (r_6, .inl (cI, 20, .inl (fun _ => 0))), (q_7, .inr (0, [.ref r_8, .int 2, .int 0])), (r_8, .inl (cI, 20, .inl (fun _ => 0))), (q_9, .inl (cI, 20, .inl (fun _ => 0))), (q_10, .inl (cI, 20, .inl (fun _ => 0))), (q_11, .inl (cI, 20, .inl (fun _ => 0))), (q_12, .inl (cI, 20, .inl (fun _ => 0))), (q_13, .inl (cL, 20, .inr (.inl (fun _ => 0)))), (q_14, .inl (cL, 20, .inr (.inl (fun _ => 0))))] H := hP
  have hD : va_D A [(h, .inr (1, [.int 36000, .int 80, .int 100, .ref q_1, .ref q_2, .int 0, .ref q_3, .ref q_4, .ref q_5, .ref q_7, .ref q_9, .ref q_10, .ref q_11, .ref q_12, .ref q_13, .ref q_14, .long 0])), (q_1, .inl (cI, 20, .inl (fun _ => 100))), (q_2, .inl (cI, 20, .inl (fun _ => 0))), (q_3, .inl (cI, 360, .inl (fun _ => 0))), (q_4, .inl (cI, 20, .inl (fun _ => 0))), (q_5, .inr (0, [.ref r_6, .int 3, .int 0])), (r_6, .inl (cI, 20, .inl (fun _ => 0))), (q_7, .inr (0, [.ref r_8, .int 2, .int 0])), (r_8, .inl (cI, 20, .inl (fun _ => 0))), (q_9, .inl (cI, 20, .inl (fun _ => 0))), (q_10, .inl (cI, 20, .inl (fun _ => 0))), (q_11, .inl (cI, 20, .inl (fun _ => 0))), (q_12, .inl (cI, 20, .inl (fun _ => 0))), (q_13, .inl (cL, 20, .inr (.inl (fun _ => 0)))), (q_14, .inl (cL, 20, .inr (.inl (fun _ => 0))))] := hD
  exact ge_s (S := Nat → Nat) (fun k : Nat => [h, q_1, q_2, q_3, q_4, q_5, q_7, q_9, q_10, q_11, q_12, q_13, q_14, r_6, r_8].getD k 0) rfl hx hb hr hlocks hK (hP.sub [0, 1, 2, 3, 4, 5, 7, 9, 10, 11, 12, 13, 14, 6, 8] rfl) (hD.sub [0, 1, 2, 3, 4, 5, 7, 9, 10, 11, 12, 13, 14, 6, 8] (by decide) rfl) hS (Nat.le_of_ble_eq_true rfl) (Nat.le_of_ble_eq_true rfl) dX1_init_136
end
