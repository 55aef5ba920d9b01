/-! THE CLAIM OUT OF ONE WALK OF THE LAW'S BODY. Your part is whole_start (and what it stands on); all else here is the same for every law, but numbers. -/
def R_law : String := "MakeupGasLaw"
def lw_P (b : Addr) (xs : List Int32) (args : Array Value) (s : State) : Prop := args = #[.ref b] ∧ s.IntsAt b xs ∧ xs.length ≤ 260 ∧ (Jvm.Cond.and given_1 narrow_1).before args s = true
def lw_Q (_ : Array Value) (s : State) (o : Outcome) (t : State) : Prop := o = .returned (some (.int 1)) ∧ Framed s o t [] 600086 7301442
def lw_Z (below : List Frame) (a : Array Value) (s : State) : State → Prop := fun t => ∃ o, t.status = .running ∧ Ended t below o ∧ lw_Q a s o t
/-- the law's own end, with 1 on the stack, nothing written that was there before, its room as the claim has it -/
theorem lw_ret {p : Program} {l : Launch} {e : Env} {s : State} {m : MethodId} {below : List Frame} {meth : Method} {c : Code} {b : Nat} (hx : p.tables.exec = Jvm.exec) (hb : c.code = code) (hr : meth.sig.returnType = ret) (hlocks : meth.locks = false) {pc : Nat} {H : Heap} {ls : Array Slot} (hdg : decode code pc = .ok (.ireturn, 1)) : W p l e room_1 s m #[Value.ref b] below meth c H [] 600086 7301442 (lw_Z below #[Value.ref b] s) (F0 m pc ls [.int 1]) := by
  intro T hT X
  obtain ⟨fs, hret, hrun, hended, hW, hframe⟩ := X.leave (v := some (.int 1)) (hlocks := hlocks) (fun h => by rw [hr] at h; cases h)
  have hmeth' : T.vm.method? m = some meth := X.method'
  refine ⟨T.setFrames fs, ?_, .returned (some (.int 1)), hrun, hended, rfl, ⟨_, rfl⟩, hW, hframe⟩
  jvm_step X.here [X.here.top, hx, hb, hdg, hmeth', hr, ret, narrow_b1]
  (try refine ⟨rfl, ?_⟩); (try refine ⟨rfl, ?_⟩)
  first | (intro acts; rw [hret _ acts rfl rfl rfl]) | rw [hret _ _ rfl rfl rfl]
  exact Steps.refl _
/-- what holds at the law's entry: the machine, the code, the tables' words (any of lw_tbl by 'hts w (by decide +kernel)'), the script of L ints xs at the cell b, what the Statement gives of the start (any of its parts by flat_of_before) -/
def lw_At (p : Program) (s : State) (m : MethodId) (meth : Method) (c : Code) (b L : Nat) (xs : Nat → Int32) : Prop :=
  p.tables.exec = Jvm.exec ∧ c.code = code ∧ meth.sig.returnType = ret ∧ c.maxLocals = 6 ∧ s.vm.findClass R_law = some m.cls ∧ (∀ w ∈ lw_tbl, w.before #[Value.ref b] s = true) ∧ va_X b L xs s s.heap ∧ b < s.heap.size ∧ meth.locks = false ∧ (Jvm.Cond.and given_1 narrow_1).before #[Value.ref b] s = true
/-- from the loop's head, k steps done, the law comes to its end with true -/
def LG (pg : Program) (l : Launch) (en : Env) (s : State) (m : MethodId) (below : List Frame) (meth : Method) (cd : Code) (D : va_G) (b : Nat) (ad : Nat → Nat) (o : Nat) (cI cL : ClassId) (M k : Nat) : Prop :=
  ∀ (qy lp sp : Int32) (pr ex : Nat → Int32) (c : Nat) (dy tk : Nat → Int32) (mK uK : Nat) (T : TR) (bi : Nat → Int64) (bb : Int64), INV qy lp sp pr ex c dy tk mK uK T bi bb → ∀ (H : Heap) (locs : List Loc), va_P D vwCl ((wG ad cI cL qy lp sp pr ex (nI c) dy tk (rMk (T)) (nI mK) (rMS (T)) (rSu (T)) (nI uK) (rUS (T)) (rSh (T)) (rMu (T)) (rCo (T)) (rSr (T)) (rDu (T)) bi bb) ++ [(o, .inl (cI, 7, .inl (cF qy lp sp (nI mK) (nI uK) (nI c) (tk c))))]) H → va_D (fun q : Nat => s.heap.size ≤ q) ((wG ad cI cL qy lp sp pr ex (nI c) dy tk (rMk (T)) (nI mK) (rMS (T)) (rSu (T)) (nI uK) (rUS (T)) (rSh (T)) (rMu (T)) (rCo (T)) (rSr (T)) (rDu (T)) bi bb) ++ [(o, .inl (cI, 7, .inl (cF qy lp sp (nI mK) (nI uK) (nI c) (tk c))))]) → va_S (fun q : Nat => s.heap.size ≤ q) s.heap H locs → ∀ (ls : Array Slot), lv_has ls 6 [(0, .ref b), (1, .ref (ad 0)), (2, .ref o), (3, .int 1), (4, .int (nI M)), (5, .int (nI k))] → W pg l en room_1 s m #[Value.ref b] below meth cd H locs (60 + 2010 * k) (2000 + 12060 * k) (lw_Z below #[Value.ref b] s) (F0 m 110 ls [])
