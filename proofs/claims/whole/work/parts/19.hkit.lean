/-! the law's own methods: they call the class and catch what it throws -/
abbrev gHi (l : Launch) (y : MethodName) (ws : List Cond) (rm : Room) (D : va_G) (tys : List (ClassId × FieldType)) (av : List Value) (w w1 : va_W) (v : Int32) (ok : Prop) (mc ms sz : Nat) : Prop := Met l y ws rm (va_Pc av (gPreT D tys w sz)) (gQi v ok D tys w w1 sz) mc ms (va_A w sz)
theorem gmh_i {l : Launch} {y : MethodName} {ws ws' : List Cond} {rm : Room} {D : va_G} {tys : List (ClassId × FieldType)} {av : List Value} {w w1 : va_W} {ok : Prop} {mc ms sz : Nat} {cc : ByteArray} {maxL : Nat} {v : Int32} {ty : FieldType} {hh : List (Nat × Nat × Nat × Nat)} (hy : plainName y.cls = true) (hw : ws = Cond.codeWith y cc maxL (some ty) hh :: ws') (hlen : (lg_sl av).length ≤ maxL)
    (body : ∀ (p : Program) (e : Env) (s : State) (m : MethodId) (args : Array Value) (below : List Frame) (meth : Method) (c : Code) (A : Nat → Prop) (ls : Array Slot), p.tables.exec = Jvm.exec → c.code = cc → meth.sig.returnType = some ty → c.maxLocals = maxL → s.vm.findClass y.cls = some m.cls → (∀ q ∈ ws, q.before args s = true) → meth.locks = false → (∀ q : Nat, s.heap.size ≤ q → A q) → va_K D vwCl tys s → va_P D vwCl w s.heap → va_D A w → tz_Z A s s.heap → c.exceptionTable.toList = tableOf hh → lv_has ls maxL (lv_args 0 av) → W p l e rm s m args below meth c s.heap [] 0 0 (gEi v ok below D tys w1 A args s mc ms) (F0 m 0 ls [])) : gHi l y ws rm D tys av w w1 v ok mc ms sz := by
  refine va_MetW (cc := cc) (maxL := maxL) (ret := (some ty)) (hh := hh) hy hw ?_
  intro p e s m args below meth c s₁ B hml hv
  obtain ⟨rfl, ⟨hsz, hP, hK, hD0⟩, hT⟩ := hv
  subst hsz
  rw [lg_entry_eq]
  have hts := atoms_spec (ws := ws) B.pre
  exact body p e s m _ below meth c _ _ B.exec B.bytes B.returns hml (findClass_of_methodNamed B.named) hts B.notSynchronized (fun q h => Or.inr h) hK hP hD0.self hT (vx_table (x := y) B (hts _ (by rw [hw]; exact List.mem_cons_self))) (lv_entry av hlen)
section GH
variable {p : Program} {l : Launch} {e : Env} {R : Room} {s : State} {m : MethodId} {args : Array Value} {below : List Frame} {meth : Method} {c : Code} {H : Heap} {locs : List Loc} {cells slots : Nat} {Q : State → Prop}
variable {D : va_G} {A : Nat → Prop} {tys : List (ClassId × FieldType)} {cc : ByteArray} {mc ms pc : Nat} {ls : Array Slot}
theorem gHSW_i {ok : Prop} {Wd wc wr w1 W' : va_W} {tc : List (ClassId × FieldType)} {bytes : ByteArray} {nL maxL n index : Nat} {own : String} {y : MethodName} {wsy Ts : List Cond} {rm : Room} {As rest st0 : List Value} {v : Int32} {ret : Option FieldType} {hh : List (Nat × Nat × Nat × Nat)} (S : CallFix p m c cc nL s args Ts own) (hM : gHi l y wsy rm D tc As wc w1 v ok mc ms H.size) (cw : vx_CSW R s args own index y bytes maxL ret hh wsy rm mc ms n) (hT : tz_Z A s s.heap) (hS : va_S A s.heap H locs) (hA : ∀ q : Nat, s.heap.size ≤ q → A q) (hK : va_K D vwCl tys s) (hP : va_P D vwCl Wd H) (hD : va_D A Wd) (ks : List Nat) (hk : ks.filterMap (fun i => tys[i]?) = tc) (isC isR perm : List Nat) (hC : isC.map (fun i => Wd[i]?) = wc.map some) (hnC : va_nd isC = true) (hR : isR.map (fun i => Wd[i]?) = wr.map some) (hn : va_nd isR = true) (hdis : ∀ i ∈ isR, i ∉ isC) (hpm : perm.map (fun i => (wr ++ w1)[i]?) = W'.map some) (hpn : va_nd perm = true)
    (hAs : As.length = n) (hsize : ls.size = nL) (hst : st0 = As.reverse ++ rest) (hW : (rest.map fun v => v.category).sum ≤ 8) (hdg : decode cc pc = .ok (.invokestatic index, 3)) (hf : cells + mc ≤ R.cells ∧ slots + ms ≤ R.slots)
    (kk : ∀ (H : Heap) (locs : List Loc), ok → va_P D vwCl W' H → va_D A W' → va_S A s.heap H locs → W p l e R s m args below meth c H locs (cells + mc) (slots + ms) Q (F0 m (pc + 3) ls (.int v :: rest))) : W p l e R s m args below meth c H locs cells slots Q (F0 m pc ls st0) := by
  have hF := va_free (wc := wc) hD hS hA isC hC
  refine va_calli (vx_runSW S hM cw ⟨gPreT.blind, (fun U hU hW => ⟨rfl, gc_S (av := As) hK hP hD ks hk isC hC hnC U hU hW, hT.going hS hF hU hW⟩)⟩ rfl hAs hsize hst (lv_room hW) hdg hf) hS (fun q _ h => hF q h) hF (fun r u t H1 locs1 ht hvm hw hB hz1 hk1 hS1 => ?_)
  obtain ⟨hP1, hK1, hD1⟩ := hB
  rw [ht] at hP1
  obtain ⟨rfl, hw⟩ := hw
  obtain ⟨hPn, hDn⟩ := gc_join (H0 := s.heap) hP hD isC isR perm hC hR hn hdis hpm hpn hk1 hF hP1 hD1
  exact kk H1 locs1 hw hPn hDn hS1
end GH
