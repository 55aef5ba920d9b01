/-! the law's own methods: its numbers, heads, ends, calls -/
def cF (v0 v1 v2 v3 v4 v5 v6 : Int32) : Nat → Int32 := fun j => match j with | 0 => v0 | 1 => v1 | 2 => v2 | 3 => v3 | 4 => v4 | 5 => v5 | 6 => v6 | _ => 0
theorem cF_u0 (v0 v1 v2 v3 v4 v5 v6 x : Int32) : upd (cF v0 v1 v2 v3 v4 v5 v6) 0 x = cF x v1 v2 v3 v4 v5 v6 := by
  funext j
  by_cases h : j = 0
  · subst h; rw [ux_s]; rfl
  · rw [ux_n h]
    exact match j, h with | 0, h => absurd rfl h | 1, _ => rfl | 2, _ => rfl | 3, _ => rfl | 4, _ => rfl | 5, _ => rfl | 6, _ => rfl | _ + 7, _ => rfl
theorem cF_u1 (v0 v1 v2 v3 v4 v5 v6 x : Int32) : upd (cF v0 v1 v2 v3 v4 v5 v6) 1 x = cF v0 x v2 v3 v4 v5 v6 := by
  funext j
  by_cases h : j = 1
  · subst h; rw [ux_s]; rfl
  · rw [ux_n h]
    exact match j, h with | 0, _ => rfl | 1, h => absurd rfl h | 2, _ => rfl | 3, _ => rfl | 4, _ => rfl | 5, _ => rfl | 6, _ => rfl | _ + 7, _ => rfl
theorem cF_u2 (v0 v1 v2 v3 v4 v5 v6 x : Int32) : upd (cF v0 v1 v2 v3 v4 v5 v6) 2 x = cF v0 v1 x v3 v4 v5 v6 := by
  funext j
  by_cases h : j = 2
  · subst h; rw [ux_s]; rfl
  · rw [ux_n h]
    exact match j, h with | 0, _ => rfl | 1, _ => rfl | 2, h => absurd rfl h | 3, _ => rfl | 4, _ => rfl | 5, _ => rfl | 6, _ => rfl | _ + 7, _ => rfl
theorem cF_u3 (v0 v1 v2 v3 v4 v5 v6 x : Int32) : upd (cF v0 v1 v2 v3 v4 v5 v6) 3 x = cF v0 v1 v2 x v4 v5 v6 := by
  funext j
  by_cases h : j = 3
  · subst h; rw [ux_s]; rfl
  · rw [ux_n h]
    exact match j, h with | 0, _ => rfl | 1, _ => rfl | 2, _ => rfl | 3, h => absurd rfl h | 4, _ => rfl | 5, _ => rfl | 6, _ => rfl | _ + 7, _ => rfl
theorem cF_u4 (v0 v1 v2 v3 v4 v5 v6 x : Int32) : upd (cF v0 v1 v2 v3 v4 v5 v6) 4 x = cF v0 v1 v2 v3 x v5 v6 := by
  funext j
  by_cases h : j = 4
  · subst h; rw [ux_s]; rfl
  · rw [ux_n h]
    exact match j, h with | 0, _ => rfl | 1, _ => rfl | 2, _ => rfl | 3, _ => rfl | 4, h => absurd rfl h | 5, _ => rfl | 6, _ => rfl | _ + 7, _ => rfl
theorem cF_u5 (v0 v1 v2 v3 v4 v5 v6 x : Int32) : upd (cF v0 v1 v2 v3 v4 v5 v6) 5 x = cF v0 v1 v2 v3 v4 x v6 := by
  funext j
  by_cases h : j = 5
  · subst h; rw [ux_s]; rfl
  · rw [ux_n h]
    exact match j, h with | 0, _ => rfl | 1, _ => rfl | 2, _ => rfl | 3, _ => rfl | 4, _ => rfl | 5, h => absurd rfl h | 6, _ => rfl | _ + 7, _ => rfl
theorem cF_u6 (v0 v1 v2 v3 v4 v5 v6 x : Int32) : upd (cF v0 v1 v2 v3 v4 v5 v6) 6 x = cF v0 v1 v2 v3 v4 v5 x := by
  funext j
  by_cases h : j = 6
  · subst h; rw [ux_s]; rfl
  · rw [ux_n h]
    exact match j, h with | 0, _ => rfl | 1, _ => rfl | 2, _ => rfl | 3, _ => rfl | 4, _ => rfl | 5, _ => rfl | 6, h => absurd rfl h | _ + 7, _ => rfl
theorem cF_z : (fun _ => 0) = cF 0 0 0 0 0 0 0 := by
  funext j
  exact match j with | 0 => rfl | 1 => rfl | 2 => rfl | 3 => rfl | 4 => rfl | 5 => rfl | 6 => rfl | _ + 7 => rfl
abbrev wQ (ad : Nat → Nat) (cI cL : ClassId) (o : Nat) (qy lp sp : Int32) (pr ex : Nat → Int32) (c : Nat) (dy tk : Nat → Int32) (mK uK : Nat) (T : TR) (bi : Nat → Int64) (bb : Int64) : va_W := wG ad cI cL qy lp sp pr ex (nI c) dy tk (rMk T) (nI mK) (rMS T) (rSu T) (nI uK) (rUS T) (rSh T) (rMu T) (rCo T) (rSr T) (rDu T) bi bb ++ [(o, .inl (cI, 7, .inl (cF qy lp sp (nI mK) (nI uK) (nI c) (tk c))))]
/-- a world between two steps -/
def PW (ad : Nat → Nat) (cI cL : ClassId) (o : Nat) : va_W → Prop := fun u => ∃ (qy lp sp : Int32) (pr ex : Nat → Int32) (c : Nat) (dy tk : Nat → Int32) (mK uK : Nat) (T : TR) (bi : Nat → Int64) (bb : Int64), INV qy lp sp pr ex c dy tk mK uK T bi bb ∧ u = wQ ad cI cL o qy lp sp pr ex c dy tk mK uK T bi bb
theorem PW_mk {ad : Nat → Nat} {cI cL : ClassId} {o : Nat} {qy lp sp : Int32} {pr ex : Nat → Int32} {c : Nat} {dy tk : Nat → Int32} {mK uK : Nat} {T : TR} {bi : Nat → Int64} {bb : Int64} (h : INV qy lp sp pr ex c dy tk mK uK T bi bb) : PW ad cI cL o (wQ ad cI cL o qy lp sp pr ex c dy tk mK uK T bi bb) := ⟨qy, lp, sp, pr, ex, c, dy, tk, mK, uK, T, bi, bb, h, rfl⟩
theorem INV_ex {qy lp sp : Int32} {pr ex : Nat → Int32} {c : Nat} {dy tk : Nat → Int32} {mK uK : Nat} {T : TR} {bi : Nat → Int64} {bb : Int64} (h : INV qy lp sp pr ex c dy tk mK uK T bi bb) (j : Nat) : ¬ ex j < 0 := fun z => by
  have h1 := (h.2.2.2.1.2.2.1 j).1
  have h2 := Int32.lt_iff_toInt_lt.mp z
  have z0 : (0 : Int32).toInt = 0 := by decide
  omega
abbrev gHi (l : Launch) (y : MethodName) (ws : List Cond) (rm : Room) (D : va_G) (tys : List (ClassId × FieldType)) (av : List Value) (w w1 : va_W) (v : Int32) (ok : Prop) (mc ms sz : Nat) : Prop := Met l y ws rm (va_Pc av (gPreT D tys w sz)) (gQi v ok D tys w w1 sz) mc ms (va_A w sz)
abbrev gHs (l : Launch) (y : MethodName) (ws : List Cond) (rm : Room) (D : va_G) (tys : List (ClassId × FieldType)) (av : List Value) (w : va_W) (P : va_W → Prop) (mc ms sz : Nat) : Prop := Met l y ws rm (va_Pc av (gPreT D tys w sz)) (va_Qi (fun (r : Int32) (u : va_W) => r = 1 ∧ P u) (fun u => gPost D tys w u sz) (va_A w sz)) mc ms (va_A w sz)
def gEhs (P : va_W → Prop) (below : List Frame) (D : va_G) (tys : List (ClassId × FieldType)) (A : Nat → Prop) (args : Array Value) (s : State) (mc ms : Nat) : State → Prop := MQ below (va_Qi (fun (r : Int32) (u : va_W) => r = 1 ∧ P u) (fun u t => va_P D vwCl u t.heap ∧ va_K D vwCl tys t ∧ va_D A u) A) args s mc ms A
theorem gmk_i {l : Launch} {y : MethodName} {ws ws' : List Cond} {rm : Room} {D : va_G} {tys : List (ClassId × FieldType)} {av : List Value} {w w1 : va_W} {ok : Prop} {v : Int32} {mc ms sz : Nat} {cc : ByteArray} {maxL : Nat} {ty : FieldType} (hy : plainName y.cls = true) (hw : ws = Cond.code y cc maxL (some ty) :: ws') (hlen : (lg_sl av).length ≤ maxL)
    (body : ∀ (p : Program) (e : Env) (s : State) (m : MethodId) (args : Array Value) (below : List Frame) (meth : Method) (c : Code) (A : Nat → Prop) (ls : Array Slot), p.tables.exec = Jvm.exec → c.code = cc → meth.sig.returnType = some ty → c.maxLocals = maxL → s.vm.findClass y.cls = some m.cls → (∀ q ∈ ws, q.before args s = true) → meth.locks = false → (∀ q : Nat, s.heap.size ≤ q → A q) → va_K D vwCl tys s → va_P D vwCl w s.heap → va_D A w → tz_Z A s s.heap → lv_has ls maxL (lv_args 0 av) → W p l e rm s m args below meth c s.heap [] 0 0 (gEi v ok below D tys w1 A args s mc ms) (F0 m 0 ls [])) : gHi l y ws rm D tys av w w1 v ok mc ms sz := by
  refine Met.ofW (cc := cc) (maxL := maxL) (ret := some ty) hy hw ?_
  intro p e s m args below meth c s₁ B hml hv
  obtain ⟨rfl, ⟨hsz, hP, hK, hD0⟩, hT⟩ := hv
  subst hsz
  rw [lg_entry_eq]
  exact body p e s m _ below meth c _ _ B.exec B.bytes B.returns hml (findClass_of_methodNamed B.named) (atoms_spec (ws := ws) B.pre) B.notSynchronized (fun q h => Or.inr h) hK hP hD0.self hT (lv_entry av hlen)
theorem gmk_s {l : Launch} {y : MethodName} {ws ws' : List Cond} {rm : Room} {D : va_G} {tys : List (ClassId × FieldType)} {av : List Value} {w : va_W} {P : va_W → Prop} {mc ms sz : Nat} {cc : ByteArray} {maxL : Nat} {ty : FieldType} (hy : plainName y.cls = true) (hw : ws = Cond.code y cc maxL (some ty) :: ws') (hlen : (lg_sl av).length ≤ maxL)
    (body : ∀ (p : Program) (e : Env) (s : State) (m : MethodId) (args : Array Value) (below : List Frame) (meth : Method) (c : Code) (A : Nat → Prop) (ls : Array Slot), p.tables.exec = Jvm.exec → c.code = cc → meth.sig.returnType = some ty → c.maxLocals = maxL → s.vm.findClass y.cls = some m.cls → (∀ q ∈ ws, q.before args s = true) → meth.locks = false → (∀ q : Nat, s.heap.size ≤ q → A q) → va_K D vwCl tys s → va_P D vwCl w s.heap → va_D A w → tz_Z A s s.heap → lv_has ls maxL (lv_args 0 av) → W p l e rm s m args below meth c s.heap [] 0 0 (gEhs P below D tys A args s mc ms) (F0 m 0 ls [])) : gHs l y ws rm D tys av w P mc ms sz := by
  refine Met.ofW (cc := cc) (maxL := maxL) (ret := some ty) hy hw ?_
  intro p e s m args below meth c s₁ B hml hv
  obtain ⟨rfl, ⟨hsz, hP, hK, hD0⟩, hT⟩ := hv
  subst hsz
  rw [lg_entry_eq]
  exact body p e s m _ below meth c _ _ B.exec B.bytes B.returns hml (findClass_of_methodNamed B.named) (atoms_spec (ws := ws) B.pre) B.notSynchronized (fun q h => Or.inr h) hK hP hD0.self hT (lv_entry av hlen)
section GH
variable {p : Program} {l : Launch} {e : Env} {R : Room} {s : State} {m : MethodId} {args : Array Value} {below : List Frame} {meth : Method} {c : Code} {H : Heap} {locs : List Loc} {cells slots : Nat} {Q : State → Prop}
variable {D : va_G} {A : Nat → Prop} {tys : List (ClassId × FieldType)} {cc : ByteArray} {mc ms pc : Nat} {ls : Array Slot}
theorem ge_is {P : va_W → Prop} {u : va_W} {ty : FieldType} (hu : P u) (hx : p.tables.exec = Jvm.exec) (hb : c.code = cc) (hr : meth.sig.returnType = some ty) (hlocks : meth.locks = false) (hn : narrow ty (.int 1) = .int 1) (hK : va_K D vwCl tys s) (hP : va_P D vwCl u H) (hD : va_D A u) (hS : va_S A s.heap H locs) (hc : cells ≤ mc) (hs : slots ≤ ms) (hdg : decode cc pc = .ok (.ireturn, 1)) : W p l e R s m args below meth c H locs cells slots (gEhs P below D tys A args s mc ms) (F0 m pc ls [.int 1]) :=
  W.widen hc hs (W.zret hx hb hr hn (fun t ht hW => ⟨⟨1, u, rfl, ⟨rfl, hu⟩, by rw [ht]; exact hP, va_K.moved hW.alike hK, hD⟩, hS.F ht⟩) hS.2.2 hdg hlocks)
theorem gHS_i {ok : Prop} {Wd wc wr w1 W' : va_W} {tc : List (ClassId × FieldType)} {bytes : ByteArray} {nL maxL n index : Nat} {own : String} {y : MethodName} {wsy Ts : List Cond} {rm : Room} {As rest st0 : List Value} {v : Int32} {ret : Option FieldType} (S : CallFix p m c cc nL s args Ts own) (hM : gHi l y wsy rm D tc As wc w1 v ok mc ms H.size) (cw : CallB R s args own index y bytes maxL ret wsy rm mc ms n ∧ (Cond.static y).before args s = true) (hT : tz_Z A s s.heap) (hS : va_S A s.heap H locs) (hA : ∀ q : Nat, s.heap.size ≤ q → A q) (hK : va_K D vwCl tys s) (hP : va_P D vwCl Wd H) (hD : va_D A Wd) (ks : List Nat) (hk : ks.filterMap (fun i => tys[i]?) = tc) (isC isR perm : List Nat) (hC : isC.map (fun i => Wd[i]?) = wc.map some) (hnC : va_nd isC = true) (hR : isR.map (fun i => Wd[i]?) = wr.map some) (hn : va_nd isR = true) (hdis : ∀ i ∈ isR, i ∉ isC) (hpm : perm.map (fun i => (wr ++ w1)[i]?) = W'.map some) (hpn : va_nd perm = true)
    (hAs : As.length = n) (hsize : ls.size = nL) (hst : st0 = As.reverse ++ rest) (hW : (rest.map fun v => v.category).sum ≤ 8) (hdg : decode cc pc = .ok (.invokestatic index, 3)) (hf : cells + mc ≤ R.cells ∧ slots + ms ≤ R.slots)
    (kk : ∀ (H : Heap) (locs : List Loc), ok → va_P D vwCl W' H → va_D A W' → va_S A s.heap H locs → W p l e R s m args below meth c H locs (cells + mc) (slots + ms) Q (F0 m (pc + 3) ls (.int v :: rest))) : W p l e R s m args below meth c H locs cells slots Q (F0 m pc ls st0) := by
  have hF := va_free (wc := wc) hD hS hA isC hC
  refine va_calli (va_runS S hM cw ⟨gPreT.blind, (fun U hU hW => ⟨rfl, gc_S (av := As) hK hP hD ks hk isC hC hnC U hU hW, hT.going hS hF hU hW⟩)⟩ rfl hAs hsize hst (lv_room hW) hdg hf) hS (fun q _ h => hF q h) hF (fun r u t H1 locs1 ht hvm hw hB hz1 hk1 hS1 => ?_)
  obtain ⟨hP1, hK1, hD1⟩ := hB
  rw [ht] at hP1
  obtain ⟨rfl, hw⟩ := hw
  obtain ⟨hPn, hDn⟩ := gc_join (H0 := s.heap) hP hD isC isR perm hC hR hn hdis hpm hpn hk1 hF hP1 hD1
  exact kk H1 locs1 hw hPn hDn hS1
theorem gHS_s {P : va_W → Prop} {Wd : va_W} {tc : List (ClassId × FieldType)} {bytes : ByteArray} {nL maxL n index : Nat} {own : String} {y : MethodName} {wsy Ts : List Cond} {rm : Room} {As rest st0 : List Value} {ret : Option FieldType} (S : CallFix p m c cc nL s args Ts own) (hM : gHs l y wsy rm D tc As Wd P mc ms H.size) (cw : CallB R s args own index y bytes maxL ret wsy rm mc ms n ∧ (Cond.static y).before args s = true) (hT : tz_Z A s s.heap) (hS : va_S A s.heap H locs) (hA : ∀ q : Nat, s.heap.size ≤ q → A q) (hK : va_K D vwCl tys s) (hP : va_P D vwCl Wd H) (hD : va_D A Wd) (ks : List Nat) (hk : ks.filterMap (fun i => tys[i]?) = tc) (isC : List Nat) (hC : isC.map (fun i => Wd[i]?) = Wd.map some) (hnC : va_nd isC = true)
    (hAs : As.length = n) (hsize : ls.size = nL) (hst : st0 = As.reverse ++ rest) (hW : (rest.map fun v => v.category).sum ≤ 8) (hdg : decode cc pc = .ok (.invokestatic index, 3)) (hf : cells + mc ≤ R.cells ∧ slots + ms ≤ R.slots)
    (kk : ∀ (u : va_W) (H : Heap) (locs : List Loc), P u → va_P D vwCl u H → va_D A u → va_S A s.heap H locs → W p l e R s m args below meth c H locs (cells + mc) (slots + ms) Q (F0 m (pc + 3) ls (.int 1 :: rest))) : W p l e R s m args below meth c H locs cells slots Q (F0 m pc ls st0) := by
  have hF := va_free (wc := Wd) hD hS hA isC hC
  refine va_calli (va_runS S hM cw ⟨gPreT.blind, (fun U hU hW => ⟨rfl, gc_S (av := As) hK hP hD ks hk isC hC hnC U hU hW, hT.going hS hF hU hW⟩)⟩ rfl hAs hsize hst (lv_room hW) hdg hf) hS (fun q _ h => hF q h) hF (fun r u t H1 locs1 ht hvm hw hB hz1 hk1 hS1 => ?_)
  obtain ⟨hP1, hK1, hD1⟩ := hB
  rw [ht] at hP1
  obtain ⟨rfl, hw⟩ := hw
  exact kk u H1 locs1 hw hP1 (hD1.weaken (fun k q _ h => hF q.1 h)) hS1
/-- draw(s, k): the script's int at k, without its sign -/
abbrev gDm (l : Launch) (sz b L : Nat) (xs : Nat → Int32) (k : Nat) : Prop := Met l yL_draw wsL_draw ({ frames := 0, cells := 0, slots := 0, locals := 0 } : Room) (va_Pc [.ref b, .int (nI k)] (fun U => U.heap.size = sz ∧ b < U.heap.size ∧ va_X b L xs U U.heap)) (va_Qi (fun (r : Int32) (_ : Unit) => r = xs k &&& 2147483647) (fun _ _ => True) (fun q => sz ≤ q)) 0 0 (fun q => sz ≤ q)
theorem gD_call {Wd : va_W} {bytes : ByteArray} {nL maxL n index b L k : Nat} {xs : Nat → Int32} {own : String} {Ts : List Cond} {rest st0 : List Value} {ret : Option FieldType} (S : CallFix p m c cc nL s args Ts own) (hM : gDm l H.size b L xs k) (cw : CallB R s args own index yL_draw bytes maxL ret wsL_draw ({ frames := 0, cells := 0, slots := 0, locals := 0 } : Room) 0 0 n ∧ (Cond.static yL_draw).before args s = true) (hX : va_X b L xs s s.heap) (hbl : b < s.heap.size) (hS : va_S (fun q : Nat => s.heap.size ≤ q) s.heap H locs) (hP : va_P D vwCl Wd H)
    (hAs : ([Value.ref b, Value.int (nI k)] : List Value).length = n) (hsize : ls.size = nL) (hst : st0 = ([Value.ref b, Value.int (nI k)] : List Value).reverse ++ rest) (hW : (rest.map fun v => v.category).sum ≤ 8) (hdg : decode cc pc = .ok (.invokestatic index, 3)) (hf : cells + 0 ≤ R.cells ∧ slots + 0 ≤ R.slots)
    (kk : ∀ (H : Heap) (locs : List Loc), va_P D vwCl Wd H → va_S (fun q : Nat => s.heap.size ≤ q) s.heap H locs → W p l e R s m args below meth c H locs (cells + 0) (slots + 0) Q (F0 m (pc + 3) ls (.int (xs k &&& 2147483647) :: rest))) : W p l e R s m args below meth c H locs cells slots Q (F0 m pc ls st0) := by
  have hF : ∀ q : Nat, H.size ≤ q → s.heap.size ≤ q := fun q h => Nat.le_trans hS.1 h
  refine va_calli (va_runS S hM cw ⟨fun a U g mk q => ⟨q.1, q.2.1, q.2.2.1, q.2.2.2.moved (u := U) (U := U.calling g mk a) (Vm.Alike.refl U.vm)⟩, (fun U hU hW => ⟨rfl, by rw [hU], by rw [hU]; exact Nat.lt_of_lt_of_le hbl hS.1, by rw [hU]; exact va_X.moved hW.alike (hX.kept (hS.2.1 b hbl (Nat.not_le.mpr hbl)))⟩)⟩ rfl hAs hsize hst (lv_room hW) hdg hf) hS (fun q _ h => hF q h) hF (fun r u t H1 locs1 ht hvm hw hB hz1 hk1 hS1 => ?_)
  subst hw
  exact kk H1 locs1 (hP.kept (fun k q hq => hk1 q.1 (hP k q hq).lt (Nat.not_le.mpr (hP k q hq).lt))) hS1
theorem ga_sld {rest : List Value} {H0 : Heap} (hexec : p.tables.exec = Jvm.exec) (hb : c.code = cc) {b L : Nat} {xs : Nat → Int32} (hX : va_X b L xs s H0) (hbl : b < H0.size) (hbA : ¬ A b) (hS : va_S A H0 H locs) {j : Nat} (hj : j < L) (hL : L < 2 ^ 31) (hdg : decode cc pc = .ok (.iaload, 1))
    (kk : W p l e R s m args below meth c H locs cells slots Q (F0 m (pc + 1) ls (.int (xs j) :: rest))) : W p l e R s m args below meth c H locs cells slots Q (F0 m pc ls (.int (nI j) :: .ref b :: rest)) :=
  va_sld hexec hb hX hbl hbA hS (vp_in_nI hj hL) hdg (by rw [nI_clamp (Nat.lt_trans hj hL)]; exact kk)
end GH
theorem hL_draw_c7 : Cond.constant RL 7 (2147483647) ∈ wsL_draw := by decide +kernel
theorem c_L_draw (l : Launch) (sz b L : Nat) (xs : Nat → Int32) (k : Nat) (hk : k < L) (hL : L < 2 ^ 31) : gDm l sz b L xs k := by
  refine Met.ofW (cc := cL_draw) (maxL := 2) (ret := some .int) (by decide) rfl ?_
  intro p e s m args below meth c s₁ B hml hv
  obtain ⟨rfl, hsz, hbl, hX⟩ := hv
  subst hsz
  rw [lg_entry_eq]
  have hts := atoms_spec (ws := wsL_draw) B.pre
  have hx := B.exec
  have hb : c.code = cL_draw := B.bytes
  have hr := B.returns
  have hlocks := B.notSynchronized
  have hown := findClass_of_methodNamed B.named
  have hl := lv_entry ([.ref b, .int (nI k)]) (n := 2) (Nat.le_of_ble_eq_true rfl)
  generalize (lg_sl ([.ref b, .int (nI k)]) ++ List.replicate (2 - (lg_sl ([.ref b, .int (nI k)])).length) Slot.unset).toArray = ls at hl ⊢
  have hl : lv_has ls 2 [(0, .ref b), (1, .int (nI k))] := hl
  have hS : va_S (fun q : Nat => s.heap.size ≤ q) s.heap s.heap [] := va_S.rf
  have hbA : ¬ s.heap.size ≤ b := Nat.not_le.mpr hbl
  refine lv_iload_n hx hb dL_draw_0 rfl (lv_at hl 1 rfl) ?_
  refine lv_aload_n hx hb dL_draw_1 rfl (lv_at hl 0 rfl) ?_
  refine va_slen hx hb hX hbl hbA hS dL_draw_2 ?_
  refine lv_icmp_ge (tgt := 15) hx hb dL_draw_3 (by decide) (fun cb => absurd cb (nI_ge (b := L) hk hL)) (fun _ => ?_)
  refine lv_aload_n hx hb dL_draw_6 rfl (lv_at hl 0 rfl) ?_
  refine lv_iload_n hx hb dL_draw_7 rfl (lv_at hl 1 rfl) ?_
  refine ga_sld hx hb hX hbl hbA hS hk hL dL_draw_8 ?_
  refine lv_ldc (v := 2147483647) hx hb hown (hts _ hL_draw_c7) dL_draw_9 ?_
  refine lv_iand hx hb dL_draw_11 ?_
  refine lv_goto (tgt := 24) hx hb dL_draw_12 (by decide) ?_
  exact W.zret hx hb hr rfl (fun t ht hW => ⟨⟨_, (), rfl, rfl, trivial⟩, hS.F ht⟩) hS.2.2 dL_draw_24 hlocks
