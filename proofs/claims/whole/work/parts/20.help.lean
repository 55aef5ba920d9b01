set_option maxHeartbeats 4000000 in
set_option maxRecDepth 100000 in
theorem c_L_set (l : Launch) (hst : l.stackTraces = false) (D : va_G) (sz : Nat) (ad : Nat → Nat) (cI cL : ClassId) (qy lp sp : Int32) (pr ex : Nat → Int32) (c : Nat) (dy tk mk : Nat → Int32) (mK : Nat) (mS : Int32) (su : Nat → Int32) (uK : Nat) (uS : Int32) (sh mu co sr : Nat → Int32) (du bi : Nat → Int64) (bb : Int64) (p0 p1 p2 p3 p4 : Int32) (r0 : inR p0 1 100000) (r1 : inR p1 0 100) (r2 : inR p2 0 100) (r3 : inR p3 1 5) (r4 : inR p4 1 5) (hu : ¬ 0 < nI c ∧ tk 0 ≤ 0) : gHi l yL_set wsL_set ({ frames := 8, cells := 6, slots := 36, locals := 137 } : Room) D [(cI, .int), (cL, .long)] [.ref (ad 0), .int p0, .int p1, .int p2, .int p3, .int p4] (wG ad cI cL qy lp sp pr ex (nI c) dy tk mk (nI mK) mS su (nI uK) uS sh mu co sr du bi bb) (wG ad cI cL p0 p1 p2 pr ex (nI c) dy tk mk p3 mS su p4 uS sh mu co sr du bi bb) 0 True 6 36 sz := by
  refine gmh_i (cc := cL_set) (maxL := 7) (hh := [(0, 11, 14, 13), (0, 11, 18, 15)]) (by decide) rfl (Nat.le_of_ble_eq_true rfl) ?_
  intro pg en s m args below meth cd A ls hx hb hr hml hown hts hlocks hA hK hP hD hT htab hl
  have hl : lv_has ls 7 [(0, .ref (ad 0)), (1, .int p0), (2, .int p1), (3, .int p2), (4, .int p3), (5, .int p4)] := hl
  have hS : va_S A s.heap s.heap [] := va_S.rf
  refine lv_aload_n hx hb dL_set_0 rfl (lv_at hl 0 rfl) ?_
  refine lv_iload_n hx hb dL_set_1 rfl (lv_at hl 1 rfl) ?_
  refine lv_iload_n hx hb dL_set_2 rfl (lv_at hl 2 rfl) ?_
  refine lv_iload_n hx hb dL_set_3 rfl (lv_at hl 3 rfl) ?_
  refine lv_iload hx hb dL_set_4 (lv_at hl 4 rfl) ?_
  refine lv_iload hx hb dL_set_6 (lv_at hl 5 rfl) ?_
  refine ghV_v (wc := (wG ad cI cL qy lp sp pr ex (nI c) dy tk mk (nI mK) mS su (nI uK) uS sh mu co sr du bi bb)) (wr := []) (w1 := (wG ad cI cL p0 p1 p2 pr ex (nI c) dy tk mk p3 mS su p4 uS sh mu co sr du bi bb)) (W' := (wG ad cI cL p0 p1 p2 pr ex (nI c) dy tk mk p3 mS su p4 uS sh mu co sr du bi bb)) (As := [.int p0, .int p1, .int p2, .int p3, .int p4]) (rest := []) ⟨hx, hb, hml, hown, hts⟩ (c_X1_set l hst D s.heap.size ad cI cL qy lp sp pr ex c dy tk mk mK mS su uK uS sh mu co sr du bi bb p0 p1 p2 p3 p4 r0 r1 r2 r3 r4 hu) (cwV 5 hts gL_set_X1_set rfl rfl rfl (by decide +kernel) ⟨(Nat.le_of_ble_eq_true rfl), (Nat.le_of_ble_eq_true rfl)⟩) hT hS hA hK hP hD [0, 1] rfl [0, 1, 2, 3, 4, 5, 6, 7, 8, 9, 10, 11, 12, 13, 14] [] [0, 1, 2, 3, 4, 5, 6, 7, 8, 9, 10, 11, 12, 13, 14] rfl (by decide) rfl (by decide) (by decide) rfl (by decide) 0 1 rfl rfl rfl rfl hl.1 rfl (Nat.le_of_ble_eq_true rfl) dL_set_8 ⟨(Nat.le_of_ble_eq_true rfl), (Nat.le_of_ble_eq_true rfl)⟩ [0, 1, 2, 3, 4, 5, 6, 7, 8, 9, 10, 11, 12, 13, 14] rfl (by decide) (fun _ _ _ _ _ hE => hE.elim) (fun H locs _ hP hD hS => ?_)
  refine lv_goto (tgt := 22) hx hb dL_set_11 (by decide) ?_
  refine lv_iconst (v := 0) hx hb dL_set_22 (by decide) ?_
  exact ge_i hx hb hr hlocks rfl hK hP hD hS trivial (Nat.le_of_ble_eq_true rfl) (Nat.le_of_ble_eq_true rfl) dL_set_23
theorem hL_set__classLink_RL_13_IAE : Cond.classLink RL 13 IAE ∈ wsL_set := by decide +kernel
set_option maxHeartbeats 4000000 in
set_option maxRecDepth 100000 in
theorem c_L_set_1 (l : Launch) (hst : l.stackTraces = false) (D : va_G) (sz : Nat) (ad : Nat → Nat) (cI cL : ClassId) (qy lp sp : Int32) (pr ex : Nat → Int32) (c : Nat) (dy tk mk : Nat → Int32) (mK : Nat) (mS : Int32) (su : Nat → Int32) (uK : Nat) (uS : Int32) (sh mu co sr : Nat → Int32) (du bi : Nat → Int64) (bb : Int64) (p0 p1 p2 p3 p4 : Int32) (hbad : ¬ (inR p0 1 100000 ∧ inR p1 0 100 ∧ inR p2 0 100 ∧ inR p3 1 5 ∧ inR p4 1 5)) : gHi l yL_set wsL_set ({ frames := 8, cells := 6, slots := 36, locals := 137 } : Room) D [(cI, .int), (cL, .long)] [.ref (ad 0), .int p0, .int p1, .int p2, .int p3, .int p4] (wG ad cI cL qy lp sp pr ex (nI c) dy tk mk (nI mK) mS su (nI uK) uS sh mu co sr du bi bb) (wG ad cI cL qy lp sp pr ex (nI c) dy tk mk (nI mK) mS su (nI uK) uS sh mu co sr du bi bb) 1 True 6 36 sz := by
  refine gmh_i (cc := cL_set) (maxL := 7) (hh := [(0, 11, 14, 13), (0, 11, 18, 15)]) (by decide) rfl (Nat.le_of_ble_eq_true rfl) ?_
  intro pg en s m args below meth cd A ls hx hb hr hml hown hts hlocks hA hK hP hD hT htab hl
  have hl : lv_has ls 7 [(0, .ref (ad 0)), (1, .int p0), (2, .int p1), (3, .int p2), (4, .int p3), (5, .int p4)] := hl
  have hS : va_S A s.heap s.heap [] := va_S.rf
  refine lv_aload_n hx hb dL_set_0 rfl (lv_at hl 0 rfl) ?_
  refine lv_iload_n hx hb dL_set_1 rfl (lv_at hl 1 rfl) ?_
  refine lv_iload_n hx hb dL_set_2 rfl (lv_at hl 2 rfl) ?_
  refine lv_iload_n hx hb dL_set_3 rfl (lv_at hl 3 rfl) ?_
  refine lv_iload hx hb dL_set_4 (lv_at hl 4 rfl) ?_
  refine lv_iload hx hb dL_set_6 (lv_at hl 5 rfl) ?_
  refine ghV_v (wc := (wG ad cI cL qy lp sp pr ex (nI c) dy tk mk (nI mK) mS su (nI uK) uS sh mu co sr du bi bb)) (wr := []) (w1 := (wG ad cI cL qy lp sp pr ex (nI c) dy tk mk (nI mK) mS su (nI uK) uS sh mu co sr du bi bb)) (W' := (wG ad cI cL qy lp sp pr ex (nI c) dy tk mk (nI mK) mS su (nI uK) uS sh mu co sr du bi bb)) (As := [.int p0, .int p1, .int p2, .int p3, .int p4]) (rest := []) ⟨hx, hb, hml, hown, hts⟩ (c_X1_set_1 l hst D s.heap.size ad cI cL qy lp sp pr ex c dy tk mk mK mS su uK uS sh mu co sr du bi bb p0 p1 p2 p3 p4 hbad) (cwV 5 hts gL_set_X1_set rfl rfl rfl (by decide +kernel) ⟨(Nat.le_of_ble_eq_true rfl), (Nat.le_of_ble_eq_true rfl)⟩) hT hS hA hK hP hD [0, 1] rfl [0, 1, 2, 3, 4, 5, 6, 7, 8, 9, 10, 11, 12, 13, 14] [] [0, 1, 2, 3, 4, 5, 6, 7, 8, 9, 10, 11, 12, 13, 14] rfl (by decide) rfl (by decide) (by decide) rfl (by decide) 0 1 rfl rfl rfl rfl hl.1 rfl (Nat.le_of_ble_eq_true rfl) dL_set_8 ⟨(Nat.le_of_ble_eq_true rfl), (Nat.le_of_ble_eq_true rfl)⟩ [0, 1, 2, 3, 4, 5, 6, 7, 8, 9, 10, 11, 12, 13, 14] rfl (by decide) (fun E ce q9 H locs hE hP hD hS hce hcv hcl => ?_) (fun _ _ hok _ _ _ => hok.elim)
  have hE : E = IAE := hE
  subst hE
  refine vx_catch (name := IAE) hown [] (⟨0, 11, 14, 13⟩ : ExceptionTableEntry) [(⟨0, 11, 18, 15⟩ : ExceptionTableEntry)] (by rw [htab]; rfl) (fun z hz => absurd hz List.not_mem_nil) (by decide) (by decide) (hts _ hL_set__classLink_RL_13_IAE) (va_Nw.use rfl hT.2.2.1) hce hcv hcl ?_
  refine lv_astore (lv' := [(6, .ref q9), (0, .ref (ad 0)), (1, .int p0), (2, .int p1), (3, .int p2), (4, .int p3), (5, .int p4)]) hx hb dL_set_14 hl (by decide) rfl (fun ls hl => ?_)
  refine lv_iconst (v := 1) hx hb dL_set_16 (by decide) ?_
  exact ge_i hx hb hr hlocks rfl hK hP hD hS trivial (Nat.le_of_ble_eq_true rfl) (Nat.le_of_ble_eq_true rfl) dL_set_17
theorem hL_set__classLink_RL_15_ISE : Cond.classLink RL 15 ISE ∈ wsL_set := by decide +kernel
set_option maxHeartbeats 4000000 in
set_option maxRecDepth 100000 in
theorem c_L_set_2 (l : Launch) (hst : l.stackTraces = false) (D : va_G) (sz : Nat) (ad : Nat → Nat) (cI cL : ClassId) (qy lp sp : Int32) (pr ex : Nat → Int32) (c : Nat) (dy tk mk : Nat → Int32) (mK : Nat) (mS : Int32) (su : Nat → Int32) (uK : Nat) (uS : Int32) (sh mu co sr : Nat → Int32) (du bi : Nat → Int64) (bb : Int64) (p0 p1 p2 p3 p4 : Int32) (r0 : inR p0 1 100000) (r1 : inR p1 0 100) (r2 : inR p2 0 100) (r3 : inR p3 1 5) (r4 : inR p4 1 5) (hbad : ¬ (¬ 0 < nI c ∧ tk 0 ≤ 0)) : gHi l yL_set wsL_set ({ frames := 8, cells := 6, slots := 36, locals := 137 } : Room) D [(cI, .int), (cL, .long)] [.ref (ad 0), .int p0, .int p1, .int p2, .int p3, .int p4] (wG ad cI cL qy lp sp pr ex (nI c) dy tk mk (nI mK) mS su (nI uK) uS sh mu co sr du bi bb) (wG ad cI cL qy lp sp pr ex (nI c) dy tk mk (nI mK) mS su (nI uK) uS sh mu co sr du bi bb) 2 True 6 36 sz := by
  refine gmh_i (cc := cL_set) (maxL := 7) (hh := [(0, 11, 14, 13), (0, 11, 18, 15)]) (by decide) rfl (Nat.le_of_ble_eq_true rfl) ?_
  intro pg en s m args below meth cd A ls hx hb hr hml hown hts hlocks hA hK hP hD hT htab hl
  have hl : lv_has ls 7 [(0, .ref (ad 0)), (1, .int p0), (2, .int p1), (3, .int p2), (4, .int p3), (5, .int p4)] := hl
  have hS : va_S A s.heap s.heap [] := va_S.rf
  refine lv_aload_n hx hb dL_set_0 rfl (lv_at hl 0 rfl) ?_
  refine lv_iload_n hx hb dL_set_1 rfl (lv_at hl 1 rfl) ?_
  refine lv_iload_n hx hb dL_set_2 rfl (lv_at hl 2 rfl) ?_
  refine lv_iload_n hx hb dL_set_3 rfl (lv_at hl 3 rfl) ?_
  refine lv_iload hx hb dL_set_4 (lv_at hl 4 rfl) ?_
  refine lv_iload hx hb dL_set_6 (lv_at hl 5 rfl) ?_
  refine ghV_v (wc := (wG ad cI cL qy lp sp pr ex (nI c) dy tk mk (nI mK) mS su (nI uK) uS sh mu co sr du bi bb)) (wr := []) (w1 := (wG ad cI cL qy lp sp pr ex (nI c) dy tk mk (nI mK) mS su (nI uK) uS sh mu co sr du bi bb)) (W' := (wG ad cI cL qy lp sp pr ex (nI c) dy tk mk (nI mK) mS su (nI uK) uS sh mu co sr du bi bb)) (As := [.int p0, .int p1, .int p2, .int p3, .int p4]) (rest := []) ⟨hx, hb, hml, hown, hts⟩ (c_X1_set_2 l hst D s.heap.size ad cI cL qy lp sp pr ex c dy tk mk mK mS su uK uS sh mu co sr du bi bb p0 p1 p2 p3 p4 r0 r1 r2 r3 r4 hbad) (cwV 5 hts gL_set_X1_set rfl rfl rfl (by decide +kernel) ⟨(Nat.le_of_ble_eq_true rfl), (Nat.le_of_ble_eq_true rfl)⟩) hT hS hA hK hP hD [0, 1] rfl [0, 1, 2, 3, 4, 5, 6, 7, 8, 9, 10, 11, 12, 13, 14] [] [0, 1, 2, 3, 4, 5, 6, 7, 8, 9, 10, 11, 12, 13, 14] rfl (by decide) rfl (by decide) (by decide) rfl (by decide) 0 1 rfl rfl rfl rfl hl.1 rfl (Nat.le_of_ble_eq_true rfl) dL_set_8 ⟨(Nat.le_of_ble_eq_true rfl), (Nat.le_of_ble_eq_true rfl)⟩ [0, 1, 2, 3, 4, 5, 6, 7, 8, 9, 10, 11, 12, 13, 14] rfl (by decide) (fun E ce q9 H locs hE hP hD hS hce hcv hcl => ?_) (fun _ _ hok _ _ _ => hok.elim)
  have hE : E = ISE := hE
  subst hE
  refine vx_catch (name := ISE) hown [(⟨0, 11, 14, 13⟩ : ExceptionTableEntry)] (⟨0, 11, 18, 15⟩ : ExceptionTableEntry) [] (by rw [htab]; rfl) (fun z hz => by cases hz with | head => exact Or.inr ⟨by decide, IAE, (hts _ hL_set__classLink_RL_13_IAE), hT.2.2.2.2.2.2⟩ | tail _ h => exact absurd h List.not_mem_nil) (by decide) (by decide) (hts _ hL_set__classLink_RL_15_ISE) (va_Nw.use rfl hT.2.2.2.1) hce hcv hcl ?_
  refine lv_astore (lv' := [(6, .ref q9), (0, .ref (ad 0)), (1, .int p0), (2, .int p1), (3, .int p2), (4, .int p3), (5, .int p4)]) hx hb dL_set_18 hl (by decide) rfl (fun ls hl => ?_)
  refine lv_iconst (v := 2) hx hb dL_set_20 (by decide) ?_
  exact ge_i hx hb hr hlocks rfl hK hP hD hS trivial (Nat.le_of_ble_eq_true rfl) (Nat.le_of_ble_eq_true rfl) dL_set_21
set_option maxHeartbeats 4000000 in
set_option maxRecDepth 100000 in
theorem c_L_review (l : Launch) (hst : l.stackTraces = false) (D : va_G) (sz : Nat) (ad : Nat → Nat) (cI cL : ClassId) (qy lp sp : Int32) (pr ex : Nat → Int32) (c : Nat) (dy tk mk : Nat → Int32) (mK : Nat) (mS : Int32) (su : Nat → Int32) (uK : Nat) (uS : Int32) (sh mu co sr : Nat → Int32) (du bi : Nat → Int64) (bb : Int64) (o : Nat) (g : Nat → Int64) (j : Nat) (p : Int32) (hj : j < 20) (r1 : inR p 1 1000) (hc : c ≤ 20) (hmK : mK < 20) (huK : uK < 20) : gHi l yL_review wsL_review ({ frames := 9, cells := 2, slots := 12, locals := 156 } : Room) D [(cI, .int), (cL, .long)] [.ref (ad 0), .int (nI j), .int p, .ref o] ((wG ad cI cL qy lp sp pr ex (nI c) dy tk mk (nI mK) mS su (nI uK) uS sh mu co sr du bi bb) ++ [(o, .inl (cL, 1, .inr (.inl g)))]) ((wG ad cI cL qy lp sp (rvF pr j 20 p) ex (nI c) dy tk (rMk (stC qy lp sp (rvF pr j 20 p) ex tk mK uK (st0 sh mu co sr du) c)) (nI mK) (rMS (stC qy lp sp (rvF pr j 20 p) ex tk mK uK (st0 sh mu co sr du) c)) (rSu (stC qy lp sp (rvF pr j 20 p) ex tk mK uK (st0 sh mu co sr du) c)) (nI uK) (rUS (stC qy lp sp (rvF pr j 20 p) ex tk mK uK (st0 sh mu co sr du) c)) (rSh (stC qy lp sp (rvF pr j 20 p) ex tk mK uK (st0 sh mu co sr du) c)) (rMu (stC qy lp sp (rvF pr j 20 p) ex tk mK uK (st0 sh mu co sr du) c)) (rCo (stC qy lp sp (rvF pr j 20 p) ex tk mK uK (st0 sh mu co sr du) c)) (rSr (stC qy lp sp (rvF pr j 20 p) ex tk mK uK (st0 sh mu co sr du) c)) (rDu (stC qy lp sp (rvF pr j 20 p) ex tk mK uK (st0 sh mu co sr du) c)) bi bb) ++ [(o, .inl (cL, 1, .inr (.inl (vp_updL g 0 ((pr j).toInt64)))))]) 0 True 2 12 sz := by
  refine gmh_i (cc := cL_review) (maxL := 5) (hh := [(0, 10, 13, 13)]) (by decide) rfl (Nat.le_of_ble_eq_true rfl) ?_
  intro pg en s m args below meth cd A ls hx hb hr hml hown hts hlocks hA hK hP hD hT htab hl
  have hl : lv_has ls 5 [(0, .ref (ad 0)), (1, .int (nI j)), (2, .int p), (3, .ref o)] := hl
  have hS : va_S A s.heap s.heap [] := va_S.rf
  refine lv_aload_n hx hb dL_review_0 rfl (lv_at hl 3 rfl) ?_
  refine lv_iconst (v := 0) hx hb dL_review_1 (by decide) ?_
  refine lv_aload_n hx hb dL_review_2 rfl (lv_at hl 0 rfl) ?_
  refine lv_iload_n hx hb dL_review_3 rfl (lv_at hl 1 rfl) ?_
  refine lv_iload_n hx hb dL_review_4 rfl (lv_at hl 2 rfl) ?_
  refine ghV_i (wc := (wG ad cI cL qy lp sp pr ex (nI c) dy tk mk (nI mK) mS su (nI uK) uS sh mu co sr du bi bb)) (wr := [(o, .inl (cL, 1, .inr (.inl g)))]) (w1 := (wG ad cI cL qy lp sp (rvF pr j 20 p) ex (nI c) dy tk (rMk (stC qy lp sp (rvF pr j 20 p) ex tk mK uK (st0 sh mu co sr du) c)) (nI mK) (rMS (stC qy lp sp (rvF pr j 20 p) ex tk mK uK (st0 sh mu co sr du) c)) (rSu (stC qy lp sp (rvF pr j 20 p) ex tk mK uK (st0 sh mu co sr du) c)) (nI uK) (rUS (stC qy lp sp (rvF pr j 20 p) ex tk mK uK (st0 sh mu co sr du) c)) (rSh (stC qy lp sp (rvF pr j 20 p) ex tk mK uK (st0 sh mu co sr du) c)) (rMu (stC qy lp sp (rvF pr j 20 p) ex tk mK uK (st0 sh mu co sr du) c)) (rCo (stC qy lp sp (rvF pr j 20 p) ex tk mK uK (st0 sh mu co sr du) c)) (rSr (stC qy lp sp (rvF pr j 20 p) ex tk mK uK (st0 sh mu co sr du) c)) (rDu (stC qy lp sp (rvF pr j 20 p) ex tk mK uK (st0 sh mu co sr du) c)) bi bb)) (W' := ((wG ad cI cL qy lp sp (rvF pr j 20 p) ex (nI c) dy tk (rMk (stC qy lp sp (rvF pr j 20 p) ex tk mK uK (st0 sh mu co sr du) c)) (nI mK) (rMS (stC qy lp sp (rvF pr j 20 p) ex tk mK uK (st0 sh mu co sr du) c)) (rSu (stC qy lp sp (rvF pr j 20 p) ex tk mK uK (st0 sh mu co sr du) c)) (nI uK) (rUS (stC qy lp sp (rvF pr j 20 p) ex tk mK uK (st0 sh mu co sr du) c)) (rSh (stC qy lp sp (rvF pr j 20 p) ex tk mK uK (st0 sh mu co sr du) c)) (rMu (stC qy lp sp (rvF pr j 20 p) ex tk mK uK (st0 sh mu co sr du) c)) (rCo (stC qy lp sp (rvF pr j 20 p) ex tk mK uK (st0 sh mu co sr du) c)) (rSr (stC qy lp sp (rvF pr j 20 p) ex tk mK uK (st0 sh mu co sr du) c)) (rDu (stC qy lp sp (rvF pr j 20 p) ex tk mK uK (st0 sh mu co sr du) c)) bi bb) ++ [(o, .inl (cL, 1, .inr (.inl g)))])) (As := [.int (nI j), .int p]) (rest := [.int 0, .ref o]) ⟨hx, hb, hml, hown, hts⟩ (c_X1_review l hst D s.heap.size ad cI cL qy lp sp pr ex c dy tk mk mK mS su uK uS sh mu co sr du bi bb j p hj r1 hc hmK huK) (cwV 2 hts gL_review_X1_review rfl rfl rfl (by decide +kernel) ⟨(Nat.le_of_ble_eq_true rfl), (Nat.le_of_ble_eq_true rfl)⟩) hT hS hA hK hP hD [0, 1] rfl [0, 1, 2, 3, 4, 5, 6, 7, 8, 9, 10, 11, 12, 13, 14] [15] [1, 2, 3, 4, 5, 6, 7, 8, 9, 10, 11, 12, 13, 14, 15, 0] rfl (by decide) rfl (by decide) (by decide) rfl (by decide) 0 1 rfl rfl rfl rfl hl.1 rfl (Nat.le_of_ble_eq_true rfl) dL_review_5 ⟨(Nat.le_of_ble_eq_true rfl), (Nat.le_of_ble_eq_true rfl)⟩ [1, 2, 3, 4, 5, 6, 7, 8, 9, 10, 11, 12, 13, 14, 15, 0] rfl (by decide) (fun _ _ _ _ _ hE => hE.elim) (fun H locs _ hP hD hS => ?_)
  refine lv_i2l hx hb dL_review_8 rfl ?_
  refine ga_last (j := 0) (ws' := ((wG ad cI cL qy lp sp (rvF pr j 20 p) ex (nI c) dy tk (rMk (stC qy lp sp (rvF pr j 20 p) ex tk mK uK (st0 sh mu co sr du) c)) (nI mK) (rMS (stC qy lp sp (rvF pr j 20 p) ex tk mK uK (st0 sh mu co sr du) c)) (rSu (stC qy lp sp (rvF pr j 20 p) ex tk mK uK (st0 sh mu co sr du) c)) (nI uK) (rUS (stC qy lp sp (rvF pr j 20 p) ex tk mK uK (st0 sh mu co sr du) c)) (rSh (stC qy lp sp (rvF pr j 20 p) ex tk mK uK (st0 sh mu co sr du) c)) (rMu (stC qy lp sp (rvF pr j 20 p) ex tk mK uK (st0 sh mu co sr du) c)) (rCo (stC qy lp sp (rvF pr j 20 p) ex tk mK uK (st0 sh mu co sr du) c)) (rSr (stC qy lp sp (rvF pr j 20 p) ex tk mK uK (st0 sh mu co sr du) c)) (rDu (stC qy lp sp (rvF pr j 20 p) ex tk mK uK (st0 sh mu co sr du) c)) bi bb) ++ [(o, .inl (cL, 1, .inr (.inl (vp_updL g 0 ((pr j).toInt64)))))])) hx hb hK hP hD hS 15 1 rfl rfl (by decide) (by decide) dL_review_9 rfl (fun H locs hP hD hS => ?_)
  refine lv_goto (tgt := 17) hx hb dL_review_10 (by decide) ?_
  refine lv_iconst (v := 0) hx hb dL_review_17 (by decide) ?_
  exact ge_i hx hb hr hlocks rfl hK hP hD hS trivial (Nat.le_of_ble_eq_true rfl) (Nat.le_of_ble_eq_true rfl) dL_review_18
theorem hL_review__classLink_RL_13_IAE : Cond.classLink RL 13 IAE ∈ wsL_review := by decide +kernel
set_option maxHeartbeats 4000000 in
set_option maxRecDepth 100000 in
theorem c_L_review_1 (l : Launch) (hst : l.stackTraces = false) (D : va_G) (sz : Nat) (ad : Nat → Nat) (cI cL : ClassId) (qy lp sp : Int32) (pr ex : Nat → Int32) (c : Nat) (dy tk mk : Nat → Int32) (mK : Nat) (mS : Int32) (su : Nat → Int32) (uK : Nat) (uS : Int32) (sh mu co sr : Nat → Int32) (du bi : Nat → Int64) (bb : Int64) (o : Nat) (g : Nat → Int64) (v p : Int32) (hbad : ¬ (inR v 0 19 ∧ inR p 1 1000)) : gHi l yL_review wsL_review ({ frames := 9, cells := 2, slots := 12, locals := 156 } : Room) D [(cI, .int), (cL, .long)] [.ref (ad 0), .int v, .int p, .ref o] ((wG ad cI cL qy lp sp pr ex (nI c) dy tk mk (nI mK) mS su (nI uK) uS sh mu co sr du bi bb) ++ [(o, .inl (cL, 1, .inr (.inl g)))]) ((wG ad cI cL qy lp sp pr ex (nI c) dy tk mk (nI mK) mS su (nI uK) uS sh mu co sr du bi bb) ++ [(o, .inl (cL, 1, .inr (.inl g)))]) 1 True 2 12 sz := by
  refine gmh_i (cc := cL_review) (maxL := 5) (hh := [(0, 10, 13, 13)]) (by decide) rfl (Nat.le_of_ble_eq_true rfl) ?_
  intro pg en s m args below meth cd A ls hx hb hr hml hown hts hlocks hA hK hP hD hT htab hl
  have hl : lv_has ls 5 [(0, .ref (ad 0)), (1, .int v), (2, .int p), (3, .ref o)] := hl
  have hS : va_S A s.heap s.heap [] := va_S.rf
  refine lv_aload_n hx hb dL_review_0 rfl (lv_at hl 3 rfl) ?_
  refine lv_iconst (v := 0) hx hb dL_review_1 (by decide) ?_
  refine lv_aload_n hx hb dL_review_2 rfl (lv_at hl 0 rfl) ?_
  refine lv_iload_n hx hb dL_review_3 rfl (lv_at hl 1 rfl) ?_
  refine lv_iload_n hx hb dL_review_4 rfl (lv_at hl 2 rfl) ?_
  refine ghV_i (wc := (wG ad cI cL qy lp sp pr ex (nI c) dy tk mk (nI mK) mS su (nI uK) uS sh mu co sr du bi bb)) (wr := [(o, .inl (cL, 1, .inr (.inl g)))]) (w1 := (wG ad cI cL qy lp sp pr ex (nI c) dy tk mk (nI mK) mS su (nI uK) uS sh mu co sr du bi bb)) (W' := ((wG ad cI cL qy lp sp pr ex (nI c) dy tk mk (nI mK) mS su (nI uK) uS sh mu co sr du bi bb) ++ [(o, .inl (cL, 1, .inr (.inl g)))])) (As := [.int v, .int p]) (rest := [.int 0, .ref o]) ⟨hx, hb, hml, hown, hts⟩ (c_X1_review_1 l hst D s.heap.size ad cI cL qy lp sp pr ex c dy tk mk mK mS su uK uS sh mu co sr du bi bb v p hbad) (cwV 2 hts gL_review_X1_review rfl rfl rfl (by decide +kernel) ⟨(Nat.le_of_ble_eq_true rfl), (Nat.le_of_ble_eq_true rfl)⟩) hT hS hA hK hP hD [0, 1] rfl [0, 1, 2, 3, 4, 5, 6, 7, 8, 9, 10, 11, 12, 13, 14] [15] [1, 2, 3, 4, 5, 6, 7, 8, 9, 10, 11, 12, 13, 14, 15, 0] rfl (by decide) rfl (by decide) (by decide) rfl (by decide) 0 1 rfl rfl rfl rfl hl.1 rfl (Nat.le_of_ble_eq_true rfl) dL_review_5 ⟨(Nat.le_of_ble_eq_true rfl), (Nat.le_of_ble_eq_true rfl)⟩ [1, 2, 3, 4, 5, 6, 7, 8, 9, 10, 11, 12, 13, 14, 15, 0] rfl (by decide) (fun E ce q9 H locs hE hP hD hS hce hcv hcl => ?_) (fun _ _ hok _ _ _ => hok.elim)
  have hE : E = IAE := hE
  subst hE
  refine vx_catch (name := IAE) hown [] (⟨0, 10, 13, 13⟩ : ExceptionTableEntry) [] (by rw [htab]; rfl) (fun z hz => absurd hz List.not_mem_nil) (by decide) (by decide) (hts _ hL_review__classLink_RL_13_IAE) (va_Nw.use rfl hT.2.2.1) hce hcv hcl ?_
  refine lv_astore (lv' := [(4, .ref q9), (0, .ref (ad 0)), (1, .int v), (2, .int p), (3, .ref o)]) hx hb dL_review_13 hl (by decide) rfl (fun ls hl => ?_)
  refine lv_iconst (v := 1) hx hb dL_review_15 (by decide) ?_
  exact ge_i hx hb hr hlocks rfl hK hP hD hS trivial (Nat.le_of_ble_eq_true rfl) (Nat.le_of_ble_eq_true rfl) dL_review_16
set_option maxHeartbeats 4000000 in
set_option maxRecDepth 100000 in
theorem c_L_excuse (l : Launch) (hst : l.stackTraces = false) (D : va_G) (sz : Nat) (ad : Nat → Nat) (cI cL : ClassId) (qy lp sp : Int32) (pr ex : Nat → Int32) (c : Nat) (dy tk mk : Nat → Int32) (mK : Nat) (mS : Int32) (su : Nat → Int32) (uK : Nat) (uS : Int32) (sh mu co sr : Nat → Int32) (du bi : Nat → Int64) (bb : Int64) (o : Nat) (g : Nat → Int64) (j : Nat) (p : Int32) (hj : j < 20) (r1 : inR p 0 360) (hc : c ≤ 20) (hmK : mK < 20) (huK : uK < 20) : gHi l yL_excuse wsL_excuse ({ frames := 9, cells := 2, slots := 12, locals := 155 } : Room) D [(cI, .int), (cL, .long)] [.ref (ad 0), .int (nI j), .int p, .ref o] ((wG ad cI cL qy lp sp pr ex (nI c) dy tk mk (nI mK) mS su (nI uK) uS sh mu co sr du bi bb) ++ [(o, .inl (cL, 1, .inr (.inl g)))]) ((wG ad cI cL qy lp sp pr (upd ex j p) (nI c) dy tk (rMk (stC qy lp sp pr (upd ex j p) tk mK uK (st0 sh mu co sr du) c)) (nI mK) (rMS (stC qy lp sp pr (upd ex j p) tk mK uK (st0 sh mu co sr du) c)) (rSu (stC qy lp sp pr (upd ex j p) tk mK uK (st0 sh mu co sr du) c)) (nI uK) (rUS (stC qy lp sp pr (upd ex j p) tk mK uK (st0 sh mu co sr du) c)) (rSh (stC qy lp sp pr (upd ex j p) tk mK uK (st0 sh mu co sr du) c)) (rMu (stC qy lp sp pr (upd ex j p) tk mK uK (st0 sh mu co sr du) c)) (rCo (stC qy lp sp pr (upd ex j p) tk mK uK (st0 sh mu co sr du) c)) (rSr (stC qy lp sp pr (upd ex j p) tk mK uK (st0 sh mu co sr du) c)) (rDu (stC qy lp sp pr (upd ex j p) tk mK uK (st0 sh mu co sr du) c)) bi bb) ++ [(o, .inl (cL, 1, .inr (.inl (vp_updL g 0 ((ex j).toInt64)))))]) 0 True 2 12 sz := by
  refine gmh_i (cc := cL_excuse) (maxL := 5) (hh := [(0, 10, 13, 13)]) (by decide) rfl (Nat.le_of_ble_eq_true rfl) ?_
  intro pg en s m args below meth cd A ls hx hb hr hml hown hts hlocks hA hK hP hD hT htab hl
  have hl : lv_has ls 5 [(0, .ref (ad 0)), (1, .int (nI j)), (2, .int p), (3, .ref o)] := hl
  have hS : va_S A s.heap s.heap [] := va_S.rf
  refine lv_aload_n hx hb dL_excuse_0 rfl (lv_at hl 3 rfl) ?_
  refine lv_iconst (v := 0) hx hb dL_excuse_1 (by decide) ?_
  refine lv_aload_n hx hb dL_excuse_2 rfl (lv_at hl 0 rfl) ?_
  refine lv_iload_n hx hb dL_excuse_3 rfl (lv_at hl 1 rfl) ?_
  refine lv_iload_n hx hb dL_excuse_4 rfl (lv_at hl 2 rfl) ?_
  refine ghV_i (wc := (wG ad cI cL qy lp sp pr ex (nI c) dy tk mk (nI mK) mS su (nI uK) uS sh mu co sr du bi bb)) (wr := [(o, .inl (cL, 1, .inr (.inl g)))]) (w1 := (wG ad cI cL qy lp sp pr (upd ex j p) (nI c) dy tk (rMk (stC qy lp sp pr (upd ex j p) tk mK uK (st0 sh mu co sr du) c)) (nI mK) (rMS (stC qy lp sp pr (upd ex j p) tk mK uK (st0 sh mu co sr du) c)) (rSu (stC qy lp sp pr (upd ex j p) tk mK uK (st0 sh mu co sr du) c)) (nI uK) (rUS (stC qy lp sp pr (upd ex j p) tk mK uK (st0 sh mu co sr du) c)) (rSh (stC qy lp sp pr (upd ex j p) tk mK uK (st0 sh mu co sr du) c)) (rMu (stC qy lp sp pr (upd ex j p) tk mK uK (st0 sh mu co sr du) c)) (rCo (stC qy lp sp pr (upd ex j p) tk mK uK (st0 sh mu co sr du) c)) (rSr (stC qy lp sp pr (upd ex j p) tk mK uK (st0 sh mu co sr du) c)) (rDu (stC qy lp sp pr (upd ex j p) tk mK uK (st0 sh mu co sr du) c)) bi bb)) (W' := ((wG ad cI cL qy lp sp pr (upd ex j p) (nI c) dy tk (rMk (stC qy lp sp pr (upd ex j p) tk mK uK (st0 sh mu co sr du) c)) (nI mK) (rMS (stC qy lp sp pr (upd ex j p) tk mK uK (st0 sh mu co sr du) c)) (rSu (stC qy lp sp pr (upd ex j p) tk mK uK (st0 sh mu co sr du) c)) (nI uK) (rUS (stC qy lp sp pr (upd ex j p) tk mK uK (st0 sh mu co sr du) c)) (rSh (stC qy lp sp pr (upd ex j p) tk mK uK (st0 sh mu co sr du) c)) (rMu (stC qy lp sp pr (upd ex j p) tk mK uK (st0 sh mu co sr du) c)) (rCo (stC qy lp sp pr (upd ex j p) tk mK uK (st0 sh mu co sr du) c)) (rSr (stC qy lp sp pr (upd ex j p) tk mK uK (st0 sh mu co sr du) c)) (rDu (stC qy lp sp pr (upd ex j p) tk mK uK (st0 sh mu co sr du) c)) bi bb) ++ [(o, .inl (cL, 1, .inr (.inl g)))])) (As := [.int (nI j), .int p]) (rest := [.int 0, .ref o]) ⟨hx, hb, hml, hown, hts⟩ (c_X1_excuse l hst D s.heap.size ad cI cL qy lp sp pr ex c dy tk mk mK mS su uK uS sh mu co sr du bi bb j p hj r1 hc hmK huK) (cwV 2 hts gL_excuse_X1_excuse rfl rfl rfl (by decide +kernel) ⟨(Nat.le_of_ble_eq_true rfl), (Nat.le_of_ble_eq_true rfl)⟩) hT hS hA hK hP hD [0, 1] rfl [0, 1, 2, 3, 4, 5, 6, 7, 8, 9, 10, 11, 12, 13, 14] [15] [1, 2, 3, 4, 5, 6, 7, 8, 9, 10, 11, 12, 13, 14, 15, 0] rfl (by decide) rfl (by decide) (by decide) rfl (by decide) 0 1 rfl rfl rfl rfl hl.1 rfl (Nat.le_of_ble_eq_true rfl) dL_excuse_5 ⟨(Nat.le_of_ble_eq_true rfl), (Nat.le_of_ble_eq_true rfl)⟩ [1, 2, 3, 4, 5, 6, 7, 8, 9, 10, 11, 12, 13, 14, 15, 0] rfl (by decide) (fun _ _ _ _ _ hE => hE.elim) (fun H locs _ hP hD hS => ?_)
  refine lv_i2l hx hb dL_excuse_8 rfl ?_
  refine ga_last (j := 0) (ws' := ((wG ad cI cL qy lp sp pr (upd ex j p) (nI c) dy tk (rMk (stC qy lp sp pr (upd ex j p) tk mK uK (st0 sh mu co sr du) c)) (nI mK) (rMS (stC qy lp sp pr (upd ex j p) tk mK uK (st0 sh mu co sr du) c)) (rSu (stC qy lp sp pr (upd ex j p) tk mK uK (st0 sh mu co sr du) c)) (nI uK) (rUS (stC qy lp sp pr (upd ex j p) tk mK uK (st0 sh mu co sr du) c)) (rSh (stC qy lp sp pr (upd ex j p) tk mK uK (st0 sh mu co sr du) c)) (rMu (stC qy lp sp pr (upd ex j p) tk mK uK (st0 sh mu co sr du) c)) (rCo (stC qy lp sp pr (upd ex j p) tk mK uK (st0 sh mu co sr du) c)) (rSr (stC qy lp sp pr (upd ex j p) tk mK uK (st0 sh mu co sr du) c)) (rDu (stC qy lp sp pr (upd ex j p) tk mK uK (st0 sh mu co sr du) c)) bi bb) ++ [(o, .inl (cL, 1, .inr (.inl (vp_updL g 0 ((ex j).toInt64)))))])) hx hb hK hP hD hS 15 1 rfl rfl (by decide) (by decide) dL_excuse_9 rfl (fun H locs hP hD hS => ?_)
  refine lv_goto (tgt := 17) hx hb dL_excuse_10 (by decide) ?_
  refine lv_iconst (v := 0) hx hb dL_excuse_17 (by decide) ?_
  exact ge_i hx hb hr hlocks rfl hK hP hD hS trivial (Nat.le_of_ble_eq_true rfl) (Nat.le_of_ble_eq_true rfl) dL_excuse_18
theorem hL_excuse__classLink_RL_13_IAE : Cond.classLink RL 13 IAE ∈ wsL_excuse := by decide +kernel
set_option maxHeartbeats 4000000 in
set_option maxRecDepth 100000 in
theorem c_L_excuse_1 (l : Launch) (hst : l.stackTraces = false) (D : va_G) (sz : Nat) (ad : Nat → Nat) (cI cL : ClassId) (qy lp sp : Int32) (pr ex : Nat → Int32) (c : Nat) (dy tk mk : Nat → Int32) (mK : Nat) (mS : Int32) (su : Nat → Int32) (uK : Nat) (uS : Int32) (sh mu co sr : Nat → Int32) (du bi : Nat → Int64) (bb : Int64) (o : Nat) (g : Nat → Int64) (v p : Int32) (hbad : ¬ (inR v 0 19 ∧ inR p 0 360)) : gHi l yL_excuse wsL_excuse ({ frames := 9, cells := 2, slots := 12, locals := 155 } : Room) D [(cI, .int), (cL, .long)] [.ref (ad 0), .int v, .int p, .ref o] ((wG ad cI cL qy lp sp pr ex (nI c) dy tk mk (nI mK) mS su (nI uK) uS sh mu co sr du bi bb) ++ [(o, .inl (cL, 1, .inr (.inl g)))]) ((wG ad cI cL qy lp sp pr ex (nI c) dy tk mk (nI mK) mS su (nI uK) uS sh mu co sr du bi bb) ++ [(o, .inl (cL, 1, .inr (.inl g)))]) 1 True 2 12 sz := by
  refine gmh_i (cc := cL_excuse) (maxL := 5) (hh := [(0, 10, 13, 13)]) (by decide) rfl (Nat.le_of_ble_eq_true rfl) ?_
  intro pg en s m args below meth cd A ls hx hb hr hml hown hts hlocks hA hK hP hD hT htab hl
  have hl : lv_has ls 5 [(0, .ref (ad 0)), (1, .int v), (2, .int p), (3, .ref o)] := hl
  have hS : va_S A s.heap s.heap [] := va_S.rf
  refine lv_aload_n hx hb dL_excuse_0 rfl (lv_at hl 3 rfl) ?_
  refine lv_iconst (v := 0) hx hb dL_excuse_1 (by decide) ?_
  refine lv_aload_n hx hb dL_excuse_2 rfl (lv_at hl 0 rfl) ?_
  refine lv_iload_n hx hb dL_excuse_3 rfl (lv_at hl 1 rfl) ?_
  refine lv_iload_n hx hb dL_excuse_4 rfl (lv_at hl 2 rfl) ?_
  refine ghV_i (wc := (wG ad cI cL qy lp sp pr ex (nI c) dy tk mk (nI mK) mS su (nI uK) uS sh mu co sr du bi bb)) (wr := [(o, .inl (cL, 1, .inr (.inl g)))]) (w1 := (wG ad cI cL qy lp sp pr ex (nI c) dy tk mk (nI mK) mS su (nI uK) uS sh mu co sr du bi bb)) (W' := ((wG ad cI cL qy lp sp pr ex (nI c) dy tk mk (nI mK) mS su (nI uK) uS sh mu co sr du bi bb) ++ [(o, .inl (cL, 1, .inr (.inl g)))])) (As := [.int v, .int p]) (rest := [.int 0, .ref o]) ⟨hx, hb, hml, hown, hts⟩ (c_X1_excuse_1 l hst D s.heap.size ad cI cL qy lp sp pr ex c dy tk mk mK mS su uK uS sh mu co sr du bi bb v p hbad) (cwV 2 hts gL_excuse_X1_excuse rfl rfl rfl (by decide +kernel) ⟨(Nat.le_of_ble_eq_true rfl), (Nat.le_of_ble_eq_true rfl)⟩) hT hS hA hK hP hD [0, 1] rfl [0, 1, 2, 3, 4, 5, 6, 7, 8, 9, 10, 11, 12, 13, 14] [15] [1, 2, 3, 4, 5, 6, 7, 8, 9, 10, 11, 12, 13, 14, 15, 0] rfl (by decide) rfl (by decide) (by decide) rfl (by decide) 0 1 rfl rfl rfl rfl hl.1 rfl (Nat.le_of_ble_eq_true rfl) dL_excuse_5 ⟨(Nat.le_of_ble_eq_true rfl), (Nat.le_of_ble_eq_true rfl)⟩ [1, 2, 3, 4, 5, 6, 7, 8, 9, 10, 11, 12, 13, 14, 15, 0] rfl (by decide) (fun E ce q9 H locs hE hP hD hS hce hcv hcl => ?_) (fun _ _ hok _ _ _ => hok.elim)
  have hE : E = IAE := hE
  subst hE
  refine vx_catch (name := IAE) hown [] (⟨0, 10, 13, 13⟩ : ExceptionTableEntry) [] (by rw [htab]; rfl) (fun z hz => absurd hz List.not_mem_nil) (by decide) (by decide) (hts _ hL_excuse__classLink_RL_13_IAE) (va_Nw.use rfl hT.2.2.1) hce hcv hcl ?_
  refine lv_astore (lv' := [(4, .ref q9), (0, .ref (ad 0)), (1, .int v), (2, .int p), (3, .ref o)]) hx hb dL_excuse_13 hl (by decide) rfl (fun ls hl => ?_)
  refine lv_iconst (v := 1) hx hb dL_excuse_15 (by decide) ?_
  exact ge_i hx hb hr hlocks rfl hK hP hD hS trivial (Nat.le_of_ble_eq_true rfl) (Nat.le_of_ble_eq_true rfl) dL_excuse_16
set_option maxHeartbeats 4000000 in
set_option maxRecDepth 100000 in
theorem c_L_take (l : Launch) (hst : l.stackTraces = false) (D : va_G) (sz : Nat) (ad : Nat → Nat) (cI cL : ClassId) (qy lp sp : Int32) (pr ex : Nat → Int32) (c : Nat) (dy tk mk : Nat → Int32) (mK : Nat) (mS : Int32) (su : Nat → Int32) (uK : Nat) (uS : Int32) (sh mu co sr : Nat → Int32) (du bi : Nat → Int64) (bb : Int64) (o : Nat) (g : Nat → Int64) (a : Nat) (q : Int32) (ha : a < 360) (r1 : inR q 1 500) (hc : c < 20) (hroom : ∀ d, a ≤ d → d ≤ a → dy d + q ≤ 500) : gHi l yL_take wsL_take ({ frames := 9, cells := 4, slots := 24, locals := 154 } : Room) D [(cI, .int), (cL, .long)] [.ref (ad 0), .int (nI a), .int q, .ref o] ((wG ad cI cL qy lp sp pr ex (nI c) dy tk mk (nI mK) mS su (nI uK) uS sh mu co sr du bi bb) ++ [(o, .inl (cL, 1, .inr (.inl g)))]) ((wG ad cI cL qy lp sp pr ex (nI c) (adF dy a (a + 1) q) (upd tk c (tk c + q * (nI a - nI a + 1))) mk (nI mK) mS su (nI uK) uS sh mu co sr du bi bb) ++ [(o, .inl (cL, 1, .inr (.inl (vp_updL g 0 ((adF dy a (a + 1) q a).toInt64)))))]) 0 True 4 24 sz := by
  refine gmh_i (cc := cL_take) (maxL := 5) (hh := [(0, 10, 13, 13), (0, 10, 17, 15)]) (by decide) rfl (Nat.le_of_ble_eq_true rfl) ?_
  intro pg en s m args below meth cd A ls hx hb hr hml hown hts hlocks hA hK hP hD hT htab hl
  have hl : lv_has ls 5 [(0, .ref (ad 0)), (1, .int (nI a)), (2, .int q), (3, .ref o)] := hl
  have hS : va_S A s.heap s.heap [] := va_S.rf
  refine lv_aload_n hx hb dL_take_0 rfl (lv_at hl 3 rfl) ?_
  refine lv_iconst (v := 0) hx hb dL_take_1 (by decide) ?_
  refine lv_aload_n hx hb dL_take_2 rfl (lv_at hl 0 rfl) ?_
  refine lv_iload_n hx hb dL_take_3 rfl (lv_at hl 1 rfl) ?_
  refine lv_iload_n hx hb dL_take_4 rfl (lv_at hl 2 rfl) ?_
  refine ghV_i (wc := (wG ad cI cL qy lp sp pr ex (nI c) dy tk mk (nI mK) mS su (nI uK) uS sh mu co sr du bi bb)) (wr := [(o, .inl (cL, 1, .inr (.inl g)))]) (w1 := (wG ad cI cL qy lp sp pr ex (nI c) (adF dy a (a + 1) q) (upd tk c (tk c + q * (nI a - nI a + 1))) mk (nI mK) mS su (nI uK) uS sh mu co sr du bi bb)) (W' := ((wG ad cI cL qy lp sp pr ex (nI c) (adF dy a (a + 1) q) (upd tk c (tk c + q * (nI a - nI a + 1))) mk (nI mK) mS su (nI uK) uS sh mu co sr du bi bb) ++ [(o, .inl (cL, 1, .inr (.inl g)))])) (As := [.int (nI a), .int q]) (rest := [.int 0, .ref o]) ⟨hx, hb, hml, hown, hts⟩ (c_X1_take l hst D s.heap.size ad cI cL qy lp sp pr ex c dy tk mk mK mS su uK uS sh mu co sr du bi bb a q ha r1 hc hroom) (cwV 2 hts gL_take_X1_take rfl rfl rfl (by decide +kernel) ⟨(Nat.le_of_ble_eq_true rfl), (Nat.le_of_ble_eq_true rfl)⟩) hT hS hA hK hP hD [0, 1] rfl [0, 1, 2, 3, 4, 5, 6, 7, 8, 9, 10, 11, 12, 13, 14] [15] [1, 2, 3, 4, 5, 6, 7, 8, 9, 10, 11, 12, 13, 14, 15, 0] rfl (by decide) rfl (by decide) (by decide) rfl (by decide) 0 1 rfl rfl rfl rfl hl.1 rfl (Nat.le_of_ble_eq_true rfl) dL_take_5 ⟨(Nat.le_of_ble_eq_true rfl), (Nat.le_of_ble_eq_true rfl)⟩ [1, 2, 3, 4, 5, 6, 7, 8, 9, 10, 11, 12, 13, 14, 15, 0] rfl (by decide) (fun _ _ _ _ _ hE => hE.elim) (fun H locs _ hP hD hS => ?_)
  refine lv_i2l hx hb dL_take_8 rfl ?_
  refine ga_last (j := 0) (ws' := ((wG ad cI cL qy lp sp pr ex (nI c) (adF dy a (a + 1) q) (upd tk c (tk c + q * (nI a - nI a + 1))) mk (nI mK) mS su (nI uK) uS sh mu co sr du bi bb) ++ [(o, .inl (cL, 1, .inr (.inl (vp_updL g 0 ((adF dy a (a + 1) q a).toInt64)))))])) hx hb hK hP hD hS 15 1 rfl rfl (by decide) (by decide) dL_take_9 rfl (fun H locs hP hD hS => ?_)
  refine lv_goto (tgt := 21) hx hb dL_take_10 (by decide) ?_
  refine lv_iconst (v := 0) hx hb dL_take_21 (by decide) ?_
  exact ge_i hx hb hr hlocks rfl hK hP hD hS trivial (Nat.le_of_ble_eq_true rfl) (Nat.le_of_ble_eq_true rfl) dL_take_22
theorem hL_take__classLink_RL_13_IAE : Cond.classLink RL 13 IAE ∈ wsL_take := by decide +kernel
set_option maxHeartbeats 4000000 in
set_option maxRecDepth 100000 in
theorem c_L_take_1 (l : Launch) (hst : l.stackTraces = false) (D : va_G) (sz : Nat) (ad : Nat → Nat) (cI cL : ClassId) (qy lp sp : Int32) (pr ex : Nat → Int32) (c : Nat) (dy tk mk : Nat → Int32) (mK : Nat) (mS : Int32) (su : Nat → Int32) (uK : Nat) (uS : Int32) (sh mu co sr : Nat → Int32) (du bi : Nat → Int64) (bb : Int64) (o : Nat) (g : Nat → Int64) (v q : Int32) (hbad : ¬ (inR v 0 359 ∧ inR q 1 500)) : gHi l yL_take wsL_take ({ frames := 9, cells := 4, slots := 24, locals := 154 } : Room) D [(cI, .int), (cL, .long)] [.ref (ad 0), .int v, .int q, .ref o] ((wG ad cI cL qy lp sp pr ex (nI c) dy tk mk (nI mK) mS su (nI uK) uS sh mu co sr du bi bb) ++ [(o, .inl (cL, 1, .inr (.inl g)))]) ((wG ad cI cL qy lp sp pr ex (nI c) dy tk mk (nI mK) mS su (nI uK) uS sh mu co sr du bi bb) ++ [(o, .inl (cL, 1, .inr (.inl g)))]) 1 True 4 24 sz := by
  refine gmh_i (cc := cL_take) (maxL := 5) (hh := [(0, 10, 13, 13), (0, 10, 17, 15)]) (by decide) rfl (Nat.le_of_ble_eq_true rfl) ?_
  intro pg en s m args below meth cd A ls hx hb hr hml hown hts hlocks hA hK hP hD hT htab hl
  have hl : lv_has ls 5 [(0, .ref (ad 0)), (1, .int v), (2, .int q), (3, .ref o)] := hl
  have hS : va_S A s.heap s.heap [] := va_S.rf
  refine lv_aload_n hx hb dL_take_0 rfl (lv_at hl 3 rfl) ?_
  refine lv_iconst (v := 0) hx hb dL_take_1 (by decide) ?_
  refine lv_aload_n hx hb dL_take_2 rfl (lv_at hl 0 rfl) ?_
  refine lv_iload_n hx hb dL_take_3 rfl (lv_at hl 1 rfl) ?_
  refine lv_iload_n hx hb dL_take_4 rfl (lv_at hl 2 rfl) ?_
  refine ghV_i (wc := (wG ad cI cL qy lp sp pr ex (nI c) dy tk mk (nI mK) mS su (nI uK) uS sh mu co sr du bi bb)) (wr := [(o, .inl (cL, 1, .inr (.inl g)))]) (w1 := (wG ad cI cL qy lp sp pr ex (nI c) dy tk mk (nI mK) mS su (nI uK) uS sh mu co sr du bi bb)) (W' := ((wG ad cI cL qy lp sp pr ex (nI c) dy tk mk (nI mK) mS su (nI uK) uS sh mu co sr du bi bb) ++ [(o, .inl (cL, 1, .inr (.inl g)))])) (As := [.int v, .int q]) (rest := [.int 0, .ref o]) ⟨hx, hb, hml, hown, hts⟩ (c_X1_take_1 l hst D s.heap.size ad cI cL qy lp sp pr ex c dy tk mk mK mS su uK uS sh mu co sr du bi bb v q hbad) (cwV 2 hts gL_take_X1_take rfl rfl rfl (by decide +kernel) ⟨(Nat.le_of_ble_eq_true rfl), (Nat.le_of_ble_eq_true rfl)⟩) hT hS hA hK hP hD [0, 1] rfl [0, 1, 2, 3, 4, 5, 6, 7, 8, 9, 10, 11, 12, 13, 14] [15] [1, 2, 3, 4, 5, 6, 7, 8, 9, 10, 11, 12, 13, 14, 15, 0] rfl (by decide) rfl (by decide) (by decide) rfl (by decide) 0 1 rfl rfl rfl rfl hl.1 rfl (Nat.le_of_ble_eq_true rfl) dL_take_5 ⟨(Nat.le_of_ble_eq_true rfl), (Nat.le_of_ble_eq_true rfl)⟩ [1, 2, 3, 4, 5, 6, 7, 8, 9, 10, 11, 12, 13, 14, 15, 0] rfl (by decide) (fun E ce q9 H locs hE hP hD hS hce hcv hcl => ?_) (fun _ _ hok _ _ _ => hok.elim)
  have hE : E = IAE := hE
  subst hE
  refine vx_catch (name := IAE) hown [] (⟨0, 10, 13, 13⟩ : ExceptionTableEntry) [(⟨0, 10, 17, 15⟩ : ExceptionTableEntry)] (by rw [htab]; rfl) (fun z hz => absurd hz List.not_mem_nil) (by decide) (by decide) (hts _ hL_take__classLink_RL_13_IAE) (va_Nw.use rfl hT.2.2.1) hce hcv hcl ?_
  refine lv_astore (lv' := [(4, .ref q9), (0, .ref (ad 0)), (1, .int v), (2, .int q), (3, .ref o)]) hx hb dL_take_13 hl (by decide) rfl (fun ls hl => ?_)
  refine lv_iconst (v := 1) hx hb dL_take_15 (by decide) ?_
  exact ge_i hx hb hr hlocks rfl hK hP hD hS trivial (Nat.le_of_ble_eq_true rfl) (Nat.le_of_ble_eq_true rfl) dL_take_16
theorem hL_take__classLink_RL_15_ISE : Cond.classLink RL 15 ISE ∈ wsL_take := by decide +kernel
set_option maxHeartbeats 4000000 in
set_option maxRecDepth 100000 in
theorem c_L_take_2 (l : Launch) (hst : l.stackTraces = false) (D : va_G) (sz : Nat) (ad : Nat → Nat) (cI cL : ClassId) (qy lp sp : Int32) (pr ex : Nat → Int32) (c : Nat) (dy tk mk : Nat → Int32) (mK : Nat) (mS : Int32) (su : Nat → Int32) (uK : Nat) (uS : Int32) (sh mu co sr : Nat → Int32) (du bi : Nat → Int64) (bb : Int64) (o : Nat) (g : Nat → Int64) (a : Nat) (q : Int32) (ha : a < 360) (r1 : inR q 1 500) (hc : c ≤ 20) (hbad : ¬ (c < 20 ∧ ∀ d, a ≤ d → d ≤ a → dy d + q ≤ 500)) : gHi l yL_take wsL_take ({ frames := 9, cells := 4, slots := 24, locals := 154 } : Room) D [(cI, .int), (cL, .long)] [.ref (ad 0), .int (nI a), .int q, .ref o] ((wG ad cI cL qy lp sp pr ex (nI c) dy tk mk (nI mK) mS su (nI uK) uS sh mu co sr du bi bb) ++ [(o, .inl (cL, 1, .inr (.inl g)))]) ((wG ad cI cL qy lp sp pr ex (nI c) dy tk mk (nI mK) mS su (nI uK) uS sh mu co sr du bi bb) ++ [(o, .inl (cL, 1, .inr (.inl g)))]) 2 True 4 24 sz := by
  refine gmh_i (cc := cL_take) (maxL := 5) (hh := [(0, 10, 13, 13), (0, 10, 17, 15)]) (by decide) rfl (Nat.le_of_ble_eq_true rfl) ?_
  intro pg en s m args below meth cd A ls hx hb hr hml hown hts hlocks hA hK hP hD hT htab hl
  have hl : lv_has ls 5 [(0, .ref (ad 0)), (1, .int (nI a)), (2, .int q), (3, .ref o)] := hl
  have hS : va_S A s.heap s.heap [] := va_S.rf
  refine lv_aload_n hx hb dL_take_0 rfl (lv_at hl 3 rfl) ?_
  refine lv_iconst (v := 0) hx hb dL_take_1 (by decide) ?_
  refine lv_aload_n hx hb dL_take_2 rfl (lv_at hl 0 rfl) ?_
  refine lv_iload_n hx hb dL_take_3 rfl (lv_at hl 1 rfl) ?_
  refine lv_iload_n hx hb dL_take_4 rfl (lv_at hl 2 rfl) ?_
  refine ghV_i (wc := (wG ad cI cL qy lp sp pr ex (nI c) dy tk mk (nI mK) mS su (nI uK) uS sh mu co sr du bi bb)) (wr := [(o, .inl (cL, 1, .inr (.inl g)))]) (w1 := (wG ad cI cL qy lp sp pr ex (nI c) dy tk mk (nI mK) mS su (nI uK) uS sh mu co sr du bi bb)) (W' := ((wG ad cI cL qy lp sp pr ex (nI c) dy tk mk (nI mK) mS su (nI uK) uS sh mu co sr du bi bb) ++ [(o, .inl (cL, 1, .inr (.inl g)))])) (As := [.int (nI a), .int q]) (rest := [.int 0, .ref o]) ⟨hx, hb, hml, hown, hts⟩ (c_X1_take_2 l hst D s.heap.size ad cI cL qy lp sp pr ex c dy tk mk mK mS su uK uS sh mu co sr du bi bb a q ha r1 hc hbad) (cwV 2 hts gL_take_X1_take rfl rfl rfl (by decide +kernel) ⟨(Nat.le_of_ble_eq_true rfl), (Nat.le_of_ble_eq_true rfl)⟩) hT hS hA hK hP hD [0, 1] rfl [0, 1, 2, 3, 4, 5, 6, 7, 8, 9, 10, 11, 12, 13, 14] [15] [1, 2, 3, 4, 5, 6, 7, 8, 9, 10, 11, 12, 13, 14, 15, 0] rfl (by decide) rfl (by decide) (by decide) rfl (by decide) 0 1 rfl rfl rfl rfl hl.1 rfl (Nat.le_of_ble_eq_true rfl) dL_take_5 ⟨(Nat.le_of_ble_eq_true rfl), (Nat.le_of_ble_eq_true rfl)⟩ [1, 2, 3, 4, 5, 6, 7, 8, 9, 10, 11, 12, 13, 14, 15, 0] rfl (by decide) (fun E ce q9 H locs hE hP hD hS hce hcv hcl => ?_) (fun _ _ hok _ _ _ => hok.elim)
  have hE : E = ISE := hE
  subst hE
  refine vx_catch (name := ISE) hown [(⟨0, 10, 13, 13⟩ : ExceptionTableEntry)] (⟨0, 10, 17, 15⟩ : ExceptionTableEntry) [] (by rw [htab]; rfl) (fun z hz => by cases hz with | head => exact Or.inr ⟨by decide, IAE, (hts _ hL_take__classLink_RL_13_IAE), hT.2.2.2.2.2.2⟩ | tail _ h => exact absurd h List.not_mem_nil) (by decide) (by decide) (hts _ hL_take__classLink_RL_15_ISE) (va_Nw.use rfl hT.2.2.2.1) hce hcv hcl ?_
  refine lv_astore (lv' := [(4, .ref q9), (0, .ref (ad 0)), (1, .int (nI a)), (2, .int q), (3, .ref o)]) hx hb dL_take_17 hl (by decide) rfl (fun ls hl => ?_)
  refine lv_iconst (v := 2) hx hb dL_take_19 (by decide) ?_
  exact ge_i hx hb hr hlocks rfl hK hP hD hS trivial (Nat.le_of_ble_eq_true rfl) (Nat.le_of_ble_eq_true rfl) dL_take_20
set_option maxHeartbeats 4000000 in
set_option maxRecDepth 100000 in
theorem c_L_takeDaily (l : Launch) (hst : l.stackTraces = false) (D : va_G) (sz : Nat) (ad : Nat → Nat) (cI cL : ClassId) (qy lp sp : Int32) (pr ex : Nat → Int32) (c : Nat) (dy tk mk : Nat → Int32) (mK : Nat) (mS : Int32) (su : Nat → Int32) (uK : Nat) (uS : Int32) (sh mu co sr : Nat → Int32) (du bi : Nat → Int64) (bb : Int64) (o : Nat) (g : Nat → Int64) (a b : Nat) (q : Int32) (hab : a ≤ b) (hb3 : b < 360) (r1 : inR q 1 500) (hc : c < 20) (hroom : ∀ d, a ≤ d → d ≤ b → dy d + q ≤ 500) : gHi l yL_takeDaily wsL_takeDaily ({ frames := 10, cells := 5, slots := 30, locals := 176 } : Room) D [(cI, .int), (cL, .long)] [.ref (ad 0), .int (nI a), .int (nI b), .int q, .ref o] ((wG ad cI cL qy lp sp pr ex (nI c) dy tk mk (nI mK) mS su (nI uK) uS sh mu co sr du bi bb) ++ [(o, .inl (cL, 1, .inr (.inl g)))]) ((wG ad cI cL qy lp sp pr ex (nI c) (adF dy a (b + 1) q) (upd tk c (tk c + q * (nI b - nI a + 1))) mk (nI mK) mS su (nI uK) uS sh mu co sr du bi bb) ++ [(o, .inl (cL, 1, .inr (.inl (vp_updL g 0 ((upd tk c (tk c + q * (nI b - nI a + 1)) c).toInt64)))))]) 0 True 5 30 sz := by
  refine gmh_i (cc := cL_takeDaily) (maxL := 6) (hh := [(0, 12, 15, 13), (0, 12, 19, 15)]) (by decide) rfl (Nat.le_of_ble_eq_true rfl) ?_
  intro pg en s m args below meth cd A ls hx hb hr hml hown hts hlocks hA hK hP hD hT htab hl
  have hl : lv_has ls 6 [(0, .ref (ad 0)), (1, .int (nI a)), (2, .int (nI b)), (3, .int q), (4, .ref o)] := hl
  have hS : va_S A s.heap s.heap [] := va_S.rf
  refine lv_aload hx hb dL_takeDaily_0 (lv_at hl 4 rfl) ?_
  refine lv_iconst (v := 0) hx hb dL_takeDaily_2 (by decide) ?_
  refine lv_aload_n hx hb dL_takeDaily_3 rfl (lv_at hl 0 rfl) ?_
  refine lv_iload_n hx hb dL_takeDaily_4 rfl (lv_at hl 1 rfl) ?_
  refine lv_iload_n hx hb dL_takeDaily_5 rfl (lv_at hl 2 rfl) ?_
  refine lv_iload_n hx hb dL_takeDaily_6 rfl (lv_at hl 3 rfl) ?_
  refine ghV_i (wc := (wG ad cI cL qy lp sp pr ex (nI c) dy tk mk (nI mK) mS su (nI uK) uS sh mu co sr du bi bb)) (wr := [(o, .inl (cL, 1, .inr (.inl g)))]) (w1 := (wG ad cI cL qy lp sp pr ex (nI c) (adF dy a (b + 1) q) (upd tk c (tk c + q * (nI b - nI a + 1))) mk (nI mK) mS su (nI uK) uS sh mu co sr du bi bb)) (W' := ((wG ad cI cL qy lp sp pr ex (nI c) (adF dy a (b + 1) q) (upd tk c (tk c + q * (nI b - nI a + 1))) mk (nI mK) mS su (nI uK) uS sh mu co sr du bi bb) ++ [(o, .inl (cL, 1, .inr (.inl g)))])) (As := [.int (nI a), .int (nI b), .int q]) (rest := [.int 0, .ref o]) ⟨hx, hb, hml, hown, hts⟩ (c_X1_takeDaily l hst D s.heap.size ad cI cL qy lp sp pr ex c dy tk mk mK mS su uK uS sh mu co sr du bi bb a b q hab hb3 r1 hc hroom) (cwV 3 hts gL_takeDaily_X1_takeDaily rfl rfl rfl (by decide +kernel) ⟨(Nat.le_of_ble_eq_true rfl), (Nat.le_of_ble_eq_true rfl)⟩) hT hS hA hK hP hD [0, 1] rfl [0, 1, 2, 3, 4, 5, 6, 7, 8, 9, 10, 11, 12, 13, 14] [15] [1, 2, 3, 4, 5, 6, 7, 8, 9, 10, 11, 12, 13, 14, 15, 0] rfl (by decide) rfl (by decide) (by decide) rfl (by decide) 0 1 rfl rfl rfl rfl hl.1 rfl (Nat.le_of_ble_eq_true rfl) dL_takeDaily_7 ⟨(Nat.le_of_ble_eq_true rfl), (Nat.le_of_ble_eq_true rfl)⟩ [1, 2, 3, 4, 5, 6, 7, 8, 9, 10, 11, 12, 13, 14, 15, 0] rfl (by decide) (fun _ _ _ _ _ hE => hE.elim) (fun H locs _ hP hD hS => ?_)
  refine lv_i2l hx hb dL_takeDaily_10 rfl ?_
  refine ga_last (j := 0) (ws' := ((wG ad cI cL qy lp sp pr ex (nI c) (adF dy a (b + 1) q) (upd tk c (tk c + q * (nI b - nI a + 1))) mk (nI mK) mS su (nI uK) uS sh mu co sr du bi bb) ++ [(o, .inl (cL, 1, .inr (.inl (vp_updL g 0 ((upd tk c (tk c + q * (nI b - nI a + 1)) c).toInt64)))))])) hx hb hK hP hD hS 15 1 rfl rfl (by decide) (by decide) dL_takeDaily_11 rfl (fun H locs hP hD hS => ?_)
  refine lv_goto (tgt := 23) hx hb dL_takeDaily_12 (by decide) ?_
  refine lv_iconst (v := 0) hx hb dL_takeDaily_23 (by decide) ?_
  exact ge_i hx hb hr hlocks rfl hK hP hD hS trivial (Nat.le_of_ble_eq_true rfl) (Nat.le_of_ble_eq_true rfl) dL_takeDaily_24
theorem hL_takeDaily__classLink_RL_13_IAE : Cond.classLink RL 13 IAE ∈ wsL_takeDaily := by decide +kernel
set_option maxHeartbeats 4000000 in
set_option maxRecDepth 100000 in
theorem c_L_takeDaily_1 (l : Launch) (hst : l.stackTraces = false) (D : va_G) (sz : Nat) (ad : Nat → Nat) (cI cL : ClassId) (qy lp sp : Int32) (pr ex : Nat → Int32) (c : Nat) (dy tk mk : Nat → Int32) (mK : Nat) (mS : Int32) (su : Nat → Int32) (uK : Nat) (uS : Int32) (sh mu co sr : Nat → Int32) (du bi : Nat → Int64) (bb : Int64) (o : Nat) (g : Nat → Int64) (v w q : Int32) (hbad : ¬ ((inR v 0 359 ∧ inR w v 359) ∧ inR q 1 500)) : gHi l yL_takeDaily wsL_takeDaily ({ frames := 10, cells := 5, slots := 30, locals := 176 } : Room) D [(cI, .int), (cL, .long)] [.ref (ad 0), .int v, .int w, .int q, .ref o] ((wG ad cI cL qy lp sp pr ex (nI c) dy tk mk (nI mK) mS su (nI uK) uS sh mu co sr du bi bb) ++ [(o, .inl (cL, 1, .inr (.inl g)))]) ((wG ad cI cL qy lp sp pr ex (nI c) dy tk mk (nI mK) mS su (nI uK) uS sh mu co sr du bi bb) ++ [(o, .inl (cL, 1, .inr (.inl g)))]) 1 True 5 30 sz := by
  refine gmh_i (cc := cL_takeDaily) (maxL := 6) (hh := [(0, 12, 15, 13), (0, 12, 19, 15)]) (by decide) rfl (Nat.le_of_ble_eq_true rfl) ?_
  intro pg en s m args below meth cd A ls hx hb hr hml hown hts hlocks hA hK hP hD hT htab hl
  have hl : lv_has ls 6 [(0, .ref (ad 0)), (1, .int v), (2, .int w), (3, .int q), (4, .ref o)] := hl
  have hS : va_S A s.heap s.heap [] := va_S.rf
  refine lv_aload hx hb dL_takeDaily_0 (lv_at hl 4 rfl) ?_
  refine lv_iconst (v := 0) hx hb dL_takeDaily_2 (by decide) ?_
  refine lv_aload_n hx hb dL_takeDaily_3 rfl (lv_at hl 0 rfl) ?_
  refine lv_iload_n hx hb dL_takeDaily_4 rfl (lv_at hl 1 rfl) ?_
  refine lv_iload_n hx hb dL_takeDaily_5 rfl (lv_at hl 2 rfl) ?_
  refine lv_iload_n hx hb dL_takeDaily_6 rfl (lv_at hl 3 rfl) ?_
  refine ghV_i (wc := (wG ad cI cL qy lp sp pr ex (nI c) dy tk mk (nI mK) mS su (nI uK) uS sh mu co sr du bi bb)) (wr := [(o, .inl (cL, 1, .inr (.inl g)))]) (w1 := (wG ad cI cL qy lp sp pr ex (nI c) dy tk mk (nI mK) mS su (nI uK) uS sh mu co sr du bi bb)) (W' := ((wG ad cI cL qy lp sp pr ex (nI c) dy tk mk (nI mK) mS su (nI uK) uS sh mu co sr du bi bb) ++ [(o, .inl (cL, 1, .inr (.inl g)))])) (As := [.int v, .int w, .int q]) (rest := [.int 0, .ref o]) ⟨hx, hb, hml, hown, hts⟩ (c_X1_takeDaily_1 l hst D s.heap.size ad cI cL qy lp sp pr ex c dy tk mk mK mS su uK uS sh mu co sr du bi bb v w q hbad) (cwV 3 hts gL_takeDaily_X1_takeDaily rfl rfl rfl (by decide +kernel) ⟨(Nat.le_of_ble_eq_true rfl), (Nat.le_of_ble_eq_true rfl)⟩) hT hS hA hK hP hD [0, 1] rfl [0, 1, 2, 3, 4, 5, 6, 7, 8, 9, 10, 11, 12, 13, 14] [15] [1, 2, 3, 4, 5, 6, 7, 8, 9, 10, 11, 12, 13, 14, 15, 0] rfl (by decide) rfl (by decide) (by decide) rfl (by decide) 0 1 rfl rfl rfl rfl hl.1 rfl (Nat.le_of_ble_eq_true rfl) dL_takeDaily_7 ⟨(Nat.le_of_ble_eq_true rfl), (Nat.le_of_ble_eq_true rfl)⟩ [1, 2, 3, 4, 5, 6, 7, 8, 9, 10, 11, 12, 13, 14, 15, 0] rfl (by decide) (fun E ce q9 H locs hE hP hD hS hce hcv hcl => ?_) (fun _ _ hok _ _ _ => hok.elim)
  have hE : E = IAE := hE
  subst hE
  refine vx_catch (name := IAE) hown [] (⟨0, 12, 15, 13⟩ : ExceptionTableEntry) [(⟨0, 12, 19, 15⟩ : ExceptionTableEntry)] (by rw [htab]; rfl) (fun z hz => absurd hz List.not_mem_nil) (by decide) (by decide) (hts _ hL_takeDaily__classLink_RL_13_IAE) (va_Nw.use rfl hT.2.2.1) hce hcv hcl ?_
  refine lv_astore (lv' := [(5, .ref q9), (0, .ref (ad 0)), (1, .int v), (2, .int w), (3, .int q), (4, .ref o)]) hx hb dL_takeDaily_15 hl (by decide) rfl (fun ls hl => ?_)
  refine lv_iconst (v := 1) hx hb dL_takeDaily_17 (by decide) ?_
  exact ge_i hx hb hr hlocks rfl hK hP hD hS trivial (Nat.le_of_ble_eq_true rfl) (Nat.le_of_ble_eq_true rfl) dL_takeDaily_18
theorem hL_takeDaily__classLink_RL_15_ISE : Cond.classLink RL 15 ISE ∈ wsL_takeDaily := by decide +kernel
set_option maxHeartbeats 4000000 in
set_option maxRecDepth 100000 in
theorem c_L_takeDaily_2 (l : Launch) (hst : l.stackTraces = false) (D : va_G) (sz : Nat) (ad : Nat → Nat) (cI cL : ClassId) (qy lp sp : Int32) (pr ex : Nat → Int32) (c : Nat) (dy tk mk : Nat → Int32) (mK : Nat) (mS : Int32) (su : Nat → Int32) (uK : Nat) (uS : Int32) (sh mu co sr : Nat → Int32) (du bi : Nat → Int64) (bb : Int64) (o : Nat) (g : Nat → Int64) (a b : Nat) (q : Int32) (hab : a ≤ b) (hb3 : b < 360) (r1 : inR q 1 500) (hc : c ≤ 20) (hbad : ¬ (c < 20 ∧ ∀ d, a ≤ d → d ≤ b → dy d + q ≤ 500)) : gHi l yL_takeDaily wsL_takeDaily ({ frames := 10, cells := 5, slots := 30, locals := 176 } : Room) D [(cI, .int), (cL, .long)] [.ref (ad 0), .int (nI a), .int (nI b), .int q, .ref o] ((wG ad cI cL qy lp sp pr ex (nI c) dy tk mk (nI mK) mS su (nI uK) uS sh mu co sr du bi bb) ++ [(o, .inl (cL, 1, .inr (.inl g)))]) ((wG ad cI cL qy lp sp pr ex (nI c) dy tk mk (nI mK) mS su (nI uK) uS sh mu co sr du bi bb) ++ [(o, .inl (cL, 1, .inr (.inl g)))]) 2 True 5 30 sz := by
  refine gmh_i (cc := cL_takeDaily) (maxL := 6) (hh := [(0, 12, 15, 13), (0, 12, 19, 15)]) (by decide) rfl (Nat.le_of_ble_eq_true rfl) ?_
  intro pg en s m args below meth cd A ls hx hb hr hml hown hts hlocks hA hK hP hD hT htab hl
  have hl : lv_has ls 6 [(0, .ref (ad 0)), (1, .int (nI a)), (2, .int (nI b)), (3, .int q), (4, .ref o)] := hl
  have hS : va_S A s.heap s.heap [] := va_S.rf
  refine lv_aload hx hb dL_takeDaily_0 (lv_at hl 4 rfl) ?_
  refine lv_iconst (v := 0) hx hb dL_takeDaily_2 (by decide) ?_
  refine lv_aload_n hx hb dL_takeDaily_3 rfl (lv_at hl 0 rfl) ?_
  refine lv_iload_n hx hb dL_takeDaily_4 rfl (lv_at hl 1 rfl) ?_
  refine lv_iload_n hx hb dL_takeDaily_5 rfl (lv_at hl 2 rfl) ?_
  refine lv_iload_n hx hb dL_takeDaily_6 rfl (lv_at hl 3 rfl) ?_
  refine ghV_i (wc := (wG ad cI cL qy lp sp pr ex (nI c) dy tk mk (nI mK) mS su (nI uK) uS sh mu co sr du bi bb)) (wr := [(o, .inl (cL, 1, .inr (.inl g)))]) (w1 := (wG ad cI cL qy lp sp pr ex (nI c) dy tk mk (nI mK) mS su (nI uK) uS sh mu co sr du bi bb)) (W' := ((wG ad cI cL qy lp sp pr ex (nI c) dy tk mk (nI mK) mS su (nI uK) uS sh mu co sr du bi bb) ++ [(o, .inl (cL, 1, .inr (.inl g)))])) (As := [.int (nI a), .int (nI b), .int q]) (rest := [.int 0, .ref o]) ⟨hx, hb, hml, hown, hts⟩ (c_X1_takeDaily_2 l hst D s.heap.size ad cI cL qy lp sp pr ex c dy tk mk mK mS su uK uS sh mu co sr du bi bb a b q hab hb3 r1 hc hbad) (cwV 3 hts gL_takeDaily_X1_takeDaily rfl rfl rfl (by decide +kernel) ⟨(Nat.le_of_ble_eq_true rfl), (Nat.le_of_ble_eq_true rfl)⟩) hT hS hA hK hP hD [0, 1] rfl [0, 1, 2, 3, 4, 5, 6, 7, 8, 9, 10, 11, 12, 13, 14] [15] [1, 2, 3, 4, 5, 6, 7, 8, 9, 10, 11, 12, 13, 14, 15, 0] rfl (by decide) rfl (by decide) (by decide) rfl (by decide) 0 1 rfl rfl rfl rfl hl.1 rfl (Nat.le_of_ble_eq_true rfl) dL_takeDaily_7 ⟨(Nat.le_of_ble_eq_true rfl), (Nat.le_of_ble_eq_true rfl)⟩ [1, 2, 3, 4, 5, 6, 7, 8, 9, 10, 11, 12, 13, 14, 15, 0] rfl (by decide) (fun E ce q9 H locs hE hP hD hS hce hcv hcl => ?_) (fun _ _ hok _ _ _ => hok.elim)
  have hE : E = ISE := hE
  subst hE
  refine vx_catch (name := ISE) hown [(⟨0, 12, 15, 13⟩ : ExceptionTableEntry)] (⟨0, 12, 19, 15⟩ : ExceptionTableEntry) [] (by rw [htab]; rfl) (fun z hz => by cases hz with | head => exact Or.inr ⟨by decide, IAE, (hts _ hL_takeDaily__classLink_RL_13_IAE), hT.2.2.2.2.2.2⟩ | tail _ h => exact absurd h List.not_mem_nil) (by decide) (by decide) (hts _ hL_takeDaily__classLink_RL_15_ISE) (va_Nw.use rfl hT.2.2.2.1) hce hcv hcl ?_
  refine lv_astore (lv' := [(5, .ref q9), (0, .ref (ad 0)), (1, .int (nI a)), (2, .int (nI b)), (3, .int q), (4, .ref o)]) hx hb dL_takeDaily_19 hl (by decide) rfl (fun ls hl => ?_)
  refine lv_iconst (v := 2) hx hb dL_takeDaily_21 (by decide) ?_
  exact ge_i hx hb hr hlocks rfl hK hP hD hS trivial (Nat.le_of_ble_eq_true rfl) (Nat.le_of_ble_eq_true rfl) dL_takeDaily_22
set_option maxHeartbeats 4000000 in
set_option maxRecDepth 100000 in
theorem c_L_close (l : Launch) (hst : l.stackTraces = false) (D : va_G) (sz : Nat) (ad : Nat → Nat) (cI cL : ClassId) (qy lp sp : Int32) (pr ex : Nat → Int32) (c : Nat) (dy tk mk : Nat → Int32) (mK : Nat) (mS : Int32) (su : Nat → Int32) (uK : Nat) (uS : Int32) (sh mu co sr : Nat → Int32) (du bi : Nat → Int64) (bb : Int64) (o : Nat) (g : Nat → Int64) (hc : c < 20) (hmK : mK < 20) (huK : uK < 20) : gHi l yL_close wsL_close ({ frames := 8, cells := 1, slots := 6, locals := 136 } : Room) D [(cI, .int), (cL, .long)] [.ref (ad 0), .ref o] ((wG ad cI cL qy lp sp pr ex (nI c) dy tk mk (nI mK) mS su (nI uK) uS sh mu co sr du bi bb) ++ [(o, .inl (cL, 1, .inr (.inl g)))]) ((wG ad cI cL qy lp sp pr ex (nI (c + 1)) (fun _ => 0) tk (rMk (stC qy lp sp pr ex tk mK uK (st0 sh mu co sr du) (c + 1))) (nI mK) (rMS (stC qy lp sp pr ex tk mK uK (st0 sh mu co sr du) (c + 1))) (rSu (stC qy lp sp pr ex tk mK uK (st0 sh mu co sr du) (c + 1))) (nI uK) (rUS (stC qy lp sp pr ex tk mK uK (st0 sh mu co sr du) (c + 1))) (rSh (stC qy lp sp pr ex tk mK uK (st0 sh mu co sr du) (c + 1))) (rMu (stC qy lp sp pr ex tk mK uK (st0 sh mu co sr du) (c + 1))) (rCo (stC qy lp sp pr ex tk mK uK (st0 sh mu co sr du) (c + 1))) (rSr (stC qy lp sp pr ex tk mK uK (st0 sh mu co sr du) (c + 1))) (rDu (stC qy lp sp pr ex tk mK uK (st0 sh mu co sr du) (c + 1))) (vp_updL bi c (smL (rDu (stC qy lp sp pr ex tk mK uK (st0 sh mu co sr du) (c + 1))) (c + 1) - bb)) (bb + (smL (rDu (stC qy lp sp pr ex tk mK uK (st0 sh mu co sr du) (c + 1))) (c + 1) - bb))) ++ [(o, .inl (cL, 1, .inr (.inl (vp_updL g 0 (smL (rDu (stC qy lp sp pr ex tk mK uK (st0 sh mu co sr du) (c + 1))) (c + 1) - bb)))))]) 0 True 1 6 sz := by
  refine gmh_i (cc := cL_close) (maxL := 3) (hh := [(0, 7, 10, 15)]) (by decide) rfl (Nat.le_of_ble_eq_true rfl) ?_
  intro pg en s m args below meth cd A ls hx hb hr hml hown hts hlocks hA hK hP hD hT htab hl
  have hl : lv_has ls 3 [(0, .ref (ad 0)), (1, .ref o)] := hl
  have hS : va_S A s.heap s.heap [] := va_S.rf
  refine lv_aload_n hx hb dL_close_0 rfl (lv_at hl 1 rfl) ?_
  refine lv_iconst (v := 0) hx hb dL_close_1 (by decide) ?_
  refine lv_aload_n hx hb dL_close_2 rfl (lv_at hl 0 rfl) ?_
  refine ghV_l (wc := (wG ad cI cL qy lp sp pr ex (nI c) dy tk mk (nI mK) mS su (nI uK) uS sh mu co sr du bi bb)) (wr := [(o, .inl (cL, 1, .inr (.inl g)))]) (w1 := (wG ad cI cL qy lp sp pr ex (nI (c + 1)) (fun _ => 0) tk (rMk (stC qy lp sp pr ex tk mK uK (st0 sh mu co sr du) (c + 1))) (nI mK) (rMS (stC qy lp sp pr ex tk mK uK (st0 sh mu co sr du) (c + 1))) (rSu (stC qy lp sp pr ex tk mK uK (st0 sh mu co sr du) (c + 1))) (nI uK) (rUS (stC qy lp sp pr ex tk mK uK (st0 sh mu co sr du) (c + 1))) (rSh (stC qy lp sp pr ex tk mK uK (st0 sh mu co sr du) (c + 1))) (rMu (stC qy lp sp pr ex tk mK uK (st0 sh mu co sr du) (c + 1))) (rCo (stC qy lp sp pr ex tk mK uK (st0 sh mu co sr du) (c + 1))) (rSr (stC qy lp sp pr ex tk mK uK (st0 sh mu co sr du) (c + 1))) (rDu (stC qy lp sp pr ex tk mK uK (st0 sh mu co sr du) (c + 1))) (vp_updL bi c (smL (rDu (stC qy lp sp pr ex tk mK uK (st0 sh mu co sr du) (c + 1))) (c + 1) - bb)) (bb + (smL (rDu (stC qy lp sp pr ex tk mK uK (st0 sh mu co sr du) (c + 1))) (c + 1) - bb)))) (W' := ((wG ad cI cL qy lp sp pr ex (nI (c + 1)) (fun _ => 0) tk (rMk (stC qy lp sp pr ex tk mK uK (st0 sh mu co sr du) (c + 1))) (nI mK) (rMS (stC qy lp sp pr ex tk mK uK (st0 sh mu co sr du) (c + 1))) (rSu (stC qy lp sp pr ex tk mK uK (st0 sh mu co sr du) (c + 1))) (nI uK) (rUS (stC qy lp sp pr ex tk mK uK (st0 sh mu co sr du) (c + 1))) (rSh (stC qy lp sp pr ex tk mK uK (st0 sh mu co sr du) (c + 1))) (rMu (stC qy lp sp pr ex tk mK uK (st0 sh mu co sr du) (c + 1))) (rCo (stC qy lp sp pr ex tk mK uK (st0 sh mu co sr du) (c + 1))) (rSr (stC qy lp sp pr ex tk mK uK (st0 sh mu co sr du) (c + 1))) (rDu (stC qy lp sp pr ex tk mK uK (st0 sh mu co sr du) (c + 1))) (vp_updL bi c (smL (rDu (stC qy lp sp pr ex tk mK uK (st0 sh mu co sr du) (c + 1))) (c + 1) - bb)) (bb + (smL (rDu (stC qy lp sp pr ex tk mK uK (st0 sh mu co sr du) (c + 1))) (c + 1) - bb))) ++ [(o, .inl (cL, 1, .inr (.inl g)))])) (As := []) (rest := [.int 0, .ref o]) ⟨hx, hb, hml, hown, hts⟩ (c_X1_close l hst D s.heap.size ad cI cL qy lp sp pr ex c dy tk mk mK mS su uK uS sh mu co sr du bi bb hc hmK huK) (cwV 0 hts gL_close_X1_close rfl rfl rfl (by decide +kernel) ⟨(Nat.le_of_ble_eq_true rfl), (Nat.le_of_ble_eq_true rfl)⟩) hT hS hA hK hP hD [0, 1] rfl [0, 1, 2, 3, 4, 5, 6, 7, 8, 9, 10, 11, 12, 13, 14] [15] [1, 2, 3, 4, 5, 6, 7, 8, 9, 10, 11, 12, 13, 14, 15, 0] rfl (by decide) rfl (by decide) (by decide) rfl (by decide) 0 1 rfl rfl rfl rfl hl.1 rfl (Nat.le_of_ble_eq_true rfl) dL_close_3 ⟨(Nat.le_of_ble_eq_true rfl), (Nat.le_of_ble_eq_true rfl)⟩ [1, 2, 3, 4, 5, 6, 7, 8, 9, 10, 11, 12, 13, 14, 15, 0] rfl (by decide) (fun _ _ _ _ _ hE => hE.elim) (fun H locs _ hP hD hS => ?_)
  refine ga_last (j := 0) (ws' := ((wG ad cI cL qy lp sp pr ex (nI (c + 1)) (fun _ => 0) tk (rMk (stC qy lp sp pr ex tk mK uK (st0 sh mu co sr du) (c + 1))) (nI mK) (rMS (stC qy lp sp pr ex tk mK uK (st0 sh mu co sr du) (c + 1))) (rSu (stC qy lp sp pr ex tk mK uK (st0 sh mu co sr du) (c + 1))) (nI uK) (rUS (stC qy lp sp pr ex tk mK uK (st0 sh mu co sr du) (c + 1))) (rSh (stC qy lp sp pr ex tk mK uK (st0 sh mu co sr du) (c + 1))) (rMu (stC qy lp sp pr ex tk mK uK (st0 sh mu co sr du) (c + 1))) (rCo (stC qy lp sp pr ex tk mK uK (st0 sh mu co sr du) (c + 1))) (rSr (stC qy lp sp pr ex tk mK uK (st0 sh mu co sr du) (c + 1))) (rDu (stC qy lp sp pr ex tk mK uK (st0 sh mu co sr du) (c + 1))) (vp_updL bi c (smL (rDu (stC qy lp sp pr ex tk mK uK (st0 sh mu co sr du) (c + 1))) (c + 1) - bb)) (bb + (smL (rDu (stC qy lp sp pr ex tk mK uK (st0 sh mu co sr du) (c + 1))) (c + 1) - bb))) ++ [(o, .inl (cL, 1, .inr (.inl (vp_updL g 0 (smL (rDu (stC qy lp sp pr ex tk mK uK (st0 sh mu co sr du) (c + 1))) (c + 1) - bb)))))])) hx hb hK hP hD hS 15 1 rfl rfl (by decide) (by decide) dL_close_6 rfl (fun H locs hP hD hS => ?_)
  refine lv_goto (tgt := 13) hx hb dL_close_7 (by decide) ?_
  refine lv_iconst (v := 0) hx hb dL_close_13 (by decide) ?_
  exact ge_i hx hb hr hlocks rfl hK hP hD hS trivial (Nat.le_of_ble_eq_true rfl) (Nat.le_of_ble_eq_true rfl) dL_close_14
theorem hL_close__classLink_RL_15_ISE : Cond.classLink RL 15 ISE ∈ wsL_close := by decide +kernel
set_option maxHeartbeats 4000000 in
set_option maxRecDepth 100000 in
theorem c_L_close_2 (l : Launch) (hst : l.stackTraces = false) (D : va_G) (sz : Nat) (ad : Nat → Nat) (cI cL : ClassId) (qy lp sp : Int32) (pr ex : Nat → Int32) (c : Nat) (dy tk mk : Nat → Int32) (mK : Nat) (mS : Int32) (su : Nat → Int32) (uK : Nat) (uS : Int32) (sh mu co sr : Nat → Int32) (du bi : Nat → Int64) (bb : Int64) (o : Nat) (g : Nat → Int64) (hbad : ¬ c < 20) (hc : c ≤ 20) : gHi l yL_close wsL_close ({ frames := 8, cells := 1, slots := 6, locals := 136 } : Room) D [(cI, .int), (cL, .long)] [.ref (ad 0), .ref o] ((wG ad cI cL qy lp sp pr ex (nI c) dy tk mk (nI mK) mS su (nI uK) uS sh mu co sr du bi bb) ++ [(o, .inl (cL, 1, .inr (.inl g)))]) ((wG ad cI cL qy lp sp pr ex (nI c) dy tk mk (nI mK) mS su (nI uK) uS sh mu co sr du bi bb) ++ [(o, .inl (cL, 1, .inr (.inl g)))]) 1 True 1 6 sz := by
  refine gmh_i (cc := cL_close) (maxL := 3) (hh := [(0, 7, 10, 15)]) (by decide) rfl (Nat.le_of_ble_eq_true rfl) ?_
  intro pg en s m args below meth cd A ls hx hb hr hml hown hts hlocks hA hK hP hD hT htab hl
  have hl : lv_has ls 3 [(0, .ref (ad 0)), (1, .ref o)] := hl
  have hS : va_S A s.heap s.heap [] := va_S.rf
  refine lv_aload_n hx hb dL_close_0 rfl (lv_at hl 1 rfl) ?_
  refine lv_iconst (v := 0) hx hb dL_close_1 (by decide) ?_
  refine lv_aload_n hx hb dL_close_2 rfl (lv_at hl 0 rfl) ?_
  refine ghV_l (wc := (wG ad cI cL qy lp sp pr ex (nI c) dy tk mk (nI mK) mS su (nI uK) uS sh mu co sr du bi bb)) (wr := [(o, .inl (cL, 1, .inr (.inl g)))]) (w1 := (wG ad cI cL qy lp sp pr ex (nI c) dy tk mk (nI mK) mS su (nI uK) uS sh mu co sr du bi bb)) (W' := ((wG ad cI cL qy lp sp pr ex (nI c) dy tk mk (nI mK) mS su (nI uK) uS sh mu co sr du bi bb) ++ [(o, .inl (cL, 1, .inr (.inl g)))])) (As := []) (rest := [.int 0, .ref o]) ⟨hx, hb, hml, hown, hts⟩ (c_X1_close_2 l hst D s.heap.size ad cI cL qy lp sp pr ex c dy tk mk mK mS su uK uS sh mu co sr du bi bb hbad hc) (cwV 0 hts gL_close_X1_close rfl rfl rfl (by decide +kernel) ⟨(Nat.le_of_ble_eq_true rfl), (Nat.le_of_ble_eq_true rfl)⟩) hT hS hA hK hP hD [0, 1] rfl [0, 1, 2, 3, 4, 5, 6, 7, 8, 9, 10, 11, 12, 13, 14] [15] [1, 2, 3, 4, 5, 6, 7, 8, 9, 10, 11, 12, 13, 14, 15, 0] rfl (by decide) rfl (by decide) (by decide) rfl (by decide) 0 1 rfl rfl rfl rfl hl.1 rfl (Nat.le_of_ble_eq_true rfl) dL_close_3 ⟨(Nat.le_of_ble_eq_true rfl), (Nat.le_of_ble_eq_true rfl)⟩ [1, 2, 3, 4, 5, 6, 7, 8, 9, 10, 11, 12, 13, 14, 15, 0] rfl (by decide) (fun E ce q9 H locs hE hP hD hS hce hcv hcl => ?_) (fun _ _ hok _ _ _ => hok.elim)
  have hE : E = ISE := hE
  subst hE
  refine vx_catch (name := ISE) hown [] (⟨0, 7, 10, 15⟩ : ExceptionTableEntry) [] (by rw [htab]; rfl) (fun z hz => absurd hz List.not_mem_nil) (by decide) (by decide) (hts _ hL_close__classLink_RL_15_ISE) (va_Nw.use rfl hT.2.2.2.1) hce hcv hcl ?_
  refine lv_astore_n (lv' := [(2, .ref q9), (0, .ref (ad 0)), (1, .ref o)]) hx hb dL_close_10 rfl hl (by decide) rfl (fun ls hl => ?_)
  refine lv_iconst (v := 1) hx hb dL_close_11 (by decide) ?_
  exact ge_i hx hb hr hlocks rfl hK hP hD hS trivial (Nat.le_of_ble_eq_true rfl) (Nat.le_of_ble_eq_true rfl) dL_close_12
set_option maxHeartbeats 4000000 in
set_option maxRecDepth 100000 in
theorem c_L_taken (l : Launch) (hst : l.stackTraces = false) (D : va_G) (sz : Nat) (ad : Nat → Nat) (cI cL : ClassId) (qy lp sp : Int32) (pr ex : Nat → Int32) (c : Nat) (dy tk mk : Nat → Int32) (mK : Nat) (mS : Int32) (su : Nat → Int32) (uK : Nat) (uS : Int32) (sh mu co sr : Nat → Int32) (du bi : Nat → Int64) (bb : Int64) (o : Nat) (g : Nat → Int64) (j : Nat) (hj : j < 20) : gHi l yL_taken wsL_taken ({ frames := 9, cells := 1, slots := 6, locals := 153 } : Room) D [(cI, .int), (cL, .long)] [.ref (ad 0), .int (nI j), .ref o] ((wG ad cI cL qy lp sp pr ex (nI c) dy tk mk (nI mK) mS su (nI uK) uS sh mu co sr du bi bb) ++ [(o, .inl (cL, 1, .inr (.inl g)))]) ((wG ad cI cL qy lp sp pr ex (nI c) dy tk mk (nI mK) mS su (nI uK) uS sh mu co sr du bi bb) ++ [(o, .inl (cL, 1, .inr (.inl (vp_updL g 0 ((tk j).toInt64)))))]) 0 True 1 6 sz := by
  refine gmh_i (cc := cL_taken) (maxL := 4) (hh := [(0, 9, 12, 13)]) (by decide) rfl (Nat.le_of_ble_eq_true rfl) ?_
  intro pg en s m args below meth cd A ls hx hb hr hml hown hts hlocks hA hK hP hD hT htab hl
  have hl : lv_has ls 4 [(0, .ref (ad 0)), (1, .int (nI j)), (2, .ref o)] := hl
  have hS : va_S A s.heap s.heap [] := va_S.rf
  refine lv_aload_n hx hb dL_taken_0 rfl (lv_at hl 2 rfl) ?_
  refine lv_iconst (v := 0) hx hb dL_taken_1 (by decide) ?_
  refine lv_aload_n hx hb dL_taken_2 rfl (lv_at hl 0 rfl) ?_
  refine lv_iload_n hx hb dL_taken_3 rfl (lv_at hl 1 rfl) ?_
  refine ghV_i (wc := (wG ad cI cL qy lp sp pr ex (nI c) dy tk mk (nI mK) mS su (nI uK) uS sh mu co sr du bi bb)) (wr := [(o, .inl (cL, 1, .inr (.inl g)))]) (w1 := (wG ad cI cL qy lp sp pr ex (nI c) dy tk mk (nI mK) mS su (nI uK) uS sh mu co sr du bi bb)) (W' := ((wG ad cI cL qy lp sp pr ex (nI c) dy tk mk (nI mK) mS su (nI uK) uS sh mu co sr du bi bb) ++ [(o, .inl (cL, 1, .inr (.inl g)))])) (As := [.int (nI j)]) (rest := [.int 0, .ref o]) ⟨hx, hb, hml, hown, hts⟩ (c_X1_taken l hst D s.heap.size ad cI cL qy lp sp pr ex c dy tk mk mK mS su uK uS sh mu co sr du bi bb j hj) (cwV 1 hts gL_taken_X1_taken rfl rfl rfl (by decide +kernel) ⟨(Nat.le_of_ble_eq_true rfl), (Nat.le_of_ble_eq_true rfl)⟩) hT hS hA hK hP hD [0, 1] rfl [0, 1, 2, 3, 4, 5, 6, 7, 8, 9, 10, 11, 12, 13, 14] [15] [1, 2, 3, 4, 5, 6, 7, 8, 9, 10, 11, 12, 13, 14, 15, 0] rfl (by decide) rfl (by decide) (by decide) rfl (by decide) 0 1 rfl rfl rfl rfl hl.1 rfl (Nat.le_of_ble_eq_true rfl) dL_taken_4 ⟨(Nat.le_of_ble_eq_true rfl), (Nat.le_of_ble_eq_true rfl)⟩ [1, 2, 3, 4, 5, 6, 7, 8, 9, 10, 11, 12, 13, 14, 15, 0] rfl (by decide) (fun _ _ _ _ _ hE => hE.elim) (fun H locs _ hP hD hS => ?_)
  refine lv_i2l hx hb dL_taken_7 rfl ?_
  refine ga_last (j := 0) (ws' := ((wG ad cI cL qy lp sp pr ex (nI c) dy tk mk (nI mK) mS su (nI uK) uS sh mu co sr du bi bb) ++ [(o, .inl (cL, 1, .inr (.inl (vp_updL g 0 ((tk j).toInt64)))))])) hx hb hK hP hD hS 15 1 rfl rfl (by decide) (by decide) dL_taken_8 rfl (fun H locs hP hD hS => ?_)
  refine lv_goto (tgt := 15) hx hb dL_taken_9 (by decide) ?_
  refine lv_iconst (v := 0) hx hb dL_taken_15 (by decide) ?_
  exact ge_i hx hb hr hlocks rfl hK hP hD hS trivial (Nat.le_of_ble_eq_true rfl) (Nat.le_of_ble_eq_true rfl) dL_taken_16
theorem hL_taken__classLink_RL_13_IAE : Cond.classLink RL 13 IAE ∈ wsL_taken := by decide +kernel
set_option maxHeartbeats 4000000 in
set_option maxRecDepth 100000 in
theorem c_L_taken_1 (l : Launch) (hst : l.stackTraces = false) (D : va_G) (sz : Nat) (ad : Nat → Nat) (cI cL : ClassId) (qy lp sp : Int32) (pr ex : Nat → Int32) (c : Nat) (dy tk mk : Nat → Int32) (mK : Nat) (mS : Int32) (su : Nat → Int32) (uK : Nat) (uS : Int32) (sh mu co sr : Nat → Int32) (du bi : Nat → Int64) (bb : Int64) (o : Nat) (g : Nat → Int64) (v : Int32) (hbad : ¬ inR v 0 19) : gHi l yL_taken wsL_taken ({ frames := 9, cells := 1, slots := 6, locals := 153 } : Room) D [(cI, .int), (cL, .long)] [.ref (ad 0), .int v, .ref o] ((wG ad cI cL qy lp sp pr ex (nI c) dy tk mk (nI mK) mS su (nI uK) uS sh mu co sr du bi bb) ++ [(o, .inl (cL, 1, .inr (.inl g)))]) ((wG ad cI cL qy lp sp pr ex (nI c) dy tk mk (nI mK) mS su (nI uK) uS sh mu co sr du bi bb) ++ [(o, .inl (cL, 1, .inr (.inl g)))]) 1 True 1 6 sz := by
  refine gmh_i (cc := cL_taken) (maxL := 4) (hh := [(0, 9, 12, 13)]) (by decide) rfl (Nat.le_of_ble_eq_true rfl) ?_
  intro pg en s m args below meth cd A ls hx hb hr hml hown hts hlocks hA hK hP hD hT htab hl
  have hl : lv_has ls 4 [(0, .ref (ad 0)), (1, .int v), (2, .ref o)] := hl
  have hS : va_S A s.heap s.heap [] := va_S.rf
  refine lv_aload_n hx hb dL_taken_0 rfl (lv_at hl 2 rfl) ?_
  refine lv_iconst (v := 0) hx hb dL_taken_1 (by decide) ?_
  refine lv_aload_n hx hb dL_taken_2 rfl (lv_at hl 0 rfl) ?_
  refine lv_iload_n hx hb dL_taken_3 rfl (lv_at hl 1 rfl) ?_
  refine ghV_i (wc := (wG ad cI cL qy lp sp pr ex (nI c) dy tk mk (nI mK) mS su (nI uK) uS sh mu co sr du bi bb)) (wr := [(o, .inl (cL, 1, .inr (.inl g)))]) (w1 := (wG ad cI cL qy lp sp pr ex (nI c) dy tk mk (nI mK) mS su (nI uK) uS sh mu co sr du bi bb)) (W' := ((wG ad cI cL qy lp sp pr ex (nI c) dy tk mk (nI mK) mS su (nI uK) uS sh mu co sr du bi bb) ++ [(o, .inl (cL, 1, .inr (.inl g)))])) (As := [.int v]) (rest := [.int 0, .ref o]) ⟨hx, hb, hml, hown, hts⟩ (c_X1_taken_1 l hst D s.heap.size ad cI cL qy lp sp pr ex c dy tk mk mK mS su uK uS sh mu co sr du bi bb v hbad) (cwV 1 hts gL_taken_X1_taken rfl rfl rfl (by decide +kernel) ⟨(Nat.le_of_ble_eq_true rfl), (Nat.le_of_ble_eq_true rfl)⟩) hT hS hA hK hP hD [0, 1] rfl [0, 1, 2, 3, 4, 5, 6, 7, 8, 9, 10, 11, 12, 13, 14] [15] [1, 2, 3, 4, 5, 6, 7, 8, 9, 10, 11, 12, 13, 14, 15, 0] rfl (by decide) rfl (by decide) (by decide) rfl (by decide) 0 1 rfl rfl rfl rfl hl.1 rfl (Nat.le_of_ble_eq_true rfl) dL_taken_4 ⟨(Nat.le_of_ble_eq_true rfl), (Nat.le_of_ble_eq_true rfl)⟩ [1, 2, 3, 4, 5, 6, 7, 8, 9, 10, 11, 12, 13, 14, 15, 0] rfl (by decide) (fun E ce q9 H locs hE hP hD hS hce hcv hcl => ?_) (fun _ _ hok _ _ _ => hok.elim)
  have hE : E = IAE := hE
  subst hE
  refine vx_catch (name := IAE) hown [] (⟨0, 9, 12, 13⟩ : ExceptionTableEntry) [] (by rw [htab]; rfl) (fun z hz => absurd hz List.not_mem_nil) (by decide) (by decide) (hts _ hL_taken__classLink_RL_13_IAE) (va_Nw.use rfl hT.2.2.1) hce hcv hcl ?_
  refine lv_astore_n (lv' := [(3, .ref q9), (0, .ref (ad 0)), (1, .int v), (2, .ref o)]) hx hb dL_taken_12 rfl hl (by decide) rfl (fun ls hl => ?_)
  refine lv_iconst (v := 1) hx hb dL_taken_13 (by decide) ?_
  exact ge_i hx hb hr hlocks rfl hK hP hD hS trivial (Nat.le_of_ble_eq_true rfl) (Nat.le_of_ble_eq_true rfl) dL_taken_14
set_option maxHeartbeats 4000000 in
set_option maxRecDepth 100000 in
theorem c_L_price (l : Launch) (hst : l.stackTraces = false) (D : va_G) (sz : Nat) (ad : Nat → Nat) (cI cL : ClassId) (qy lp sp : Int32) (pr ex : Nat → Int32) (c : Nat) (dy tk mk : Nat → Int32) (mK : Nat) (mS : Int32) (su : Nat → Int32) (uK : Nat) (uS : Int32) (sh mu co sr : Nat → Int32) (du bi : Nat → Int64) (bb : Int64) (o : Nat) (g : Nat → Int64) (j : Nat) (hj : j < 20) : gHi l yL_price wsL_price ({ frames := 9, cells := 1, slots := 6, locals := 153 } : Room) D [(cI, .int), (cL, .long)] [.ref (ad 0), .int (nI j), .ref o] ((wG ad cI cL qy lp sp pr ex (nI c) dy tk mk (nI mK) mS su (nI uK) uS sh mu co sr du bi bb) ++ [(o, .inl (cL, 1, .inr (.inl g)))]) ((wG ad cI cL qy lp sp pr ex (nI c) dy tk mk (nI mK) mS su (nI uK) uS sh mu co sr du bi bb) ++ [(o, .inl (cL, 1, .inr (.inl (vp_updL g 0 ((pr j).toInt64)))))]) 0 True 1 6 sz := by
  refine gmh_i (cc := cL_price) (maxL := 4) (hh := [(0, 9, 12, 13)]) (by decide) rfl (Nat.le_of_ble_eq_true rfl) ?_
  intro pg en s m args below meth cd A ls hx hb hr hml hown hts hlocks hA hK hP hD hT htab hl
  have hl : lv_has ls 4 [(0, .ref (ad 0)), (1, .int (nI j)), (2, .ref o)] := hl
  have hS : va_S A s.heap s.heap [] := va_S.rf
  refine lv_aload_n hx hb dL_price_0 rfl (lv_at hl 2 rfl) ?_
  refine lv_iconst (v := 0) hx hb dL_price_1 (by decide) ?_
  refine lv_aload_n hx hb dL_price_2 rfl (lv_at hl 0 rfl) ?_
  refine lv_iload_n hx hb dL_price_3 rfl (lv_at hl 1 rfl) ?_
  refine ghV_i (wc := (wG ad cI cL qy lp sp pr ex (nI c) dy tk mk (nI mK) mS su (nI uK) uS sh mu co sr du bi bb)) (wr := [(o, .inl (cL, 1, .inr (.inl g)))]) (w1 := (wG ad cI cL qy lp sp pr ex (nI c) dy tk mk (nI mK) mS su (nI uK) uS sh mu co sr du bi bb)) (W' := ((wG ad cI cL qy lp sp pr ex (nI c) dy tk mk (nI mK) mS su (nI uK) uS sh mu co sr du bi bb) ++ [(o, .inl (cL, 1, .inr (.inl g)))])) (As := [.int (nI j)]) (rest := [.int 0, .ref o]) ⟨hx, hb, hml, hown, hts⟩ (c_X1_price l hst D s.heap.size ad cI cL qy lp sp pr ex c dy tk mk mK mS su uK uS sh mu co sr du bi bb j hj) (cwV 1 hts gL_price_X1_price rfl rfl rfl (by decide +kernel) ⟨(Nat.le_of_ble_eq_true rfl), (Nat.le_of_ble_eq_true rfl)⟩) hT hS hA hK hP hD [0, 1] rfl [0, 1, 2, 3, 4, 5, 6, 7, 8, 9, 10, 11, 12, 13, 14] [15] [1, 2, 3, 4, 5, 6, 7, 8, 9, 10, 11, 12, 13, 14, 15, 0] rfl (by decide) rfl (by decide) (by decide) rfl (by decide) 0 1 rfl rfl rfl rfl hl.1 rfl (Nat.le_of_ble_eq_true rfl) dL_price_4 ⟨(Nat.le_of_ble_eq_true rfl), (Nat.le_of_ble_eq_true rfl)⟩ [1, 2, 3, 4, 5, 6, 7, 8, 9, 10, 11, 12, 13, 14, 15, 0] rfl (by decide) (fun _ _ _ _ _ hE => hE.elim) (fun H locs _ hP hD hS => ?_)
  refine lv_i2l hx hb dL_price_7 rfl ?_
  refine ga_last (j := 0) (ws' := ((wG ad cI cL qy lp sp pr ex (nI c) dy tk mk (nI mK) mS su (nI uK) uS sh mu co sr du bi bb) ++ [(o, .inl (cL, 1, .inr (.inl (vp_updL g 0 ((pr j).toInt64)))))])) hx hb hK hP hD hS 15 1 rfl rfl (by decide) (by decide) dL_price_8 rfl (fun H locs hP hD hS => ?_)
  refine lv_goto (tgt := 15) hx hb dL_price_9 (by decide) ?_
  refine lv_iconst (v := 0) hx hb dL_price_15 (by decide) ?_
  exact ge_i hx hb hr hlocks rfl hK hP hD hS trivial (Nat.le_of_ble_eq_true rfl) (Nat.le_of_ble_eq_true rfl) dL_price_16
theorem hL_price__classLink_RL_13_IAE : Cond.classLink RL 13 IAE ∈ wsL_price := by decide +kernel
set_option maxHeartbeats 4000000 in
set_option maxRecDepth 100000 in
theorem c_L_price_1 (l : Launch) (hst : l.stackTraces = false) (D : va_G) (sz : Nat) (ad : Nat → Nat) (cI cL : ClassId) (qy lp sp : Int32) (pr ex : Nat → Int32) (c : Nat) (dy tk mk : Nat → Int32) (mK : Nat) (mS : Int32) (su : Nat → Int32) (uK : Nat) (uS : Int32) (sh mu co sr : Nat → Int32) (du bi : Nat → Int64) (bb : Int64) (o : Nat) (g : Nat → Int64) (v : Int32) (hbad : ¬ inR v 0 19) : gHi l yL_price wsL_price ({ frames := 9, cells := 1, slots := 6, locals := 153 } : Room) D [(cI, .int), (cL, .long)] [.ref (ad 0), .int v, .ref o] ((wG ad cI cL qy lp sp pr ex (nI c) dy tk mk (nI mK) mS su (nI uK) uS sh mu co sr du bi bb) ++ [(o, .inl (cL, 1, .inr (.inl g)))]) ((wG ad cI cL qy lp sp pr ex (nI c) dy tk mk (nI mK) mS su (nI uK) uS sh mu co sr du bi bb) ++ [(o, .inl (cL, 1, .inr (.inl g)))]) 1 True 1 6 sz := by
  refine gmh_i (cc := cL_price) (maxL := 4) (hh := [(0, 9, 12, 13)]) (by decide) rfl (Nat.le_of_ble_eq_true rfl) ?_
  intro pg en s m args below meth cd A ls hx hb hr hml hown hts hlocks hA hK hP hD hT htab hl
  have hl : lv_has ls 4 [(0, .ref (ad 0)), (1, .int v), (2, .ref o)] := hl
  have hS : va_S A s.heap s.heap [] := va_S.rf
  refine lv_aload_n hx hb dL_price_0 rfl (lv_at hl 2 rfl) ?_
  refine lv_iconst (v := 0) hx hb dL_price_1 (by decide) ?_
  refine lv_aload_n hx hb dL_price_2 rfl (lv_at hl 0 rfl) ?_
  refine lv_iload_n hx hb dL_price_3 rfl (lv_at hl 1 rfl) ?_
  refine ghV_i (wc := (wG ad cI cL qy lp sp pr ex (nI c) dy tk mk (nI mK) mS su (nI uK) uS sh mu co sr du bi bb)) (wr := [(o, .inl (cL, 1, .inr (.inl g)))]) (w1 := (wG ad cI cL qy lp sp pr ex (nI c) dy tk mk (nI mK) mS su (nI uK) uS sh mu co sr du bi bb)) (W' := ((wG ad cI cL qy lp sp pr ex (nI c) dy tk mk (nI mK) mS su (nI uK) uS sh mu co sr du bi bb) ++ [(o, .inl (cL, 1, .inr (.inl g)))])) (As := [.int v]) (rest := [.int 0, .ref o]) ⟨hx, hb, hml, hown, hts⟩ (c_X1_price_1 l hst D s.heap.size ad cI cL qy lp sp pr ex c dy tk mk mK mS su uK uS sh mu co sr du bi bb v hbad) (cwV 1 hts gL_price_X1_price rfl rfl rfl (by decide +kernel) ⟨(Nat.le_of_ble_eq_true rfl), (Nat.le_of_ble_eq_true rfl)⟩) hT hS hA hK hP hD [0, 1] rfl [0, 1, 2, 3, 4, 5, 6, 7, 8, 9, 10, 11, 12, 13, 14] [15] [1, 2, 3, 4, 5, 6, 7, 8, 9, 10, 11, 12, 13, 14, 15, 0] rfl (by decide) rfl (by decide) (by decide) rfl (by decide) 0 1 rfl rfl rfl rfl hl.1 rfl (Nat.le_of_ble_eq_true rfl) dL_price_4 ⟨(Nat.le_of_ble_eq_true rfl), (Nat.le_of_ble_eq_true rfl)⟩ [1, 2, 3, 4, 5, 6, 7, 8, 9, 10, 11, 12, 13, 14, 15, 0] rfl (by decide) (fun E ce q9 H locs hE hP hD hS hce hcv hcl => ?_) (fun _ _ hok _ _ _ => hok.elim)
  have hE : E = IAE := hE
  subst hE
  refine vx_catch (name := IAE) hown [] (⟨0, 9, 12, 13⟩ : ExceptionTableEntry) [] (by rw [htab]; rfl) (fun z hz => absurd hz List.not_mem_nil) (by decide) (by decide) (hts _ hL_price__classLink_RL_13_IAE) (va_Nw.use rfl hT.2.2.1) hce hcv hcl ?_
  refine lv_astore_n (lv' := [(3, .ref q9), (0, .ref (ad 0)), (1, .int v), (2, .ref o)]) hx hb dL_price_12 rfl hl (by decide) rfl (fun ls hl => ?_)
  refine lv_iconst (v := 1) hx hb dL_price_13 (by decide) ?_
  exact ge_i hx hb hr hlocks rfl hK hP hD hS trivial (Nat.le_of_ble_eq_true rfl) (Nat.le_of_ble_eq_true rfl) dL_price_14
set_option maxHeartbeats 4000000 in
set_option maxRecDepth 100000 in
theorem c_L_least (l : Launch) (hst : l.stackTraces = false) (D : va_G) (sz : Nat) (ad : Nat → Nat) (cI cL : ClassId) (qy lp sp : Int32) (pr ex : Nat → Int32) (c : Nat) (dy tk mk : Nat → Int32) (mK : Nat) (mS : Int32) (su : Nat → Int32) (uK : Nat) (uS : Int32) (sh mu co sr : Nat → Int32) (du bi : Nat → Int64) (bb : Int64) (o : Nat) (g : Nat → Int64) (j : Nat) (hj : j < 20) : gHi l yL_least wsL_least ({ frames := 9, cells := 1, slots := 6, locals := 153 } : Room) D [(cI, .int), (cL, .long)] [.ref (ad 0), .int (nI j), .ref o] ((wG ad cI cL qy lp sp pr ex (nI c) dy tk mk (nI mK) mS su (nI uK) uS sh mu co sr du bi bb) ++ [(o, .inl (cL, 1, .inr (.inl g)))]) ((wG ad cI cL qy lp sp pr ex (nI c) dy tk mk (nI mK) mS su (nI uK) uS sh mu co sr du bi bb) ++ [(o, .inl (cL, 1, .inr (.inl (vp_updL g 0 ((lqf qy lp ex j).toInt64)))))]) 0 True 1 6 sz := by
  refine gmh_i (cc := cL_least) (maxL := 4) (hh := [(0, 9, 12, 13)]) (by decide) rfl (Nat.le_of_ble_eq_true rfl) ?_
  intro pg en s m args below meth cd A ls hx hb hr hml hown hts hlocks hA hK hP hD hT htab hl
  have hl : lv_has ls 4 [(0, .ref (ad 0)), (1, .int (nI j)), (2, .ref o)] := hl
  have hS : va_S A s.heap s.heap [] := va_S.rf
  refine lv_aload_n hx hb dL_least_0 rfl (lv_at hl 2 rfl) ?_
  refine lv_iconst (v := 0) hx hb dL_least_1 (by decide) ?_
  refine lv_aload_n hx hb dL_least_2 rfl (lv_at hl 0 rfl) ?_
  refine lv_iload_n hx hb dL_least_3 rfl (lv_at hl 1 rfl) ?_
  refine ghV_i (wc := (wG ad cI cL qy lp sp pr ex (nI c) dy tk mk (nI mK) mS su (nI uK) uS sh mu co sr du bi bb)) (wr := [(o, .inl (cL, 1, .inr (.inl g)))]) (w1 := (wG ad cI cL qy lp sp pr ex (nI c) dy tk mk (nI mK) mS su (nI uK) uS sh mu co sr du bi bb)) (W' := ((wG ad cI cL qy lp sp pr ex (nI c) dy tk mk (nI mK) mS su (nI uK) uS sh mu co sr du bi bb) ++ [(o, .inl (cL, 1, .inr (.inl g)))])) (As := [.int (nI j)]) (rest := [.int 0, .ref o]) ⟨hx, hb, hml, hown, hts⟩ (c_X1_least l hst D s.heap.size ad cI cL qy lp sp pr ex c dy tk mk mK mS su uK uS sh mu co sr du bi bb j hj) (cwV 1 hts gL_least_X1_least rfl rfl rfl (by decide +kernel) ⟨(Nat.le_of_ble_eq_true rfl), (Nat.le_of_ble_eq_true rfl)⟩) hT hS hA hK hP hD [0, 1] rfl [0, 1, 2, 3, 4, 5, 6, 7, 8, 9, 10, 11, 12, 13, 14] [15] [1, 2, 3, 4, 5, 6, 7, 8, 9, 10, 11, 12, 13, 14, 15, 0] rfl (by decide) rfl (by decide) (by decide) rfl (by decide) 0 1 rfl rfl rfl rfl hl.1 rfl (Nat.le_of_ble_eq_true rfl) dL_least_4 ⟨(Nat.le_of_ble_eq_true rfl), (Nat.le_of_ble_eq_true rfl)⟩ [1, 2, 3, 4, 5, 6, 7, 8, 9, 10, 11, 12, 13, 14, 15, 0] rfl (by decide) (fun _ _ _ _ _ hE => hE.elim) (fun H locs _ hP hD hS => ?_)
  refine lv_i2l hx hb dL_least_7 rfl ?_
  refine ga_last (j := 0) (ws' := ((wG ad cI cL qy lp sp pr ex (nI c) dy tk mk (nI mK) mS su (nI uK) uS sh mu co sr du bi bb) ++ [(o, .inl (cL, 1, .inr (.inl (vp_updL g 0 ((lqf qy lp ex j).toInt64)))))])) hx hb hK hP hD hS 15 1 rfl rfl (by decide) (by decide) dL_least_8 rfl (fun H locs hP hD hS => ?_)
  refine lv_goto (tgt := 15) hx hb dL_least_9 (by decide) ?_
  refine lv_iconst (v := 0) hx hb dL_least_15 (by decide) ?_
  exact ge_i hx hb hr hlocks rfl hK hP hD hS trivial (Nat.le_of_ble_eq_true rfl) (Nat.le_of_ble_eq_true rfl) dL_least_16
theorem hL_least__classLink_RL_13_IAE : Cond.classLink RL 13 IAE ∈ wsL_least := by decide +kernel
set_option maxHeartbeats 4000000 in
set_option maxRecDepth 100000 in
theorem c_L_least_1 (l : Launch) (hst : l.stackTraces = false) (D : va_G) (sz : Nat) (ad : Nat → Nat) (cI cL : ClassId) (qy lp sp : Int32) (pr ex : Nat → Int32) (c : Nat) (dy tk mk : Nat → Int32) (mK : Nat) (mS : Int32) (su : Nat → Int32) (uK : Nat) (uS : Int32) (sh mu co sr : Nat → Int32) (du bi : Nat → Int64) (bb : Int64) (o : Nat) (g : Nat → Int64) (v : Int32) (hbad : ¬ inR v 0 19) : gHi l yL_least wsL_least ({ frames := 9, cells := 1, slots := 6, locals := 153 } : Room) D [(cI, .int), (cL, .long)] [.ref (ad 0), .int v, .ref o] ((wG ad cI cL qy lp sp pr ex (nI c) dy tk mk (nI mK) mS su (nI uK) uS sh mu co sr du bi bb) ++ [(o, .inl (cL, 1, .inr (.inl g)))]) ((wG ad cI cL qy lp sp pr ex (nI c) dy tk mk (nI mK) mS su (nI uK) uS sh mu co sr du bi bb) ++ [(o, .inl (cL, 1, .inr (.inl g)))]) 1 True 1 6 sz := by
  refine gmh_i (cc := cL_least) (maxL := 4) (hh := [(0, 9, 12, 13)]) (by decide) rfl (Nat.le_of_ble_eq_true rfl) ?_
  intro pg en s m args below meth cd A ls hx hb hr hml hown hts hlocks hA hK hP hD hT htab hl
  have hl : lv_has ls 4 [(0, .ref (ad 0)), (1, .int v), (2, .ref o)] := hl
  have hS : va_S A s.heap s.heap [] := va_S.rf
  refine lv_aload_n hx hb dL_least_0 rfl (lv_at hl 2 rfl) ?_
  refine lv_iconst (v := 0) hx hb dL_least_1 (by decide) ?_
  refine lv_aload_n hx hb dL_least_2 rfl (lv_at hl 0 rfl) ?_
  refine lv_iload_n hx hb dL_least_3 rfl (lv_at hl 1 rfl) ?_
  refine ghV_i (wc := (wG ad cI cL qy lp sp pr ex (nI c) dy tk mk (nI mK) mS su (nI uK) uS sh mu co sr du bi bb)) (wr := [(o, .inl (cL, 1, .inr (.inl g)))]) (w1 := (wG ad cI cL qy lp sp pr ex (nI c) dy tk mk (nI mK) mS su (nI uK) uS sh mu co sr du bi bb)) (W' := ((wG ad cI cL qy lp sp pr ex (nI c) dy tk mk (nI mK) mS su (nI uK) uS sh mu co sr du bi bb) ++ [(o, .inl (cL, 1, .inr (.inl g)))])) (As := [.int v]) (rest := [.int 0, .ref o]) ⟨hx, hb, hml, hown, hts⟩ (c_X1_least_1 l hst D s.heap.size ad cI cL qy lp sp pr ex c dy tk mk mK mS su uK uS sh mu co sr du bi bb v hbad) (cwV 1 hts gL_least_X1_least rfl rfl rfl (by decide +kernel) ⟨(Nat.le_of_ble_eq_true rfl), (Nat.le_of_ble_eq_true rfl)⟩) hT hS hA hK hP hD [0, 1] rfl [0, 1, 2, 3, 4, 5, 6, 7, 8, 9, 10, 11, 12, 13, 14] [15] [1, 2, 3, 4, 5, 6, 7, 8, 9, 10, 11, 12, 13, 14, 15, 0] rfl (by decide) rfl (by decide) (by decide) rfl (by decide) 0 1 rfl rfl rfl rfl hl.1 rfl (Nat.le_of_ble_eq_true rfl) dL_least_4 ⟨(Nat.le_of_ble_eq_true rfl), (Nat.le_of_ble_eq_true rfl)⟩ [1, 2, 3, 4, 5, 6, 7, 8, 9, 10, 11, 12, 13, 14, 15, 0] rfl (by decide) (fun E ce q9 H locs hE hP hD hS hce hcv hcl => ?_) (fun _ _ hok _ _ _ => hok.elim)
  have hE : E = IAE := hE
  subst hE
  refine vx_catch (name := IAE) hown [] (⟨0, 9, 12, 13⟩ : ExceptionTableEntry) [] (by rw [htab]; rfl) (fun z hz => absurd hz List.not_mem_nil) (by decide) (by decide) (hts _ hL_least__classLink_RL_13_IAE) (va_Nw.use rfl hT.2.2.1) hce hcv hcl ?_
  refine lv_astore_n (lv' := [(3, .ref q9), (0, .ref (ad 0)), (1, .int v), (2, .ref o)]) hx hb dL_least_12 rfl hl (by decide) rfl (fun ls hl => ?_)
  refine lv_iconst (v := 1) hx hb dL_least_13 (by decide) ?_
  exact ge_i hx hb hr hlocks rfl hK hP hD hS trivial (Nat.le_of_ble_eq_true rfl) (Nat.le_of_ble_eq_true rfl) dL_least_14
set_option maxHeartbeats 4000000 in
set_option maxRecDepth 100000 in
theorem c_L_takenFrom (l : Launch) (hst : l.stackTraces = false) (D : va_G) (sz : Nat) (ad : Nat → Nat) (cI cL : ClassId) (qy lp sp : Int32) (pr ex : Nat → Int32) (c : Nat) (dy tk mk : Nat → Int32) (mK : Nat) (mS : Int32) (su : Nat → Int32) (uK : Nat) (uS : Int32) (sh mu co sr : Nat → Int32) (du bi : Nat → Int64) (bb : Int64) (o : Nat) (g : Nat → Int64) (a b : Nat) (hab : a ≤ b) (hb3 : b < 360) : gHi l yL_takenFrom wsL_takenFrom ({ frames := 10, cells := 2, slots := 12, locals := 177 } : Room) D [(cI, .int), (cL, .long)] [.ref (ad 0), .int (nI a), .int (nI b), .ref o] ((wG ad cI cL qy lp sp pr ex (nI c) dy tk mk (nI mK) mS su (nI uK) uS sh mu co sr du bi bb) ++ [(o, .inl (cL, 1, .inr (.inl g)))]) ((wG ad cI cL qy lp sp pr ex (nI c) dy tk mk (nI mK) mS su (nI uK) uS sh mu co sr du bi bb) ++ [(o, .inl (cL, 1, .inr (.inl (vp_updL g 0 ((smI dy a (b + 1 - a)).toInt64)))))]) 0 True 2 12 sz := by
  refine gmh_i (cc := cL_takenFrom) (maxL := 5) (hh := [(0, 10, 13, 13)]) (by decide) rfl (Nat.le_of_ble_eq_true rfl) ?_
  intro pg en s m args below meth cd A ls hx hb hr hml hown hts hlocks hA hK hP hD hT htab hl
  have hl : lv_has ls 5 [(0, .ref (ad 0)), (1, .int (nI a)), (2, .int (nI b)), (3, .ref o)] := hl
  have hS : va_S A s.heap s.heap [] := va_S.rf
  refine lv_aload_n hx hb dL_takenFrom_0 rfl (lv_at hl 3 rfl) ?_
  refine lv_iconst (v := 0) hx hb dL_takenFrom_1 (by decide) ?_
  refine lv_aload_n hx hb dL_takenFrom_2 rfl (lv_at hl 0 rfl) ?_
  refine lv_iload_n hx hb dL_takenFrom_3 rfl (lv_at hl 1 rfl) ?_
  refine lv_iload_n hx hb dL_takenFrom_4 rfl (lv_at hl 2 rfl) ?_
  refine ghV_i (wc := (wG ad cI cL qy lp sp pr ex (nI c) dy tk mk (nI mK) mS su (nI uK) uS sh mu co sr du bi bb)) (wr := [(o, .inl (cL, 1, .inr (.inl g)))]) (w1 := (wG ad cI cL qy lp sp pr ex (nI c) dy tk mk (nI mK) mS su (nI uK) uS sh mu co sr du bi bb)) (W' := ((wG ad cI cL qy lp sp pr ex (nI c) dy tk mk (nI mK) mS su (nI uK) uS sh mu co sr du bi bb) ++ [(o, .inl (cL, 1, .inr (.inl g)))])) (As := [.int (nI a), .int (nI b)]) (rest := [.int 0, .ref o]) ⟨hx, hb, hml, hown, hts⟩ (c_X1_takenFrom l hst D s.heap.size ad cI cL qy lp sp pr ex c dy tk mk mK mS su uK uS sh mu co sr du bi bb a b hab hb3) (cwV 2 hts gL_takenFrom_X1_takenFrom rfl rfl rfl (by decide +kernel) ⟨(Nat.le_of_ble_eq_true rfl), (Nat.le_of_ble_eq_true rfl)⟩) hT hS hA hK hP hD [0, 1] rfl [0, 1, 2, 3, 4, 5, 6, 7, 8, 9, 10, 11, 12, 13, 14] [15] [1, 2, 3, 4, 5, 6, 7, 8, 9, 10, 11, 12, 13, 14, 15, 0] rfl (by decide) rfl (by decide) (by decide) rfl (by decide) 0 1 rfl rfl rfl rfl hl.1 rfl (Nat.le_of_ble_eq_true rfl) dL_takenFrom_5 ⟨(Nat.le_of_ble_eq_true rfl), (Nat.le_of_ble_eq_true rfl)⟩ [1, 2, 3, 4, 5, 6, 7, 8, 9, 10, 11, 12, 13, 14, 15, 0] rfl (by decide) (fun _ _ _ _ _ hE => hE.elim) (fun H locs _ hP hD hS => ?_)
  refine lv_i2l hx hb dL_takenFrom_8 rfl ?_
  refine ga_last (j := 0) (ws' := ((wG ad cI cL qy lp sp pr ex (nI c) dy tk mk (nI mK) mS su (nI uK) uS sh mu co sr du bi bb) ++ [(o, .inl (cL, 1, .inr (.inl (vp_updL g 0 ((smI dy a (b + 1 - a)).toInt64)))))])) hx hb hK hP hD hS 15 1 rfl rfl (by decide) (by decide) dL_takenFrom_9 rfl (fun H locs hP hD hS => ?_)
  refine lv_goto (tgt := 17) hx hb dL_takenFrom_10 (by decide) ?_
  refine lv_iconst (v := 0) hx hb dL_takenFrom_17 (by decide) ?_
  exact ge_i hx hb hr hlocks rfl hK hP hD hS trivial (Nat.le_of_ble_eq_true rfl) (Nat.le_of_ble_eq_true rfl) dL_takenFrom_18
theorem hL_takenFrom__classLink_RL_13_IAE : Cond.classLink RL 13 IAE ∈ wsL_takenFrom := by decide +kernel
set_option maxHeartbeats 4000000 in
set_option maxRecDepth 100000 in
theorem c_L_takenFrom_1 (l : Launch) (hst : l.stackTraces = false) (D : va_G) (sz : Nat) (ad : Nat → Nat) (cI cL : ClassId) (qy lp sp : Int32) (pr ex : Nat → Int32) (c : Nat) (dy tk mk : Nat → Int32) (mK : Nat) (mS : Int32) (su : Nat → Int32) (uK : Nat) (uS : Int32) (sh mu co sr : Nat → Int32) (du bi : Nat → Int64) (bb : Int64) (o : Nat) (g : Nat → Int64) (v w : Int32) (hbad : ¬ (inR v 0 359 ∧ inR w v 359)) : gHi l yL_takenFrom wsL_takenFrom ({ frames := 10, cells := 2, slots := 12, locals := 177 } : Room) D [(cI, .int), (cL, .long)] [.ref (ad 0), .int v, .int w, .ref o] ((wG ad cI cL qy lp sp pr ex (nI c) dy tk mk (nI mK) mS su (nI uK) uS sh mu co sr du bi bb) ++ [(o, .inl (cL, 1, .inr (.inl g)))]) ((wG ad cI cL qy lp sp pr ex (nI c) dy tk mk (nI mK) mS su (nI uK) uS sh mu co sr du bi bb) ++ [(o, .inl (cL, 1, .inr (.inl g)))]) 1 True 2 12 sz := by
  refine gmh_i (cc := cL_takenFrom) (maxL := 5) (hh := [(0, 10, 13, 13)]) (by decide) rfl (Nat.le_of_ble_eq_true rfl) ?_
  intro pg en s m args below meth cd A ls hx hb hr hml hown hts hlocks hA hK hP hD hT htab hl
  have hl : lv_has ls 5 [(0, .ref (ad 0)), (1, .int v), (2, .int w), (3, .ref o)] := hl
  have hS : va_S A s.heap s.heap [] := va_S.rf
  refine lv_aload_n hx hb dL_takenFrom_0 rfl (lv_at hl 3 rfl) ?_
  refine lv_iconst (v := 0) hx hb dL_takenFrom_1 (by decide) ?_
  refine lv_aload_n hx hb dL_takenFrom_2 rfl (lv_at hl 0 rfl) ?_
  refine lv_iload_n hx hb dL_takenFrom_3 rfl (lv_at hl 1 rfl) ?_
  refine lv_iload_n hx hb dL_takenFrom_4 rfl (lv_at hl 2 rfl) ?_
  refine ghV_i (wc := (wG ad cI cL qy lp sp pr ex (nI c) dy tk mk (nI mK) mS su (nI uK) uS sh mu co sr du bi bb)) (wr := [(o, .inl (cL, 1, .inr (.inl g)))]) (w1 := (wG ad cI cL qy lp sp pr ex (nI c) dy tk mk (nI mK) mS su (nI uK) uS sh mu co sr du bi bb)) (W' := ((wG ad cI cL qy lp sp pr ex (nI c) dy tk mk (nI mK) mS su (nI uK) uS sh mu co sr du bi bb) ++ [(o, .inl (cL, 1, .inr (.inl g)))])) (As := [.int v, .int w]) (rest := [.int 0, .ref o]) ⟨hx, hb, hml, hown, hts⟩ (c_X1_takenFrom_1 l hst D s.heap.size ad cI cL qy lp sp pr ex c dy tk mk mK mS su uK uS sh mu co sr du bi bb v w hbad) (cwV 2 hts gL_takenFrom_X1_takenFrom rfl rfl rfl (by decide +kernel) ⟨(Nat.le_of_ble_eq_true rfl), (Nat.le_of_ble_eq_true rfl)⟩) hT hS hA hK hP hD [0, 1] rfl [0, 1, 2, 3, 4, 5, 6, 7, 8, 9, 10, 11, 12, 13, 14] [15] [1, 2, 3, 4, 5, 6, 7, 8, 9, 10, 11, 12, 13, 14, 15, 0] rfl (by decide) rfl (by decide) (by decide) rfl (by decide) 0 1 rfl rfl rfl rfl hl.1 rfl (Nat.le_of_ble_eq_true rfl) dL_takenFrom_5 ⟨(Nat.le_of_ble_eq_true rfl), (Nat.le_of_ble_eq_true rfl)⟩ [1, 2, 3, 4, 5, 6, 7, 8, 9, 10, 11, 12, 13, 14, 15, 0] rfl (by decide) (fun E ce q9 H locs hE hP hD hS hce hcv hcl => ?_) (fun _ _ hok _ _ _ => hok.elim)
  have hE : E = IAE := hE
  subst hE
  refine vx_catch (name := IAE) hown [] (⟨0, 10, 13, 13⟩ : ExceptionTableEntry) [] (by rw [htab]; rfl) (fun z hz => absurd hz List.not_mem_nil) (by decide) (by decide) (hts _ hL_takenFrom__classLink_RL_13_IAE) (va_Nw.use rfl hT.2.2.1) hce hcv hcl ?_
  refine lv_astore (lv' := [(4, .ref q9), (0, .ref (ad 0)), (1, .int v), (2, .int w), (3, .ref o)]) hx hb dL_takenFrom_13 hl (by decide) rfl (fun ls hl => ?_)
  refine lv_iconst (v := 1) hx hb dL_takenFrom_15 (by decide) ?_
  exact ge_i hx hb hr hlocks rfl hK hP hD hS trivial (Nat.le_of_ble_eq_true rfl) (Nat.le_of_ble_eq_true rfl) dL_takenFrom_16
set_option maxHeartbeats 4000000 in
set_option maxRecDepth 100000 in
theorem c_L_shortfall (l : Launch) (hst : l.stackTraces = false) (D : va_G) (sz : Nat) (ad : Nat → Nat) (cI cL : ClassId) (qy lp sp : Int32) (pr ex : Nat → Int32) (c : Nat) (dy tk mk : Nat → Int32) (mK : Nat) (mS : Int32) (su : Nat → Int32) (uK : Nat) (uS : Int32) (sh mu co sr : Nat → Int32) (du bi : Nat → Int64) (bb : Int64) (o : Nat) (g : Nat → Int64) (j : Nat) (hj : j < c) (hc : c ≤ 20) : gHi l yL_shortfall wsL_shortfall ({ frames := 10, cells := 2, slots := 12, locals := 174 } : Room) D [(cI, .int), (cL, .long)] [.ref (ad 0), .int (nI j), .ref o] ((wG ad cI cL qy lp sp pr ex (nI c) dy tk mk (nI mK) mS su (nI uK) uS sh mu co sr du bi bb) ++ [(o, .inl (cL, 1, .inr (.inl g)))]) ((wG ad cI cL qy lp sp pr ex (nI c) dy tk mk (nI mK) mS su (nI uK) uS sh mu co sr du bi bb) ++ [(o, .inl (cL, 1, .inr (.inl (vp_updL g 0 ((sh j).toInt64)))))]) 0 True 2 12 sz := by
  refine gmh_i (cc := cL_shortfall) (maxL := 4) (hh := [(0, 9, 12, 13), (0, 9, 15, 15)]) (by decide) rfl (Nat.le_of_ble_eq_true rfl) ?_
  intro pg en s m args below meth cd A ls hx hb hr hml hown hts hlocks hA hK hP hD hT htab hl
  have hl : lv_has ls 4 [(0, .ref (ad 0)), (1, .int (nI j)), (2, .ref o)] := hl
  have hS : va_S A s.heap s.heap [] := va_S.rf
  refine lv_aload_n hx hb dL_shortfall_0 rfl (lv_at hl 2 rfl) ?_
  refine lv_iconst (v := 0) hx hb dL_shortfall_1 (by decide) ?_
  refine lv_aload_n hx hb dL_shortfall_2 rfl (lv_at hl 0 rfl) ?_
  refine lv_iload_n hx hb dL_shortfall_3 rfl (lv_at hl 1 rfl) ?_
  refine ghV_i (wc := (wG ad cI cL qy lp sp pr ex (nI c) dy tk mk (nI mK) mS su (nI uK) uS sh mu co sr du bi bb)) (wr := [(o, .inl (cL, 1, .inr (.inl g)))]) (w1 := (wG ad cI cL qy lp sp pr ex (nI c) dy tk mk (nI mK) mS su (nI uK) uS sh mu co sr du bi bb)) (W' := ((wG ad cI cL qy lp sp pr ex (nI c) dy tk mk (nI mK) mS su (nI uK) uS sh mu co sr du bi bb) ++ [(o, .inl (cL, 1, .inr (.inl g)))])) (As := [.int (nI j)]) (rest := [.int 0, .ref o]) ⟨hx, hb, hml, hown, hts⟩ (c_X1_shortfall l hst D s.heap.size ad cI cL qy lp sp pr ex c dy tk mk mK mS su uK uS sh mu co sr du bi bb j hj hc) (cwV 1 hts gL_shortfall_X1_shortfall rfl rfl rfl (by decide +kernel) ⟨(Nat.le_of_ble_eq_true rfl), (Nat.le_of_ble_eq_true rfl)⟩) hT hS hA hK hP hD [0, 1] rfl [0, 1, 2, 3, 4, 5, 6, 7, 8, 9, 10, 11, 12, 13, 14] [15] [1, 2, 3, 4, 5, 6, 7, 8, 9, 10, 11, 12, 13, 14, 15, 0] rfl (by decide) rfl (by decide) (by decide) rfl (by decide) 0 1 rfl rfl rfl rfl hl.1 rfl (Nat.le_of_ble_eq_true rfl) dL_shortfall_4 ⟨(Nat.le_of_ble_eq_true rfl), (Nat.le_of_ble_eq_true rfl)⟩ [1, 2, 3, 4, 5, 6, 7, 8, 9, 10, 11, 12, 13, 14, 15, 0] rfl (by decide) (fun _ _ _ _ _ hE => hE.elim) (fun H locs _ hP hD hS => ?_)
  refine lv_i2l hx hb dL_shortfall_7 rfl ?_
  refine ga_last (j := 0) (ws' := ((wG ad cI cL qy lp sp pr ex (nI c) dy tk mk (nI mK) mS su (nI uK) uS sh mu co sr du bi bb) ++ [(o, .inl (cL, 1, .inr (.inl (vp_updL g 0 ((sh j).toInt64)))))])) hx hb hK hP hD hS 15 1 rfl rfl (by decide) (by decide) dL_shortfall_8 rfl (fun H locs hP hD hS => ?_)
  refine lv_goto (tgt := 18) hx hb dL_shortfall_9 (by decide) ?_
  refine lv_iconst (v := 0) hx hb dL_shortfall_18 (by decide) ?_
  exact ge_i hx hb hr hlocks rfl hK hP hD hS trivial (Nat.le_of_ble_eq_true rfl) (Nat.le_of_ble_eq_true rfl) dL_shortfall_19
theorem hL_shortfall__classLink_RL_13_IAE : Cond.classLink RL 13 IAE ∈ wsL_shortfall := by decide +kernel
set_option maxHeartbeats 4000000 in
set_option maxRecDepth 100000 in
theorem c_L_shortfall_1 (l : Launch) (hst : l.stackTraces = false) (D : va_G) (sz : Nat) (ad : Nat → Nat) (cI cL : ClassId) (qy lp sp : Int32) (pr ex : Nat → Int32) (c : Nat) (dy tk mk : Nat → Int32) (mK : Nat) (mS : Int32) (su : Nat → Int32) (uK : Nat) (uS : Int32) (sh mu co sr : Nat → Int32) (du bi : Nat → Int64) (bb : Int64) (o : Nat) (g : Nat → Int64) (v : Int32) (hbad : ¬ inR v 0 19) : gHi l yL_shortfall wsL_shortfall ({ frames := 10, cells := 2, slots := 12, locals := 174 } : Room) D [(cI, .int), (cL, .long)] [.ref (ad 0), .int v, .ref o] ((wG ad cI cL qy lp sp pr ex (nI c) dy tk mk (nI mK) mS su (nI uK) uS sh mu co sr du bi bb) ++ [(o, .inl (cL, 1, .inr (.inl g)))]) ((wG ad cI cL qy lp sp pr ex (nI c) dy tk mk (nI mK) mS su (nI uK) uS sh mu co sr du bi bb) ++ [(o, .inl (cL, 1, .inr (.inl g)))]) 1 True 2 12 sz := by
  refine gmh_i (cc := cL_shortfall) (maxL := 4) (hh := [(0, 9, 12, 13), (0, 9, 15, 15)]) (by decide) rfl (Nat.le_of_ble_eq_true rfl) ?_
  intro pg en s m args below meth cd A ls hx hb hr hml hown hts hlocks hA hK hP hD hT htab hl
  have hl : lv_has ls 4 [(0, .ref (ad 0)), (1, .int v), (2, .ref o)] := hl
  have hS : va_S A s.heap s.heap [] := va_S.rf
  refine lv_aload_n hx hb dL_shortfall_0 rfl (lv_at hl 2 rfl) ?_
  refine lv_iconst (v := 0) hx hb dL_shortfall_1 (by decide) ?_
  refine lv_aload_n hx hb dL_shortfall_2 rfl (lv_at hl 0 rfl) ?_
  refine lv_iload_n hx hb dL_shortfall_3 rfl (lv_at hl 1 rfl) ?_
  refine ghV_i (wc := (wG ad cI cL qy lp sp pr ex (nI c) dy tk mk (nI mK) mS su (nI uK) uS sh mu co sr du bi bb)) (wr := [(o, .inl (cL, 1, .inr (.inl g)))]) (w1 := (wG ad cI cL qy lp sp pr ex (nI c) dy tk mk (nI mK) mS su (nI uK) uS sh mu co sr du bi bb)) (W' := ((wG ad cI cL qy lp sp pr ex (nI c) dy tk mk (nI mK) mS su (nI uK) uS sh mu co sr du bi bb) ++ [(o, .inl (cL, 1, .inr (.inl g)))])) (As := [.int v]) (rest := [.int 0, .ref o]) ⟨hx, hb, hml, hown, hts⟩ (c_X1_shortfall_1 l hst D s.heap.size ad cI cL qy lp sp pr ex c dy tk mk mK mS su uK uS sh mu co sr du bi bb v hbad) (cwV 1 hts gL_shortfall_X1_shortfall rfl rfl rfl (by decide +kernel) ⟨(Nat.le_of_ble_eq_true rfl), (Nat.le_of_ble_eq_true rfl)⟩) hT hS hA hK hP hD [0, 1] rfl [0, 1, 2, 3, 4, 5, 6, 7, 8, 9, 10, 11, 12, 13, 14] [15] [1, 2, 3, 4, 5, 6, 7, 8, 9, 10, 11, 12, 13, 14, 15, 0] rfl (by decide) rfl (by decide) (by decide) rfl (by decide) 0 1 rfl rfl rfl rfl hl.1 rfl (Nat.le_of_ble_eq_true rfl) dL_shortfall_4 ⟨(Nat.le_of_ble_eq_true rfl), (Nat.le_of_ble_eq_true rfl)⟩ [1, 2, 3, 4, 5, 6, 7, 8, 9, 10, 11, 12, 13, 14, 15, 0] rfl (by decide) (fun E ce q9 H locs hE hP hD hS hce hcv hcl => ?_) (fun _ _ hok _ _ _ => hok.elim)
  have hE : E = IAE := hE
  subst hE
  refine vx_catch (name := IAE) hown [] (⟨0, 9, 12, 13⟩ : ExceptionTableEntry) [(⟨0, 9, 15, 15⟩ : ExceptionTableEntry)] (by rw [htab]; rfl) (fun z hz => absurd hz List.not_mem_nil) (by decide) (by decide) (hts _ hL_shortfall__classLink_RL_13_IAE) (va_Nw.use rfl hT.2.2.1) hce hcv hcl ?_
  refine lv_astore_n (lv' := [(3, .ref q9), (0, .ref (ad 0)), (1, .int v), (2, .ref o)]) hx hb dL_shortfall_12 rfl hl (by decide) rfl (fun ls hl => ?_)
  refine lv_iconst (v := 1) hx hb dL_shortfall_13 (by decide) ?_
  exact ge_i hx hb hr hlocks rfl hK hP hD hS trivial (Nat.le_of_ble_eq_true rfl) (Nat.le_of_ble_eq_true rfl) dL_shortfall_14
theorem hL_shortfall__classLink_RL_15_ISE : Cond.classLink RL 15 ISE ∈ wsL_shortfall := by decide +kernel
set_option maxHeartbeats 4000000 in
set_option maxRecDepth 100000 in
theorem c_L_shortfall_2 (l : Launch) (hst : l.stackTraces = false) (D : va_G) (sz : Nat) (ad : Nat → Nat) (cI cL : ClassId) (qy lp sp : Int32) (pr ex : Nat → Int32) (c : Nat) (dy tk mk : Nat → Int32) (mK : Nat) (mS : Int32) (su : Nat → Int32) (uK : Nat) (uS : Int32) (sh mu co sr : Nat → Int32) (du bi : Nat → Int64) (bb : Int64) (o : Nat) (g : Nat → Int64) (j : Nat) (hj : j < 20) (hbad : ¬ j < c) (hc : c ≤ 20) : gHi l yL_shortfall wsL_shortfall ({ frames := 10, cells := 2, slots := 12, locals := 174 } : Room) D [(cI, .int), (cL, .long)] [.ref (ad 0), .int (nI j), .ref o] ((wG ad cI cL qy lp sp pr ex (nI c) dy tk mk (nI mK) mS su (nI uK) uS sh mu co sr du bi bb) ++ [(o, .inl (cL, 1, .inr (.inl g)))]) ((wG ad cI cL qy lp sp pr ex (nI c) dy tk mk (nI mK) mS su (nI uK) uS sh mu co sr du bi bb) ++ [(o, .inl (cL, 1, .inr (.inl g)))]) 2 True 2 12 sz := by
  refine gmh_i (cc := cL_shortfall) (maxL := 4) (hh := [(0, 9, 12, 13), (0, 9, 15, 15)]) (by decide) rfl (Nat.le_of_ble_eq_true rfl) ?_
  intro pg en s m args below meth cd A ls hx hb hr hml hown hts hlocks hA hK hP hD hT htab hl
  have hl : lv_has ls 4 [(0, .ref (ad 0)), (1, .int (nI j)), (2, .ref o)] := hl
  have hS : va_S A s.heap s.heap [] := va_S.rf
  refine lv_aload_n hx hb dL_shortfall_0 rfl (lv_at hl 2 rfl) ?_
  refine lv_iconst (v := 0) hx hb dL_shortfall_1 (by decide) ?_
  refine lv_aload_n hx hb dL_shortfall_2 rfl (lv_at hl 0 rfl) ?_
  refine lv_iload_n hx hb dL_shortfall_3 rfl (lv_at hl 1 rfl) ?_
  refine ghV_i (wc := (wG ad cI cL qy lp sp pr ex (nI c) dy tk mk (nI mK) mS su (nI uK) uS sh mu co sr du bi bb)) (wr := [(o, .inl (cL, 1, .inr (.inl g)))]) (w1 := (wG ad cI cL qy lp sp pr ex (nI c) dy tk mk (nI mK) mS su (nI uK) uS sh mu co sr du bi bb)) (W' := ((wG ad cI cL qy lp sp pr ex (nI c) dy tk mk (nI mK) mS su (nI uK) uS sh mu co sr du bi bb) ++ [(o, .inl (cL, 1, .inr (.inl g)))])) (As := [.int (nI j)]) (rest := [.int 0, .ref o]) ⟨hx, hb, hml, hown, hts⟩ (c_X1_shortfall_2 l hst D s.heap.size ad cI cL qy lp sp pr ex c dy tk mk mK mS su uK uS sh mu co sr du bi bb j hj hbad hc) (cwV 1 hts gL_shortfall_X1_shortfall rfl rfl rfl (by decide +kernel) ⟨(Nat.le_of_ble_eq_true rfl), (Nat.le_of_ble_eq_true rfl)⟩) hT hS hA hK hP hD [0, 1] rfl [0, 1, 2, 3, 4, 5, 6, 7, 8, 9, 10, 11, 12, 13, 14] [15] [1, 2, 3, 4, 5, 6, 7, 8, 9, 10, 11, 12, 13, 14, 15, 0] rfl (by decide) rfl (by decide) (by decide) rfl (by decide) 0 1 rfl rfl rfl rfl hl.1 rfl (Nat.le_of_ble_eq_true rfl) dL_shortfall_4 ⟨(Nat.le_of_ble_eq_true rfl), (Nat.le_of_ble_eq_true rfl)⟩ [1, 2, 3, 4, 5, 6, 7, 8, 9, 10, 11, 12, 13, 14, 15, 0] rfl (by decide) (fun E ce q9 H locs hE hP hD hS hce hcv hcl => ?_) (fun _ _ hok _ _ _ => hok.elim)
  have hE : E = ISE := hE
  subst hE
  refine vx_catch (name := ISE) hown [(⟨0, 9, 12, 13⟩ : ExceptionTableEntry)] (⟨0, 9, 15, 15⟩ : ExceptionTableEntry) [] (by rw [htab]; rfl) (fun z hz => by cases hz with | head => exact Or.inr ⟨by decide, IAE, (hts _ hL_shortfall__classLink_RL_13_IAE), hT.2.2.2.2.2.2⟩ | tail _ h => exact absurd h List.not_mem_nil) (by decide) (by decide) (hts _ hL_shortfall__classLink_RL_15_ISE) (va_Nw.use rfl hT.2.2.2.1) hce hcv hcl ?_
  refine lv_astore_n (lv' := [(3, .ref q9), (0, .ref (ad 0)), (1, .int (nI j)), (2, .ref o)]) hx hb dL_shortfall_15 rfl hl (by decide) rfl (fun ls hl => ?_)
  refine lv_iconst (v := 2) hx hb dL_shortfall_16 (by decide) ?_
  exact ge_i hx hb hr hlocks rfl hK hP hD hS trivial (Nat.le_of_ble_eq_true rfl) (Nat.le_of_ble_eq_true rfl) dL_shortfall_17
set_option maxHeartbeats 4000000 in
set_option maxRecDepth 100000 in
theorem c_L_madeUp (l : Launch) (hst : l.stackTraces = false) (D : va_G) (sz : Nat) (ad : Nat → Nat) (cI cL : ClassId) (qy lp sp : Int32) (pr ex : Nat → Int32) (c : Nat) (dy tk mk : Nat → Int32) (mK : Nat) (mS : Int32) (su : Nat → Int32) (uK : Nat) (uS : Int32) (sh mu co sr : Nat → Int32) (du bi : Nat → Int64) (bb : Int64) (o : Nat) (g : Nat → Int64) (j : Nat) (hj : j < c) (hc : c ≤ 20) : gHi l yL_madeUp wsL_madeUp ({ frames := 10, cells := 2, slots := 12, locals := 174 } : Room) D [(cI, .int), (cL, .long)] [.ref (ad 0), .int (nI j), .ref o] ((wG ad cI cL qy lp sp pr ex (nI c) dy tk mk (nI mK) mS su (nI uK) uS sh mu co sr du bi bb) ++ [(o, .inl (cL, 1, .inr (.inl g)))]) ((wG ad cI cL qy lp sp pr ex (nI c) dy tk mk (nI mK) mS su (nI uK) uS sh mu co sr du bi bb) ++ [(o, .inl (cL, 1, .inr (.inl (vp_updL g 0 ((mu j).toInt64)))))]) 0 True 2 12 sz := by
  refine gmh_i (cc := cL_madeUp) (maxL := 4) (hh := [(0, 9, 12, 13), (0, 9, 15, 15)]) (by decide) rfl (Nat.le_of_ble_eq_true rfl) ?_
  intro pg en s m args below meth cd A ls hx hb hr hml hown hts hlocks hA hK hP hD hT htab hl
  have hl : lv_has ls 4 [(0, .ref (ad 0)), (1, .int (nI j)), (2, .ref o)] := hl
  have hS : va_S A s.heap s.heap [] := va_S.rf
  refine lv_aload_n hx hb dL_madeUp_0 rfl (lv_at hl 2 rfl) ?_
  refine lv_iconst (v := 0) hx hb dL_madeUp_1 (by decide) ?_
  refine lv_aload_n hx hb dL_madeUp_2 rfl (lv_at hl 0 rfl) ?_
  refine lv_iload_n hx hb dL_madeUp_3 rfl (lv_at hl 1 rfl) ?_
  refine ghV_i (wc := (wG ad cI cL qy lp sp pr ex (nI c) dy tk mk (nI mK) mS su (nI uK) uS sh mu co sr du bi bb)) (wr := [(o, .inl (cL, 1, .inr (.inl g)))]) (w1 := (wG ad cI cL qy lp sp pr ex (nI c) dy tk mk (nI mK) mS su (nI uK) uS sh mu co sr du bi bb)) (W' := ((wG ad cI cL qy lp sp pr ex (nI c) dy tk mk (nI mK) mS su (nI uK) uS sh mu co sr du bi bb) ++ [(o, .inl (cL, 1, .inr (.inl g)))])) (As := [.int (nI j)]) (rest := [.int 0, .ref o]) ⟨hx, hb, hml, hown, hts⟩ (c_X1_madeUp l hst D s.heap.size ad cI cL qy lp sp pr ex c dy tk mk mK mS su uK uS sh mu co sr du bi bb j hj hc) (cwV 1 hts gL_madeUp_X1_madeUp rfl rfl rfl (by decide +kernel) ⟨(Nat.le_of_ble_eq_true rfl), (Nat.le_of_ble_eq_true rfl)⟩) hT hS hA hK hP hD [0, 1] rfl [0, 1, 2, 3, 4, 5, 6, 7, 8, 9, 10, 11, 12, 13, 14] [15] [1, 2, 3, 4, 5, 6, 7, 8, 9, 10, 11, 12, 13, 14, 15, 0] rfl (by decide) rfl (by decide) (by decide) rfl (by decide) 0 1 rfl rfl rfl rfl hl.1 rfl (Nat.le_of_ble_eq_true rfl) dL_madeUp_4 ⟨(Nat.le_of_ble_eq_true rfl), (Nat.le_of_ble_eq_true rfl)⟩ [1, 2, 3, 4, 5, 6, 7, 8, 9, 10, 11, 12, 13, 14, 15, 0] rfl (by decide) (fun _ _ _ _ _ hE => hE.elim) (fun H locs _ hP hD hS => ?_)
  refine lv_i2l hx hb dL_madeUp_7 rfl ?_
  refine ga_last (j := 0) (ws' := ((wG ad cI cL qy lp sp pr ex (nI c) dy tk mk (nI mK) mS su (nI uK) uS sh mu co sr du bi bb) ++ [(o, .inl (cL, 1, .inr (.inl (vp_updL g 0 ((mu j).toInt64)))))])) hx hb hK hP hD hS 15 1 rfl rfl (by decide) (by decide) dL_madeUp_8 rfl (fun H locs hP hD hS => ?_)
  refine lv_goto (tgt := 18) hx hb dL_madeUp_9 (by decide) ?_
  refine lv_iconst (v := 0) hx hb dL_madeUp_18 (by decide) ?_
  exact ge_i hx hb hr hlocks rfl hK hP hD hS trivial (Nat.le_of_ble_eq_true rfl) (Nat.le_of_ble_eq_true rfl) dL_madeUp_19
theorem hL_madeUp__classLink_RL_13_IAE : Cond.classLink RL 13 IAE ∈ wsL_madeUp := by decide +kernel
set_option maxHeartbeats 4000000 in
set_option maxRecDepth 100000 in
theorem c_L_madeUp_1 (l : Launch) (hst : l.stackTraces = false) (D : va_G) (sz : Nat) (ad : Nat → Nat) (cI cL : ClassId) (qy lp sp : Int32) (pr ex : Nat → Int32) (c : Nat) (dy tk mk : Nat → Int32) (mK : Nat) (mS : Int32) (su : Nat → Int32) (uK : Nat) (uS : Int32) (sh mu co sr : Nat → Int32) (du bi : Nat → Int64) (bb : Int64) (o : Nat) (g : Nat → Int64) (v : Int32) (hbad : ¬ inR v 0 19) : gHi l yL_madeUp wsL_madeUp ({ frames := 10, cells := 2, slots := 12, locals := 174 } : Room) D [(cI, .int), (cL, .long)] [.ref (ad 0), .int v, .ref o] ((wG ad cI cL qy lp sp pr ex (nI c) dy tk mk (nI mK) mS su (nI uK) uS sh mu co sr du bi bb) ++ [(o, .inl (cL, 1, .inr (.inl g)))]) ((wG ad cI cL qy lp sp pr ex (nI c) dy tk mk (nI mK) mS su (nI uK) uS sh mu co sr du bi bb) ++ [(o, .inl (cL, 1, .inr (.inl g)))]) 1 True 2 12 sz := by
  refine gmh_i (cc := cL_madeUp) (maxL := 4) (hh := [(0, 9, 12, 13), (0, 9, 15, 15)]) (by decide) rfl (Nat.le_of_ble_eq_true rfl) ?_
  intro pg en s m args below meth cd A ls hx hb hr hml hown hts hlocks hA hK hP hD hT htab hl
  have hl : lv_has ls 4 [(0, .ref (ad 0)), (1, .int v), (2, .ref o)] := hl
  have hS : va_S A s.heap s.heap [] := va_S.rf
  refine lv_aload_n hx hb dL_madeUp_0 rfl (lv_at hl 2 rfl) ?_
  refine lv_iconst (v := 0) hx hb dL_madeUp_1 (by decide) ?_
  refine lv_aload_n hx hb dL_madeUp_2 rfl (lv_at hl 0 rfl) ?_
  refine lv_iload_n hx hb dL_madeUp_3 rfl (lv_at hl 1 rfl) ?_
  refine ghV_i (wc := (wG ad cI cL qy lp sp pr ex (nI c) dy tk mk (nI mK) mS su (nI uK) uS sh mu co sr du bi bb)) (wr := [(o, .inl (cL, 1, .inr (.inl g)))]) (w1 := (wG ad cI cL qy lp sp pr ex (nI c) dy tk mk (nI mK) mS su (nI uK) uS sh mu co sr du bi bb)) (W' := ((wG ad cI cL qy lp sp pr ex (nI c) dy tk mk (nI mK) mS su (nI uK) uS sh mu co sr du bi bb) ++ [(o, .inl (cL, 1, .inr (.inl g)))])) (As := [.int v]) (rest := [.int 0, .ref o]) ⟨hx, hb, hml, hown, hts⟩ (c_X1_madeUp_1 l hst D s.heap.size ad cI cL qy lp sp pr ex c dy tk mk mK mS su uK uS sh mu co sr du bi bb v hbad) (cwV 1 hts gL_madeUp_X1_madeUp rfl rfl rfl (by decide +kernel) ⟨(Nat.le_of_ble_eq_true rfl), (Nat.le_of_ble_eq_true rfl)⟩) hT hS hA hK hP hD [0, 1] rfl [0, 1, 2, 3, 4, 5, 6, 7, 8, 9, 10, 11, 12, 13, 14] [15] [1, 2, 3, 4, 5, 6, 7, 8, 9, 10, 11, 12, 13, 14, 15, 0] rfl (by decide) rfl (by decide) (by decide) rfl (by decide) 0 1 rfl rfl rfl rfl hl.1 rfl (Nat.le_of_ble_eq_true rfl) dL_madeUp_4 ⟨(Nat.le_of_ble_eq_true rfl), (Nat.le_of_ble_eq_true rfl)⟩ [1, 2, 3, 4, 5, 6, 7, 8, 9, 10, 11, 12, 13, 14, 15, 0] rfl (by decide) (fun E ce q9 H locs hE hP hD hS hce hcv hcl => ?_) (fun _ _ hok _ _ _ => hok.elim)
  have hE : E = IAE := hE
  subst hE
  refine vx_catch (name := IAE) hown [] (⟨0, 9, 12, 13⟩ : ExceptionTableEntry) [(⟨0, 9, 15, 15⟩ : ExceptionTableEntry)] (by rw [htab]; rfl) (fun z hz => absurd hz List.not_mem_nil) (by decide) (by decide) (hts _ hL_madeUp__classLink_RL_13_IAE) (va_Nw.use rfl hT.2.2.1) hce hcv hcl ?_
  refine lv_astore_n (lv' := [(3, .ref q9), (0, .ref (ad 0)), (1, .int v), (2, .ref o)]) hx hb dL_madeUp_12 rfl hl (by decide) rfl (fun ls hl => ?_)
  refine lv_iconst (v := 1) hx hb dL_madeUp_13 (by decide) ?_
  exact ge_i hx hb hr hlocks rfl hK hP hD hS trivial (Nat.le_of_ble_eq_true rfl) (Nat.le_of_ble_eq_true rfl) dL_madeUp_14
theorem hL_madeUp__classLink_RL_15_ISE : Cond.classLink RL 15 ISE ∈ wsL_madeUp := by decide +kernel
set_option maxHeartbeats 4000000 in
set_option maxRecDepth 100000 in
theorem c_L_madeUp_2 (l : Launch) (hst : l.stackTraces = false) (D : va_G) (sz : Nat) (ad : Nat → Nat) (cI cL : ClassId) (qy lp sp : Int32) (pr ex : Nat → Int32) (c : Nat) (dy tk mk : Nat → Int32) (mK : Nat) (mS : Int32) (su : Nat → Int32) (uK : Nat) (uS : Int32) (sh mu co sr : Nat → Int32) (du bi : Nat → Int64) (bb : Int64) (o : Nat) (g : Nat → Int64) (j : Nat) (hj : j < 20) (hbad : ¬ j < c) (hc : c ≤ 20) : gHi l yL_madeUp wsL_madeUp ({ frames := 10, cells := 2, slots := 12, locals := 174 } : Room) D [(cI, .int), (cL, .long)] [.ref (ad 0), .int (nI j), .ref o] ((wG ad cI cL qy lp sp pr ex (nI c) dy tk mk (nI mK) mS su (nI uK) uS sh mu co sr du bi bb) ++ [(o, .inl (cL, 1, .inr (.inl g)))]) ((wG ad cI cL qy lp sp pr ex (nI c) dy tk mk (nI mK) mS su (nI uK) uS sh mu co sr du bi bb) ++ [(o, .inl (cL, 1, .inr (.inl g)))]) 2 True 2 12 sz := by
  refine gmh_i (cc := cL_madeUp) (maxL := 4) (hh := [(0, 9, 12, 13), (0, 9, 15, 15)]) (by decide) rfl (Nat.le_of_ble_eq_true rfl) ?_
  intro pg en s m args below meth cd A ls hx hb hr hml hown hts hlocks hA hK hP hD hT htab hl
  have hl : lv_has ls 4 [(0, .ref (ad 0)), (1, .int (nI j)), (2, .ref o)] := hl
  have hS : va_S A s.heap s.heap [] := va_S.rf
  refine lv_aload_n hx hb dL_madeUp_0 rfl (lv_at hl 2 rfl) ?_
  refine lv_iconst (v := 0) hx hb dL_madeUp_1 (by decide) ?_
  refine lv_aload_n hx hb dL_madeUp_2 rfl (lv_at hl 0 rfl) ?_
  refine lv_iload_n hx hb dL_madeUp_3 rfl (lv_at hl 1 rfl) ?_
  refine ghV_i (wc := (wG ad cI cL qy lp sp pr ex (nI c) dy tk mk (nI mK) mS su (nI uK) uS sh mu co sr du bi bb)) (wr := [(o, .inl (cL, 1, .inr (.inl g)))]) (w1 := (wG ad cI cL qy lp sp pr ex (nI c) dy tk mk (nI mK) mS su (nI uK) uS sh mu co sr du bi bb)) (W' := ((wG ad cI cL qy lp sp pr ex (nI c) dy tk mk (nI mK) mS su (nI uK) uS sh mu co sr du bi bb) ++ [(o, .inl (cL, 1, .inr (.inl g)))])) (As := [.int (nI j)]) (rest := [.int 0, .ref o]) ⟨hx, hb, hml, hown, hts⟩ (c_X1_madeUp_2 l hst D s.heap.size ad cI cL qy lp sp pr ex c dy tk mk mK mS su uK uS sh mu co sr du bi bb j hj hbad hc) (cwV 1 hts gL_madeUp_X1_madeUp rfl rfl rfl (by decide +kernel) ⟨(Nat.le_of_ble_eq_true rfl), (Nat.le_of_ble_eq_true rfl)⟩) hT hS hA hK hP hD [0, 1] rfl [0, 1, 2, 3, 4, 5, 6, 7, 8, 9, 10, 11, 12, 13, 14] [15] [1, 2, 3, 4, 5, 6, 7, 8, 9, 10, 11, 12, 13, 14, 15, 0] rfl (by decide) rfl (by decide) (by decide) rfl (by decide) 0 1 rfl rfl rfl rfl hl.1 rfl (Nat.le_of_ble_eq_true rfl) dL_madeUp_4 ⟨(Nat.le_of_ble_eq_true rfl), (Nat.le_of_ble_eq_true rfl)⟩ [1, 2, 3, 4, 5, 6, 7, 8, 9, 10, 11, 12, 13, 14, 15, 0] rfl (by decide) (fun E ce q9 H locs hE hP hD hS hce hcv hcl => ?_) (fun _ _ hok _ _ _ => hok.elim)
  have hE : E = ISE := hE
  subst hE
  refine vx_catch (name := ISE) hown [(⟨0, 9, 12, 13⟩ : ExceptionTableEntry)] (⟨0, 9, 15, 15⟩ : ExceptionTableEntry) [] (by rw [htab]; rfl) (fun z hz => by cases hz with | head => exact Or.inr ⟨by decide, IAE, (hts _ hL_madeUp__classLink_RL_13_IAE), hT.2.2.2.2.2.2⟩ | tail _ h => exact absurd h List.not_mem_nil) (by decide) (by decide) (hts _ hL_madeUp__classLink_RL_15_ISE) (va_Nw.use rfl hT.2.2.2.1) hce hcv hcl ?_
  refine lv_astore_n (lv' := [(3, .ref q9), (0, .ref (ad 0)), (1, .int (nI j)), (2, .ref o)]) hx hb dL_madeUp_15 rfl hl (by decide) rfl (fun ls hl => ?_)
  refine lv_iconst (v := 2) hx hb dL_madeUp_16 (by decide) ?_
  exact ge_i hx hb hr hlocks rfl hK hP hD hS trivial (Nat.le_of_ble_eq_true rfl) (Nat.le_of_ble_eq_true rfl) dL_madeUp_17
set_option maxHeartbeats 4000000 in
set_option maxRecDepth 100000 in
theorem c_L_covered (l : Launch) (hst : l.stackTraces = false) (D : va_G) (sz : Nat) (ad : Nat → Nat) (cI cL : ClassId) (qy lp sp : Int32) (pr ex : Nat → Int32) (c : Nat) (dy tk mk : Nat → Int32) (mK : Nat) (mS : Int32) (su : Nat → Int32) (uK : Nat) (uS : Int32) (sh mu co sr : Nat → Int32) (du bi : Nat → Int64) (bb : Int64) (o : Nat) (g : Nat → Int64) (j : Nat) (hj : j < c) (hc : c ≤ 20) : gHi l yL_covered wsL_covered ({ frames := 10, cells := 2, slots := 12, locals := 174 } : Room) D [(cI, .int), (cL, .long)] [.ref (ad 0), .int (nI j), .ref o] ((wG ad cI cL qy lp sp pr ex (nI c) dy tk mk (nI mK) mS su (nI uK) uS sh mu co sr du bi bb) ++ [(o, .inl (cL, 1, .inr (.inl g)))]) ((wG ad cI cL qy lp sp pr ex (nI c) dy tk mk (nI mK) mS su (nI uK) uS sh mu co sr du bi bb) ++ [(o, .inl (cL, 1, .inr (.inl (vp_updL g 0 ((co j).toInt64)))))]) 0 True 2 12 sz := by
  refine gmh_i (cc := cL_covered) (maxL := 4) (hh := [(0, 9, 12, 13), (0, 9, 15, 15)]) (by decide) rfl (Nat.le_of_ble_eq_true rfl) ?_
  intro pg en s m args below meth cd A ls hx hb hr hml hown hts hlocks hA hK hP hD hT htab hl
  have hl : lv_has ls 4 [(0, .ref (ad 0)), (1, .int (nI j)), (2, .ref o)] := hl
  have hS : va_S A s.heap s.heap [] := va_S.rf
  refine lv_aload_n hx hb dL_covered_0 rfl (lv_at hl 2 rfl) ?_
  refine lv_iconst (v := 0) hx hb dL_covered_1 (by decide) ?_
  refine lv_aload_n hx hb dL_covered_2 rfl (lv_at hl 0 rfl) ?_
  refine lv_iload_n hx hb dL_covered_3 rfl (lv_at hl 1 rfl) ?_
  refine ghV_i (wc := (wG ad cI cL qy lp sp pr ex (nI c) dy tk mk (nI mK) mS su (nI uK) uS sh mu co sr du bi bb)) (wr := [(o, .inl (cL, 1, .inr (.inl g)))]) (w1 := (wG ad cI cL qy lp sp pr ex (nI c) dy tk mk (nI mK) mS su (nI uK) uS sh mu co sr du bi bb)) (W' := ((wG ad cI cL qy lp sp pr ex (nI c) dy tk mk (nI mK) mS su (nI uK) uS sh mu co sr du bi bb) ++ [(o, .inl (cL, 1, .inr (.inl g)))])) (As := [.int (nI j)]) (rest := [.int 0, .ref o]) ⟨hx, hb, hml, hown, hts⟩ (c_X1_covered l hst D s.heap.size ad cI cL qy lp sp pr ex c dy tk mk mK mS su uK uS sh mu co sr du bi bb j hj hc) (cwV 1 hts gL_covered_X1_covered rfl rfl rfl (by decide +kernel) ⟨(Nat.le_of_ble_eq_true rfl), (Nat.le_of_ble_eq_true rfl)⟩) hT hS hA hK hP hD [0, 1] rfl [0, 1, 2, 3, 4, 5, 6, 7, 8, 9, 10, 11, 12, 13, 14] [15] [1, 2, 3, 4, 5, 6, 7, 8, 9, 10, 11, 12, 13, 14, 15, 0] rfl (by decide) rfl (by decide) (by decide) rfl (by decide) 0 1 rfl rfl rfl rfl hl.1 rfl (Nat.le_of_ble_eq_true rfl) dL_covered_4 ⟨(Nat.le_of_ble_eq_true rfl), (Nat.le_of_ble_eq_true rfl)⟩ [1, 2, 3, 4, 5, 6, 7, 8, 9, 10, 11, 12, 13, 14, 15, 0] rfl (by decide) (fun _ _ _ _ _ hE => hE.elim) (fun H locs _ hP hD hS => ?_)
  refine lv_i2l hx hb dL_covered_7 rfl ?_
  refine ga_last (j := 0) (ws' := ((wG ad cI cL qy lp sp pr ex (nI c) dy tk mk (nI mK) mS su (nI uK) uS sh mu co sr du bi bb) ++ [(o, .inl (cL, 1, .inr (.inl (vp_updL g 0 ((co j).toInt64)))))])) hx hb hK hP hD hS 15 1 rfl rfl (by decide) (by decide) dL_covered_8 rfl (fun H locs hP hD hS => ?_)
  refine lv_goto (tgt := 18) hx hb dL_covered_9 (by decide) ?_
  refine lv_iconst (v := 0) hx hb dL_covered_18 (by decide) ?_
  exact ge_i hx hb hr hlocks rfl hK hP hD hS trivial (Nat.le_of_ble_eq_true rfl) (Nat.le_of_ble_eq_true rfl) dL_covered_19
theorem hL_covered__classLink_RL_13_IAE : Cond.classLink RL 13 IAE ∈ wsL_covered := by decide +kernel
set_option maxHeartbeats 4000000 in
set_option maxRecDepth 100000 in
theorem c_L_covered_1 (l : Launch) (hst : l.stackTraces = false) (D : va_G) (sz : Nat) (ad : Nat → Nat) (cI cL : ClassId) (qy lp sp : Int32) (pr ex : Nat → Int32) (c : Nat) (dy tk mk : Nat → Int32) (mK : Nat) (mS : Int32) (su : Nat → Int32) (uK : Nat) (uS : Int32) (sh mu co sr : Nat → Int32) (du bi : Nat → Int64) (bb : Int64) (o : Nat) (g : Nat → Int64) (v : Int32) (hbad : ¬ inR v 0 19) : gHi l yL_covered wsL_covered ({ frames := 10, cells := 2, slots := 12, locals := 174 } : Room) D [(cI, .int), (cL, .long)] [.ref (ad 0), .int v, .ref o] ((wG ad cI cL qy lp sp pr ex (nI c) dy tk mk (nI mK) mS su (nI uK) uS sh mu co sr du bi bb) ++ [(o, .inl (cL, 1, .inr (.inl g)))]) ((wG ad cI cL qy lp sp pr ex (nI c) dy tk mk (nI mK) mS su (nI uK) uS sh mu co sr du bi bb) ++ [(o, .inl (cL, 1, .inr (.inl g)))]) 1 True 2 12 sz := by
  refine gmh_i (cc := cL_covered) (maxL := 4) (hh := [(0, 9, 12, 13), (0, 9, 15, 15)]) (by decide) rfl (Nat.le_of_ble_eq_true rfl) ?_
  intro pg en s m args below meth cd A ls hx hb hr hml hown hts hlocks hA hK hP hD hT htab hl
  have hl : lv_has ls 4 [(0, .ref (ad 0)), (1, .int v), (2, .ref o)] := hl
  have hS : va_S A s.heap s.heap [] := va_S.rf
  refine lv_aload_n hx hb dL_covered_0 rfl (lv_at hl 2 rfl) ?_
  refine lv_iconst (v := 0) hx hb dL_covered_1 (by decide) ?_
  refine lv_aload_n hx hb dL_covered_2 rfl (lv_at hl 0 rfl) ?_
  refine lv_iload_n hx hb dL_covered_3 rfl (lv_at hl 1 rfl) ?_
  refine ghV_i (wc := (wG ad cI cL qy lp sp pr ex (nI c) dy tk mk (nI mK) mS su (nI uK) uS sh mu co sr du bi bb)) (wr := [(o, .inl (cL, 1, .inr (.inl g)))]) (w1 := (wG ad cI cL qy lp sp pr ex (nI c) dy tk mk (nI mK) mS su (nI uK) uS sh mu co sr du bi bb)) (W' := ((wG ad cI cL qy lp sp pr ex (nI c) dy tk mk (nI mK) mS su (nI uK) uS sh mu co sr du bi bb) ++ [(o, .inl (cL, 1, .inr (.inl g)))])) (As := [.int v]) (rest := [.int 0, .ref o]) ⟨hx, hb, hml, hown, hts⟩ (c_X1_covered_1 l hst D s.heap.size ad cI cL qy lp sp pr ex c dy tk mk mK mS su uK uS sh mu co sr du bi bb v hbad) (cwV 1 hts gL_covered_X1_covered rfl rfl rfl (by decide +kernel) ⟨(Nat.le_of_ble_eq_true rfl), (Nat.le_of_ble_eq_true rfl)⟩) hT hS hA hK hP hD [0, 1] rfl [0, 1, 2, 3, 4, 5, 6, 7, 8, 9, 10, 11, 12, 13, 14] [15] [1, 2, 3, 4, 5, 6, 7, 8, 9, 10, 11, 12, 13, 14, 15, 0] rfl (by decide) rfl (by decide) (by decide) rfl (by decide) 0 1 rfl rfl rfl rfl hl.1 rfl (Nat.le_of_ble_eq_true rfl) dL_covered_4 ⟨(Nat.le_of_ble_eq_true rfl), (Nat.le_of_ble_eq_true rfl)⟩ [1, 2, 3, 4, 5, 6, 7, 8, 9, 10, 11, 12, 13, 14, 15, 0] rfl (by decide) (fun E ce q9 H locs hE hP hD hS hce hcv hcl => ?_) (fun _ _ hok _ _ _ => hok.elim)
  have hE : E = IAE := hE
  subst hE
  refine vx_catch (name := IAE) hown [] (⟨0, 9, 12, 13⟩ : ExceptionTableEntry) [(⟨0, 9, 15, 15⟩ : ExceptionTableEntry)] (by rw [htab]; rfl) (fun z hz => absurd hz List.not_mem_nil) (by decide) (by decide) (hts _ hL_covered__classLink_RL_13_IAE) (va_Nw.use rfl hT.2.2.1) hce hcv hcl ?_
  refine lv_astore_n (lv' := [(3, .ref q9), (0, .ref (ad 0)), (1, .int v), (2, .ref o)]) hx hb dL_covered_12 rfl hl (by decide) rfl (fun ls hl => ?_)
  refine lv_iconst (v := 1) hx hb dL_covered_13 (by decide) ?_
  exact ge_i hx hb hr hlocks rfl hK hP hD hS trivial (Nat.le_of_ble_eq_true rfl) (Nat.le_of_ble_eq_true rfl) dL_covered_14
theorem hL_covered__classLink_RL_15_ISE : Cond.classLink RL 15 ISE ∈ wsL_covered := by decide +kernel
set_option maxHeartbeats 4000000 in
set_option maxRecDepth 100000 in
theorem c_L_covered_2 (l : Launch) (hst : l.stackTraces = false) (D : va_G) (sz : Nat) (ad : Nat → Nat) (cI cL : ClassId) (qy lp sp : Int32) (pr ex : Nat → Int32) (c : Nat) (dy tk mk : Nat → Int32) (mK : Nat) (mS : Int32) (su : Nat → Int32) (uK : Nat) (uS : Int32) (sh mu co sr : Nat → Int32) (du bi : Nat → Int64) (bb : Int64) (o : Nat) (g : Nat → Int64) (j : Nat) (hj : j < 20) (hbad : ¬ j < c) (hc : c ≤ 20) : gHi l yL_covered wsL_covered ({ frames := 10, cells := 2, slots := 12, locals := 174 } : Room) D [(cI, .int), (cL, .long)] [.ref (ad 0), .int (nI j), .ref o] ((wG ad cI cL qy lp sp pr ex (nI c) dy tk mk (nI mK) mS su (nI uK) uS sh mu co sr du bi bb) ++ [(o, .inl (cL, 1, .inr (.inl g)))]) ((wG ad cI cL qy lp sp pr ex (nI c) dy tk mk (nI mK) mS su (nI uK) uS sh mu co sr du bi bb) ++ [(o, .inl (cL, 1, .inr (.inl g)))]) 2 True 2 12 sz := by
  refine gmh_i (cc := cL_covered) (maxL := 4) (hh := [(0, 9, 12, 13), (0, 9, 15, 15)]) (by decide) rfl (Nat.le_of_ble_eq_true rfl) ?_
  intro pg en s m args below meth cd A ls hx hb hr hml hown hts hlocks hA hK hP hD hT htab hl
  have hl : lv_has ls 4 [(0, .ref (ad 0)), (1, .int (nI j)), (2, .ref o)] := hl
  have hS : va_S A s.heap s.heap [] := va_S.rf
  refine lv_aload_n hx hb dL_covered_0 rfl (lv_at hl 2 rfl) ?_
  refine lv_iconst (v := 0) hx hb dL_covered_1 (by decide) ?_
  refine lv_aload_n hx hb dL_covered_2 rfl (lv_at hl 0 rfl) ?_
  refine lv_iload_n hx hb dL_covered_3 rfl (lv_at hl 1 rfl) ?_
  refine ghV_i (wc := (wG ad cI cL qy lp sp pr ex (nI c) dy tk mk (nI mK) mS su (nI uK) uS sh mu co sr du bi bb)) (wr := [(o, .inl (cL, 1, .inr (.inl g)))]) (w1 := (wG ad cI cL qy lp sp pr ex (nI c) dy tk mk (nI mK) mS su (nI uK) uS sh mu co sr du bi bb)) (W' := ((wG ad cI cL qy lp sp pr ex (nI c) dy tk mk (nI mK) mS su (nI uK) uS sh mu co sr du bi bb) ++ [(o, .inl (cL, 1, .inr (.inl g)))])) (As := [.int (nI j)]) (rest := [.int 0, .ref o]) ⟨hx, hb, hml, hown, hts⟩ (c_X1_covered_2 l hst D s.heap.size ad cI cL qy lp sp pr ex c dy tk mk mK mS su uK uS sh mu co sr du bi bb j hj hbad hc) (cwV 1 hts gL_covered_X1_covered rfl rfl rfl (by decide +kernel) ⟨(Nat.le_of_ble_eq_true rfl), (Nat.le_of_ble_eq_true rfl)⟩) hT hS hA hK hP hD [0, 1] rfl [0, 1, 2, 3, 4, 5, 6, 7, 8, 9, 10, 11, 12, 13, 14] [15] [1, 2, 3, 4, 5, 6, 7, 8, 9, 10, 11, 12, 13, 14, 15, 0] rfl (by decide) rfl (by decide) (by decide) rfl (by decide) 0 1 rfl rfl rfl rfl hl.1 rfl (Nat.le_of_ble_eq_true rfl) dL_covered_4 ⟨(Nat.le_of_ble_eq_true rfl), (Nat.le_of_ble_eq_true rfl)⟩ [1, 2, 3, 4, 5, 6, 7, 8, 9, 10, 11, 12, 13, 14, 15, 0] rfl (by decide) (fun E ce q9 H locs hE hP hD hS hce hcv hcl => ?_) (fun _ _ hok _ _ _ => hok.elim)
  have hE : E = ISE := hE
  subst hE
  refine vx_catch (name := ISE) hown [(⟨0, 9, 12, 13⟩ : ExceptionTableEntry)] (⟨0, 9, 15, 15⟩ : ExceptionTableEntry) [] (by rw [htab]; rfl) (fun z hz => by cases hz with | head => exact Or.inr ⟨by decide, IAE, (hts _ hL_covered__classLink_RL_13_IAE), hT.2.2.2.2.2.2⟩ | tail _ h => exact absurd h List.not_mem_nil) (by decide) (by decide) (hts _ hL_covered__classLink_RL_15_ISE) (va_Nw.use rfl hT.2.2.2.1) hce hcv hcl ?_
  refine lv_astore_n (lv' := [(3, .ref q9), (0, .ref (ad 0)), (1, .int (nI j)), (2, .ref o)]) hx hb dL_covered_15 rfl hl (by decide) rfl (fun ls hl => ?_)
  refine lv_iconst (v := 2) hx hb dL_covered_16 (by decide) ?_
  exact ge_i hx hb hr hlocks rfl hK hP hD hS trivial (Nat.le_of_ble_eq_true rfl) (Nat.le_of_ble_eq_true rfl) dL_covered_17
set_option maxHeartbeats 4000000 in
set_option maxRecDepth 100000 in
theorem c_L_surplus (l : Launch) (hst : l.stackTraces = false) (D : va_G) (sz : Nat) (ad : Nat → Nat) (cI cL : ClassId) (qy lp sp : Int32) (pr ex : Nat → Int32) (c : Nat) (dy tk mk : Nat → Int32) (mK : Nat) (mS : Int32) (su : Nat → Int32) (uK : Nat) (uS : Int32) (sh mu co sr : Nat → Int32) (du bi : Nat → Int64) (bb : Int64) (o : Nat) (g : Nat → Int64) (j : Nat) (hj : j < c) (hc : c ≤ 20) : gHi l yL_surplus wsL_surplus ({ frames := 10, cells := 2, slots := 12, locals := 174 } : Room) D [(cI, .int), (cL, .long)] [.ref (ad 0), .int (nI j), .ref o] ((wG ad cI cL qy lp sp pr ex (nI c) dy tk mk (nI mK) mS su (nI uK) uS sh mu co sr du bi bb) ++ [(o, .inl (cL, 1, .inr (.inl g)))]) ((wG ad cI cL qy lp sp pr ex (nI c) dy tk mk (nI mK) mS su (nI uK) uS sh mu co sr du bi bb) ++ [(o, .inl (cL, 1, .inr (.inl (vp_updL g 0 ((sr j).toInt64)))))]) 0 True 2 12 sz := by
  refine gmh_i (cc := cL_surplus) (maxL := 4) (hh := [(0, 9, 12, 13), (0, 9, 15, 15)]) (by decide) rfl (Nat.le_of_ble_eq_true rfl) ?_
  intro pg en s m args below meth cd A ls hx hb hr hml hown hts hlocks hA hK hP hD hT htab hl
  have hl : lv_has ls 4 [(0, .ref (ad 0)), (1, .int (nI j)), (2, .ref o)] := hl
  have hS : va_S A s.heap s.heap [] := va_S.rf
  refine lv_aload_n hx hb dL_surplus_0 rfl (lv_at hl 2 rfl) ?_
  refine lv_iconst (v := 0) hx hb dL_surplus_1 (by decide) ?_
  refine lv_aload_n hx hb dL_surplus_2 rfl (lv_at hl 0 rfl) ?_
  refine lv_iload_n hx hb dL_surplus_3 rfl (lv_at hl 1 rfl) ?_
  refine ghV_i (wc := (wG ad cI cL qy lp sp pr ex (nI c) dy tk mk (nI mK) mS su (nI uK) uS sh mu co sr du bi bb)) (wr := [(o, .inl (cL, 1, .inr (.inl g)))]) (w1 := (wG ad cI cL qy lp sp pr ex (nI c) dy tk mk (nI mK) mS su (nI uK) uS sh mu co sr du bi bb)) (W' := ((wG ad cI cL qy lp sp pr ex (nI c) dy tk mk (nI mK) mS su (nI uK) uS sh mu co sr du bi bb) ++ [(o, .inl (cL, 1, .inr (.inl g)))])) (As := [.int (nI j)]) (rest := [.int 0, .ref o]) ⟨hx, hb, hml, hown, hts⟩ (c_X1_surplus l hst D s.heap.size ad cI cL qy lp sp pr ex c dy tk mk mK mS su uK uS sh mu co sr du bi bb j hj hc) (cwV 1 hts gL_surplus_X1_surplus rfl rfl rfl (by decide +kernel) ⟨(Nat.le_of_ble_eq_true rfl), (Nat.le_of_ble_eq_true rfl)⟩) hT hS hA hK hP hD [0, 1] rfl [0, 1, 2, 3, 4, 5, 6, 7, 8, 9, 10, 11, 12, 13, 14] [15] [1, 2, 3, 4, 5, 6, 7, 8, 9, 10, 11, 12, 13, 14, 15, 0] rfl (by decide) rfl (by decide) (by decide) rfl (by decide) 0 1 rfl rfl rfl rfl hl.1 rfl (Nat.le_of_ble_eq_true rfl) dL_surplus_4 ⟨(Nat.le_of_ble_eq_true rfl), (Nat.le_of_ble_eq_true rfl)⟩ [1, 2, 3, 4, 5, 6, 7, 8, 9, 10, 11, 12, 13, 14, 15, 0] rfl (by decide) (fun _ _ _ _ _ hE => hE.elim) (fun H locs _ hP hD hS => ?_)
  refine lv_i2l hx hb dL_surplus_7 rfl ?_
  refine ga_last (j := 0) (ws' := ((wG ad cI cL qy lp sp pr ex (nI c) dy tk mk (nI mK) mS su (nI uK) uS sh mu co sr du bi bb) ++ [(o, .inl (cL, 1, .inr (.inl (vp_updL g 0 ((sr j).toInt64)))))])) hx hb hK hP hD hS 15 1 rfl rfl (by decide) (by decide) dL_surplus_8 rfl (fun H locs hP hD hS => ?_)
  refine lv_goto (tgt := 18) hx hb dL_surplus_9 (by decide) ?_
  refine lv_iconst (v := 0) hx hb dL_surplus_18 (by decide) ?_
  exact ge_i hx hb hr hlocks rfl hK hP hD hS trivial (Nat.le_of_ble_eq_true rfl) (Nat.le_of_ble_eq_true rfl) dL_surplus_19
theorem hL_surplus__classLink_RL_13_IAE : Cond.classLink RL 13 IAE ∈ wsL_surplus := by decide +kernel
set_option maxHeartbeats 4000000 in
set_option maxRecDepth 100000 in
theorem c_L_surplus_1 (l : Launch) (hst : l.stackTraces = false) (D : va_G) (sz : Nat) (ad : Nat → Nat) (cI cL : ClassId) (qy lp sp : Int32) (pr ex : Nat → Int32) (c : Nat) (dy tk mk : Nat → Int32) (mK : Nat) (mS : Int32) (su : Nat → Int32) (uK : Nat) (uS : Int32) (sh mu co sr : Nat → Int32) (du bi : Nat → Int64) (bb : Int64) (o : Nat) (g : Nat → Int64) (v : Int32) (hbad : ¬ inR v 0 19) : gHi l yL_surplus wsL_surplus ({ frames := 10, cells := 2, slots := 12, locals := 174 } : Room) D [(cI, .int), (cL, .long)] [.ref (ad 0), .int v, .ref o] ((wG ad cI cL qy lp sp pr ex (nI c) dy tk mk (nI mK) mS su (nI uK) uS sh mu co sr du bi bb) ++ [(o, .inl (cL, 1, .inr (.inl g)))]) ((wG ad cI cL qy lp sp pr ex (nI c) dy tk mk (nI mK) mS su (nI uK) uS sh mu co sr du bi bb) ++ [(o, .inl (cL, 1, .inr (.inl g)))]) 1 True 2 12 sz := by
  refine gmh_i (cc := cL_surplus) (maxL := 4) (hh := [(0, 9, 12, 13), (0, 9, 15, 15)]) (by decide) rfl (Nat.le_of_ble_eq_true rfl) ?_
  intro pg en s m args below meth cd A ls hx hb hr hml hown hts hlocks hA hK hP hD hT htab hl
  have hl : lv_has ls 4 [(0, .ref (ad 0)), (1, .int v), (2, .ref o)] := hl
  have hS : va_S A s.heap s.heap [] := va_S.rf
  refine lv_aload_n hx hb dL_surplus_0 rfl (lv_at hl 2 rfl) ?_
  refine lv_iconst (v := 0) hx hb dL_surplus_1 (by decide) ?_
  refine lv_aload_n hx hb dL_surplus_2 rfl (lv_at hl 0 rfl) ?_
  refine lv_iload_n hx hb dL_surplus_3 rfl (lv_at hl 1 rfl) ?_
  refine ghV_i (wc := (wG ad cI cL qy lp sp pr ex (nI c) dy tk mk (nI mK) mS su (nI uK) uS sh mu co sr du bi bb)) (wr := [(o, .inl (cL, 1, .inr (.inl g)))]) (w1 := (wG ad cI cL qy lp sp pr ex (nI c) dy tk mk (nI mK) mS su (nI uK) uS sh mu co sr du bi bb)) (W' := ((wG ad cI cL qy lp sp pr ex (nI c) dy tk mk (nI mK) mS su (nI uK) uS sh mu co sr du bi bb) ++ [(o, .inl (cL, 1, .inr (.inl g)))])) (As := [.int v]) (rest := [.int 0, .ref o]) ⟨hx, hb, hml, hown, hts⟩ (c_X1_surplus_1 l hst D s.heap.size ad cI cL qy lp sp pr ex c dy tk mk mK mS su uK uS sh mu co sr du bi bb v hbad) (cwV 1 hts gL_surplus_X1_surplus rfl rfl rfl (by decide +kernel) ⟨(Nat.le_of_ble_eq_true rfl), (Nat.le_of_ble_eq_true rfl)⟩) hT hS hA hK hP hD [0, 1] rfl [0, 1, 2, 3, 4, 5, 6, 7, 8, 9, 10, 11, 12, 13, 14] [15] [1, 2, 3, 4, 5, 6, 7, 8, 9, 10, 11, 12, 13, 14, 15, 0] rfl (by decide) rfl (by decide) (by decide) rfl (by decide) 0 1 rfl rfl rfl rfl hl.1 rfl (Nat.le_of_ble_eq_true rfl) dL_surplus_4 ⟨(Nat.le_of_ble_eq_true rfl), (Nat.le_of_ble_eq_true rfl)⟩ [1, 2, 3, 4, 5, 6, 7, 8, 9, 10, 11, 12, 13, 14, 15, 0] rfl (by decide) (fun E ce q9 H locs hE hP hD hS hce hcv hcl => ?_) (fun _ _ hok _ _ _ => hok.elim)
  have hE : E = IAE := hE
  subst hE
  refine vx_catch (name := IAE) hown [] (⟨0, 9, 12, 13⟩ : ExceptionTableEntry) [(⟨0, 9, 15, 15⟩ : ExceptionTableEntry)] (by rw [htab]; rfl) (fun z hz => absurd hz List.not_mem_nil) (by decide) (by decide) (hts _ hL_surplus__classLink_RL_13_IAE) (va_Nw.use rfl hT.2.2.1) hce hcv hcl ?_
  refine lv_astore_n (lv' := [(3, .ref q9), (0, .ref (ad 0)), (1, .int v), (2, .ref o)]) hx hb dL_surplus_12 rfl hl (by decide) rfl (fun ls hl => ?_)
  refine lv_iconst (v := 1) hx hb dL_surplus_13 (by decide) ?_
  exact ge_i hx hb hr hlocks rfl hK hP hD hS trivial (Nat.le_of_ble_eq_true rfl) (Nat.le_of_ble_eq_true rfl) dL_surplus_14
theorem hL_surplus__classLink_RL_15_ISE : Cond.classLink RL 15 ISE ∈ wsL_surplus := by decide +kernel
set_option maxHeartbeats 4000000 in
set_option maxRecDepth 100000 in
theorem c_L_surplus_2 (l : Launch) (hst : l.stackTraces = false) (D : va_G) (sz : Nat) (ad : Nat → Nat) (cI cL : ClassId) (qy lp sp : Int32) (pr ex : Nat → Int32) (c : Nat) (dy tk mk : Nat → Int32) (mK : Nat) (mS : Int32) (su : Nat → Int32) (uK : Nat) (uS : Int32) (sh mu co sr : Nat → Int32) (du bi : Nat → Int64) (bb : Int64) (o : Nat) (g : Nat → Int64) (j : Nat) (hj : j < 20) (hbad : ¬ j < c) (hc : c ≤ 20) : gHi l yL_surplus wsL_surplus ({ frames := 10, cells := 2, slots := 12, locals := 174 } : Room) D [(cI, .int), (cL, .long)] [.ref (ad 0), .int (nI j), .ref o] ((wG ad cI cL qy lp sp pr ex (nI c) dy tk mk (nI mK) mS su (nI uK) uS sh mu co sr du bi bb) ++ [(o, .inl (cL, 1, .inr (.inl g)))]) ((wG ad cI cL qy lp sp pr ex (nI c) dy tk mk (nI mK) mS su (nI uK) uS sh mu co sr du bi bb) ++ [(o, .inl (cL, 1, .inr (.inl g)))]) 2 True 2 12 sz := by
  refine gmh_i (cc := cL_surplus) (maxL := 4) (hh := [(0, 9, 12, 13), (0, 9, 15, 15)]) (by decide) rfl (Nat.le_of_ble_eq_true rfl) ?_
  intro pg en s m args below meth cd A ls hx hb hr hml hown hts hlocks hA hK hP hD hT htab hl
  have hl : lv_has ls 4 [(0, .ref (ad 0)), (1, .int (nI j)), (2, .ref o)] := hl
  have hS : va_S A s.heap s.heap [] := va_S.rf
  refine lv_aload_n hx hb dL_surplus_0 rfl (lv_at hl 2 rfl) ?_
  refine lv_iconst (v := 0) hx hb dL_surplus_1 (by decide) ?_
  refine lv_aload_n hx hb dL_surplus_2 rfl (lv_at hl 0 rfl) ?_
  refine lv_iload_n hx hb dL_surplus_3 rfl (lv_at hl 1 rfl) ?_
  refine ghV_i (wc := (wG ad cI cL qy lp sp pr ex (nI c) dy tk mk (nI mK) mS su (nI uK) uS sh mu co sr du bi bb)) (wr := [(o, .inl (cL, 1, .inr (.inl g)))]) (w1 := (wG ad cI cL qy lp sp pr ex (nI c) dy tk mk (nI mK) mS su (nI uK) uS sh mu co sr du bi bb)) (W' := ((wG ad cI cL qy lp sp pr ex (nI c) dy tk mk (nI mK) mS su (nI uK) uS sh mu co sr du bi bb) ++ [(o, .inl (cL, 1, .inr (.inl g)))])) (As := [.int (nI j)]) (rest := [.int 0, .ref o]) ⟨hx, hb, hml, hown, hts⟩ (c_X1_surplus_2 l hst D s.heap.size ad cI cL qy lp sp pr ex c dy tk mk mK mS su uK uS sh mu co sr du bi bb j hj hbad hc) (cwV 1 hts gL_surplus_X1_surplus rfl rfl rfl (by decide +kernel) ⟨(Nat.le_of_ble_eq_true rfl), (Nat.le_of_ble_eq_true rfl)⟩) hT hS hA hK hP hD [0, 1] rfl [0, 1, 2, 3, 4, 5, 6, 7, 8, 9, 10, 11, 12, 13, 14] [15] [1, 2, 3, 4, 5, 6, 7, 8, 9, 10, 11, 12, 13, 14, 15, 0] rfl (by decide) rfl (by decide) (by decide) rfl (by decide) 0 1 rfl rfl rfl rfl hl.1 rfl (Nat.le_of_ble_eq_true rfl) dL_surplus_4 ⟨(Nat.le_of_ble_eq_true rfl), (Nat.le_of_ble_eq_true rfl)⟩ [1, 2, 3, 4, 5, 6, 7, 8, 9, 10, 11, 12, 13, 14, 15, 0] rfl (by decide) (fun E ce q9 H locs hE hP hD hS hce hcv hcl => ?_) (fun _ _ hok _ _ _ => hok.elim)
  have hE : E = ISE := hE
  subst hE
  refine vx_catch (name := ISE) hown [(⟨0, 9, 12, 13⟩ : ExceptionTableEntry)] (⟨0, 9, 15, 15⟩ : ExceptionTableEntry) [] (by rw [htab]; rfl) (fun z hz => by cases hz with | head => exact Or.inr ⟨by decide, IAE, (hts _ hL_surplus__classLink_RL_13_IAE), hT.2.2.2.2.2.2⟩ | tail _ h => exact absurd h List.not_mem_nil) (by decide) (by decide) (hts _ hL_surplus__classLink_RL_15_ISE) (va_Nw.use rfl hT.2.2.2.1) hce hcv hcl ?_
  refine lv_astore_n (lv' := [(3, .ref q9), (0, .ref (ad 0)), (1, .int (nI j)), (2, .ref o)]) hx hb dL_surplus_15 rfl hl (by decide) rfl (fun ls hl => ?_)
  refine lv_iconst (v := 2) hx hb dL_surplus_16 (by decide) ?_
  exact ge_i hx hb hr hlocks rfl hK hP hD hS trivial (Nat.le_of_ble_eq_true rfl) (Nat.le_of_ble_eq_true rfl) dL_surplus_17
set_option maxHeartbeats 4000000 in
set_option maxRecDepth 100000 in
theorem c_L_due (l : Launch) (hst : l.stackTraces = false) (D : va_G) (sz : Nat) (ad : Nat → Nat) (cI cL : ClassId) (qy lp sp : Int32) (pr ex : Nat → Int32) (c : Nat) (dy tk mk : Nat → Int32) (mK : Nat) (mS : Int32) (su : Nat → Int32) (uK : Nat) (uS : Int32) (sh mu co sr : Nat → Int32) (du bi : Nat → Int64) (bb : Int64) (o : Nat) (g : Nat → Int64) (j : Nat) (hj : j < c) (hc : c ≤ 20) : gHi l yL_due wsL_due ({ frames := 10, cells := 2, slots := 12, locals := 174 } : Room) D [(cI, .int), (cL, .long)] [.ref (ad 0), .int (nI j), .ref o] ((wG ad cI cL qy lp sp pr ex (nI c) dy tk mk (nI mK) mS su (nI uK) uS sh mu co sr du bi bb) ++ [(o, .inl (cL, 1, .inr (.inl g)))]) ((wG ad cI cL qy lp sp pr ex (nI c) dy tk mk (nI mK) mS su (nI uK) uS sh mu co sr du bi bb) ++ [(o, .inl (cL, 1, .inr (.inl (vp_updL g 0 (du j)))))]) 0 True 2 12 sz := by
  refine gmh_i (cc := cL_due) (maxL := 4) (hh := [(0, 8, 11, 13), (0, 8, 14, 15)]) (by decide) rfl (Nat.le_of_ble_eq_true rfl) ?_
  intro pg en s m args below meth cd A ls hx hb hr hml hown hts hlocks hA hK hP hD hT htab hl
  have hl : lv_has ls 4 [(0, .ref (ad 0)), (1, .int (nI j)), (2, .ref o)] := hl
  have hS : va_S A s.heap s.heap [] := va_S.rf
  refine lv_aload_n hx hb dL_due_0 rfl (lv_at hl 2 rfl) ?_
  refine lv_iconst (v := 0) hx hb dL_due_1 (by decide) ?_
  refine lv_aload_n hx hb dL_due_2 rfl (lv_at hl 0 rfl) ?_
  refine lv_iload_n hx hb dL_due_3 rfl (lv_at hl 1 rfl) ?_
  refine ghV_l (wc := (wG ad cI cL qy lp sp pr ex (nI c) dy tk mk (nI mK) mS su (nI uK) uS sh mu co sr du bi bb)) (wr := [(o, .inl (cL, 1, .inr (.inl g)))]) (w1 := (wG ad cI cL qy lp sp pr ex (nI c) dy tk mk (nI mK) mS su (nI uK) uS sh mu co sr du bi bb)) (W' := ((wG ad cI cL qy lp sp pr ex (nI c) dy tk mk (nI mK) mS su (nI uK) uS sh mu co sr du bi bb) ++ [(o, .inl (cL, 1, .inr (.inl g)))])) (As := [.int (nI j)]) (rest := [.int 0, .ref o]) ⟨hx, hb, hml, hown, hts⟩ (c_X1_due l hst D s.heap.size ad cI cL qy lp sp pr ex c dy tk mk mK mS su uK uS sh mu co sr du bi bb j hj hc) (cwV 1 hts gL_due_X1_due rfl rfl rfl (by decide +kernel) ⟨(Nat.le_of_ble_eq_true rfl), (Nat.le_of_ble_eq_true rfl)⟩) hT hS hA hK hP hD [0, 1] rfl [0, 1, 2, 3, 4, 5, 6, 7, 8, 9, 10, 11, 12, 13, 14] [15] [1, 2, 3, 4, 5, 6, 7, 8, 9, 10, 11, 12, 13, 14, 15, 0] rfl (by decide) rfl (by decide) (by decide) rfl (by decide) 0 1 rfl rfl rfl rfl hl.1 rfl (Nat.le_of_ble_eq_true rfl) dL_due_4 ⟨(Nat.le_of_ble_eq_true rfl), (Nat.le_of_ble_eq_true rfl)⟩ [1, 2, 3, 4, 5, 6, 7, 8, 9, 10, 11, 12, 13, 14, 15, 0] rfl (by decide) (fun _ _ _ _ _ hE => hE.elim) (fun H locs _ hP hD hS => ?_)
  refine ga_last (j := 0) (ws' := ((wG ad cI cL qy lp sp pr ex (nI c) dy tk mk (nI mK) mS su (nI uK) uS sh mu co sr du bi bb) ++ [(o, .inl (cL, 1, .inr (.inl (vp_updL g 0 (du j)))))])) hx hb hK hP hD hS 15 1 rfl rfl (by decide) (by decide) dL_due_7 rfl (fun H locs hP hD hS => ?_)
  refine lv_goto (tgt := 17) hx hb dL_due_8 (by decide) ?_
  refine lv_iconst (v := 0) hx hb dL_due_17 (by decide) ?_
  exact ge_i hx hb hr hlocks rfl hK hP hD hS trivial (Nat.le_of_ble_eq_true rfl) (Nat.le_of_ble_eq_true rfl) dL_due_18
theorem hL_due__classLink_RL_13_IAE : Cond.classLink RL 13 IAE ∈ wsL_due := by decide +kernel
set_option maxHeartbeats 4000000 in
set_option maxRecDepth 100000 in
theorem c_L_due_1 (l : Launch) (hst : l.stackTraces = false) (D : va_G) (sz : Nat) (ad : Nat → Nat) (cI cL : ClassId) (qy lp sp : Int32) (pr ex : Nat → Int32) (c : Nat) (dy tk mk : Nat → Int32) (mK : Nat) (mS : Int32) (su : Nat → Int32) (uK : Nat) (uS : Int32) (sh mu co sr : Nat → Int32) (du bi : Nat → Int64) (bb : Int64) (o : Nat) (g : Nat → Int64) (v : Int32) (hbad : ¬ inR v 0 19) : gHi l yL_due wsL_due ({ frames := 10, cells := 2, slots := 12, locals := 174 } : Room) D [(cI, .int), (cL, .long)] [.ref (ad 0), .int v, .ref o] ((wG ad cI cL qy lp sp pr ex (nI c) dy tk mk (nI mK) mS su (nI uK) uS sh mu co sr du bi bb) ++ [(o, .inl (cL, 1, .inr (.inl g)))]) ((wG ad cI cL qy lp sp pr ex (nI c) dy tk mk (nI mK) mS su (nI uK) uS sh mu co sr du bi bb) ++ [(o, .inl (cL, 1, .inr (.inl g)))]) 1 True 2 12 sz := by
  refine gmh_i (cc := cL_due) (maxL := 4) (hh := [(0, 8, 11, 13), (0, 8, 14, 15)]) (by decide) rfl (Nat.le_of_ble_eq_true rfl) ?_
  intro pg en s m args below meth cd A ls hx hb hr hml hown hts hlocks hA hK hP hD hT htab hl
  have hl : lv_has ls 4 [(0, .ref (ad 0)), (1, .int v), (2, .ref o)] := hl
  have hS : va_S A s.heap s.heap [] := va_S.rf
  refine lv_aload_n hx hb dL_due_0 rfl (lv_at hl 2 rfl) ?_
  refine lv_iconst (v := 0) hx hb dL_due_1 (by decide) ?_
  refine lv_aload_n hx hb dL_due_2 rfl (lv_at hl 0 rfl) ?_
  refine lv_iload_n hx hb dL_due_3 rfl (lv_at hl 1 rfl) ?_
  refine ghV_l (wc := (wG ad cI cL qy lp sp pr ex (nI c) dy tk mk (nI mK) mS su (nI uK) uS sh mu co sr du bi bb)) (wr := [(o, .inl (cL, 1, .inr (.inl g)))]) (w1 := (wG ad cI cL qy lp sp pr ex (nI c) dy tk mk (nI mK) mS su (nI uK) uS sh mu co sr du bi bb)) (W' := ((wG ad cI cL qy lp sp pr ex (nI c) dy tk mk (nI mK) mS su (nI uK) uS sh mu co sr du bi bb) ++ [(o, .inl (cL, 1, .inr (.inl g)))])) (As := [.int v]) (rest := [.int 0, .ref o]) ⟨hx, hb, hml, hown, hts⟩ (c_X1_due_1 l hst D s.heap.size ad cI cL qy lp sp pr ex c dy tk mk mK mS su uK uS sh mu co sr du bi bb v hbad) (cwV 1 hts gL_due_X1_due rfl rfl rfl (by decide +kernel) ⟨(Nat.le_of_ble_eq_true rfl), (Nat.le_of_ble_eq_true rfl)⟩) hT hS hA hK hP hD [0, 1] rfl [0, 1, 2, 3, 4, 5, 6, 7, 8, 9, 10, 11, 12, 13, 14] [15] [1, 2, 3, 4, 5, 6, 7, 8, 9, 10, 11, 12, 13, 14, 15, 0] rfl (by decide) rfl (by decide) (by decide) rfl (by decide) 0 1 rfl rfl rfl rfl hl.1 rfl (Nat.le_of_ble_eq_true rfl) dL_due_4 ⟨(Nat.le_of_ble_eq_true rfl), (Nat.le_of_ble_eq_true rfl)⟩ [1, 2, 3, 4, 5, 6, 7, 8, 9, 10, 11, 12, 13, 14, 15, 0] rfl (by decide) (fun E ce q9 H locs hE hP hD hS hce hcv hcl => ?_) (fun _ _ hok _ _ _ => hok.elim)
  have hE : E = IAE := hE
  subst hE
  refine vx_catch (name := IAE) hown [] (⟨0, 8, 11, 13⟩ : ExceptionTableEntry) [(⟨0, 8, 14, 15⟩ : ExceptionTableEntry)] (by rw [htab]; rfl) (fun z hz => absurd hz List.not_mem_nil) (by decide) (by decide) (hts _ hL_due__classLink_RL_13_IAE) (va_Nw.use rfl hT.2.2.1) hce hcv hcl ?_
  refine lv_astore_n (lv' := [(3, .ref q9), (0, .ref (ad 0)), (1, .int v), (2, .ref o)]) hx hb dL_due_11 rfl hl (by decide) rfl (fun ls hl => ?_)
  refine lv_iconst (v := 1) hx hb dL_due_12 (by decide) ?_
  exact ge_i hx hb hr hlocks rfl hK hP hD hS trivial (Nat.le_of_ble_eq_true rfl) (Nat.le_of_ble_eq_true rfl) dL_due_13
theorem hL_due__classLink_RL_15_ISE : Cond.classLink RL 15 ISE ∈ wsL_due := by decide +kernel
set_option maxHeartbeats 4000000 in
set_option maxRecDepth 100000 in
theorem c_L_due_2 (l : Launch) (hst : l.stackTraces = false) (D : va_G) (sz : Nat) (ad : Nat → Nat) (cI cL : ClassId) (qy lp sp : Int32) (pr ex : Nat → Int32) (c : Nat) (dy tk mk : Nat → Int32) (mK : Nat) (mS : Int32) (su : Nat → Int32) (uK : Nat) (uS : Int32) (sh mu co sr : Nat → Int32) (du bi : Nat → Int64) (bb : Int64) (o : Nat) (g : Nat → Int64) (j : Nat) (hj : j < 20) (hbad : ¬ j < c) (hc : c ≤ 20) : gHi l yL_due wsL_due ({ frames := 10, cells := 2, slots := 12, locals := 174 } : Room) D [(cI, .int), (cL, .long)] [.ref (ad 0), .int (nI j), .ref o] ((wG ad cI cL qy lp sp pr ex (nI c) dy tk mk (nI mK) mS su (nI uK) uS sh mu co sr du bi bb) ++ [(o, .inl (cL, 1, .inr (.inl g)))]) ((wG ad cI cL qy lp sp pr ex (nI c) dy tk mk (nI mK) mS su (nI uK) uS sh mu co sr du bi bb) ++ [(o, .inl (cL, 1, .inr (.inl g)))]) 2 True 2 12 sz := by
  refine gmh_i (cc := cL_due) (maxL := 4) (hh := [(0, 8, 11, 13), (0, 8, 14, 15)]) (by decide) rfl (Nat.le_of_ble_eq_true rfl) ?_
  intro pg en s m args below meth cd A ls hx hb hr hml hown hts hlocks hA hK hP hD hT htab hl
  have hl : lv_has ls 4 [(0, .ref (ad 0)), (1, .int (nI j)), (2, .ref o)] := hl
  have hS : va_S A s.heap s.heap [] := va_S.rf
  refine lv_aload_n hx hb dL_due_0 rfl (lv_at hl 2 rfl) ?_
  refine lv_iconst (v := 0) hx hb dL_due_1 (by decide) ?_
  refine lv_aload_n hx hb dL_due_2 rfl (lv_at hl 0 rfl) ?_
  refine lv_iload_n hx hb dL_due_3 rfl (lv_at hl 1 rfl) ?_
  refine ghV_l (wc := (wG ad cI cL qy lp sp pr ex (nI c) dy tk mk (nI mK) mS su (nI uK) uS sh mu co sr du bi bb)) (wr := [(o, .inl (cL, 1, .inr (.inl g)))]) (w1 := (wG ad cI cL qy lp sp pr ex (nI c) dy tk mk (nI mK) mS su (nI uK) uS sh mu co sr du bi bb)) (W' := ((wG ad cI cL qy lp sp pr ex (nI c) dy tk mk (nI mK) mS su (nI uK) uS sh mu co sr du bi bb) ++ [(o, .inl (cL, 1, .inr (.inl g)))])) (As := [.int (nI j)]) (rest := [.int 0, .ref o]) ⟨hx, hb, hml, hown, hts⟩ (c_X1_due_2 l hst D s.heap.size ad cI cL qy lp sp pr ex c dy tk mk mK mS su uK uS sh mu co sr du bi bb j hj hbad hc) (cwV 1 hts gL_due_X1_due rfl rfl rfl (by decide +kernel) ⟨(Nat.le_of_ble_eq_true rfl), (Nat.le_of_ble_eq_true rfl)⟩) hT hS hA hK hP hD [0, 1] rfl [0, 1, 2, 3, 4, 5, 6, 7, 8, 9, 10, 11, 12, 13, 14] [15] [1, 2, 3, 4, 5, 6, 7, 8, 9, 10, 11, 12, 13, 14, 15, 0] rfl (by decide) rfl (by decide) (by decide) rfl (by decide) 0 1 rfl rfl rfl rfl hl.1 rfl (Nat.le_of_ble_eq_true rfl) dL_due_4 ⟨(Nat.le_of_ble_eq_true rfl), (Nat.le_of_ble_eq_true rfl)⟩ [1, 2, 3, 4, 5, 6, 7, 8, 9, 10, 11, 12, 13, 14, 15, 0] rfl (by decide) (fun E ce q9 H locs hE hP hD hS hce hcv hcl => ?_) (fun _ _ hok _ _ _ => hok.elim)
  have hE : E = ISE := hE
  subst hE
  refine vx_catch (name := ISE) hown [(⟨0, 8, 11, 13⟩ : ExceptionTableEntry)] (⟨0, 8, 14, 15⟩ : ExceptionTableEntry) [] (by rw [htab]; rfl) (fun z hz => by cases hz with | head => exact Or.inr ⟨by decide, IAE, (hts _ hL_due__classLink_RL_13_IAE), hT.2.2.2.2.2.2⟩ | tail _ h => exact absurd h List.not_mem_nil) (by decide) (by decide) (hts _ hL_due__classLink_RL_15_ISE) (va_Nw.use rfl hT.2.2.2.1) hce hcv hcl ?_
  refine lv_astore_n (lv' := [(3, .ref q9), (0, .ref (ad 0)), (1, .int (nI j)), (2, .ref o)]) hx hb dL_due_14 rfl hl (by decide) rfl (fun ls hl => ?_)
  refine lv_iconst (v := 2) hx hb dL_due_15 (by decide) ?_
  exact ge_i hx hb hr hlocks rfl hK hP hD hS trivial (Nat.le_of_ble_eq_true rfl) (Nat.le_of_ble_eq_true rfl) dL_due_16
set_option maxHeartbeats 4000000 in
set_option maxRecDepth 100000 in
theorem c_L_bill (l : Launch) (hst : l.stackTraces = false) (D : va_G) (sz : Nat) (ad : Nat → Nat) (cI cL : ClassId) (qy lp sp : Int32) (pr ex : Nat → Int32) (c : Nat) (dy tk mk : Nat → Int32) (mK : Nat) (mS : Int32) (su : Nat → Int32) (uK : Nat) (uS : Int32) (sh mu co sr : Nat → Int32) (du bi : Nat → Int64) (bb : Int64) (o : Nat) (g : Nat → Int64) (j : Nat) (hj : j < c) (hc : c ≤ 20) : gHi l yL_bill wsL_bill ({ frames := 10, cells := 2, slots := 12, locals := 174 } : Room) D [(cI, .int), (cL, .long)] [.ref (ad 0), .int (nI j), .ref o] ((wG ad cI cL qy lp sp pr ex (nI c) dy tk mk (nI mK) mS su (nI uK) uS sh mu co sr du bi bb) ++ [(o, .inl (cL, 1, .inr (.inl g)))]) ((wG ad cI cL qy lp sp pr ex (nI c) dy tk mk (nI mK) mS su (nI uK) uS sh mu co sr du bi bb) ++ [(o, .inl (cL, 1, .inr (.inl (vp_updL g 0 (bi j)))))]) 0 True 2 12 sz := by
  refine gmh_i (cc := cL_bill) (maxL := 4) (hh := [(0, 8, 11, 13), (0, 8, 14, 15)]) (by decide) rfl (Nat.le_of_ble_eq_true rfl) ?_
  intro pg en s m args below meth cd A ls hx hb hr hml hown hts hlocks hA hK hP hD hT htab hl
  have hl : lv_has ls 4 [(0, .ref (ad 0)), (1, .int (nI j)), (2, .ref o)] := hl
  have hS : va_S A s.heap s.heap [] := va_S.rf
  refine lv_aload_n hx hb dL_bill_0 rfl (lv_at hl 2 rfl) ?_
  refine lv_iconst (v := 0) hx hb dL_bill_1 (by decide) ?_
  refine lv_aload_n hx hb dL_bill_2 rfl (lv_at hl 0 rfl) ?_
  refine lv_iload_n hx hb dL_bill_3 rfl (lv_at hl 1 rfl) ?_
  refine ghV_l (wc := (wG ad cI cL qy lp sp pr ex (nI c) dy tk mk (nI mK) mS su (nI uK) uS sh mu co sr du bi bb)) (wr := [(o, .inl (cL, 1, .inr (.inl g)))]) (w1 := (wG ad cI cL qy lp sp pr ex (nI c) dy tk mk (nI mK) mS su (nI uK) uS sh mu co sr du bi bb)) (W' := ((wG ad cI cL qy lp sp pr ex (nI c) dy tk mk (nI mK) mS su (nI uK) uS sh mu co sr du bi bb) ++ [(o, .inl (cL, 1, .inr (.inl g)))])) (As := [.int (nI j)]) (rest := [.int 0, .ref o]) ⟨hx, hb, hml, hown, hts⟩ (c_X1_bill l hst D s.heap.size ad cI cL qy lp sp pr ex c dy tk mk mK mS su uK uS sh mu co sr du bi bb j hj hc) (cwV 1 hts gL_bill_X1_bill rfl rfl rfl (by decide +kernel) ⟨(Nat.le_of_ble_eq_true rfl), (Nat.le_of_ble_eq_true rfl)⟩) hT hS hA hK hP hD [0, 1] rfl [0, 1, 2, 3, 4, 5, 6, 7, 8, 9, 10, 11, 12, 13, 14] [15] [1, 2, 3, 4, 5, 6, 7, 8, 9, 10, 11, 12, 13, 14, 15, 0] rfl (by decide) rfl (by decide) (by decide) rfl (by decide) 0 1 rfl rfl rfl rfl hl.1 rfl (Nat.le_of_ble_eq_true rfl) dL_bill_4 ⟨(Nat.le_of_ble_eq_true rfl), (Nat.le_of_ble_eq_true rfl)⟩ [1, 2, 3, 4, 5, 6, 7, 8, 9, 10, 11, 12, 13, 14, 15, 0] rfl (by decide) (fun _ _ _ _ _ hE => hE.elim) (fun H locs _ hP hD hS => ?_)
  refine ga_last (j := 0) (ws' := ((wG ad cI cL qy lp sp pr ex (nI c) dy tk mk (nI mK) mS su (nI uK) uS sh mu co sr du bi bb) ++ [(o, .inl (cL, 1, .inr (.inl (vp_updL g 0 (bi j)))))])) hx hb hK hP hD hS 15 1 rfl rfl (by decide) (by decide) dL_bill_7 rfl (fun H locs hP hD hS => ?_)
  refine lv_goto (tgt := 17) hx hb dL_bill_8 (by decide) ?_
  refine lv_iconst (v := 0) hx hb dL_bill_17 (by decide) ?_
  exact ge_i hx hb hr hlocks rfl hK hP hD hS trivial (Nat.le_of_ble_eq_true rfl) (Nat.le_of_ble_eq_true rfl) dL_bill_18
theorem hL_bill__classLink_RL_13_IAE : Cond.classLink RL 13 IAE ∈ wsL_bill := by decide +kernel
set_option maxHeartbeats 4000000 in
set_option maxRecDepth 100000 in
theorem c_L_bill_1 (l : Launch) (hst : l.stackTraces = false) (D : va_G) (sz : Nat) (ad : Nat → Nat) (cI cL : ClassId) (qy lp sp : Int32) (pr ex : Nat → Int32) (c : Nat) (dy tk mk : Nat → Int32) (mK : Nat) (mS : Int32) (su : Nat → Int32) (uK : Nat) (uS : Int32) (sh mu co sr : Nat → Int32) (du bi : Nat → Int64) (bb : Int64) (o : Nat) (g : Nat → Int64) (v : Int32) (hbad : ¬ inR v 0 19) : gHi l yL_bill wsL_bill ({ frames := 10, cells := 2, slots := 12, locals := 174 } : Room) D [(cI, .int), (cL, .long)] [.ref (ad 0), .int v, .ref o] ((wG ad cI cL qy lp sp pr ex (nI c) dy tk mk (nI mK) mS su (nI uK) uS sh mu co sr du bi bb) ++ [(o, .inl (cL, 1, .inr (.inl g)))]) ((wG ad cI cL qy lp sp pr ex (nI c) dy tk mk (nI mK) mS su (nI uK) uS sh mu co sr du bi bb) ++ [(o, .inl (cL, 1, .inr (.inl g)))]) 1 True 2 12 sz := by
  refine gmh_i (cc := cL_bill) (maxL := 4) (hh := [(0, 8, 11, 13), (0, 8, 14, 15)]) (by decide) rfl (Nat.le_of_ble_eq_true rfl) ?_
  intro pg en s m args below meth cd A ls hx hb hr hml hown hts hlocks hA hK hP hD hT htab hl
  have hl : lv_has ls 4 [(0, .ref (ad 0)), (1, .int v), (2, .ref o)] := hl
  have hS : va_S A s.heap s.heap [] := va_S.rf
  refine lv_aload_n hx hb dL_bill_0 rfl (lv_at hl 2 rfl) ?_
  refine lv_iconst (v := 0) hx hb dL_bill_1 (by decide) ?_
  refine lv_aload_n hx hb dL_bill_2 rfl (lv_at hl 0 rfl) ?_
  refine lv_iload_n hx hb dL_bill_3 rfl (lv_at hl 1 rfl) ?_
  refine ghV_l (wc := (wG ad cI cL qy lp sp pr ex (nI c) dy tk mk (nI mK) mS su (nI uK) uS sh mu co sr du bi bb)) (wr := [(o, .inl (cL, 1, .inr (.inl g)))]) (w1 := (wG ad cI cL qy lp sp pr ex (nI c) dy tk mk (nI mK) mS su (nI uK) uS sh mu co sr du bi bb)) (W' := ((wG ad cI cL qy lp sp pr ex (nI c) dy tk mk (nI mK) mS su (nI uK) uS sh mu co sr du bi bb) ++ [(o, .inl (cL, 1, .inr (.inl g)))])) (As := [.int v]) (rest := [.int 0, .ref o]) ⟨hx, hb, hml, hown, hts⟩ (c_X1_bill_1 l hst D s.heap.size ad cI cL qy lp sp pr ex c dy tk mk mK mS su uK uS sh mu co sr du bi bb v hbad) (cwV 1 hts gL_bill_X1_bill rfl rfl rfl (by decide +kernel) ⟨(Nat.le_of_ble_eq_true rfl), (Nat.le_of_ble_eq_true rfl)⟩) hT hS hA hK hP hD [0, 1] rfl [0, 1, 2, 3, 4, 5, 6, 7, 8, 9, 10, 11, 12, 13, 14] [15] [1, 2, 3, 4, 5, 6, 7, 8, 9, 10, 11, 12, 13, 14, 15, 0] rfl (by decide) rfl (by decide) (by decide) rfl (by decide) 0 1 rfl rfl rfl rfl hl.1 rfl (Nat.le_of_ble_eq_true rfl) dL_bill_4 ⟨(Nat.le_of_ble_eq_true rfl), (Nat.le_of_ble_eq_true rfl)⟩ [1, 2, 3, 4, 5, 6, 7, 8, 9, 10, 11, 12, 13, 14, 15, 0] rfl (by decide) (fun E ce q9 H locs hE hP hD hS hce hcv hcl => ?_) (fun _ _ hok _ _ _ => hok.elim)
  have hE : E = IAE := hE
  subst hE
  refine vx_catch (name := IAE) hown [] (⟨0, 8, 11, 13⟩ : ExceptionTableEntry) [(⟨0, 8, 14, 15⟩ : ExceptionTableEntry)] (by rw [htab]; rfl) (fun z hz => absurd hz List.not_mem_nil) (by decide) (by decide) (hts _ hL_bill__classLink_RL_13_IAE) (va_Nw.use rfl hT.2.2.1) hce hcv hcl ?_
  refine lv_astore_n (lv' := [(3, .ref q9), (0, .ref (ad 0)), (1, .int v), (2, .ref o)]) hx hb dL_bill_11 rfl hl (by decide) rfl (fun ls hl => ?_)
  refine lv_iconst (v := 1) hx hb dL_bill_12 (by decide) ?_
  exact ge_i hx hb hr hlocks rfl hK hP hD hS trivial (Nat.le_of_ble_eq_true rfl) (Nat.le_of_ble_eq_true rfl) dL_bill_13
theorem hL_bill__classLink_RL_15_ISE : Cond.classLink RL 15 ISE ∈ wsL_bill := by decide +kernel
set_option maxHeartbeats 4000000 in
set_option maxRecDepth 100000 in
theorem c_L_bill_2 (l : Launch) (hst : l.stackTraces = false) (D : va_G) (sz : Nat) (ad : Nat → Nat) (cI cL : ClassId) (qy lp sp : Int32) (pr ex : Nat → Int32) (c : Nat) (dy tk mk : Nat → Int32) (mK : Nat) (mS : Int32) (su : Nat → Int32) (uK : Nat) (uS : Int32) (sh mu co sr : Nat → Int32) (du bi : Nat → Int64) (bb : Int64) (o : Nat) (g : Nat → Int64) (j : Nat) (hj : j < 20) (hbad : ¬ j < c) (hc : c ≤ 20) : gHi l yL_bill wsL_bill ({ frames := 10, cells := 2, slots := 12, locals := 174 } : Room) D [(cI, .int), (cL, .long)] [.ref (ad 0), .int (nI j), .ref o] ((wG ad cI cL qy lp sp pr ex (nI c) dy tk mk (nI mK) mS su (nI uK) uS sh mu co sr du bi bb) ++ [(o, .inl (cL, 1, .inr (.inl g)))]) ((wG ad cI cL qy lp sp pr ex (nI c) dy tk mk (nI mK) mS su (nI uK) uS sh mu co sr du bi bb) ++ [(o, .inl (cL, 1, .inr (.inl g)))]) 2 True 2 12 sz := by
  refine gmh_i (cc := cL_bill) (maxL := 4) (hh := [(0, 8, 11, 13), (0, 8, 14, 15)]) (by decide) rfl (Nat.le_of_ble_eq_true rfl) ?_
  intro pg en s m args below meth cd A ls hx hb hr hml hown hts hlocks hA hK hP hD hT htab hl
  have hl : lv_has ls 4 [(0, .ref (ad 0)), (1, .int (nI j)), (2, .ref o)] := hl
  have hS : va_S A s.heap s.heap [] := va_S.rf
  refine lv_aload_n hx hb dL_bill_0 rfl (lv_at hl 2 rfl) ?_
  refine lv_iconst (v := 0) hx hb dL_bill_1 (by decide) ?_
  refine lv_aload_n hx hb dL_bill_2 rfl (lv_at hl 0 rfl) ?_
  refine lv_iload_n hx hb dL_bill_3 rfl (lv_at hl 1 rfl) ?_
  refine ghV_l (wc := (wG ad cI cL qy lp sp pr ex (nI c) dy tk mk (nI mK) mS su (nI uK) uS sh mu co sr du bi bb)) (wr := [(o, .inl (cL, 1, .inr (.inl g)))]) (w1 := (wG ad cI cL qy lp sp pr ex (nI c) dy tk mk (nI mK) mS su (nI uK) uS sh mu co sr du bi bb)) (W' := ((wG ad cI cL qy lp sp pr ex (nI c) dy tk mk (nI mK) mS su (nI uK) uS sh mu co sr du bi bb) ++ [(o, .inl (cL, 1, .inr (.inl g)))])) (As := [.int (nI j)]) (rest := [.int 0, .ref o]) ⟨hx, hb, hml, hown, hts⟩ (c_X1_bill_2 l hst D s.heap.size ad cI cL qy lp sp pr ex c dy tk mk mK mS su uK uS sh mu co sr du bi bb j hj hbad hc) (cwV 1 hts gL_bill_X1_bill rfl rfl rfl (by decide +kernel) ⟨(Nat.le_of_ble_eq_true rfl), (Nat.le_of_ble_eq_true rfl)⟩) hT hS hA hK hP hD [0, 1] rfl [0, 1, 2, 3, 4, 5, 6, 7, 8, 9, 10, 11, 12, 13, 14] [15] [1, 2, 3, 4, 5, 6, 7, 8, 9, 10, 11, 12, 13, 14, 15, 0] rfl (by decide) rfl (by decide) (by decide) rfl (by decide) 0 1 rfl rfl rfl rfl hl.1 rfl (Nat.le_of_ble_eq_true rfl) dL_bill_4 ⟨(Nat.le_of_ble_eq_true rfl), (Nat.le_of_ble_eq_true rfl)⟩ [1, 2, 3, 4, 5, 6, 7, 8, 9, 10, 11, 12, 13, 14, 15, 0] rfl (by decide) (fun E ce q9 H locs hE hP hD hS hce hcv hcl => ?_) (fun _ _ hok _ _ _ => hok.elim)
  have hE : E = ISE := hE
  subst hE
  refine vx_catch (name := ISE) hown [(⟨0, 8, 11, 13⟩ : ExceptionTableEntry)] (⟨0, 8, 14, 15⟩ : ExceptionTableEntry) [] (by rw [htab]; rfl) (fun z hz => by cases hz with | head => exact Or.inr ⟨by decide, IAE, (hts _ hL_bill__classLink_RL_13_IAE), hT.2.2.2.2.2.2⟩ | tail _ h => exact absurd h List.not_mem_nil) (by decide) (by decide) (hts _ hL_bill__classLink_RL_15_ISE) (va_Nw.use rfl hT.2.2.2.1) hce hcv hcl ?_
  refine lv_astore_n (lv' := [(3, .ref q9), (0, .ref (ad 0)), (1, .int (nI j)), (2, .ref o)]) hx hb dL_bill_14 rfl hl (by decide) rfl (fun ls hl => ?_)
  refine lv_iconst (v := 2) hx hb dL_bill_15 (by decide) ?_
  exact ge_i hx hb hr hlocks rfl hK hP hD hS trivial (Nat.le_of_ble_eq_true rfl) (Nat.le_of_ble_eq_true rfl) dL_bill_16
set_option maxHeartbeats 4000000 in
set_option maxRecDepth 100000 in
theorem c_L_makeUpLeft (l : Launch) (hst : l.stackTraces = false) (D : va_G) (sz : Nat) (ad : Nat → Nat) (cI cL : ClassId) (qy lp sp : Int32) (pr ex : Nat → Int32) (c : Nat) (dy tk mk : Nat → Int32) (mK : Nat) (mS : Int32) (su : Nat → Int32) (uK : Nat) (uS : Int32) (sh mu co sr : Nat → Int32) (du bi : Nat → Int64) (bb : Int64) (o : Nat) (g : Nat → Int64) (j : Nat) (hj : j < c) (hc : c ≤ 20) : gHi l yL_makeUpLeft wsL_makeUpLeft ({ frames := 10, cells := 2, slots := 12, locals := 174 } : Room) D [(cI, .int), (cL, .long)] [.ref (ad 0), .int (nI j), .ref o] ((wG ad cI cL qy lp sp pr ex (nI c) dy tk mk (nI mK) mS su (nI uK) uS sh mu co sr du bi bb) ++ [(o, .inl (cL, 1, .inr (.inl g)))]) ((wG ad cI cL qy lp sp pr ex (nI c) dy tk mk (nI mK) mS su (nI uK) uS sh mu co sr du bi bb) ++ [(o, .inl (cL, 1, .inr (.inl (vp_updL g 0 ((mk j).toInt64)))))]) 0 True 2 12 sz := by
  refine gmh_i (cc := cL_makeUpLeft) (maxL := 4) (hh := [(0, 9, 12, 13), (0, 9, 15, 15)]) (by decide) rfl (Nat.le_of_ble_eq_true rfl) ?_
  intro pg en s m args below meth cd A ls hx hb hr hml hown hts hlocks hA hK hP hD hT htab hl
  have hl : lv_has ls 4 [(0, .ref (ad 0)), (1, .int (nI j)), (2, .ref o)] := hl
  have hS : va_S A s.heap s.heap [] := va_S.rf
  refine lv_aload_n hx hb dL_makeUpLeft_0 rfl (lv_at hl 2 rfl) ?_
  refine lv_iconst (v := 0) hx hb dL_makeUpLeft_1 (by decide) ?_
  refine lv_aload_n hx hb dL_makeUpLeft_2 rfl (lv_at hl 0 rfl) ?_
  refine lv_iload_n hx hb dL_makeUpLeft_3 rfl (lv_at hl 1 rfl) ?_
  refine ghV_i (wc := (wG ad cI cL qy lp sp pr ex (nI c) dy tk mk (nI mK) mS su (nI uK) uS sh mu co sr du bi bb)) (wr := [(o, .inl (cL, 1, .inr (.inl g)))]) (w1 := (wG ad cI cL qy lp sp pr ex (nI c) dy tk mk (nI mK) mS su (nI uK) uS sh mu co sr du bi bb)) (W' := ((wG ad cI cL qy lp sp pr ex (nI c) dy tk mk (nI mK) mS su (nI uK) uS sh mu co sr du bi bb) ++ [(o, .inl (cL, 1, .inr (.inl g)))])) (As := [.int (nI j)]) (rest := [.int 0, .ref o]) ⟨hx, hb, hml, hown, hts⟩ (c_X1_makeUpLeft l hst D s.heap.size ad cI cL qy lp sp pr ex c dy tk mk mK mS su uK uS sh mu co sr du bi bb j hj hc) (cwV 1 hts gL_makeUpLeft_X1_makeUpLeft rfl rfl rfl (by decide +kernel) ⟨(Nat.le_of_ble_eq_true rfl), (Nat.le_of_ble_eq_true rfl)⟩) hT hS hA hK hP hD [0, 1] rfl [0, 1, 2, 3, 4, 5, 6, 7, 8, 9, 10, 11, 12, 13, 14] [15] [1, 2, 3, 4, 5, 6, 7, 8, 9, 10, 11, 12, 13, 14, 15, 0] rfl (by decide) rfl (by decide) (by decide) rfl (by decide) 0 1 rfl rfl rfl rfl hl.1 rfl (Nat.le_of_ble_eq_true rfl) dL_makeUpLeft_4 ⟨(Nat.le_of_ble_eq_true rfl), (Nat.le_of_ble_eq_true rfl)⟩ [1, 2, 3, 4, 5, 6, 7, 8, 9, 10, 11, 12, 13, 14, 15, 0] rfl (by decide) (fun _ _ _ _ _ hE => hE.elim) (fun H locs _ hP hD hS => ?_)
  refine lv_i2l hx hb dL_makeUpLeft_7 rfl ?_
  refine ga_last (j := 0) (ws' := ((wG ad cI cL qy lp sp pr ex (nI c) dy tk mk (nI mK) mS su (nI uK) uS sh mu co sr du bi bb) ++ [(o, .inl (cL, 1, .inr (.inl (vp_updL g 0 ((mk j).toInt64)))))])) hx hb hK hP hD hS 15 1 rfl rfl (by decide) (by decide) dL_makeUpLeft_8 rfl (fun H locs hP hD hS => ?_)
  refine lv_goto (tgt := 18) hx hb dL_makeUpLeft_9 (by decide) ?_
  refine lv_iconst (v := 0) hx hb dL_makeUpLeft_18 (by decide) ?_
  exact ge_i hx hb hr hlocks rfl hK hP hD hS trivial (Nat.le_of_ble_eq_true rfl) (Nat.le_of_ble_eq_true rfl) dL_makeUpLeft_19
theorem hL_makeUpLeft__classLink_RL_13_IAE : Cond.classLink RL 13 IAE ∈ wsL_makeUpLeft := by decide +kernel
set_option maxHeartbeats 4000000 in
set_option maxRecDepth 100000 in
theorem c_L_makeUpLeft_1 (l : Launch) (hst : l.stackTraces = false) (D : va_G) (sz : Nat) (ad : Nat → Nat) (cI cL : ClassId) (qy lp sp : Int32) (pr ex : Nat → Int32) (c : Nat) (dy tk mk : Nat → Int32) (mK : Nat) (mS : Int32) (su : Nat → Int32) (uK : Nat) (uS : Int32) (sh mu co sr : Nat → Int32) (du bi : Nat → Int64) (bb : Int64) (o : Nat) (g : Nat → Int64) (v : Int32) (hbad : ¬ inR v 0 19) : gHi l yL_makeUpLeft wsL_makeUpLeft ({ frames := 10, cells := 2, slots := 12, locals := 174 } : Room) D [(cI, .int), (cL, .long)] [.ref (ad 0), .int v, .ref o] ((wG ad cI cL qy lp sp pr ex (nI c) dy tk mk (nI mK) mS su (nI uK) uS sh mu co sr du bi bb) ++ [(o, .inl (cL, 1, .inr (.inl g)))]) ((wG ad cI cL qy lp sp pr ex (nI c) dy tk mk (nI mK) mS su (nI uK) uS sh mu co sr du bi bb) ++ [(o, .inl (cL, 1, .inr (.inl g)))]) 1 True 2 12 sz := by
  refine gmh_i (cc := cL_makeUpLeft) (maxL := 4) (hh := [(0, 9, 12, 13), (0, 9, 15, 15)]) (by decide) rfl (Nat.le_of_ble_eq_true rfl) ?_
  intro pg en s m args below meth cd A ls hx hb hr hml hown hts hlocks hA hK hP hD hT htab hl
  have hl : lv_has ls 4 [(0, .ref (ad 0)), (1, .int v), (2, .ref o)] := hl
  have hS : va_S A s.heap s.heap [] := va_S.rf
  refine lv_aload_n hx hb dL_makeUpLeft_0 rfl (lv_at hl 2 rfl) ?_
  refine lv_iconst (v := 0) hx hb dL_makeUpLeft_1 (by decide) ?_
  refine lv_aload_n hx hb dL_makeUpLeft_2 rfl (lv_at hl 0 rfl) ?_
  refine lv_iload_n hx hb dL_makeUpLeft_3 rfl (lv_at hl 1 rfl) ?_
  refine ghV_i (wc := (wG ad cI cL qy lp sp pr ex (nI c) dy tk mk (nI mK) mS su (nI uK) uS sh mu co sr du bi bb)) (wr := [(o, .inl (cL, 1, .inr (.inl g)))]) (w1 := (wG ad cI cL qy lp sp pr ex (nI c) dy tk mk (nI mK) mS su (nI uK) uS sh mu co sr du bi bb)) (W' := ((wG ad cI cL qy lp sp pr ex (nI c) dy tk mk (nI mK) mS su (nI uK) uS sh mu co sr du bi bb) ++ [(o, .inl (cL, 1, .inr (.inl g)))])) (As := [.int v]) (rest := [.int 0, .ref o]) ⟨hx, hb, hml, hown, hts⟩ (c_X1_makeUpLeft_1 l hst D s.heap.size ad cI cL qy lp sp pr ex c dy tk mk mK mS su uK uS sh mu co sr du bi bb v hbad) (cwV 1 hts gL_makeUpLeft_X1_makeUpLeft rfl rfl rfl (by decide +kernel) ⟨(Nat.le_of_ble_eq_true rfl), (Nat.le_of_ble_eq_true rfl)⟩) hT hS hA hK hP hD [0, 1] rfl [0, 1, 2, 3, 4, 5, 6, 7, 8, 9, 10, 11, 12, 13, 14] [15] [1, 2, 3, 4, 5, 6, 7, 8, 9, 10, 11, 12, 13, 14, 15, 0] rfl (by decide) rfl (by decide) (by decide) rfl (by decide) 0 1 rfl rfl rfl rfl hl.1 rfl (Nat.le_of_ble_eq_true rfl) dL_makeUpLeft_4 ⟨(Nat.le_of_ble_eq_true rfl), (Nat.le_of_ble_eq_true rfl)⟩ [1, 2, 3, 4, 5, 6, 7, 8, 9, 10, 11, 12, 13, 14, 15, 0] rfl (by decide) (fun E ce q9 H locs hE hP hD hS hce hcv hcl => ?_) (fun _ _ hok _ _ _ => hok.elim)
  have hE : E = IAE := hE
  subst hE
  refine vx_catch (name := IAE) hown [] (⟨0, 9, 12, 13⟩ : ExceptionTableEntry) [(⟨0, 9, 15, 15⟩ : ExceptionTableEntry)] (by rw [htab]; rfl) (fun z hz => absurd hz List.not_mem_nil) (by decide) (by decide) (hts _ hL_makeUpLeft__classLink_RL_13_IAE) (va_Nw.use rfl hT.2.2.1) hce hcv hcl ?_
  refine lv_astore_n (lv' := [(3, .ref q9), (0, .ref (ad 0)), (1, .int v), (2, .ref o)]) hx hb dL_makeUpLeft_12 rfl hl (by decide) rfl (fun ls hl => ?_)
  refine lv_iconst (v := 1) hx hb dL_makeUpLeft_13 (by decide) ?_
  exact ge_i hx hb hr hlocks rfl hK hP hD hS trivial (Nat.le_of_ble_eq_true rfl) (Nat.le_of_ble_eq_true rfl) dL_makeUpLeft_14
theorem hL_makeUpLeft__classLink_RL_15_ISE : Cond.classLink RL 15 ISE ∈ wsL_makeUpLeft := by decide +kernel
set_option maxHeartbeats 4000000 in
set_option maxRecDepth 100000 in
theorem c_L_makeUpLeft_2 (l : Launch) (hst : l.stackTraces = false) (D : va_G) (sz : Nat) (ad : Nat → Nat) (cI cL : ClassId) (qy lp sp : Int32) (pr ex : Nat → Int32) (c : Nat) (dy tk mk : Nat → Int32) (mK : Nat) (mS : Int32) (su : Nat → Int32) (uK : Nat) (uS : Int32) (sh mu co sr : Nat → Int32) (du bi : Nat → Int64) (bb : Int64) (o : Nat) (g : Nat → Int64) (j : Nat) (hj : j < 20) (hbad : ¬ j < c) (hc : c ≤ 20) : gHi l yL_makeUpLeft wsL_makeUpLeft ({ frames := 10, cells := 2, slots := 12, locals := 174 } : Room) D [(cI, .int), (cL, .long)] [.ref (ad 0), .int (nI j), .ref o] ((wG ad cI cL qy lp sp pr ex (nI c) dy tk mk (nI mK) mS su (nI uK) uS sh mu co sr du bi bb) ++ [(o, .inl (cL, 1, .inr (.inl g)))]) ((wG ad cI cL qy lp sp pr ex (nI c) dy tk mk (nI mK) mS su (nI uK) uS sh mu co sr du bi bb) ++ [(o, .inl (cL, 1, .inr (.inl g)))]) 2 True 2 12 sz := by
  refine gmh_i (cc := cL_makeUpLeft) (maxL := 4) (hh := [(0, 9, 12, 13), (0, 9, 15, 15)]) (by decide) rfl (Nat.le_of_ble_eq_true rfl) ?_
  intro pg en s m args below meth cd A ls hx hb hr hml hown hts hlocks hA hK hP hD hT htab hl
  have hl : lv_has ls 4 [(0, .ref (ad 0)), (1, .int (nI j)), (2, .ref o)] := hl
  have hS : va_S A s.heap s.heap [] := va_S.rf
  refine lv_aload_n hx hb dL_makeUpLeft_0 rfl (lv_at hl 2 rfl) ?_
  refine lv_iconst (v := 0) hx hb dL_makeUpLeft_1 (by decide) ?_
  refine lv_aload_n hx hb dL_makeUpLeft_2 rfl (lv_at hl 0 rfl) ?_
  refine lv_iload_n hx hb dL_makeUpLeft_3 rfl (lv_at hl 1 rfl) ?_
  refine ghV_i (wc := (wG ad cI cL qy lp sp pr ex (nI c) dy tk mk (nI mK) mS su (nI uK) uS sh mu co sr du bi bb)) (wr := [(o, .inl (cL, 1, .inr (.inl g)))]) (w1 := (wG ad cI cL qy lp sp pr ex (nI c) dy tk mk (nI mK) mS su (nI uK) uS sh mu co sr du bi bb)) (W' := ((wG ad cI cL qy lp sp pr ex (nI c) dy tk mk (nI mK) mS su (nI uK) uS sh mu co sr du bi bb) ++ [(o, .inl (cL, 1, .inr (.inl g)))])) (As := [.int (nI j)]) (rest := [.int 0, .ref o]) ⟨hx, hb, hml, hown, hts⟩ (c_X1_makeUpLeft_2 l hst D s.heap.size ad cI cL qy lp sp pr ex c dy tk mk mK mS su uK uS sh mu co sr du bi bb j hj hbad hc) (cwV 1 hts gL_makeUpLeft_X1_makeUpLeft rfl rfl rfl (by decide +kernel) ⟨(Nat.le_of_ble_eq_true rfl), (Nat.le_of_ble_eq_true rfl)⟩) hT hS hA hK hP hD [0, 1] rfl [0, 1, 2, 3, 4, 5, 6, 7, 8, 9, 10, 11, 12, 13, 14] [15] [1, 2, 3, 4, 5, 6, 7, 8, 9, 10, 11, 12, 13, 14, 15, 0] rfl (by decide) rfl (by decide) (by decide) rfl (by decide) 0 1 rfl rfl rfl rfl hl.1 rfl (Nat.le_of_ble_eq_true rfl) dL_makeUpLeft_4 ⟨(Nat.le_of_ble_eq_true rfl), (Nat.le_of_ble_eq_true rfl)⟩ [1, 2, 3, 4, 5, 6, 7, 8, 9, 10, 11, 12, 13, 14, 15, 0] rfl (by decide) (fun E ce q9 H locs hE hP hD hS hce hcv hcl => ?_) (fun _ _ hok _ _ _ => hok.elim)
  have hE : E = ISE := hE
  subst hE
  refine vx_catch (name := ISE) hown [(⟨0, 9, 12, 13⟩ : ExceptionTableEntry)] (⟨0, 9, 15, 15⟩ : ExceptionTableEntry) [] (by rw [htab]; rfl) (fun z hz => by cases hz with | head => exact Or.inr ⟨by decide, IAE, (hts _ hL_makeUpLeft__classLink_RL_13_IAE), hT.2.2.2.2.2.2⟩ | tail _ h => exact absurd h List.not_mem_nil) (by decide) (by decide) (hts _ hL_makeUpLeft__classLink_RL_15_ISE) (va_Nw.use rfl hT.2.2.2.1) hce hcv hcl ?_
  refine lv_astore_n (lv' := [(3, .ref q9), (0, .ref (ad 0)), (1, .int (nI j)), (2, .ref o)]) hx hb dL_makeUpLeft_15 rfl hl (by decide) rfl (fun ls hl => ?_)
  refine lv_iconst (v := 2) hx hb dL_makeUpLeft_16 (by decide) ?_
  exact ge_i hx hb hr hlocks rfl hK hP hD hS trivial (Nat.le_of_ble_eq_true rfl) (Nat.le_of_ble_eq_true rfl) dL_makeUpLeft_17
set_option maxHeartbeats 4000000 in
set_option maxRecDepth 100000 in
theorem c_L_surplusLeft (l : Launch) (hst : l.stackTraces = false) (D : va_G) (sz : Nat) (ad : Nat → Nat) (cI cL : ClassId) (qy lp sp : Int32) (pr ex : Nat → Int32) (c : Nat) (dy tk mk : Nat → Int32) (mK : Nat) (mS : Int32) (su : Nat → Int32) (uK : Nat) (uS : Int32) (sh mu co sr : Nat → Int32) (du bi : Nat → Int64) (bb : Int64) (o : Nat) (g : Nat → Int64) (j : Nat) (hj : j < c) (hc : c ≤ 20) : gHi l yL_surplusLeft wsL_surplusLeft ({ frames := 10, cells := 2, slots := 12, locals := 174 } : Room) D [(cI, .int), (cL, .long)] [.ref (ad 0), .int (nI j), .ref o] ((wG ad cI cL qy lp sp pr ex (nI c) dy tk mk (nI mK) mS su (nI uK) uS sh mu co sr du bi bb) ++ [(o, .inl (cL, 1, .inr (.inl g)))]) ((wG ad cI cL qy lp sp pr ex (nI c) dy tk mk (nI mK) mS su (nI uK) uS sh mu co sr du bi bb) ++ [(o, .inl (cL, 1, .inr (.inl (vp_updL g 0 ((su j).toInt64)))))]) 0 True 2 12 sz := by
  refine gmh_i (cc := cL_surplusLeft) (maxL := 4) (hh := [(0, 9, 12, 13), (0, 9, 15, 15)]) (by decide) rfl (Nat.le_of_ble_eq_true rfl) ?_
  intro pg en s m args below meth cd A ls hx hb hr hml hown hts hlocks hA hK hP hD hT htab hl
  have hl : lv_has ls 4 [(0, .ref (ad 0)), (1, .int (nI j)), (2, .ref o)] := hl
  have hS : va_S A s.heap s.heap [] := va_S.rf
  refine lv_aload_n hx hb dL_surplusLeft_0 rfl (lv_at hl 2 rfl) ?_
  refine lv_iconst (v := 0) hx hb dL_surplusLeft_1 (by decide) ?_
  refine lv_aload_n hx hb dL_surplusLeft_2 rfl (lv_at hl 0 rfl) ?_
  refine lv_iload_n hx hb dL_surplusLeft_3 rfl (lv_at hl 1 rfl) ?_
  refine ghV_i (wc := (wG ad cI cL qy lp sp pr ex (nI c) dy tk mk (nI mK) mS su (nI uK) uS sh mu co sr du bi bb)) (wr := [(o, .inl (cL, 1, .inr (.inl g)))]) (w1 := (wG ad cI cL qy lp sp pr ex (nI c) dy tk mk (nI mK) mS su (nI uK) uS sh mu co sr du bi bb)) (W' := ((wG ad cI cL qy lp sp pr ex (nI c) dy tk mk (nI mK) mS su (nI uK) uS sh mu co sr du bi bb) ++ [(o, .inl (cL, 1, .inr (.inl g)))])) (As := [.int (nI j)]) (rest := [.int 0, .ref o]) ⟨hx, hb, hml, hown, hts⟩ (c_X1_surplusLeft l hst D s.heap.size ad cI cL qy lp sp pr ex c dy tk mk mK mS su uK uS sh mu co sr du bi bb j hj hc) (cwV 1 hts gL_surplusLeft_X1_surplusLeft rfl rfl rfl (by decide +kernel) ⟨(Nat.le_of_ble_eq_true rfl), (Nat.le_of_ble_eq_true rfl)⟩) hT hS hA hK hP hD [0, 1] rfl [0, 1, 2, 3, 4, 5, 6, 7, 8, 9, 10, 11, 12, 13, 14] [15] [1, 2, 3, 4, 5, 6, 7, 8, 9, 10, 11, 12, 13, 14, 15, 0] rfl (by decide) rfl (by decide) (by decide) rfl (by decide) 0 1 rfl rfl rfl rfl hl.1 rfl (Nat.le_of_ble_eq_true rfl) dL_surplusLeft_4 ⟨(Nat.le_of_ble_eq_true rfl), (Nat.le_of_ble_eq_true rfl)⟩ [1, 2, 3, 4, 5, 6, 7, 8, 9, 10, 11, 12, 13, 14, 15, 0] rfl (by decide) (fun _ _ _ _ _ hE => hE.elim) (fun H locs _ hP hD hS => ?_)
  refine lv_i2l hx hb dL_surplusLeft_7 rfl ?_
  refine ga_last (j := 0) (ws' := ((wG ad cI cL qy lp sp pr ex (nI c) dy tk mk (nI mK) mS su (nI uK) uS sh mu co sr du bi bb) ++ [(o, .inl (cL, 1, .inr (.inl (vp_updL g 0 ((su j).toInt64)))))])) hx hb hK hP hD hS 15 1 rfl rfl (by decide) (by decide) dL_surplusLeft_8 rfl (fun H locs hP hD hS => ?_)
  refine lv_goto (tgt := 18) hx hb dL_surplusLeft_9 (by decide) ?_
  refine lv_iconst (v := 0) hx hb dL_surplusLeft_18 (by decide) ?_
  exact ge_i hx hb hr hlocks rfl hK hP hD hS trivial (Nat.le_of_ble_eq_true rfl) (Nat.le_of_ble_eq_true rfl) dL_surplusLeft_19
theorem hL_surplusLeft__classLink_RL_13_IAE : Cond.classLink RL 13 IAE ∈ wsL_surplusLeft := by decide +kernel
set_option maxHeartbeats 4000000 in
set_option maxRecDepth 100000 in
theorem c_L_surplusLeft_1 (l : Launch) (hst : l.stackTraces = false) (D : va_G) (sz : Nat) (ad : Nat → Nat) (cI cL : ClassId) (qy lp sp : Int32) (pr ex : Nat → Int32) (c : Nat) (dy tk mk : Nat → Int32) (mK : Nat) (mS : Int32) (su : Nat → Int32) (uK : Nat) (uS : Int32) (sh mu co sr : Nat → Int32) (du bi : Nat → Int64) (bb : Int64) (o : Nat) (g : Nat → Int64) (v : Int32) (hbad : ¬ inR v 0 19) : gHi l yL_surplusLeft wsL_surplusLeft ({ frames := 10, cells := 2, slots := 12, locals := 174 } : Room) D [(cI, .int), (cL, .long)] [.ref (ad 0), .int v, .ref o] ((wG ad cI cL qy lp sp pr ex (nI c) dy tk mk (nI mK) mS su (nI uK) uS sh mu co sr du bi bb) ++ [(o, .inl (cL, 1, .inr (.inl g)))]) ((wG ad cI cL qy lp sp pr ex (nI c) dy tk mk (nI mK) mS su (nI uK) uS sh mu co sr du bi bb) ++ [(o, .inl (cL, 1, .inr (.inl g)))]) 1 True 2 12 sz := by
  refine gmh_i (cc := cL_surplusLeft) (maxL := 4) (hh := [(0, 9, 12, 13), (0, 9, 15, 15)]) (by decide) rfl (Nat.le_of_ble_eq_true rfl) ?_
  intro pg en s m args below meth cd A ls hx hb hr hml hown hts hlocks hA hK hP hD hT htab hl
  have hl : lv_has ls 4 [(0, .ref (ad 0)), (1, .int v), (2, .ref o)] := hl
  have hS : va_S A s.heap s.heap [] := va_S.rf
  refine lv_aload_n hx hb dL_surplusLeft_0 rfl (lv_at hl 2 rfl) ?_
  refine lv_iconst (v := 0) hx hb dL_surplusLeft_1 (by decide) ?_
  refine lv_aload_n hx hb dL_surplusLeft_2 rfl (lv_at hl 0 rfl) ?_
  refine lv_iload_n hx hb dL_surplusLeft_3 rfl (lv_at hl 1 rfl) ?_
  refine ghV_i (wc := (wG ad cI cL qy lp sp pr ex (nI c) dy tk mk (nI mK) mS su (nI uK) uS sh mu co sr du bi bb)) (wr := [(o, .inl (cL, 1, .inr (.inl g)))]) (w1 := (wG ad cI cL qy lp sp pr ex (nI c) dy tk mk (nI mK) mS su (nI uK) uS sh mu co sr du bi bb)) (W' := ((wG ad cI cL qy lp sp pr ex (nI c) dy tk mk (nI mK) mS su (nI uK) uS sh mu co sr du bi bb) ++ [(o, .inl (cL, 1, .inr (.inl g)))])) (As := [.int v]) (rest := [.int 0, .ref o]) ⟨hx, hb, hml, hown, hts⟩ (c_X1_surplusLeft_1 l hst D s.heap.size ad cI cL qy lp sp pr ex c dy tk mk mK mS su uK uS sh mu co sr du bi bb v hbad) (cwV 1 hts gL_surplusLeft_X1_surplusLeft rfl rfl rfl (by decide +kernel) ⟨(Nat.le_of_ble_eq_true rfl), (Nat.le_of_ble_eq_true rfl)⟩) hT hS hA hK hP hD [0, 1] rfl [0, 1, 2, 3, 4, 5, 6, 7, 8, 9, 10, 11, 12, 13, 14] [15] [1, 2, 3, 4, 5, 6, 7, 8, 9, 10, 11, 12, 13, 14, 15, 0] rfl (by decide) rfl (by decide) (by decide) rfl (by decide) 0 1 rfl rfl rfl rfl hl.1 rfl (Nat.le_of_ble_eq_true rfl) dL_surplusLeft_4 ⟨(Nat.le_of_ble_eq_true rfl), (Nat.le_of_ble_eq_true rfl)⟩ [1, 2, 3, 4, 5, 6, 7, 8, 9, 10, 11, 12, 13, 14, 15, 0] rfl (by decide) (fun E ce q9 H locs hE hP hD hS hce hcv hcl => ?_) (fun _ _ hok _ _ _ => hok.elim)
  have hE : E = IAE := hE
  subst hE
  refine vx_catch (name := IAE) hown [] (⟨0, 9, 12, 13⟩ : ExceptionTableEntry) [(⟨0, 9, 15, 15⟩ : ExceptionTableEntry)] (by rw [htab]; rfl) (fun z hz => absurd hz List.not_mem_nil) (by decide) (by decide) (hts _ hL_surplusLeft__classLink_RL_13_IAE) (va_Nw.use rfl hT.2.2.1) hce hcv hcl ?_
  refine lv_astore_n (lv' := [(3, .ref q9), (0, .ref (ad 0)), (1, .int v), (2, .ref o)]) hx hb dL_surplusLeft_12 rfl hl (by decide) rfl (fun ls hl => ?_)
  refine lv_iconst (v := 1) hx hb dL_surplusLeft_13 (by decide) ?_
  exact ge_i hx hb hr hlocks rfl hK hP hD hS trivial (Nat.le_of_ble_eq_true rfl) (Nat.le_of_ble_eq_true rfl) dL_surplusLeft_14
theorem hL_surplusLeft__classLink_RL_15_ISE : Cond.classLink RL 15 ISE ∈ wsL_surplusLeft := by decide +kernel
set_option maxHeartbeats 4000000 in
set_option maxRecDepth 100000 in
theorem c_L_surplusLeft_2 (l : Launch) (hst : l.stackTraces = false) (D : va_G) (sz : Nat) (ad : Nat → Nat) (cI cL : ClassId) (qy lp sp : Int32) (pr ex : Nat → Int32) (c : Nat) (dy tk mk : Nat → Int32) (mK : Nat) (mS : Int32) (su : Nat → Int32) (uK : Nat) (uS : Int32) (sh mu co sr : Nat → Int32) (du bi : Nat → Int64) (bb : Int64) (o : Nat) (g : Nat → Int64) (j : Nat) (hj : j < 20) (hbad : ¬ j < c) (hc : c ≤ 20) : gHi l yL_surplusLeft wsL_surplusLeft ({ frames := 10, cells := 2, slots := 12, locals := 174 } : Room) D [(cI, .int), (cL, .long)] [.ref (ad 0), .int (nI j), .ref o] ((wG ad cI cL qy lp sp pr ex (nI c) dy tk mk (nI mK) mS su (nI uK) uS sh mu co sr du bi bb) ++ [(o, .inl (cL, 1, .inr (.inl g)))]) ((wG ad cI cL qy lp sp pr ex (nI c) dy tk mk (nI mK) mS su (nI uK) uS sh mu co sr du bi bb) ++ [(o, .inl (cL, 1, .inr (.inl g)))]) 2 True 2 12 sz := by
  refine gmh_i (cc := cL_surplusLeft) (maxL := 4) (hh := [(0, 9, 12, 13), (0, 9, 15, 15)]) (by decide) rfl (Nat.le_of_ble_eq_true rfl) ?_
  intro pg en s m args below meth cd A ls hx hb hr hml hown hts hlocks hA hK hP hD hT htab hl
  have hl : lv_has ls 4 [(0, .ref (ad 0)), (1, .int (nI j)), (2, .ref o)] := hl
  have hS : va_S A s.heap s.heap [] := va_S.rf
  refine lv_aload_n hx hb dL_surplusLeft_0 rfl (lv_at hl 2 rfl) ?_
  refine lv_iconst (v := 0) hx hb dL_surplusLeft_1 (by decide) ?_
  refine lv_aload_n hx hb dL_surplusLeft_2 rfl (lv_at hl 0 rfl) ?_
  refine lv_iload_n hx hb dL_surplusLeft_3 rfl (lv_at hl 1 rfl) ?_
  refine ghV_i (wc := (wG ad cI cL qy lp sp pr ex (nI c) dy tk mk (nI mK) mS su (nI uK) uS sh mu co sr du bi bb)) (wr := [(o, .inl (cL, 1, .inr (.inl g)))]) (w1 := (wG ad cI cL qy lp sp pr ex (nI c) dy tk mk (nI mK) mS su (nI uK) uS sh mu co sr du bi bb)) (W' := ((wG ad cI cL qy lp sp pr ex (nI c) dy tk mk (nI mK) mS su (nI uK) uS sh mu co sr du bi bb) ++ [(o, .inl (cL, 1, .inr (.inl g)))])) (As := [.int (nI j)]) (rest := [.int 0, .ref o]) ⟨hx, hb, hml, hown, hts⟩ (c_X1_surplusLeft_2 l hst D s.heap.size ad cI cL qy lp sp pr ex c dy tk mk mK mS su uK uS sh mu co sr du bi bb j hj hbad hc) (cwV 1 hts gL_surplusLeft_X1_surplusLeft rfl rfl rfl (by decide +kernel) ⟨(Nat.le_of_ble_eq_true rfl), (Nat.le_of_ble_eq_true rfl)⟩) hT hS hA hK hP hD [0, 1] rfl [0, 1, 2, 3, 4, 5, 6, 7, 8, 9, 10, 11, 12, 13, 14] [15] [1, 2, 3, 4, 5, 6, 7, 8, 9, 10, 11, 12, 13, 14, 15, 0] rfl (by decide) rfl (by decide) (by decide) rfl (by decide) 0 1 rfl rfl rfl rfl hl.1 rfl (Nat.le_of_ble_eq_true rfl) dL_surplusLeft_4 ⟨(Nat.le_of_ble_eq_true rfl), (Nat.le_of_ble_eq_true rfl)⟩ [1, 2, 3, 4, 5, 6, 7, 8, 9, 10, 11, 12, 13, 14, 15, 0] rfl (by decide) (fun E ce q9 H locs hE hP hD hS hce hcv hcl => ?_) (fun _ _ hok _ _ _ => hok.elim)
  have hE : E = ISE := hE
  subst hE
  refine vx_catch (name := ISE) hown [(⟨0, 9, 12, 13⟩ : ExceptionTableEntry)] (⟨0, 9, 15, 15⟩ : ExceptionTableEntry) [] (by rw [htab]; rfl) (fun z hz => by cases hz with | head => exact Or.inr ⟨by decide, IAE, (hts _ hL_surplusLeft__classLink_RL_13_IAE), hT.2.2.2.2.2.2⟩ | tail _ h => exact absurd h List.not_mem_nil) (by decide) (by decide) (hts _ hL_surplusLeft__classLink_RL_15_ISE) (va_Nw.use rfl hT.2.2.2.1) hce hcv hcl ?_
  refine lv_astore_n (lv' := [(3, .ref q9), (0, .ref (ad 0)), (1, .int (nI j)), (2, .ref o)]) hx hb dL_surplusLeft_15 rfl hl (by decide) rfl (fun ls hl => ?_)
  refine lv_iconst (v := 2) hx hb dL_surplusLeft_16 (by decide) ?_
  exact ge_i hx hb hr hlocks rfl hK hP hD hS trivial (Nat.le_of_ble_eq_true rfl) (Nat.le_of_ble_eq_true rfl) dL_surplusLeft_17
