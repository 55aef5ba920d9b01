theorem hwX1_requireRange_IAE : ∀ q ∈ (vx_atS RX1 132 IAE ["java/lang/RuntimeException", "java/lang/Exception"]).filter goodWord, q ∈ wsX1_requireRange := by decide +kernel
theorem hX1_requireRange__classLink_RX1_128_IAE : Cond.classLink RX1 128 IAE ∈ wsX1_requireRange := by decide +kernel
theorem hX1_requireRange__initialized_IAE : Cond.initialized IAE ∈ wsX1_requireRange := by decide +kernel
set_option maxHeartbeats 4000000 in
set_option maxRecDepth 100000 in
theorem c_X1_requireRange (l : Launch) (hst : l.stackTraces = false) (D : va_G) (sz : Nat) (cI cL : ClassId) (v lo hi : Int32)  : gTv l yX1_requireRange wsX1_requireRange ({ frames := 6, cells := 1, slots := 6, locals := 90 } : Room) D [(cI, .int), (cL, .long)] [.int v, .int lo, .int hi] [] [] (inR v lo hi) (fun E => E = IAE ∧ ¬ inR v lo hi) 1 6 sz := by
  refine gmx_v (cc := cX1_requireRange) (maxL := 3) (by decide) rfl (Nat.le_of_ble_eq_true rfl) ?_
  intro pg en s m args below meth cd A ls hx hb hr hml hown hts hlocks hin hA hK hP hD hT hnx hl
  have hl : lv_has ls 3 [(0, .int v), (1, .int lo), (2, .int hi)] := hl
  have hS : va_S A s.heap s.heap [] := va_S.rf
  refine lv_iload_n hx hb dX1_requireRange_0 rfl (lv_at hl 0 rfl) ?_
  refine lv_iload_n hx hb dX1_requireRange_1 rfl (lv_at hl 1 rfl) ?_
  refine lv_icmp_lt (tgt := 10) hx hb dX1_requireRange_2 (by decide) (fun c2 => ?_) (fun c2 => ?_)
  · exact gx_thr (cls := IAE) (text := "an argument is out of range") (ik := 128) (is := 130) (ic := 132) hx hb hst hown (by decide +kernel) (hts _ hX1_requireRange__classLink_RX1_128_IAE) (hts _ hX1_requireRange__initialized_IAE) (by decide) hT.2.2.1 (fun q hq => hts q (hwX1_requireRange_IAE q hq)) gt_a1 gt_g1 hT hK hP hD hS (hl.1.trans hml.symm) dX1_requireRange_10 dX1_requireRange_13 dX1_requireRange_14 dX1_requireRange_16 dX1_requireRange_19 hnx (Nat.le_of_ble_eq_true rfl) (Nat.le_of_ble_eq_true rfl) (Nat.le_of_ble_eq_true rfl) (Nat.le_of_ble_eq_true rfl) hlocks (⟨rfl, fun z => z.1 c2⟩) (Nat.le_of_ble_eq_true rfl) (Nat.le_of_ble_eq_true rfl)
  · refine lv_iload_n hx hb dX1_requireRange_5 rfl (lv_at hl 0 rfl) ?_
    refine lv_iload_n hx hb dX1_requireRange_6 rfl (lv_at hl 2 rfl) ?_
    refine lv_icmp_le (tgt := 20) hx hb dX1_requireRange_7 (by decide) (fun c7 => ?_) (fun c7 => ?_)
    · exact gex_v hx hb hr hlocks hK hP hD hS (⟨c2, c7⟩) (Nat.le_of_ble_eq_true rfl) (Nat.le_of_ble_eq_true rfl) dX1_requireRange_20
    · exact gx_thr (cls := IAE) (text := "an argument is out of range") (ik := 128) (is := 130) (ic := 132) hx hb hst hown (by decide +kernel) (hts _ hX1_requireRange__classLink_RX1_128_IAE) (hts _ hX1_requireRange__initialized_IAE) (by decide) hT.2.2.1 (fun q hq => hts q (hwX1_requireRange_IAE q hq)) gt_a1 gt_g1 hT hK hP hD hS (hl.1.trans hml.symm) dX1_requireRange_10 dX1_requireRange_13 dX1_requireRange_14 dX1_requireRange_16 dX1_requireRange_19 hnx (Nat.le_of_ble_eq_true rfl) (Nat.le_of_ble_eq_true rfl) (Nat.le_of_ble_eq_true rfl) (Nat.le_of_ble_eq_true rfl) hlocks (⟨rfl, fun z => c7 z.2⟩) (Nat.le_of_ble_eq_true rfl) (Nat.le_of_ble_eq_true rfl)
set_option maxHeartbeats 4000000 in
set_option maxRecDepth 100000 in
theorem c_X1_requireYear (l : Launch) (hst : l.stackTraces = false) (D : va_G) (sz : Nat) (cI cL : ClassId) (v : Int32)  : gTv l yX1_requireYear wsX1_requireYear ({ frames := 7, cells := 1, slots := 6, locals := 112 } : Room) D [(cI, .int), (cL, .long)] [.int v] [] [] (inR v 0 19) (fun E => E = IAE ∧ ¬ inR v 0 19) 1 6 sz := by
  refine gmx_v (cc := cX1_requireYear) (maxL := 1) (by decide) rfl (Nat.le_of_ble_eq_true rfl) ?_
  intro pg en s m args below meth cd A ls hx hb hr hml hown hts hlocks hin hA hK hP hD hT hnx hl
  have hl : lv_has ls 1 [(0, .int v)] := hl
  have hS : va_S A s.heap s.heap [] := va_S.rf
  refine lv_iload_n hx hb dX1_requireYear_0 rfl (lv_at hl 0 rfl) ?_
  refine lv_iconst (v := 0) hx hb dX1_requireYear_1 (by decide) ?_
  refine lv_bipush (v := 19) hx hb dX1_requireYear_2 (by decide) ?_
  refine gxS_v (wc := []) (wr := []) (w1 := []) (W' := []) (As := [.int v, .int 0, .int 19]) (rest := []) ⟨hx, hb, hml, hown, hts⟩ (c_X1_requireRange l hst D s.heap.size cI cL v 0 19) (va_cwS 3 hts gX1_requireYear_X1_requireRange rfl rfl rfl (by decide +kernel) ⟨(Nat.le_of_ble_eq_true rfl), (Nat.le_of_ble_eq_true rfl)⟩) hT hS hA hK hP hD [0, 1] rfl [] [] [] rfl (by decide) rfl (by decide) (by decide) rfl (by decide) rfl hl.1 rfl (Nat.le_of_ble_eq_true rfl) dX1_requireYear_4 ⟨(Nat.le_of_ble_eq_true rfl), (Nat.le_of_ble_eq_true rfl)⟩ hnx hlocks (fun _ h => h) (Nat.le_of_ble_eq_true rfl) (Nat.le_of_ble_eq_true rfl) [] rfl (by decide) (fun H locs hok hP hD hS => ?_)
  exact gex_v hx hb hr hlocks hK hP hD hS hok (Nat.le_of_ble_eq_true rfl) (Nat.le_of_ble_eq_true rfl) dX1_requireYear_7
set_option maxHeartbeats 4000000 in
set_option maxRecDepth 100000 in
theorem c_X1_requireDay (l : Launch) (hst : l.stackTraces = false) (D : va_G) (sz : Nat) (cI cL : ClassId) (v : Int32)  : gTv l yX1_requireDay wsX1_requireDay ({ frames := 7, cells := 1, slots := 6, locals := 112 } : Room) D [(cI, .int), (cL, .long)] [.int v] [] [] (inR v 0 359) (fun E => E = IAE ∧ ¬ inR v 0 359) 1 6 sz := by
  refine gmx_v (cc := cX1_requireDay) (maxL := 1) (by decide) rfl (Nat.le_of_ble_eq_true rfl) ?_
  intro pg en s m args below meth cd A ls hx hb hr hml hown hts hlocks hin hA hK hP hD hT hnx hl
  have hl : lv_has ls 1 [(0, .int v)] := hl
  have hS : va_S A s.heap s.heap [] := va_S.rf
  refine lv_iload_n hx hb dX1_requireDay_0 rfl (lv_at hl 0 rfl) ?_
  refine lv_iconst (v := 0) hx hb dX1_requireDay_1 (by decide) ?_
  refine lv_sipush (v := 359) hx hb dX1_requireDay_2 (by decide) ?_
  refine gxS_v (wc := []) (wr := []) (w1 := []) (W' := []) (As := [.int v, .int 0, .int 359]) (rest := []) ⟨hx, hb, hml, hown, hts⟩ (c_X1_requireRange l hst D s.heap.size cI cL v 0 359) (va_cwS 3 hts gX1_requireDay_X1_requireRange rfl rfl rfl (by decide +kernel) ⟨(Nat.le_of_ble_eq_true rfl), (Nat.le_of_ble_eq_true rfl)⟩) hT hS hA hK hP hD [0, 1] rfl [] [] [] rfl (by decide) rfl (by decide) (by decide) rfl (by decide) rfl hl.1 rfl (Nat.le_of_ble_eq_true rfl) dX1_requireDay_5 ⟨(Nat.le_of_ble_eq_true rfl), (Nat.le_of_ble_eq_true rfl)⟩ hnx hlocks (fun _ h => h) (Nat.le_of_ble_eq_true rfl) (Nat.le_of_ble_eq_true rfl) [] rfl (by decide) (fun H locs hok hP hD hS => ?_)
  exact gex_v hx hb hr hlocks hK hP hD hS hok (Nat.le_of_ble_eq_true rfl) (Nat.le_of_ble_eq_true rfl) dX1_requireDay_8
set_option maxHeartbeats 4000000 in
set_option maxRecDepth 100000 in
theorem c_X1_requireDays (l : Launch) (hst : l.stackTraces = false) (D : va_G) (sz : Nat) (cI cL : ClassId) (v w : Int32)  : gTv l yX1_requireDays wsX1_requireDays ({ frames := 8, cells := 2, slots := 12, locals := 132 } : Room) D [(cI, .int), (cL, .long)] [.int v, .int w] [] [] (inR v 0 359 ∧ inR w v 359) (fun E => E = IAE ∧ ¬ (inR v 0 359 ∧ inR w v 359)) 2 12 sz := by
  refine gmx_v (cc := cX1_requireDays) (maxL := 2) (by decide) rfl (Nat.le_of_ble_eq_true rfl) ?_
  intro pg en s m args below meth cd A ls hx hb hr hml hown hts hlocks hin hA hK hP hD hT hnx hl
  have hl : lv_has ls 2 [(0, .int v), (1, .int w)] := hl
  have hS : va_S A s.heap s.heap [] := va_S.rf
  refine lv_iload_n hx hb dX1_requireDays_0 rfl (lv_at hl 0 rfl) ?_
  refine gxS_v (wc := []) (wr := []) (w1 := []) (W' := []) (As := [.int v]) (rest := []) ⟨hx, hb, hml, hown, hts⟩ (c_X1_requireDay l hst D s.heap.size cI cL v) (va_cwS 1 hts gX1_requireDays_X1_requireDay rfl rfl rfl (by decide +kernel) ⟨(Nat.le_of_ble_eq_true rfl), (Nat.le_of_ble_eq_true rfl)⟩) hT hS hA hK hP hD [0, 1] rfl [] [] [] rfl (by decide) rfl (by decide) (by decide) rfl (by decide) rfl hl.1 rfl (Nat.le_of_ble_eq_true rfl) dX1_requireDays_1 ⟨(Nat.le_of_ble_eq_true rfl), (Nat.le_of_ble_eq_true rfl)⟩ hnx hlocks (fun _ h => ⟨h.1, fun z => h.2 z.1⟩) (Nat.le_of_ble_eq_true rfl) (Nat.le_of_ble_eq_true rfl) [] rfl (by decide) (fun H locs h1 hP hD hS => ?_)
  refine lv_iload_n hx hb dX1_requireDays_4 rfl (lv_at hl 1 rfl) ?_
  refine lv_iload_n hx hb dX1_requireDays_5 rfl (lv_at hl 0 rfl) ?_
  refine lv_sipush (v := 359) hx hb dX1_requireDays_6 (by decide) ?_
  refine gxS_v (wc := []) (wr := []) (w1 := []) (W' := []) (As := [.int w, .int v, .int 359]) (rest := []) ⟨hx, hb, hml, hown, hts⟩ (c_X1_requireRange l hst D H.size cI cL w v 359) (va_cwS 3 hts gX1_requireDays_X1_requireRange rfl rfl rfl (by decide +kernel) ⟨(Nat.le_of_ble_eq_true rfl), (Nat.le_of_ble_eq_true rfl)⟩) hT hS hA hK hP hD [0, 1] rfl [] [] [] rfl (by decide) rfl (by decide) (by decide) rfl (by decide) rfl hl.1 rfl (Nat.le_of_ble_eq_true rfl) dX1_requireDays_9 ⟨(Nat.le_of_ble_eq_true rfl), (Nat.le_of_ble_eq_true rfl)⟩ hnx hlocks (fun _ h => ⟨h.1, fun z => h.2 z.2⟩) (Nat.le_of_ble_eq_true rfl) (Nat.le_of_ble_eq_true rfl) [] rfl (by decide) (fun H locs h2 hP hD hS => ?_)
  exact gex_v hx hb hr hlocks hK hP hD hS (⟨h1, h2⟩) (Nat.le_of_ble_eq_true rfl) (Nat.le_of_ble_eq_true rfl) dX1_requireDays_12
theorem inX1_requireClosedYear_X1 : ∀ q ∈ wsX10, q ∈ wsX1_requireClosedYear := by decide +kernel
theorem hX1_requireClosedYear__fieldLink_RX1_103_MakeupGas_closedYears_I_ : Cond.fieldLink RX1 103 "MakeupGas" "closedYears" "I" ∈ wsX1_requireClosedYear := by decide +kernel
theorem hwX1_requireClosedYear_ISE : ∀ q ∈ (vx_atS RX1 139 ISE ["java/lang/RuntimeException", "java/lang/Exception"]).filter goodWord, q ∈ wsX1_requireClosedYear := by decide +kernel
theorem hX1_requireClosedYear__classLink_RX1_135_ISE : Cond.classLink RX1 135 ISE ∈ wsX1_requireClosedYear := by decide +kernel
theorem hX1_requireClosedYear__initialized_ISE : Cond.initialized ISE ∈ wsX1_requireClosedYear := by decide +kernel
set_option maxHeartbeats 4000000 in
set_option maxRecDepth 100000 in
theorem c_X1_requireClosedYear (l : Launch) (hst : l.stackTraces = false) (D : va_G) (sz : Nat) (ad : Nat → Nat) (cI cL : ClassId) (qy lp sp : Int32) (pr ex : Nat → Int32) (c : Nat) (dy tk mk : Nat → Int32) (mK : Nat) (mS : Int32) (su : Nat → Int32) (uK : Nat) (uS : Int32) (sh mu co sr : Nat → Int32) (du bi : Nat → Int64) (bb : Int64) (v : Int32)  : gTv l yX1_requireClosedYear wsX1_requireClosedYear ({ frames := 8, cells := 2, slots := 12, locals := 132 } : Room) D [(cI, .int), (cL, .long)] [.ref (ad 0), .int v] (wG ad cI cL qy lp sp pr ex (nI c) dy tk mk (nI mK) mS su (nI uK) uS sh mu co sr du bi bb) (wG ad cI cL qy lp sp pr ex (nI c) dy tk mk (nI mK) mS su (nI uK) uS sh mu co sr du bi bb) (inR v 0 19 ∧ v < nI c) (fun E => (E = IAE ∧ ¬ inR v 0 19) ∨ (E = ISE ∧ inR v 0 19 ∧ ¬ v < nI c)) 2 12 sz := by
  refine gmx_v (cc := cX1_requireClosedYear) (maxL := 2) (by decide) rfl (Nat.le_of_ble_eq_true rfl) ?_
  intro pg en s m args below meth cd A ls hx hb hr hml hown hts hlocks hin hA hK hP hD hT hnx hl
  have hl : lv_has ls 2 [(0, .ref (ad 0)), (1, .int v)] := hl
  have hS : va_S A s.heap s.heap [] := va_S.rf
  refine lv_iload_n hx hb dX1_requireClosedYear_0 rfl (lv_at hl 1 rfl) ?_
  refine gxS_v (wc := []) (wr := [(ad 0, .inr (1, [.int qy, .int lp, .int sp, .ref (ad 1), .ref (ad 2), .int (nI c), .ref (ad 3), .ref (ad 4), .ref (ad 5), .ref (ad 6), .ref (ad 7), .ref (ad 8), .ref (ad 9), .ref (ad 10), .ref (ad 11), .ref (ad 12), .long bb])), (ad 1, .inl (cI, 20, .inl pr)), (ad 2, .inl (cI, 20, .inl ex)), (ad 3, .inl (cI, 360, .inl dy)), (ad 4, .inl (cI, 20, .inl tk)), (ad 5, .inr (0, [.ref (ad 13), .int (nI mK), .int mS])), (ad 6, .inr (0, [.ref (ad 14), .int (nI uK), .int uS])), (ad 7, .inl (cI, 20, .inl sh)), (ad 8, .inl (cI, 20, .inl mu)), (ad 9, .inl (cI, 20, .inl co)), (ad 10, .inl (cI, 20, .inl sr)), (ad 11, .inl (cL, 20, .inr (.inl du))), (ad 12, .inl (cL, 20, .inr (.inl bi))), (ad 13, .inl (cI, 20, .inl mk)), (ad 14, .inl (cI, 20, .inl su))]) (w1 := []) (W' := (wG ad cI cL qy lp sp pr ex (nI c) dy tk mk (nI mK) mS su (nI uK) uS sh mu co sr du bi bb)) (As := [.int v]) (rest := []) ⟨hx, hb, hml, hown, hts⟩ (c_X1_requireYear l hst D s.heap.size cI cL v) (va_cwS 1 hts gX1_requireClosedYear_X1_requireYear rfl rfl rfl (by decide +kernel) ⟨(Nat.le_of_ble_eq_true rfl), (Nat.le_of_ble_eq_true rfl)⟩) hT hS hA hK hP hD [0, 1] rfl [] [0, 1, 2, 3, 4, 5, 6, 7, 8, 9, 10, 11, 12, 13, 14] [0, 1, 2, 3, 4, 5, 6, 7, 8, 9, 10, 11, 12, 13, 14] rfl (by decide) rfl (by decide) (by decide) rfl (by decide) rfl hl.1 rfl (Nat.le_of_ble_eq_true rfl) dX1_requireClosedYear_1 ⟨(Nat.le_of_ble_eq_true rfl), (Nat.le_of_ble_eq_true rfl)⟩ hnx hlocks (fun _ h => Or.inl h) (Nat.le_of_ble_eq_true rfl) (Nat.le_of_ble_eq_true rfl) [0, 1, 2, 3, 4, 5, 6, 7, 8, 9, 10, 11, 12, 13, 14] rfl (by decide) (fun H locs h1 hP hD hS => ?_)
  refine lv_iload_n hx hb dX1_requireClosedYear_4 rfl (lv_at hl 1 rfl) ?_
  refine lv_aload_n hx hb dX1_requireClosedYear_5 rfl (lv_at hl 0 rfl) ?_
  refine va_get (D := D) (ci := 1) (C := RX1) (T := TX1) (N := 17) hx hb hts inX1_requireClosedYear_X1 hown hK hP 0 rfl rfl 5 (by decide) (hts _ hX1_requireClosedYear__fieldLink_RX1_103_MakeupGas_closedYears_I_) (fun _ h9 => h9) rfl dX1_requireClosedYear_6 ?_
  refine lv_icmp_lt (tgt := 22) hx hb dX1_requireClosedYear_9 (by decide) (fun c9 => ?_) (fun c9 => ?_)
  · exact gex_v hx hb hr hlocks hK hP hD hS (⟨h1, c9⟩) (Nat.le_of_ble_eq_true rfl) (Nat.le_of_ble_eq_true rfl) dX1_requireClosedYear_22
  · exact gx_thr (cls := ISE) (text := "the year is not closed") (ik := 135) (is := 137) (ic := 139) hx hb hst hown (by decide +kernel) (hts _ hX1_requireClosedYear__classLink_RX1_135_ISE) (hts _ hX1_requireClosedYear__initialized_ISE) (by decide) hT.2.2.2.1 (fun q hq => hts q (hwX1_requireClosedYear_ISE q hq)) gt_a2 gt_g2 hT hK hP hD hS (hl.1.trans hml.symm) dX1_requireClosedYear_12 dX1_requireClosedYear_15 dX1_requireClosedYear_16 dX1_requireClosedYear_18 dX1_requireClosedYear_21 hnx (Nat.le_of_ble_eq_true rfl) (Nat.le_of_ble_eq_true rfl) (Nat.le_of_ble_eq_true rfl) (Nat.le_of_ble_eq_true rfl) hlocks (Or.inr ⟨rfl, h1, c9⟩) (Nat.le_of_ble_eq_true rfl) (Nat.le_of_ble_eq_true rfl)
theorem inX1_requireYearGoingOn_X1 : ∀ q ∈ wsX10, q ∈ wsX1_requireYearGoingOn := by decide +kernel
theorem hX1_requireYearGoingOn__fieldLink_RX1_103_MakeupGas_closedYears_I_ : Cond.fieldLink RX1 103 "MakeupGas" "closedYears" "I" ∈ wsX1_requireYearGoingOn := by decide +kernel
theorem hwX1_requireYearGoingOn_ISE : ∀ q ∈ (vx_atS RX1 139 ISE ["java/lang/RuntimeException", "java/lang/Exception"]).filter goodWord, q ∈ wsX1_requireYearGoingOn := by decide +kernel
theorem hX1_requireYearGoingOn__classLink_RX1_135_ISE : Cond.classLink RX1 135 ISE ∈ wsX1_requireYearGoingOn := by decide +kernel
theorem hX1_requireYearGoingOn__initialized_ISE : Cond.initialized ISE ∈ wsX1_requireYearGoingOn := by decide +kernel
set_option maxHeartbeats 4000000 in
set_option maxRecDepth 100000 in
theorem c_X1_requireYearGoingOn (l : Launch) (hst : l.stackTraces = false) (D : va_G) (sz : Nat) (ad : Nat → Nat) (cI cL : ClassId) (qy lp sp : Int32) (pr ex : Nat → Int32) (c : Nat) (dy tk mk : Nat → Int32) (mK : Nat) (mS : Int32) (su : Nat → Int32) (uK : Nat) (uS : Int32) (sh mu co sr : Nat → Int32) (du bi : Nat → Int64) (bb : Int64)  : gTv l yX1_requireYearGoingOn wsX1_requireYearGoingOn ({ frames := 6, cells := 1, slots := 6, locals := 90 } : Room) D [(cI, .int), (cL, .long)] [.ref (ad 0)] (wG ad cI cL qy lp sp pr ex (nI c) dy tk mk (nI mK) mS su (nI uK) uS sh mu co sr du bi bb) (wG ad cI cL qy lp sp pr ex (nI c) dy tk mk (nI mK) mS su (nI uK) uS sh mu co sr du bi bb) (nI c < 20) (fun E => E = ISE ∧ ¬ nI c < 20) 1 6 sz := by
  refine gmx_v (cc := cX1_requireYearGoingOn) (maxL := 1) (by decide) rfl (Nat.le_of_ble_eq_true rfl) ?_
  intro pg en s m args below meth cd A ls hx hb hr hml hown hts hlocks hin hA hK hP hD hT hnx hl
  have hl : lv_has ls 1 [(0, .ref (ad 0))] := hl
  have hS : va_S A s.heap s.heap [] := va_S.rf
  refine lv_aload_n hx hb dX1_requireYearGoingOn_0 rfl (lv_at hl 0 rfl) ?_
  refine va_get (D := D) (ci := 1) (C := RX1) (T := TX1) (N := 17) hx hb hts inX1_requireYearGoingOn_X1 hown hK hP 0 rfl rfl 5 (by decide) (hts _ hX1_requireYearGoingOn__fieldLink_RX1_103_MakeupGas_closedYears_I_) (fun _ h9 => h9) rfl dX1_requireYearGoingOn_1 ?_
  refine lv_bipush (v := 20) hx hb dX1_requireYearGoingOn_4 (by decide) ?_
  refine lv_icmp_lt (tgt := 19) hx hb dX1_requireYearGoingOn_6 (by decide) (fun c1 => ?_) (fun c1 => ?_)
  · exact gex_v hx hb hr hlocks hK hP hD hS c1 (Nat.le_of_ble_eq_true rfl) (Nat.le_of_ble_eq_true rfl) dX1_requireYearGoingOn_19
  · exact gx_thr (cls := ISE) (text := "all years are closed") (ik := 135) (is := 140) (ic := 139) hx hb hst hown (by decide +kernel) (hts _ hX1_requireYearGoingOn__classLink_RX1_135_ISE) (hts _ hX1_requireYearGoingOn__initialized_ISE) (by decide) hT.2.2.2.1 (fun q hq => hts q (hwX1_requireYearGoingOn_ISE q hq)) gt_a2 gt_g2 hT hK hP hD hS (hl.1.trans hml.symm) dX1_requireYearGoingOn_9 dX1_requireYearGoingOn_12 dX1_requireYearGoingOn_13 dX1_requireYearGoingOn_15 dX1_requireYearGoingOn_18 hnx (Nat.le_of_ble_eq_true rfl) (Nat.le_of_ble_eq_true rfl) (Nat.le_of_ble_eq_true rfl) (Nat.le_of_ble_eq_true rfl) hlocks (⟨rfl, c1⟩) (Nat.le_of_ble_eq_true rfl) (Nat.le_of_ble_eq_true rfl)
theorem inX1_requireUnused_X1 : ∀ q ∈ wsX10, q ∈ wsX1_requireUnused := by decide +kernel
theorem hX1_requireUnused__fieldLink_RX1_103_MakeupGas_closedYears_I_ : Cond.fieldLink RX1 103 "MakeupGas" "closedYears" "I" ∈ wsX1_requireUnused := by decide +kernel
theorem hwX1_requireUnused_ISE : ∀ q ∈ (vx_atS RX1 139 ISE ["java/lang/RuntimeException", "java/lang/Exception"]).filter goodWord, q ∈ wsX1_requireUnused := by decide +kernel
theorem hX1_requireUnused__classLink_RX1_135_ISE : Cond.classLink RX1 135 ISE ∈ wsX1_requireUnused := by decide +kernel
theorem hX1_requireUnused__initialized_ISE : Cond.initialized ISE ∈ wsX1_requireUnused := by decide +kernel
theorem hX1_requireUnused__fieldLink_RX1_36_MakeupGas_takenPerYear_I_ : Cond.fieldLink RX1 36 "MakeupGas" "takenPerYear" "[I" ∈ wsX1_requireUnused := by decide +kernel
set_option maxHeartbeats 4000000 in
set_option maxRecDepth 100000 in
theorem c_X1_requireUnused (l : Launch) (hst : l.stackTraces = false) (D : va_G) (sz : Nat) (ad : Nat → Nat) (cI cL : ClassId) (qy lp sp : Int32) (pr ex : Nat → Int32) (c : Nat) (dy tk mk : Nat → Int32) (mK : Nat) (mS : Int32) (su : Nat → Int32) (uK : Nat) (uS : Int32) (sh mu co sr : Nat → Int32) (du bi : Nat → Int64) (bb : Int64)  : gTv l yX1_requireUnused wsX1_requireUnused ({ frames := 6, cells := 1, slots := 6, locals := 90 } : Room) D [(cI, .int), (cL, .long)] [.ref (ad 0)] (wG ad cI cL qy lp sp pr ex (nI c) dy tk mk (nI mK) mS su (nI uK) uS sh mu co sr du bi bb) (wG ad cI cL qy lp sp pr ex (nI c) dy tk mk (nI mK) mS su (nI uK) uS sh mu co sr du bi bb) (¬ 0 < nI c ∧ tk 0 ≤ 0) (fun E => E = ISE ∧ ¬ (¬ 0 < nI c ∧ tk 0 ≤ 0)) 1 6 sz := by
  refine gmx_v (cc := cX1_requireUnused) (maxL := 1) (by decide) rfl (Nat.le_of_ble_eq_true rfl) ?_
  intro pg en s m args below meth cd A ls hx hb hr hml hown hts hlocks hin hA hK hP hD hT hnx hl
  have hl : lv_has ls 1 [(0, .ref (ad 0))] := hl
  have hS : va_S A s.heap s.heap [] := va_S.rf
  refine lv_aload_n hx hb dX1_requireUnused_0 rfl (lv_at hl 0 rfl) ?_
  refine va_get (D := D) (ci := 1) (C := RX1) (T := TX1) (N := 17) hx hb hts inX1_requireUnused_X1 hown hK hP 0 rfl rfl 5 (by decide) (hts _ hX1_requireUnused__fieldLink_RX1_103_MakeupGas_closedYears_I_) (fun _ h9 => h9) rfl dX1_requireUnused_1 ?_
  refine lv_if_gt (tgt := 16) hx hb dX1_requireUnused_4 (by decide) (fun c1 => ?_) (fun c1 => ?_)
  · exact gx_thr (cls := ISE) (text := "something was taken, or a year is closed") (ik := 135) (is := 142) (ic := 139) hx hb hst hown (by decide +kernel) (hts _ hX1_requireUnused__classLink_RX1_135_ISE) (hts _ hX1_requireUnused__initialized_ISE) (by decide) hT.2.2.2.1 (fun q hq => hts q (hwX1_requireUnused_ISE q hq)) gt_a2 gt_g2 hT hK hP hD hS (hl.1.trans hml.symm) dX1_requireUnused_16 dX1_requireUnused_19 dX1_requireUnused_20 dX1_requireUnused_22 dX1_requireUnused_25 hnx (Nat.le_of_ble_eq_true rfl) (Nat.le_of_ble_eq_true rfl) (Nat.le_of_ble_eq_true rfl) (Nat.le_of_ble_eq_true rfl) hlocks (⟨rfl, fun z => z.1 c1⟩) (Nat.le_of_ble_eq_true rfl) (Nat.le_of_ble_eq_true rfl)
  · refine lv_aload_n hx hb dX1_requireUnused_7 rfl (lv_at hl 0 rfl) ?_
    refine va_get (D := D) (ci := 1) (C := RX1) (T := TX1) (N := 17) hx hb hts inX1_requireUnused_X1 hown hK hP 0 rfl rfl 7 (by decide) (hts _ hX1_requireUnused__fieldLink_RX1_36_MakeupGas_takenPerYear_I_) (fun _ h9 => h9) rfl dX1_requireUnused_8 ?_
    refine lv_iconst (v := 0) hx hb dX1_requireUnused_11 (by decide) ?_
    refine ga_iald (j := 0) hx hb hK hP 4 0 rfl rfl (by decide) (by decide) dX1_requireUnused_12 ?_
    refine lv_if_le (tgt := 26) hx hb dX1_requireUnused_13 (by decide) (fun c2 => ?_) (fun c2 => ?_)
    · exact gex_v hx hb hr hlocks hK hP hD hS (⟨c1, c2⟩) (Nat.le_of_ble_eq_true rfl) (Nat.le_of_ble_eq_true rfl) dX1_requireUnused_26
    · exact gx_thr (cls := ISE) (text := "something was taken, or a year is closed") (ik := 135) (is := 142) (ic := 139) hx hb hst hown (by decide +kernel) (hts _ hX1_requireUnused__classLink_RX1_135_ISE) (hts _ hX1_requireUnused__initialized_ISE) (by decide) hT.2.2.2.1 (fun q hq => hts q (hwX1_requireUnused_ISE q hq)) gt_a2 gt_g2 hT hK hP hD hS (hl.1.trans hml.symm) dX1_requireUnused_16 dX1_requireUnused_19 dX1_requireUnused_20 dX1_requireUnused_22 dX1_requireUnused_25 hnx (Nat.le_of_ble_eq_true rfl) (Nat.le_of_ble_eq_true rfl) (Nat.le_of_ble_eq_true rfl) (Nat.le_of_ble_eq_true rfl) hlocks (⟨rfl, fun z => c2 z.2⟩) (Nat.le_of_ble_eq_true rfl) (Nat.le_of_ble_eq_true rfl)
theorem inX1_requireRoom_X1 : ∀ q ∈ wsX10, q ∈ wsX1_requireRoom := by decide +kernel
theorem hX1_requireRoom__fieldLink_RX1_33_MakeupGas_takenPerDay_I_ : Cond.fieldLink RX1 33 "MakeupGas" "takenPerDay" "[I" ∈ wsX1_requireRoom := by decide +kernel
theorem hwX1_requireRoom_ISE : ∀ q ∈ (vx_atS RX1 139 ISE ["java/lang/RuntimeException", "java/lang/Exception"]).filter goodWord, q ∈ wsX1_requireRoom := by decide +kernel
theorem hX1_requireRoom__classLink_RX1_135_ISE : Cond.classLink RX1 135 ISE ∈ wsX1_requireRoom := by decide +kernel
theorem hX1_requireRoom__initialized_ISE : Cond.initialized ISE ∈ wsX1_requireRoom := by decide +kernel
set_option maxHeartbeats 4000000 in
set_option maxRecDepth 100000 in
theorem c_X1_requireRoom (l : Launch) (hst : l.stackTraces = false) (D : va_G) (sz : Nat) (ad : Nat → Nat) (cI cL : ClassId) (qy lp sp : Int32) (pr ex : Nat → Int32) (c : Nat) (dy tk mk : Nat → Int32) (mK : Nat) (mS : Int32) (su : Nat → Int32) (uK : Nat) (uS : Int32) (sh mu co sr : Nat → Int32) (du bi : Nat → Int64) (bb : Int64) (a b : Nat) (q : Int32) (hab : a ≤ b) (hb3 : b < 360) : gTv l yX1_requireRoom wsX1_requireRoom ({ frames := 6, cells := 1, slots := 6, locals := 90 } : Room) D [(cI, .int), (cL, .long)] [.ref (ad 0), .int (nI a), .int (nI b), .int q] (wG ad cI cL qy lp sp pr ex (nI c) dy tk mk (nI mK) mS su (nI uK) uS sh mu co sr du bi bb) (wG ad cI cL qy lp sp pr ex (nI c) dy tk mk (nI mK) mS su (nI uK) uS sh mu co sr du bi bb) (∀ d, a ≤ d → d ≤ b → dy d + q ≤ 500) (fun E => E = ISE ∧ ¬ ∀ d, a ≤ d → d ≤ b → dy d + q ≤ 500) 1 6 sz := by
  refine gmx_v (cc := cX1_requireRoom) (maxL := 5) (by decide) rfl (Nat.le_of_ble_eq_true rfl) ?_
  intro pg en s m args below meth cd A ls hx hb hr hml hown hts hlocks hin hA hK hP hD hT hnx hl
  have hl : lv_has ls 5 [(0, .ref (ad 0)), (1, .int (nI a)), (2, .int (nI b)), (3, .int q)] := hl
  have hS : va_S A s.heap s.heap [] := va_S.rf
  refine lv_iload_n hx hb dX1_requireRoom_0 rfl (lv_at hl 1 rfl) ?_
  refine lv_istore (lv' := [(4, .int (nI a)), (0, .ref (ad 0)), (1, .int (nI a)), (2, .int (nI b)), (3, .int q)]) hx hb dX1_requireRoom_1 hl (by decide) rfl (fun ls hl => ?_)
  have lp_3 : ∀ (n i : Nat), i ≤ (b + 1) → (b + 1) < i + n → a ≤ i → (∀ d, a ≤ d → d < i → dy d + q ≤ 500) → ∀ (H : Heap) (locs : List Loc), va_P D vwCl (wG ad cI cL qy lp sp pr ex (nI c) dy tk mk (nI mK) mS su (nI uK) uS sh mu co sr du bi bb) H → va_D A (wG ad cI cL qy lp sp pr ex (nI c) dy tk mk (nI mK) mS su (nI uK) uS sh mu co sr du bi bb) → va_S A s.heap H locs → ∀ (ls : Array Slot), lv_has ls 5 [(0, .ref (ad 0)), (1, .int (nI a)), (2, .int (nI b)), (3, .int q), (4, .int (nI i))] → W pg l en ({ frames := 6, cells := 1, slots := 6, locals := 90 } : Room) s m args below meth cd H locs 0 0 (gFv (∀ d, a ≤ d → d ≤ b → dy d + q ≤ 500) (fun E => E = ISE ∧ ¬ ∀ d, a ≤ d → d ≤ b → dy d + q ≤ 500) below D [(cI, .int), (cL, .long)] (wG ad cI cL qy lp sp pr ex (nI c) dy tk mk (nI mK) mS su (nI uK) uS sh mu co sr du bi bb) (wG ad cI cL qy lp sp pr ex (nI c) dy tk mk (nI mK) mS su (nI uK) uS sh mu co sr du bi bb) A args s 1 6) (F0 m 3 ls []) := by
    intro n
    induction n with
    | zero => intro i h1 h2; exact absurd h2 (by omega)
    | succ n ih =>
      intro i hi hin2 hai hall H locs hP hD hS ls hl
      refine lv_iload hx hb dX1_requireRoom_3 (lv_at hl 4 rfl) ?_
      refine lv_iload_n hx hb dX1_requireRoom_5 rfl (lv_at hl 2 rfl) ?_
      refine lv_icmp_gt (tgt := 40) hx hb dX1_requireRoom_6 (by decide) (fun c6 => ?_) (fun c6 => ?_)
      · have hbi : ¬ i ≤ b := fun h => absurd c6 (Int32.not_lt.mpr (nI_le h (by omega)))
        exact gex_v hx hb hr hlocks hK hP hD hS (fun d h1 h2 => hall d h1 (by omega)) (Nat.le_of_ble_eq_true rfl) (Nat.le_of_ble_eq_true rfl) dX1_requireRoom_40
      · have hib : i ≤ b := Nat.not_lt.mp (fun h => c6 (nI_lt h (by omega)))
        have hi3 : i < 360 := by omega
        refine lv_aload_n hx hb dX1_requireRoom_9 rfl (lv_at hl 0 rfl) ?_
        refine va_get (D := D) (ci := 1) (C := RX1) (T := TX1) (N := 17) hx hb hts inX1_requireRoom_X1 hown hK hP 0 rfl rfl 6 (by decide) (hts _ hX1_requireRoom__fieldLink_RX1_33_MakeupGas_takenPerDay_I_) (fun _ h9 => h9) rfl dX1_requireRoom_10 ?_
        refine lv_iload hx hb dX1_requireRoom_13 (lv_at hl 4 rfl) ?_
        refine ga_iald (j := i) hx hb hK hP 3 0 rfl rfl hi3 (by decide) dX1_requireRoom_15 ?_
        refine lv_iload_n hx hb dX1_requireRoom_16 rfl (lv_at hl 3 rfl) ?_
        refine lv_iadd hx hb dX1_requireRoom_17 ?_
        refine lv_sipush (v := 500) hx hb dX1_requireRoom_18 (by decide) ?_
        refine lv_icmp_le (tgt := 34) hx hb dX1_requireRoom_21 (by decide) (fun c21 => ?_) (fun c21 => ?_)
        · refine lv_iinc (v := nI (i + 1)) (lv' := [(4, .int (nI (i + 1))), (0, .ref (ad 0)), (1, .int (nI a)), (2, .int (nI b)), (3, .int q)]) hx hb dX1_requireRoom_34 hl (k := 4) rfl (gi_1 _) (by decide) rfl (fun ls hl => ?_)
          refine lv_goto (tgt := 3) hx hb dX1_requireRoom_37 (by decide) ?_
          exact ih (i + 1) (by omega) (by omega) (by omega) (fun d h1 h2 => by rcases Nat.lt_or_ge d i with h | h; exact hall d h1 h; rw [show d = i by omega]; exact c21) _ _ hP hD hS ls (lv_sub hl [1, 2, 3, 4, 0] rfl)
        · exact gx_thr (cls := ISE) (text := "too much would be taken on a day") (ik := 135) (is := 144) (ic := 139) hx hb hst hown (by decide +kernel) (hts _ hX1_requireRoom__classLink_RX1_135_ISE) (hts _ hX1_requireRoom__initialized_ISE) (by decide) hT.2.2.2.1 (fun q hq => hts q (hwX1_requireRoom_ISE q hq)) gt_a2 gt_g2 hT hK hP hD hS (hl.1.trans hml.symm) dX1_requireRoom_24 dX1_requireRoom_27 dX1_requireRoom_28 dX1_requireRoom_30 dX1_requireRoom_33 hnx (Nat.le_of_ble_eq_true rfl) (Nat.le_of_ble_eq_true rfl) (Nat.le_of_ble_eq_true rfl) (Nat.le_of_ble_eq_true rfl) hlocks (⟨rfl, fun z => c21 (z i hai hib)⟩) (Nat.le_of_ble_eq_true rfl) (Nat.le_of_ble_eq_true rfl)
  exact lp_3 ((b + 1) + 1) a (by omega) (by omega) (Nat.le_refl a) (fun d h1 h2 => absurd h1 (by omega)) _ _ hP hD hS ls (lv_sub hl [1, 2, 3, 4, 0] rfl)
theorem inX1_addTakes_X1 : ∀ q ∈ wsX10, q ∈ wsX1_addTakes := by decide +kernel
theorem hX1_addTakes__fieldLink_RX1_36_MakeupGas_takenPerYear_I_ : Cond.fieldLink RX1 36 "MakeupGas" "takenPerYear" "[I" ∈ wsX1_addTakes := by decide +kernel
theorem hX1_addTakes__fieldLink_RX1_103_MakeupGas_closedYears_I_ : Cond.fieldLink RX1 103 "MakeupGas" "closedYears" "I" ∈ wsX1_addTakes := by decide +kernel
theorem hX1_addTakes__fieldLink_RX1_33_MakeupGas_takenPerDay_I_ : Cond.fieldLink RX1 33 "MakeupGas" "takenPerDay" "[I" ∈ wsX1_addTakes := by decide +kernel
set_option maxHeartbeats 4000000 in
set_option maxRecDepth 100000 in
theorem c_X1_addTakes (l : Launch) (D : va_G) (sz : Nat) (ad : Nat → Nat) (cI cL : ClassId) (qy lp sp : Int32) (pr ex : Nat → Int32) (c : Nat) (dy tk mk : Nat → Int32) (mK : Nat) (mS : Int32) (su : Nat → Int32) (uK : Nat) (uS : Int32) (sh mu co sr : Nat → Int32) (du bi : Nat → Int64) (bb : Int64) (a b : Nat) (q : Int32) (hab : a ≤ b) (hb3 : b < 360) (hc : c < 20) : gCv l yX1_addTakes wsX1_addTakes ({ frames := 0, cells := 0, slots := 0, locals := 0 } : Room) D [(cI, .int), (cL, .long)] [.ref (ad 0), .int (nI a), .int (nI b), .int q] (wG ad cI cL qy lp sp pr ex (nI c) dy tk mk (nI mK) mS su (nI uK) uS sh mu co sr du bi bb) (wG ad cI cL qy lp sp pr ex (nI c) (adF dy a (b + 1) q) (upd tk c (tk c + q * (nI b - nI a + 1))) mk (nI mK) mS su (nI uK) uS sh mu co sr du bi bb) True 0 0 sz := by
  refine gm_v (cc := cX1_addTakes) (maxL := 5) (by decide) rfl (Nat.le_of_ble_eq_true rfl) ?_
  intro pg en s m args below meth cd A ls hx hb hr hml hown hts hlocks hin hA hK hP hD hl
  have hl : lv_has ls 5 [(0, .ref (ad 0)), (1, .int (nI a)), (2, .int (nI b)), (3, .int q)] := hl
  have hS : va_S A s.heap s.heap [] := va_S.rf
  refine lv_iload_n hx hb dX1_addTakes_0 rfl (lv_at hl 1 rfl) ?_
  refine lv_istore (lv' := [(4, .int (nI a)), (0, .ref (ad 0)), (1, .int (nI a)), (2, .int (nI b)), (3, .int q)]) hx hb dX1_addTakes_1 hl (by decide) rfl (fun ls hl => ?_)
  have lp_3 : ∀ (n i : Nat), i ≤ (b + 1) → (b + 1) < i + n → a ≤ i → ∀ (H : Heap) (locs : List Loc), va_P D vwCl (wG ad cI cL qy lp sp pr ex (nI c) (adF dy a i q) tk mk (nI mK) mS su (nI uK) uS sh mu co sr du bi bb) H → va_D A (wG ad cI cL qy lp sp pr ex (nI c) (adF dy a i q) tk mk (nI mK) mS su (nI uK) uS sh mu co sr du bi bb) → va_S A s.heap H locs → ∀ (ls : Array Slot), lv_has ls 5 [(0, .ref (ad 0)), (1, .int (nI a)), (2, .int (nI b)), (3, .int q), (4, .int (nI i))] → W pg l en ({ frames := 0, cells := 0, slots := 0, locals := 0 } : Room) s m args below meth cd H locs 0 0 (gEv True below D [(cI, .int), (cL, .long)] (wG ad cI cL qy lp sp pr ex (nI c) (adF dy a (b + 1) q) (upd tk c (tk c + q * (nI b - nI a + 1))) mk (nI mK) mS su (nI uK) uS sh mu co sr du bi bb) A args s 0 0) (F0 m 3 ls []) := by
    intro n
    induction n with
    | zero => intro i h1 h2; exact absurd h2 (by omega)
    | succ n ih =>
      intro i hi hin2 hai H locs hP hD hS ls hl
      refine lv_iload hx hb dX1_addTakes_3 (lv_at hl 4 rfl) ?_
      refine lv_iload_n hx hb dX1_addTakes_5 rfl (lv_at hl 2 rfl) ?_
      refine lv_icmp_gt (tgt := 26) hx hb dX1_addTakes_6 (by decide) (fun c6 => ?_) (fun c6 => ?_)
      · have hbi : ¬ i ≤ b := fun h => absurd c6 (Int32.not_lt.mpr (nI_le h (by omega)))
        obtain rfl : i = b + 1 := by omega
        refine lv_aload_n hx hb dX1_addTakes_26 rfl (lv_at hl 0 rfl) ?_
        refine va_get (D := D) (ci := 1) (C := RX1) (T := TX1) (N := 17) hx hb hts inX1_addTakes_X1 hown hK hP 0 rfl rfl 7 (by decide) (hts _ hX1_addTakes__fieldLink_RX1_36_MakeupGas_takenPerYear_I_) (fun _ h9 => h9) rfl dX1_addTakes_27 ?_
        refine lv_aload_n hx hb dX1_addTakes_30 rfl (lv_at hl 0 rfl) ?_
        refine va_get (D := D) (ci := 1) (C := RX1) (T := TX1) (N := 17) hx hb hts inX1_addTakes_X1 hown hK hP 0 rfl rfl 5 (by decide) (hts _ hX1_addTakes__fieldLink_RX1_103_MakeupGas_closedYears_I_) (fun _ h9 => h9) rfl dX1_addTakes_31 ?_
        refine lv_dup2_11 hx hb dX1_addTakes_34 rfl rfl ?_
        refine ga_iald (j := c) hx hb hK hP 4 0 rfl rfl hc (by decide) dX1_addTakes_35 ?_
        refine lv_iload_n hx hb dX1_addTakes_36 rfl (lv_at hl 3 rfl) ?_
        refine lv_iload_n hx hb dX1_addTakes_37 rfl (lv_at hl 2 rfl) ?_
        refine lv_iload_n hx hb dX1_addTakes_38 rfl (lv_at hl 1 rfl) ?_
        refine lv_isub hx hb dX1_addTakes_39 ?_
        refine lv_iconst (v := 1) hx hb dX1_addTakes_40 (by decide) ?_
        refine lv_iadd hx hb dX1_addTakes_41 ?_
        refine lv_imul hx hb dX1_addTakes_42 ?_
        refine lv_iadd hx hb dX1_addTakes_43 ?_
        refine ga_iast (j := c) (ws' := (wG ad cI cL qy lp sp pr ex (nI c) (adF dy a (b + 1) q) (upd tk c ((tk c) + (q * (((nI b) - (nI a)) + 1)))) mk (nI mK) mS su (nI uK) uS sh mu co sr du bi bb)) hx hb hK hP hD hS 4 0 rfl rfl hc (by decide) dX1_addTakes_44 rfl (fun H locs hP hD hS => ?_)
        exact ge_v hx hb hr hlocks hK hP hD hS trivial (Nat.le_of_ble_eq_true rfl) (Nat.le_of_ble_eq_true rfl) dX1_addTakes_45
      · have hib : i ≤ b := Nat.not_lt.mp (fun h => c6 (nI_lt h (by omega)))
        have hi3 : i < 360 := by omega
        refine lv_aload_n hx hb dX1_addTakes_9 rfl (lv_at hl 0 rfl) ?_
        refine va_get (D := D) (ci := 1) (C := RX1) (T := TX1) (N := 17) hx hb hts inX1_addTakes_X1 hown hK hP 0 rfl rfl 6 (by decide) (hts _ hX1_addTakes__fieldLink_RX1_33_MakeupGas_takenPerDay_I_) (fun _ h9 => h9) rfl dX1_addTakes_10 ?_
        refine lv_iload hx hb dX1_addTakes_13 (lv_at hl 4 rfl) ?_
        refine lv_dup2_11 hx hb dX1_addTakes_15 rfl rfl ?_
        refine ga_iald (j := i) hx hb hK hP 3 0 rfl rfl hi3 (by decide) dX1_addTakes_16 ?_
        refine lv_iload_n hx hb dX1_addTakes_17 rfl (lv_at hl 3 rfl) ?_
        refine lv_iadd hx hb dX1_addTakes_18 ?_
        refine ga_iast (j := i) (ws' := (wG ad cI cL qy lp sp pr ex (nI c) (adF dy a (i + 1) q) tk mk (nI mK) mS su (nI uK) uS sh mu co sr du bi bb)) hx hb hK hP hD hS 3 0 rfl rfl hi3 (by decide) dX1_addTakes_19 (by rw [adF_s dy q hai]; rfl) (fun H locs hP hD hS => ?_)
        refine lv_iinc (v := nI (i + 1)) (lv' := [(4, .int (nI (i + 1))), (0, .ref (ad 0)), (1, .int (nI a)), (2, .int (nI b)), (3, .int q)]) hx hb dX1_addTakes_20 hl (k := 4) rfl (gi_1 _) (by decide) rfl (fun ls hl => ?_)
        refine lv_goto (tgt := 3) hx hb dX1_addTakes_23 (by decide) ?_
        exact ih (i + 1) (by omega) (by omega) (by omega) _ _ hP hD hS ls (lv_sub hl [1, 2, 3, 4, 0] rfl)
  rw [← adF_0 dy a q] at hP hD
  exact lp_3 ((b + 1) + 1) a (by omega) (by omega) (Nat.le_refl a) _ _ hP hD hS ls (lv_sub hl [1, 2, 3, 4, 0] rfl)
theorem inX1_leastQuantity_X1 : ∀ q ∈ wsX10, q ∈ wsX1_leastQuantity := by decide +kernel
theorem hX1_leastQuantity__fieldLink_RX1_10_MakeupGas_yearlyQuantity_I_ : Cond.fieldLink RX1 10 "MakeupGas" "yearlyQuantity" "I" ∈ wsX1_leastQuantity := by decide +kernel
theorem hX1_leastQuantity__fieldLink_RX1_14_MakeupGas_leastPercent_I_ : Cond.fieldLink RX1 14 "MakeupGas" "leastPercent" "I" ∈ wsX1_leastQuantity := by decide +kernel
theorem hX1_leastQuantity__fieldLink_RX1_30_MakeupGas_excusedDays_I_ : Cond.fieldLink RX1 30 "MakeupGas" "excusedDays" "[I" ∈ wsX1_leastQuantity := by decide +kernel
theorem hX1_leastQuantity__constantLong_RX1_146_36000_ : Cond.constantLong RX1 146 (36000) ∈ wsX1_leastQuantity := by decide +kernel
set_option maxHeartbeats 4000000 in
set_option maxRecDepth 100000 in
theorem c_X1_leastQuantity (l : Launch) (D : va_G) (sz : Nat) (ad : Nat → Nat) (cI cL : ClassId) (qy lp sp : Int32) (pr ex : Nat → Int32) (c : Nat) (dy tk mk : Nat → Int32) (mK : Nat) (mS : Int32) (su : Nat → Int32) (uK : Nat) (uS : Int32) (sh mu co sr : Nat → Int32) (du bi : Nat → Int64) (bb : Int64) (y : Nat) (hy : y < 20) : gCi l yX1_leastQuantity wsX1_leastQuantity ({ frames := 0, cells := 0, slots := 0, locals := 0 } : Room) D [(cI, .int), (cL, .long)] [.ref (ad 0), .int (nI y)] (wG ad cI cL qy lp sp pr ex (nI c) dy tk mk (nI mK) mS su (nI uK) uS sh mu co sr du bi bb) (wG ad cI cL qy lp sp pr ex (nI c) dy tk mk (nI mK) mS su (nI uK) uS sh mu co sr du bi bb) (lqf qy lp ex y) True 0 0 sz := by
  refine gm_i (cc := cX1_leastQuantity) (maxL := 4) (by decide) rfl (Nat.le_of_ble_eq_true rfl) ?_
  intro pg en s m args below meth cd A ls hx hb hr hml hown hts hlocks hin hA hK hP hD hl
  have hl : lv_has ls 4 [(0, .ref (ad 0)), (1, .int (nI y))] := hl
  have hS : va_S A s.heap s.heap [] := va_S.rf
  refine lv_aload_n hx hb dX1_leastQuantity_0 rfl (lv_at hl 0 rfl) ?_
  refine va_get (D := D) (ci := 1) (C := RX1) (T := TX1) (N := 17) hx hb hts inX1_leastQuantity_X1 hown hK hP 0 rfl rfl 0 (by decide) (hts _ hX1_leastQuantity__fieldLink_RX1_10_MakeupGas_yearlyQuantity_I_) (fun _ h9 => h9) rfl dX1_leastQuantity_1 ?_
  refine lv_i2l hx hb dX1_leastQuantity_4 rfl ?_
  refine lv_aload_n hx hb dX1_leastQuantity_5 rfl (lv_at hl 0 rfl) ?_
  refine va_get (D := D) (ci := 1) (C := RX1) (T := TX1) (N := 17) hx hb hts inX1_leastQuantity_X1 hown hK hP 0 rfl rfl 1 (by decide) (hts _ hX1_leastQuantity__fieldLink_RX1_14_MakeupGas_leastPercent_I_) (fun _ h9 => h9) rfl dX1_leastQuantity_6 ?_
  refine lv_i2l hx hb dX1_leastQuantity_9 rfl ?_
  refine lv_lmul hx hb dX1_leastQuantity_10 ?_
  refine lv_sipush (v := 360) hx hb dX1_leastQuantity_11 (by decide) ?_
  refine lv_aload_n hx hb dX1_leastQuantity_14 rfl (lv_at hl 0 rfl) ?_
  refine va_get (D := D) (ci := 1) (C := RX1) (T := TX1) (N := 17) hx hb hts inX1_leastQuantity_X1 hown hK hP 0 rfl rfl 4 (by decide) (hts _ hX1_leastQuantity__fieldLink_RX1_30_MakeupGas_excusedDays_I_) (fun _ h9 => h9) rfl dX1_leastQuantity_15 ?_
  refine lv_iload_n hx hb dX1_leastQuantity_18 rfl (lv_at hl 1 rfl) ?_
  refine ga_iald (j := y) hx hb hK hP 2 0 rfl rfl hy (by decide) dX1_leastQuantity_19 ?_
  refine lv_isub hx hb dX1_leastQuantity_20 ?_
  refine lv_i2l hx hb dX1_leastQuantity_21 rfl ?_
  refine lv_lmul hx hb dX1_leastQuantity_22 ?_
  refine lv_lstore_n (lv' := [(2, .long ((qy.toInt64 * lp.toInt64) * ((360 - (ex y)).toInt64))), (0, .ref (ad 0)), (1, .int (nI y))]) hx hb dX1_leastQuantity_23 rfl hl (by decide) rfl (fun ls hl => ?_)
  refine lv_lload_n hx hb dX1_leastQuantity_24 rfl (lv_at hl 0 rfl) ?_
  refine lv_ldc2 (v := 36000) hx hb hown (hts _ hX1_leastQuantity__constantLong_RX1_146_36000_) dX1_leastQuantity_25 ?_
  refine lv_ldiv hx hb dX1_leastQuantity_28 (by decide) ?_
  refine lv_l2i hx hb dX1_leastQuantity_29 rfl ?_
  exact ge_i hx hb hr hlocks rfl hK hP hD hS trivial (Nat.le_of_ble_eq_true rfl) (Nat.le_of_ble_eq_true rfl) dX1_leastQuantity_30
theorem inX1_shortfallPrice_X1 : ∀ q ∈ wsX10, q ∈ wsX1_shortfallPrice := by decide +kernel
theorem hX1_shortfallPrice__fieldLink_RX1_20_MakeupGas_pricePerYear_I_ : Cond.fieldLink RX1 20 "MakeupGas" "pricePerYear" "[I" ∈ wsX1_shortfallPrice := by decide +kernel
theorem hX1_shortfallPrice__fieldLink_RX1_17_MakeupGas_shortfallPercent_I_ : Cond.fieldLink RX1 17 "MakeupGas" "shortfallPercent" "I" ∈ wsX1_shortfallPrice := by decide +kernel
set_option maxHeartbeats 4000000 in
set_option maxRecDepth 100000 in
theorem c_X1_shortfallPrice (l : Launch) (D : va_G) (sz : Nat) (ad : Nat → Nat) (cI cL : ClassId) (qy lp sp : Int32) (pr ex : Nat → Int32) (c : Nat) (dy tk mk : Nat → Int32) (mK : Nat) (mS : Int32) (su : Nat → Int32) (uK : Nat) (uS : Int32) (sh mu co sr : Nat → Int32) (du bi : Nat → Int64) (bb : Int64) (y : Nat) (hy : y < 20) : gCi l yX1_shortfallPrice wsX1_shortfallPrice ({ frames := 0, cells := 0, slots := 0, locals := 0 } : Room) D [(cI, .int), (cL, .long)] [.ref (ad 0), .int (nI y)] (wG ad cI cL qy lp sp pr ex (nI c) dy tk mk (nI mK) mS su (nI uK) uS sh mu co sr du bi bb) (wG ad cI cL qy lp sp pr ex (nI c) dy tk mk (nI mK) mS su (nI uK) uS sh mu co sr du bi bb) (spf pr sp y) True 0 0 sz := by
  refine gm_i (cc := cX1_shortfallPrice) (maxL := 2) (by decide) rfl (Nat.le_of_ble_eq_true rfl) ?_
  intro pg en s m args below meth cd A ls hx hb hr hml hown hts hlocks hin hA hK hP hD hl
  have hl : lv_has ls 2 [(0, .ref (ad 0)), (1, .int (nI y))] := hl
  have hS : va_S A s.heap s.heap [] := va_S.rf
  refine lv_aload_n hx hb dX1_shortfallPrice_0 rfl (lv_at hl 0 rfl) ?_
  refine va_get (D := D) (ci := 1) (C := RX1) (T := TX1) (N := 17) hx hb hts inX1_shortfallPrice_X1 hown hK hP 0 rfl rfl 3 (by decide) (hts _ hX1_shortfallPrice__fieldLink_RX1_20_MakeupGas_pricePerYear_I_) (fun _ h9 => h9) rfl dX1_shortfallPrice_1 ?_
  refine lv_iload_n hx hb dX1_shortfallPrice_4 rfl (lv_at hl 1 rfl) ?_
  refine ga_iald (j := y) hx hb hK hP 1 0 rfl rfl hy (by decide) dX1_shortfallPrice_5 ?_
  refine lv_aload_n hx hb dX1_shortfallPrice_6 rfl (lv_at hl 0 rfl) ?_
  refine va_get (D := D) (ci := 1) (C := RX1) (T := TX1) (N := 17) hx hb hts inX1_shortfallPrice_X1 hown hK hP 0 rfl rfl 2 (by decide) (hts _ hX1_shortfallPrice__fieldLink_RX1_17_MakeupGas_shortfallPercent_I_) (fun _ h9 => h9) rfl dX1_shortfallPrice_7 ?_
  refine lv_imul hx hb dX1_shortfallPrice_10 ?_
  refine lv_bipush (v := 100) hx hb dX1_shortfallPrice_11 (by decide) ?_
  refine lv_idiv hx hb dX1_shortfallPrice_13 (by decide) ?_
  exact ge_i hx hb hr hlocks rfl hK hP hD hS trivial (Nat.le_of_ble_eq_true rfl) (Nat.le_of_ble_eq_true rfl) dX1_shortfallPrice_14
