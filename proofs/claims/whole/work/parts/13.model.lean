theorem inX2_thrown_X2 : ∀ q ∈ wsX20, q ∈ wsX2_thrown := by decide +kernel
theorem hX2_thrown__fieldLink_RX2_64_MakeupGasModel_thrown_I_ : Cond.fieldLink RX2 64 "MakeupGasModel" "thrown" "I" ∈ wsX2_thrown := by decide +kernel
set_option maxHeartbeats 4000000 in
set_option maxRecDepth 100000 in
theorem c_X2_thrown (l : Launch) (D : va_G) (sz : Nat) (bd : Nat → Nat) (cI cL : ClassId) (th qy lp sp : Int32) (mK uK : Nat) (pr ex dy tk : Nat → Int32) (bi : Nat → Int64) (c : Nat) (sh sr mk su mu co : Nat → Int32) (du : Nat → Int64) (mS : Int32)  : gCi l yX2_thrown wsX2_thrown ({ frames := 0, cells := 0, slots := 0, locals := 0 } : Room) D [(cI, .int), (cL, .long)] [.ref (bd 0)] (wM bd cI cL th qy lp sp (nI mK) (nI uK) pr ex dy tk bi (nI c) sh sr mk su mu co du mS) (wM bd cI cL th qy lp sp (nI mK) (nI uK) pr ex dy tk bi (nI c) sh sr mk su mu co du mS) th True 0 0 sz := by
  refine gm_i (cc := cX2_thrown) (maxL := 1) (by decide) rfl (Nat.le_of_ble_eq_true rfl) ?_
  intro pg en s m args below meth cd A ls hx hb hr hml hown hts hlocks hin hA hK hP hD hl
  have hl : lv_has ls 1 [(0, .ref (bd 0))] := hl
  have hS : va_S A s.heap s.heap [] := va_S.rf
  refine lv_aload_n hx hb dX2_thrown_0 rfl (lv_at hl 0 rfl) ?_
  refine va_get (D := D) (ci := 2) (C := RX2) (T := TX2) (N := 20) hx hb hts inX2_thrown_X2 hown hK hP 0 rfl rfl 0 (by decide) (hts _ hX2_thrown__fieldLink_RX2_64_MakeupGasModel_thrown_I_) (fun _ h9 => h9) rfl dX2_thrown_1 ?_
  exact ge_i hx hb hr hlocks rfl hK hP hD hS trivial (Nat.le_of_ble_eq_true rfl) (Nat.le_of_ble_eq_true rfl) dX2_thrown_4
theorem inX2_holds_X2 : ∀ q ∈ wsX20, q ∈ wsX2_holds := by decide +kernel
theorem hX2_holds__fieldLink_RX2_64_MakeupGasModel_thrown_I_ : Cond.fieldLink RX2 64 "MakeupGasModel" "thrown" "I" ∈ wsX2_holds := by decide +kernel
set_option maxHeartbeats 4000000 in
set_option maxRecDepth 100000 in
theorem c_X2_holds (l : Launch) (D : va_G) (sz : Nat) (bd : Nat → Nat) (cI cL : ClassId) (th qy lp sp : Int32) (mK uK : Nat) (pr ex dy tk : Nat → Int32) (bi : Nat → Int64) (c : Nat) (sh sr mk su mu co : Nat → Int32) (du : Nat → Int64) (mS : Int32) (v : Int32)  : gCi l yX2_holds wsX2_holds ({ frames := 0, cells := 0, slots := 0, locals := 0 } : Room) D [(cI, .int), (cL, .long)] [.ref (bd 0), .int v] (wM bd cI cL th qy lp sp (nI mK) (nI uK) pr ex dy tk bi (nI c) sh sr mk su mu co du mS) (wM bd cI cL v qy lp sp (nI mK) (nI uK) pr ex dy tk bi (nI c) sh sr mk su mu co du mS) (bz (v = 0)) True 0 0 sz := by
  refine gm_i (cc := cX2_holds) (maxL := 2) (by decide) rfl (Nat.le_of_ble_eq_true rfl) ?_
  intro pg en s m args below meth cd A ls hx hb hr hml hown hts hlocks hin hA hK hP hD hl
  have hl : lv_has ls 2 [(0, .ref (bd 0)), (1, .int v)] := hl
  have hS : va_S A s.heap s.heap [] := va_S.rf
  refine lv_aload_n hx hb dX2_holds_0 rfl (lv_at hl 0 rfl) ?_
  refine lv_iload_n hx hb dX2_holds_1 rfl (lv_at hl 1 rfl) ?_
  refine va_put (D := D) (ci := 2) (v := .int v) (ty := .int) (C := RX2) (T := TX2) (N := 20) hx hb hts inX2_holds_X2 tyX2 tyX2_ok nmX2 hown hK hP hD hS 0 rfl rfl 0 (by decide) (hts _ hX2_holds__fieldLink_RX2_64_MakeupGasModel_thrown_I_) (fun _ h9 => h9) (by decide +kernel) (by decide +kernel) rfl rfl (Nat.le_of_ble_eq_true rfl) dX2_holds_2 (fun H locs hP hD hS => ?_)
  have hP : va_P D vwCl (wM bd cI cL v qy lp sp (nI mK) (nI uK) pr ex dy tk bi (nI c) sh sr mk su mu co du mS) H := hP
  have hD : va_D A (wM bd cI cL v qy lp sp (nI mK) (nI uK) pr ex dy tk bi (nI c) sh sr mk su mu co du mS) := hD
  refine lv_iload_n hx hb dX2_holds_5 rfl (lv_at hl 1 rfl) ?_
  refine lv_if_ne (tgt := 13) hx hb dX2_holds_6 (by decide) (fun c1 => ?_) (fun c1 => ?_)
  · refine lv_iconst (v := 0) hx hb dX2_holds_13 (by decide) ?_
    refine gj_i ((bz_f c1).symm) ?_
    exact ge_i hx hb hr hlocks (bz_n _) hK hP hD hS trivial (Nat.le_of_ble_eq_true rfl) (Nat.le_of_ble_eq_true rfl) dX2_holds_14
  · refine lv_iconst (v := 1) hx hb dX2_holds_9 (by decide) ?_
    refine lv_goto (tgt := 14) hx hb dX2_holds_10 (by decide) ?_
    refine gj_i ((bz_t c1).symm) ?_
    exact ge_i hx hb hr hlocks (bz_n _) hK hP hD hS trivial (Nat.le_of_ble_eq_true rfl) (Nat.le_of_ble_eq_true rfl) dX2_holds_14
set_option maxHeartbeats 4000000 in
set_option maxRecDepth 100000 in
theorem c_X2_isIn (l : Launch) (D : va_G) (sz : Nat) (cI cL : ClassId) (v lo hi : Int32)  : gCi l yX2_isIn wsX2_isIn ({ frames := 0, cells := 0, slots := 0, locals := 0 } : Room) D [(cI, .int), (cL, .long)] [.int v, .int lo, .int hi] [] [] (bz (inR v lo hi)) True 0 0 sz := by
  refine gm_i (cc := cX2_isIn) (maxL := 3) (by decide) rfl (Nat.le_of_ble_eq_true rfl) ?_
  intro pg en s m args below meth cd A ls hx hb hr hml hown hts hlocks hin hA hK hP hD hl
  have hl : lv_has ls 3 [(0, .int v), (1, .int lo), (2, .int hi)] := hl
  have hS : va_S A s.heap s.heap [] := va_S.rf
  refine lv_iload_n hx hb dX2_isIn_0 rfl (lv_at hl 0 rfl) ?_
  refine lv_iload_n hx hb dX2_isIn_1 rfl (lv_at hl 1 rfl) ?_
  refine lv_icmp_lt (tgt := 14) hx hb dX2_isIn_2 (by decide) (fun c1 => ?_) (fun c1 => ?_)
  · refine lv_iconst (v := 0) hx hb dX2_isIn_14 (by decide) ?_
    refine gj_i ((bz_f (c := inR v lo hi) (fun z => z.1 c1)).symm) ?_
    exact ge_i hx hb hr hlocks (bz_n _) hK hP hD hS trivial (Nat.le_of_ble_eq_true rfl) (Nat.le_of_ble_eq_true rfl) dX2_isIn_15
  · refine lv_iload_n hx hb dX2_isIn_5 rfl (lv_at hl 0 rfl) ?_
    refine lv_iload_n hx hb dX2_isIn_6 rfl (lv_at hl 2 rfl) ?_
    refine lv_icmp_gt (tgt := 14) hx hb dX2_isIn_7 (by decide) (fun c2 => ?_) (fun c2 => ?_)
    · refine lv_iconst (v := 0) hx hb dX2_isIn_14 (by decide) ?_
      refine gj_i ((bz_f (c := inR v lo hi) (fun z => absurd c2 (Int32.not_lt.mpr z.2))).symm) ?_
      exact ge_i hx hb hr hlocks (bz_n _) hK hP hD hS trivial (Nat.le_of_ble_eq_true rfl) (Nat.le_of_ble_eq_true rfl) dX2_isIn_15
    · refine lv_iconst (v := 1) hx hb dX2_isIn_10 (by decide) ?_
      refine lv_goto (tgt := 15) hx hb dX2_isIn_11 (by decide) ?_
      refine gj_i ((bz_t (c := inR v lo hi) ⟨c1, Int32.not_lt.mp c2⟩).symm) ?_
      exact ge_i hx hb hr hlocks (bz_n _) hK hP hD hS trivial (Nat.le_of_ble_eq_true rfl) (Nat.le_of_ble_eq_true rfl) dX2_isIn_15
set_option maxHeartbeats 4000000 in
set_option maxRecDepth 100000 in
theorem c_X2_isYear (l : Launch) (D : va_G) (sz : Nat) (cI cL : ClassId) (v : Int32)  : gCi l yX2_isYear wsX2_isYear ({ frames := 1, cells := 0, slots := 0, locals := 22 } : Room) D [(cI, .int), (cL, .long)] [.int v] [] [] (bz (inR v 0 19)) True 0 0 sz := by
  refine gm_i (cc := cX2_isYear) (maxL := 1) (by decide) rfl (Nat.le_of_ble_eq_true rfl) ?_
  intro pg en s m args below meth cd A ls hx hb hr hml hown hts hlocks hin hA hK hP hD hl
  have hl : lv_has ls 1 [(0, .int v)] := hl
  have hS : va_S A s.heap s.heap [] := va_S.rf
  refine lv_iload_n hx hb dX2_isYear_0 rfl (lv_at hl 0 rfl) ?_
  refine lv_iconst (v := 0) hx hb dX2_isYear_1 (by decide) ?_
  refine lv_bipush (v := 19) hx hb dX2_isYear_2 (by decide) ?_
  refine gS_i (wc := []) (wr := []) (w1 := []) (W' := []) (As := [.int v, .int 0, .int 19]) (rest := []) ⟨hx, hb, hml, hown, hts⟩ (c_X2_isIn l D s.heap.size cI cL v 0 19) (va_cwS 3 hts gX2_isYear_X2_isIn rfl rfl rfl (by decide +kernel) ⟨(Nat.le_of_ble_eq_true rfl), (Nat.le_of_ble_eq_true rfl)⟩) hS hA hK hP hD [0, 1] rfl [] [] [] rfl (by decide) rfl (by decide) (by decide) rfl (by decide) rfl hl.1 rfl (Nat.le_of_ble_eq_true rfl) dX2_isYear_4 ⟨(Nat.le_of_ble_eq_true rfl), (Nat.le_of_ble_eq_true rfl)⟩ (fun H locs _ hP hD hS => ?_)
  exact ge_i hx hb hr hlocks (bz_n _) hK hP hD hS trivial (Nat.le_of_ble_eq_true rfl) (Nat.le_of_ble_eq_true rfl) dX2_isYear_7
theorem inX2_leastOf_X2 : ∀ q ∈ wsX20, q ∈ wsX2_leastOf := by decide +kernel
theorem hX2_leastOf__fieldLink_RX2_8_MakeupGasModel_quantity_I_ : Cond.fieldLink RX2 8 "MakeupGasModel" "quantity" "I" ∈ wsX2_leastOf := by decide +kernel
theorem hX2_leastOf__fieldLink_RX2_14_MakeupGasModel_percent_I_ : Cond.fieldLink RX2 14 "MakeupGasModel" "percent" "I" ∈ wsX2_leastOf := by decide +kernel
theorem hX2_leastOf__fieldLink_RX2_30_MakeupGasModel_excused_I_ : Cond.fieldLink RX2 30 "MakeupGasModel" "excused" "[I" ∈ wsX2_leastOf := by decide +kernel
theorem hX2_leastOf__constantLong_RX2_71_36000_ : Cond.constantLong RX2 71 (36000) ∈ wsX2_leastOf := by decide +kernel
set_option maxHeartbeats 4000000 in
set_option maxRecDepth 100000 in
theorem c_X2_leastOf (l : Launch) (D : va_G) (sz : Nat) (bd : Nat → Nat) (cI cL : ClassId) (th qy lp sp : Int32) (mK uK : Nat) (pr ex dy tk : Nat → Int32) (bi : Nat → Int64) (c : Nat) (sh sr mk su mu co : Nat → Int32) (du : Nat → Int64) (mS : Int32) (y : Nat) (hy : y < 20) : gCi l yX2_leastOf wsX2_leastOf ({ frames := 0, cells := 0, slots := 0, locals := 0 } : Room) D [(cI, .int), (cL, .long)] [.ref (bd 0), .int (nI y)] (wM bd cI cL th qy lp sp (nI mK) (nI uK) pr ex dy tk bi (nI c) sh sr mk su mu co du mS) (wM bd cI cL th qy lp sp (nI mK) (nI uK) pr ex dy tk bi (nI c) sh sr mk su mu co du mS) (lqf qy lp ex y) True 0 0 sz := by
  refine gm_i (cc := cX2_leastOf) (maxL := 2) (by decide) rfl (Nat.le_of_ble_eq_true rfl) ?_
  intro pg en s m args below meth cd A ls hx hb hr hml hown hts hlocks hin hA hK hP hD hl
  have hl : lv_has ls 2 [(0, .ref (bd 0)), (1, .int (nI y))] := hl
  have hS : va_S A s.heap s.heap [] := va_S.rf
  refine lv_aload_n hx hb dX2_leastOf_0 rfl (lv_at hl 0 rfl) ?_
  refine va_get (D := D) (ci := 2) (C := RX2) (T := TX2) (N := 20) hx hb hts inX2_leastOf_X2 hown hK hP 0 rfl rfl 1 (by decide) (hts _ hX2_leastOf__fieldLink_RX2_8_MakeupGasModel_quantity_I_) (fun _ h9 => h9) rfl dX2_leastOf_1 ?_
  refine lv_i2l hx hb dX2_leastOf_4 rfl ?_
  refine lv_aload_n hx hb dX2_leastOf_5 rfl (lv_at hl 0 rfl) ?_
  refine va_get (D := D) (ci := 2) (C := RX2) (T := TX2) (N := 20) hx hb hts inX2_leastOf_X2 hown hK hP 0 rfl rfl 2 (by decide) (hts _ hX2_leastOf__fieldLink_RX2_14_MakeupGasModel_percent_I_) (fun _ h9 => h9) rfl dX2_leastOf_6 ?_
  refine lv_i2l hx hb dX2_leastOf_9 rfl ?_
  refine lv_lmul hx hb dX2_leastOf_10 ?_
  refine lv_sipush (v := 360) hx hb dX2_leastOf_11 (by decide) ?_
  refine lv_aload_n hx hb dX2_leastOf_14 rfl (lv_at hl 0 rfl) ?_
  refine va_get (D := D) (ci := 2) (C := RX2) (T := TX2) (N := 20) hx hb hts inX2_leastOf_X2 hown hK hP 0 rfl rfl 7 (by decide) (hts _ hX2_leastOf__fieldLink_RX2_30_MakeupGasModel_excused_I_) (fun _ h9 => h9) rfl dX2_leastOf_15 ?_
  refine lv_iload_n hx hb dX2_leastOf_18 rfl (lv_at hl 1 rfl) ?_
  refine ga_iald (j := y) hx hb hK hP 2 0 rfl rfl hy (by decide) dX2_leastOf_19 ?_
  refine lv_isub hx hb dX2_leastOf_20 ?_
  refine lv_i2l hx hb dX2_leastOf_21 rfl ?_
  refine lv_lmul hx hb dX2_leastOf_22 ?_
  refine lv_ldc2 (v := 36000) hx hb hown (hts _ hX2_leastOf__constantLong_RX2_71_36000_) dX2_leastOf_23 ?_
  refine lv_ldiv hx hb dX2_leastOf_26 (by decide) ?_
  refine lv_l2i hx hb dX2_leastOf_27 rfl ?_
  exact ge_i hx hb hr hlocks rfl hK hP hD hS trivial (Nat.le_of_ble_eq_true rfl) (Nat.le_of_ble_eq_true rfl) dX2_leastOf_28
theorem inX2_shortfallPrice_X2 : ∀ q ∈ wsX20, q ∈ wsX2_shortfallPrice := by decide +kernel
theorem hX2_shortfallPrice__fieldLink_RX2_26_MakeupGasModel_prices_I_ : Cond.fieldLink RX2 26 "MakeupGasModel" "prices" "[I" ∈ wsX2_shortfallPrice := by decide +kernel
theorem hX2_shortfallPrice__fieldLink_RX2_17_MakeupGasModel_share_I_ : Cond.fieldLink RX2 17 "MakeupGasModel" "share" "I" ∈ wsX2_shortfallPrice := by decide +kernel
set_option maxHeartbeats 4000000 in
set_option maxRecDepth 100000 in
theorem c_X2_shortfallPrice (l : Launch) (D : va_G) (sz : Nat) (bd : Nat → Nat) (cI cL : ClassId) (th qy lp sp : Int32) (mK uK : Nat) (pr ex dy tk : Nat → Int32) (bi : Nat → Int64) (c : Nat) (sh sr mk su mu co : Nat → Int32) (du : Nat → Int64) (mS : Int32) (y : Nat) (hy : y < 20) : gCi l yX2_shortfallPrice wsX2_shortfallPrice ({ frames := 0, cells := 0, slots := 0, locals := 0 } : Room) D [(cI, .int), (cL, .long)] [.ref (bd 0), .int (nI y)] (wM bd cI cL th qy lp sp (nI mK) (nI uK) pr ex dy tk bi (nI c) sh sr mk su mu co du mS) (wM bd cI cL th qy lp sp (nI mK) (nI uK) pr ex dy tk bi (nI c) sh sr mk su mu co du mS) (spf pr sp y) True 0 0 sz := by
  refine gm_i (cc := cX2_shortfallPrice) (maxL := 2) (by decide) rfl (Nat.le_of_ble_eq_true rfl) ?_
  intro pg en s m args below meth cd A ls hx hb hr hml hown hts hlocks hin hA hK hP hD hl
  have hl : lv_has ls 2 [(0, .ref (bd 0)), (1, .int (nI y))] := hl
  have hS : va_S A s.heap s.heap [] := va_S.rf
  refine lv_aload_n hx hb dX2_shortfallPrice_0 rfl (lv_at hl 0 rfl) ?_
  refine va_get (D := D) (ci := 2) (C := RX2) (T := TX2) (N := 20) hx hb hts inX2_shortfallPrice_X2 hown hK hP 0 rfl rfl 6 (by decide) (hts _ hX2_shortfallPrice__fieldLink_RX2_26_MakeupGasModel_prices_I_) (fun _ h9 => h9) rfl dX2_shortfallPrice_1 ?_
  refine lv_iload_n hx hb dX2_shortfallPrice_4 rfl (lv_at hl 1 rfl) ?_
  refine ga_iald (j := y) hx hb hK hP 1 0 rfl rfl hy (by decide) dX2_shortfallPrice_5 ?_
  refine lv_aload_n hx hb dX2_shortfallPrice_6 rfl (lv_at hl 0 rfl) ?_
  refine va_get (D := D) (ci := 2) (C := RX2) (T := TX2) (N := 20) hx hb hts inX2_shortfallPrice_X2 hown hK hP 0 rfl rfl 3 (by decide) (hts _ hX2_shortfallPrice__fieldLink_RX2_17_MakeupGasModel_share_I_) (fun _ h9 => h9) rfl dX2_shortfallPrice_7 ?_
  refine lv_imul hx hb dX2_shortfallPrice_10 ?_
  refine lv_bipush (v := 100) hx hb dX2_shortfallPrice_11 (by decide) ?_
  refine lv_idiv hx hb dX2_shortfallPrice_13 (by decide) ?_
  exact ge_i hx hb hr hlocks rfl hK hP hD hS trivial (Nat.le_of_ble_eq_true rfl) (Nat.le_of_ble_eq_true rfl) dX2_shortfallPrice_14
