theorem inX2_close_X2 : ∀ q ∈ wsX20, q ∈ wsX2_close := by decide +kernel
theorem hX2_close__fieldLink_RX2_80_MakeupGasModel_closed_I_ : Cond.fieldLink RX2 80 "MakeupGasModel" "closed" "I" ∈ wsX2_close := by decide +kernel
theorem hX2_close__fieldLink_RX2_39_MakeupGasModel_bills_J_ : Cond.fieldLink RX2 39 "MakeupGasModel" "bills" "[J" ∈ wsX2_close := by decide +kernel
theorem hX2_close__fieldLink_RX2_33_MakeupGasModel_days_I_ : Cond.fieldLink RX2 33 "MakeupGasModel" "days" "[I" ∈ wsX2_close := by decide +kernel
set_option maxHeartbeats 4000000 in
set_option maxRecDepth 100000 in
theorem c_X2_close (l : Launch) (D : va_G) (sz : Nat) (bd : Nat → Nat) (cI cL : ClassId) (th qy lp sp : Int32) (mK uK : Nat) (pr ex dy tk : Nat → Int32) (bi : Nat → Int64) (c : Nat) (sh sr mk su mu co : Nat → Int32) (du : Nat → Int64) (mS : Int32) (hc : c < 20) (hmK : mK < 20) (huK : uK < 20) : gCl l yX2_close wsX2_close ({ frames := 4, cells := 0, slots := 0, locals := 94 } : Room) D [(cI, .int), (cL, .long)] [.ref (bd 0)] (wM bd cI cL th qy lp sp (nI mK) (nI uK) pr ex dy tk bi (nI c) sh sr mk su mu co du mS) (wM bd cI cL 0 qy lp sp (nI mK) (nI uK) pr ex (fun _ => 0) tk (vp_updL (vp_updL bi c 0) c (smL (fun j => nDu (rtC qy lp sp pr ex tk mK uK (rt0 mk su sh mu co sr du) (c + 1)) j - vp_updL bi c 0 j) (c + 1))) (nI (c + 1)) (nSh (rtC qy lp sp pr ex tk mK uK (rt0 mk su sh mu co sr du) (c + 1))) (nSr (rtC qy lp sp pr ex tk mK uK (rt0 mk su sh mu co sr du) (c + 1))) (nMk (rtC qy lp sp pr ex tk mK uK (rt0 mk su sh mu co sr du) (c + 1))) (nSu (rtC qy lp sp pr ex tk mK uK (rt0 mk su sh mu co sr du) (c + 1))) (nMu (rtC qy lp sp pr ex tk mK uK (rt0 mk su sh mu co sr du) (c + 1))) (nCo (rtC qy lp sp pr ex tk mK uK (rt0 mk su sh mu co sr du) (c + 1))) (nDu (rtC qy lp sp pr ex tk mK uK (rt0 mk su sh mu co sr du) (c + 1))) (nMS (rtC qy lp sp pr ex tk mK uK (rt0 mk su sh mu co sr du) (c + 1)))) (smL (fun j => nDu (rtC qy lp sp pr ex tk mK uK (rt0 mk su sh mu co sr du) (c + 1)) j - vp_updL bi c 0 j) (c + 1)) True 0 0 sz := by
  refine gm_l (cc := cX2_close) (maxL := 2) (by decide) rfl (Nat.le_of_ble_eq_true rfl) ?_
  intro pg en s m args below meth cd A ls hx hb hr hml hown hts hlocks hin hA hK hP hD hl
  have hl : lv_has ls 2 [(0, .ref (bd 0))] := hl
  have hS : va_S A s.heap s.heap [] := va_S.rf
  refine lv_aload_n hx hb dX2_close_0 rfl (lv_at hl 0 rfl) ?_
  refine lv_aload_n hx hb dX2_close_1 rfl (lv_at hl 0 rfl) ?_
  refine va_get (D := D) (ci := 2) (C := RX2) (T := TX2) (N := 20) hx hb hts inX2_close_X2 hown hK hP 0 rfl rfl 11 (by decide) (hts _ hX2_close__fieldLink_RX2_80_MakeupGasModel_closed_I_) (fun _ h9 => h9) rfl dX2_close_2 ?_
  refine lv_bipush (v := 20) hx hb dX2_close_5 (by decide) ?_
  refine lv_icmp_ne (tgt := 14) hx hb dX2_close_7 (by decide) (fun cc => ?_) (fun cc => ?_)
  · refine lv_iconst (v := 0) hx hb dX2_close_14 (by decide) ?_
    refine gV_i (wc := (wM bd cI cL th qy lp sp (nI mK) (nI uK) pr ex dy tk bi (nI c) sh sr mk su mu co du mS)) (wr := []) (w1 := (wM bd cI cL 0 qy lp sp (nI mK) (nI uK) pr ex dy tk bi (nI c) sh sr mk su mu co du mS)) (W' := (wM bd cI cL 0 qy lp sp (nI mK) (nI uK) pr ex dy tk bi (nI c) sh sr mk su mu co du mS)) (As := [.int 0]) (rest := []) ⟨hx, hb, hml, hown, hts⟩ (c_X2_holds l D s.heap.size bd cI cL th qy lp sp mK uK pr ex dy tk bi c sh sr mk su mu co du mS 0) (cwV 1 hts gX2_close_X2_holds rfl rfl rfl (by decide +kernel) ⟨(Nat.le_of_ble_eq_true rfl), (Nat.le_of_ble_eq_true rfl)⟩) hS hA hK hP hD [0, 1] rfl [0, 1, 2, 3, 4, 5, 6, 7, 8, 9, 10, 11, 12] [] [0, 1, 2, 3, 4, 5, 6, 7, 8, 9, 10, 11, 12] rfl (by decide) rfl (by decide) (by decide) rfl (by decide) 0 2 rfl rfl rfl rfl hl.1 rfl (Nat.le_of_ble_eq_true rfl) dX2_close_15 ⟨(Nat.le_of_ble_eq_true rfl), (Nat.le_of_ble_eq_true rfl)⟩ (fun H locs _ hP hD hS => ?_)
    refine gj_i (bz_t rfl) ?_
    refine lv_if_ne (tgt := 23) hx hb dX2_close_18 (by decide) (fun cz => ?_) (fun cz => ?_)
    · refine lv_aload_n hx hb dX2_close_23 rfl (lv_at hl 0 rfl) ?_
      refine va_get (D := D) (ci := 2) (C := RX2) (T := TX2) (N := 20) hx hb hts inX2_close_X2 hown hK hP 0 rfl rfl 10 (by decide) (hts _ hX2_close__fieldLink_RX2_39_MakeupGasModel_bills_J_) (fun _ h9 => h9) rfl dX2_close_24 ?_
      refine lv_aload_n hx hb dX2_close_27 rfl (lv_at hl 0 rfl) ?_
      refine va_get (D := D) (ci := 2) (C := RX2) (T := TX2) (N := 20) hx hb hts inX2_close_X2 hown hK hP 0 rfl rfl 11 (by decide) (hts _ hX2_close__fieldLink_RX2_80_MakeupGasModel_closed_I_) (fun _ h9 => h9) rfl dX2_close_28 ?_
      refine lv_lconst (v := 0) hx hb dX2_close_31 (by decide) ?_
      refine ga_last (j := c) (ws' := (wM bd cI cL 0 qy lp sp (nI mK) (nI uK) pr ex dy tk (vp_updL bi c 0) (nI c) sh sr mk su mu co du mS)) hx hb hK hP hD hS 5 1 rfl rfl hc (by decide) dX2_close_32 rfl (fun H locs hP hD hS => ?_)
      refine lv_aload_n hx hb dX2_close_33 rfl (lv_at hl 0 rfl) ?_
      refine lv_dup hx hb dX2_close_34 rfl ?_
      refine va_get (D := D) (ci := 2) (C := RX2) (T := TX2) (N := 20) hx hb hts inX2_close_X2 hown hK hP 0 rfl rfl 11 (by decide) (hts _ hX2_close__fieldLink_RX2_80_MakeupGasModel_closed_I_) (fun _ h9 => h9) rfl dX2_close_35 ?_
      refine lv_iconst (v := 1) hx hb dX2_close_38 (by decide) ?_
      refine lv_iadd hx hb dX2_close_39 ?_
      refine gj_i (nI_1 c) ?_
      refine va_put (D := D) (ci := 2) (v := .int (nI (c + 1))) (ty := .int) (C := RX2) (T := TX2) (N := 20) hx hb hts inX2_close_X2 tyX2 tyX2_ok nmX2 hown hK hP hD hS 0 rfl rfl 11 (by decide) (hts _ hX2_close__fieldLink_RX2_80_MakeupGasModel_closed_I_) (fun _ h9 => h9) (by decide +kernel) (by decide +kernel) rfl rfl (Nat.le_of_ble_eq_true rfl) dX2_close_40 (fun H locs hP hD hS => ?_)
      have hP : va_P D vwCl (wM bd cI cL 0 qy lp sp (nI mK) (nI uK) pr ex dy tk (vp_updL bi c 0) (nI (c + 1)) sh sr mk su mu co du mS) H := hP
      have hD : va_D A (wM bd cI cL 0 qy lp sp (nI mK) (nI uK) pr ex dy tk (vp_updL bi c 0) (nI (c + 1)) sh sr mk su mu co du mS) := hD
      refine lv_aload_n hx hb dX2_close_43 rfl (lv_at hl 0 rfl) ?_
      refine va_get (D := D) (ci := 2) (C := RX2) (T := TX2) (N := 20) hx hb hts inX2_close_X2 hown hK hP 0 rfl rfl 10 (by decide) (hts _ hX2_close__fieldLink_RX2_39_MakeupGasModel_bills_J_) (fun _ h9 => h9) rfl dX2_close_44 ?_
      refine lv_aload_n hx hb dX2_close_47 rfl (lv_at hl 0 rfl) ?_
      refine va_get (D := D) (ci := 2) (C := RX2) (T := TX2) (N := 20) hx hb hts inX2_close_X2 hown hK hP 0 rfl rfl 11 (by decide) (hts _ hX2_close__fieldLink_RX2_80_MakeupGasModel_closed_I_) (fun _ h9 => h9) rfl dX2_close_48 ?_
      refine lv_iconst (v := 1) hx hb dX2_close_51 (by decide) ?_
      refine lv_isub hx hb dX2_close_52 ?_
      refine gj_i (nI_pred c) ?_
      refine lv_aload_n hx hb dX2_close_53 rfl (lv_at hl 0 rfl) ?_
      refine gV_l (wc := (wM bd cI cL 0 qy lp sp (nI mK) (nI uK) pr ex dy tk (vp_updL bi c 0) (nI (c + 1)) sh sr mk su mu co du mS)) (wr := []) (w1 := (wM bd cI cL 0 qy lp sp (nI mK) (nI uK) pr ex dy tk (vp_updL bi c 0) (nI (c + 1)) (nSh (rtC qy lp sp pr ex tk mK uK (rt0 mk su sh mu co sr du) (c + 1))) (nSr (rtC qy lp sp pr ex tk mK uK (rt0 mk su sh mu co sr du) (c + 1))) (nMk (rtC qy lp sp pr ex tk mK uK (rt0 mk su sh mu co sr du) (c + 1))) (nSu (rtC qy lp sp pr ex tk mK uK (rt0 mk su sh mu co sr du) (c + 1))) (nMu (rtC qy lp sp pr ex tk mK uK (rt0 mk su sh mu co sr du) (c + 1))) (nCo (rtC qy lp sp pr ex tk mK uK (rt0 mk su sh mu co sr du) (c + 1))) (nDu (rtC qy lp sp pr ex tk mK uK (rt0 mk su sh mu co sr du) (c + 1))) (nMS (rtC qy lp sp pr ex tk mK uK (rt0 mk su sh mu co sr du) (c + 1))))) (W' := (wM bd cI cL 0 qy lp sp (nI mK) (nI uK) pr ex dy tk (vp_updL bi c 0) (nI (c + 1)) (nSh (rtC qy lp sp pr ex tk mK uK (rt0 mk su sh mu co sr du) (c + 1))) (nSr (rtC qy lp sp pr ex tk mK uK (rt0 mk su sh mu co sr du) (c + 1))) (nMk (rtC qy lp sp pr ex tk mK uK (rt0 mk su sh mu co sr du) (c + 1))) (nSu (rtC qy lp sp pr ex tk mK uK (rt0 mk su sh mu co sr du) (c + 1))) (nMu (rtC qy lp sp pr ex tk mK uK (rt0 mk su sh mu co sr du) (c + 1))) (nCo (rtC qy lp sp pr ex tk mK uK (rt0 mk su sh mu co sr du) (c + 1))) (nDu (rtC qy lp sp pr ex tk mK uK (rt0 mk su sh mu co sr du) (c + 1))) (nMS (rtC qy lp sp pr ex tk mK uK (rt0 mk su sh mu co sr du) (c + 1))))) (As := []) (rest := [.int (nI c), .ref (bd 5)]) ⟨hx, hb, hml, hown, hts⟩ (c_X2_openNow l D H.size bd cI cL 0 qy lp sp mK uK pr ex dy tk (vp_updL bi c 0) (c + 1) sh sr mk su mu co du mS  (Nat.succ_le_of_lt hc) hmK huK) (cwV 0 hts gX2_close_X2_openNow rfl rfl rfl (by decide +kernel) ⟨(Nat.le_of_ble_eq_true rfl), (Nat.le_of_ble_eq_true rfl)⟩) hS hA hK hP hD [0, 1] rfl [0, 1, 2, 3, 4, 5, 6, 7, 8, 9, 10, 11, 12] [] [0, 1, 2, 3, 4, 5, 6, 7, 8, 9, 10, 11, 12] rfl (by decide) rfl (by decide) (by decide) rfl (by decide) 0 2 rfl rfl rfl rfl hl.1 rfl (Nat.le_of_ble_eq_true rfl) dX2_close_54 ⟨(Nat.le_of_ble_eq_true rfl), (Nat.le_of_ble_eq_true rfl)⟩ (fun H locs _ hP hD hS => ?_)
      refine ga_last (j := c) (ws' := (wM bd cI cL 0 qy lp sp (nI mK) (nI uK) pr ex dy tk (vp_updL (vp_updL bi c 0) c (smL (fun j => nDu (rtC qy lp sp pr ex tk mK uK (rt0 mk su sh mu co sr du) (c + 1)) j - (vp_updL bi c 0) j) (c + 1))) (nI (c + 1)) (nSh (rtC qy lp sp pr ex tk mK uK (rt0 mk su sh mu co sr du) (c + 1))) (nSr (rtC qy lp sp pr ex tk mK uK (rt0 mk su sh mu co sr du) (c + 1))) (nMk (rtC qy lp sp pr ex tk mK uK (rt0 mk su sh mu co sr du) (c + 1))) (nSu (rtC qy lp sp pr ex tk mK uK (rt0 mk su sh mu co sr du) (c + 1))) (nMu (rtC qy lp sp pr ex tk mK uK (rt0 mk su sh mu co sr du) (c + 1))) (nCo (rtC qy lp sp pr ex tk mK uK (rt0 mk su sh mu co sr du) (c + 1))) (nDu (rtC qy lp sp pr ex tk mK uK (rt0 mk su sh mu co sr du) (c + 1))) (nMS (rtC qy lp sp pr ex tk mK uK (rt0 mk su sh mu co sr du) (c + 1))))) hx hb hK hP hD hS 5 1 rfl rfl hc (by decide) dX2_close_57 rfl (fun H locs hP hD hS => ?_)
      refine lv_iconst (v := 0) hx hb dX2_close_58 (by decide) ?_
      refine lv_istore_n (lv' := [(1, .int 0), (0, .ref (bd 0))]) hx hb dX2_close_59 rfl hl (by decide) rfl (fun ls hl => ?_)
      have lp_60 : ∀ (n i : Nat), i ≤ 360 → 360 < i + n → ∀ (H : Heap) (locs : List Loc), va_P D vwCl (wM bd cI cL 0 qy lp sp (nI mK) (nI uK) pr ex (flf dy 0 i) tk (vp_updL (vp_updL bi c 0) c (smL (fun j => nDu (rtC qy lp sp pr ex tk mK uK (rt0 mk su sh mu co sr du) (c + 1)) j - (vp_updL bi c 0) j) (c + 1))) (nI (c + 1)) (nSh (rtC qy lp sp pr ex tk mK uK (rt0 mk su sh mu co sr du) (c + 1))) (nSr (rtC qy lp sp pr ex tk mK uK (rt0 mk su sh mu co sr du) (c + 1))) (nMk (rtC qy lp sp pr ex tk mK uK (rt0 mk su sh mu co sr du) (c + 1))) (nSu (rtC qy lp sp pr ex tk mK uK (rt0 mk su sh mu co sr du) (c + 1))) (nMu (rtC qy lp sp pr ex tk mK uK (rt0 mk su sh mu co sr du) (c + 1))) (nCo (rtC qy lp sp pr ex tk mK uK (rt0 mk su sh mu co sr du) (c + 1))) (nDu (rtC qy lp sp pr ex tk mK uK (rt0 mk su sh mu co sr du) (c + 1))) (nMS (rtC qy lp sp pr ex tk mK uK (rt0 mk su sh mu co sr du) (c + 1)))) H → va_D A (wM bd cI cL 0 qy lp sp (nI mK) (nI uK) pr ex (flf dy 0 i) tk (vp_updL (vp_updL bi c 0) c (smL (fun j => nDu (rtC qy lp sp pr ex tk mK uK (rt0 mk su sh mu co sr du) (c + 1)) j - (vp_updL bi c 0) j) (c + 1))) (nI (c + 1)) (nSh (rtC qy lp sp pr ex tk mK uK (rt0 mk su sh mu co sr du) (c + 1))) (nSr (rtC qy lp sp pr ex tk mK uK (rt0 mk su sh mu co sr du) (c + 1))) (nMk (rtC qy lp sp pr ex tk mK uK (rt0 mk su sh mu co sr du) (c + 1))) (nSu (rtC qy lp sp pr ex tk mK uK (rt0 mk su sh mu co sr du) (c + 1))) (nMu (rtC qy lp sp pr ex tk mK uK (rt0 mk su sh mu co sr du) (c + 1))) (nCo (rtC qy lp sp pr ex tk mK uK (rt0 mk su sh mu co sr du) (c + 1))) (nDu (rtC qy lp sp pr ex tk mK uK (rt0 mk su sh mu co sr du) (c + 1))) (nMS (rtC qy lp sp pr ex tk mK uK (rt0 mk su sh mu co sr du) (c + 1)))) → va_S A s.heap H locs → ∀ (ls : Array Slot), lv_has ls 2 [(0, .ref (bd 0)), (1, .int (nI i))] → W pg l en ({ frames := 4, cells := 0, slots := 0, locals := 94 } : Room) s m args below meth cd H locs 0 0 (gEl (smL (fun j => nDu (rtC qy lp sp pr ex tk mK uK (rt0 mk su sh mu co sr du) (c + 1)) j - vp_updL bi c 0 j) (c + 1)) True below D [(cI, .int), (cL, .long)] (wM bd cI cL 0 qy lp sp (nI mK) (nI uK) pr ex (fun _ => 0) tk (vp_updL (vp_updL bi c 0) c (smL (fun j => nDu (rtC qy lp sp pr ex tk mK uK (rt0 mk su sh mu co sr du) (c + 1)) j - vp_updL bi c 0 j) (c + 1))) (nI (c + 1)) (nSh (rtC qy lp sp pr ex tk mK uK (rt0 mk su sh mu co sr du) (c + 1))) (nSr (rtC qy lp sp pr ex tk mK uK (rt0 mk su sh mu co sr du) (c + 1))) (nMk (rtC qy lp sp pr ex tk mK uK (rt0 mk su sh mu co sr du) (c + 1))) (nSu (rtC qy lp sp pr ex tk mK uK (rt0 mk su sh mu co sr du) (c + 1))) (nMu (rtC qy lp sp pr ex tk mK uK (rt0 mk su sh mu co sr du) (c + 1))) (nCo (rtC qy lp sp pr ex tk mK uK (rt0 mk su sh mu co sr du) (c + 1))) (nDu (rtC qy lp sp pr ex tk mK uK (rt0 mk su sh mu co sr du) (c + 1))) (nMS (rtC qy lp sp pr ex tk mK uK (rt0 mk su sh mu co sr du) (c + 1)))) A args s 0 0) (F0 m 60 ls []) := by
        intro n
        induction n with
        | zero => intro i h1 h2; exact absurd h2 (by omega)
        | succ n ih =>
          intro i hi hin2  H locs hP hD hS ls hl
          refine lv_iload_n hx hb dX2_close_60 rfl (lv_at hl 1 rfl) ?_
          refine lv_sipush (v := 360) hx hb dX2_close_61 (by decide) ?_
          refine lv_icmp_ge (tgt := 80) hx hb dX2_close_64 (by decide) (fun c1 => ?_) (fun c1 => ?_)
          · obtain rfl : i = 360 := Nat.le_antisymm hi (Nat.not_lt.mp fun h => absurd c1 (nI_ge h (by decide)))
            have hP : va_P D vwCl (wM bd cI cL 0 qy lp sp (nI mK) (nI uK) pr ex (fun _ => 0) tk (vp_updL (vp_updL bi c 0) c (smL (fun j => nDu (rtC qy lp sp pr ex tk mK uK (rt0 mk su sh mu co sr du) (c + 1)) j - (vp_updL bi c 0) j) (c + 1))) (nI (c + 1)) (nSh (rtC qy lp sp pr ex tk mK uK (rt0 mk su sh mu co sr du) (c + 1))) (nSr (rtC qy lp sp pr ex tk mK uK (rt0 mk su sh mu co sr du) (c + 1))) (nMk (rtC qy lp sp pr ex tk mK uK (rt0 mk su sh mu co sr du) (c + 1))) (nSu (rtC qy lp sp pr ex tk mK uK (rt0 mk su sh mu co sr du) (c + 1))) (nMu (rtC qy lp sp pr ex tk mK uK (rt0 mk su sh mu co sr du) (c + 1))) (nCo (rtC qy lp sp pr ex tk mK uK (rt0 mk su sh mu co sr du) (c + 1))) (nDu (rtC qy lp sp pr ex tk mK uK (rt0 mk su sh mu co sr du) (c + 1))) (nMS (rtC qy lp sp pr ex tk mK uK (rt0 mk su sh mu co sr du) (c + 1)))) H := gw_I hP 3 rfl (fun j hj => if_pos hj) rfl
            have hD : va_D A (wM bd cI cL 0 qy lp sp (nI mK) (nI uK) pr ex (fun _ => 0) tk (vp_updL (vp_updL bi c 0) c (smL (fun j => nDu (rtC qy lp sp pr ex tk mK uK (rt0 mk su sh mu co sr du) (c + 1)) j - (vp_updL bi c 0) j) (c + 1))) (nI (c + 1)) (nSh (rtC qy lp sp pr ex tk mK uK (rt0 mk su sh mu co sr du) (c + 1))) (nSr (rtC qy lp sp pr ex tk mK uK (rt0 mk su sh mu co sr du) (c + 1))) (nMk (rtC qy lp sp pr ex tk mK uK (rt0 mk su sh mu co sr du) (c + 1))) (nSu (rtC qy lp sp pr ex tk mK uK (rt0 mk su sh mu co sr du) (c + 1))) (nMu (rtC qy lp sp pr ex tk mK uK (rt0 mk su sh mu co sr du) (c + 1))) (nCo (rtC qy lp sp pr ex tk mK uK (rt0 mk su sh mu co sr du) (c + 1))) (nDu (rtC qy lp sp pr ex tk mK uK (rt0 mk su sh mu co sr du) (c + 1))) (nMS (rtC qy lp sp pr ex tk mK uK (rt0 mk su sh mu co sr du) (c + 1)))) := gw_D hD 3 rfl rfl
            refine lv_aload_n hx hb dX2_close_80 rfl (lv_at hl 0 rfl) ?_
            refine va_get (D := D) (ci := 2) (C := RX2) (T := TX2) (N := 20) hx hb hts inX2_close_X2 hown hK hP 0 rfl rfl 10 (by decide) (hts _ hX2_close__fieldLink_RX2_39_MakeupGasModel_bills_J_) (fun _ h9 => h9) rfl dX2_close_81 ?_
            refine lv_aload_n hx hb dX2_close_84 rfl (lv_at hl 0 rfl) ?_
            refine va_get (D := D) (ci := 2) (C := RX2) (T := TX2) (N := 20) hx hb hts inX2_close_X2 hown hK hP 0 rfl rfl 11 (by decide) (hts _ hX2_close__fieldLink_RX2_80_MakeupGasModel_closed_I_) (fun _ h9 => h9) rfl dX2_close_85 ?_
            refine lv_iconst (v := 1) hx hb dX2_close_88 (by decide) ?_
            refine lv_isub hx hb dX2_close_89 ?_
            refine gj_i (nI_pred c) ?_
            refine ga_lald (j := c) hx hb hK hP 5 1 rfl rfl hc (by decide) dX2_close_90 ?_
            refine gj_l pk_uLs ?_
            exact ge_l hx hb hr hlocks hK hP hD hS trivial (Nat.le_of_ble_eq_true rfl) (Nat.le_of_ble_eq_true rfl) dX2_close_91
          · have hi3 : i < 360 := Nat.not_le.mp (fun h => c1 (nI_le h (by omega)))
            refine lv_aload_n hx hb dX2_close_67 rfl (lv_at hl 0 rfl) ?_
            refine va_get (D := D) (ci := 2) (C := RX2) (T := TX2) (N := 20) hx hb hts inX2_close_X2 hown hK hP 0 rfl rfl 8 (by decide) (hts _ hX2_close__fieldLink_RX2_33_MakeupGasModel_days_I_) (fun _ h9 => h9) rfl dX2_close_68 ?_
            refine lv_iload_n hx hb dX2_close_71 rfl (lv_at hl 1 rfl) ?_
            refine lv_iconst (v := 0) hx hb dX2_close_72 (by decide) ?_
            refine ga_iast (j := i) (ws' := (wM bd cI cL 0 qy lp sp (nI mK) (nI uK) pr ex (flf dy 0 (i + 1)) tk (vp_updL (vp_updL bi c 0) c (smL (fun j => nDu (rtC qy lp sp pr ex tk mK uK (rt0 mk su sh mu co sr du) (c + 1)) j - (vp_updL bi c 0) j) (c + 1))) (nI (c + 1)) (nSh (rtC qy lp sp pr ex tk mK uK (rt0 mk su sh mu co sr du) (c + 1))) (nSr (rtC qy lp sp pr ex tk mK uK (rt0 mk su sh mu co sr du) (c + 1))) (nMk (rtC qy lp sp pr ex tk mK uK (rt0 mk su sh mu co sr du) (c + 1))) (nSu (rtC qy lp sp pr ex tk mK uK (rt0 mk su sh mu co sr du) (c + 1))) (nMu (rtC qy lp sp pr ex tk mK uK (rt0 mk su sh mu co sr du) (c + 1))) (nCo (rtC qy lp sp pr ex tk mK uK (rt0 mk su sh mu co sr du) (c + 1))) (nDu (rtC qy lp sp pr ex tk mK uK (rt0 mk su sh mu co sr du) (c + 1))) (nMS (rtC qy lp sp pr ex tk mK uK (rt0 mk su sh mu co sr du) (c + 1))))) hx hb hK hP hD hS 3 0 rfl rfl hi3 (by decide) dX2_close_73 (by rw [flf_s]; rfl) (fun H locs hP hD hS => ?_)
            refine lv_iinc (v := nI (i + 1)) (lv' := [(1, .int (nI (i + 1))), (0, .ref (bd 0))]) hx hb dX2_close_74 hl (k := 1) rfl (gi_1 _) (by decide) rfl (fun ls hl => ?_)
            refine lv_goto (tgt := 60) hx hb dX2_close_77 (by decide) ?_
            exact ih (i + 1) (by omega) (by omega) _ _ hP hD hS ls (lv_sub hl [1, 0] rfl)
      exact lp_60 (360 + 1) 0 (by omega) (by omega) _ _ hP hD hS ls (lv_sub hl [1, 0] rfl)
    · exact absurd cz (by decide)
  · exact absurd cc (nI_ne20 hc)
set_option maxHeartbeats 4000000 in
set_option maxRecDepth 100000 in
theorem c_X2_close_2 (l : Launch) (D : va_G) (sz : Nat) (bd : Nat → Nat) (cI cL : ClassId) (th qy lp sp : Int32) (mK uK : Nat) (pr ex dy tk : Nat → Int32) (bi : Nat → Int64) (c : Nat) (sh sr mk su mu co : Nat → Int32) (du : Nat → Int64) (mS : Int32) (hbad : ¬ c < 20) (hc : c ≤ 20) : gCl l yX2_close wsX2_close ({ frames := 4, cells := 0, slots := 0, locals := 94 } : Room) D [(cI, .int), (cL, .long)] [.ref (bd 0)] (wM bd cI cL th qy lp sp (nI mK) (nI uK) pr ex dy tk bi (nI c) sh sr mk su mu co du mS) (wM bd cI cL 1 qy lp sp (nI mK) (nI uK) pr ex dy tk bi (nI c) sh sr mk su mu co du mS) 0 True 0 0 sz := by
  refine gm_l (cc := cX2_close) (maxL := 2) (by decide) rfl (Nat.le_of_ble_eq_true rfl) ?_
  intro pg en s m args below meth cd A ls hx hb hr hml hown hts hlocks hin hA hK hP hD hl
  have hl : lv_has ls 2 [(0, .ref (bd 0))] := hl
  have hS : va_S A s.heap s.heap [] := va_S.rf
  refine lv_aload_n hx hb dX2_close_0 rfl (lv_at hl 0 rfl) ?_
  refine lv_aload_n hx hb dX2_close_1 rfl (lv_at hl 0 rfl) ?_
  refine va_get (D := D) (ci := 2) (C := RX2) (T := TX2) (N := 20) hx hb hts inX2_close_X2 hown hK hP 0 rfl rfl 11 (by decide) (hts _ hX2_close__fieldLink_RX2_80_MakeupGasModel_closed_I_) (fun _ h9 => h9) rfl dX2_close_2 ?_
  refine lv_bipush (v := 20) hx hb dX2_close_5 (by decide) ?_
  refine lv_icmp_ne (tgt := 14) hx hb dX2_close_7 (by decide) (fun cc => ?_) (fun cc => ?_)
  · exact absurd (nI_lt20 hc cc) hbad
  · refine lv_iconst (v := 1) hx hb dX2_close_10 (by decide) ?_
    refine lv_goto (tgt := 15) hx hb dX2_close_11 (by decide) ?_
    refine gV_i (wc := (wM bd cI cL th qy lp sp (nI mK) (nI uK) pr ex dy tk bi (nI c) sh sr mk su mu co du mS)) (wr := []) (w1 := (wM bd cI cL 1 qy lp sp (nI mK) (nI uK) pr ex dy tk bi (nI c) sh sr mk su mu co du mS)) (W' := (wM bd cI cL 1 qy lp sp (nI mK) (nI uK) pr ex dy tk bi (nI c) sh sr mk su mu co du mS)) (As := [.int 1]) (rest := []) ⟨hx, hb, hml, hown, hts⟩ (c_X2_holds l D s.heap.size bd cI cL th qy lp sp mK uK pr ex dy tk bi c sh sr mk su mu co du mS 1) (cwV 1 hts gX2_close_X2_holds rfl rfl rfl (by decide +kernel) ⟨(Nat.le_of_ble_eq_true rfl), (Nat.le_of_ble_eq_true rfl)⟩) hS hA hK hP hD [0, 1] rfl [0, 1, 2, 3, 4, 5, 6, 7, 8, 9, 10, 11, 12] [] [0, 1, 2, 3, 4, 5, 6, 7, 8, 9, 10, 11, 12] rfl (by decide) rfl (by decide) (by decide) rfl (by decide) 0 2 rfl rfl rfl rfl hl.1 rfl (Nat.le_of_ble_eq_true rfl) dX2_close_15 ⟨(Nat.le_of_ble_eq_true rfl), (Nat.le_of_ble_eq_true rfl)⟩ (fun H locs _ hP hD hS => ?_)
    refine gj_i (bz_f (by decide)) ?_
    refine lv_if_ne (tgt := 23) hx hb dX2_close_18 (by decide) (fun cz => ?_) (fun cz => ?_)
    · exact absurd cz (by decide)
    · refine lv_lconst (v := 0) hx hb dX2_close_21 (by decide) ?_
      exact ge_l hx hb hr hlocks hK hP hD hS trivial (Nat.le_of_ble_eq_true rfl) (Nat.le_of_ble_eq_true rfl) dX2_close_22
theorem inX2_closed_X2 : ∀ q ∈ wsX20, q ∈ wsX2_closed := by decide +kernel
theorem hX2_closed__fieldLink_RX2_64_MakeupGasModel_thrown_I_ : Cond.fieldLink RX2 64 "MakeupGasModel" "thrown" "I" ∈ wsX2_closed := by decide +kernel
theorem hX2_closed__fieldLink_RX2_80_MakeupGasModel_closed_I_ : Cond.fieldLink RX2 80 "MakeupGasModel" "closed" "I" ∈ wsX2_closed := by decide +kernel
set_option maxHeartbeats 4000000 in
set_option maxRecDepth 100000 in
theorem c_X2_closed (l : Launch) (D : va_G) (sz : Nat) (bd : Nat → Nat) (cI cL : ClassId) (th qy lp sp : Int32) (mK uK : Nat) (pr ex dy tk : Nat → Int32) (bi : Nat → Int64) (c : Nat) (sh sr mk su mu co : Nat → Int32) (du : Nat → Int64) (mS : Int32)  : gCi l yX2_closed wsX2_closed ({ frames := 0, cells := 0, slots := 0, locals := 0 } : Room) D [(cI, .int), (cL, .long)] [.ref (bd 0)] (wM bd cI cL th qy lp sp (nI mK) (nI uK) pr ex dy tk bi (nI c) sh sr mk su mu co du mS) (wM bd cI cL 0 qy lp sp (nI mK) (nI uK) pr ex dy tk bi (nI c) sh sr mk su mu co du mS) (nI c) True 0 0 sz := by
  refine gm_i (cc := cX2_closed) (maxL := 1) (by decide) rfl (Nat.le_of_ble_eq_true rfl) ?_
  intro pg en s m args below meth cd A ls hx hb hr hml hown hts hlocks hin hA hK hP hD hl
  have hl : lv_has ls 1 [(0, .ref (bd 0))] := hl
  have hS : va_S A s.heap s.heap [] := va_S.rf
  refine lv_aload_n hx hb dX2_closed_0 rfl (lv_at hl 0 rfl) ?_
  refine lv_iconst (v := 0) hx hb dX2_closed_1 (by decide) ?_
  refine va_put (D := D) (ci := 2) (v := .int 0) (ty := .int) (C := RX2) (T := TX2) (N := 20) hx hb hts inX2_closed_X2 tyX2 tyX2_ok nmX2 hown hK hP hD hS 0 rfl rfl 0 (by decide) (hts _ hX2_closed__fieldLink_RX2_64_MakeupGasModel_thrown_I_) (fun _ h9 => h9) (by decide +kernel) (by decide +kernel) rfl rfl (Nat.le_of_ble_eq_true rfl) dX2_closed_2 (fun H locs hP hD hS => ?_)
  have hP : va_P D vwCl (wM bd cI cL 0 qy lp sp (nI mK) (nI uK) pr ex dy tk bi (nI c) sh sr mk su mu co du mS) H := hP
  have hD : va_D A (wM bd cI cL 0 qy lp sp (nI mK) (nI uK) pr ex dy tk bi (nI c) sh sr mk su mu co du mS) := hD
  refine lv_aload_n hx hb dX2_closed_5 rfl (lv_at hl 0 rfl) ?_
  refine va_get (D := D) (ci := 2) (C := RX2) (T := TX2) (N := 20) hx hb hts inX2_closed_X2 hown hK hP 0 rfl rfl 11 (by decide) (hts _ hX2_closed__fieldLink_RX2_80_MakeupGasModel_closed_I_) (fun _ h9 => h9) rfl dX2_closed_6 ?_
  exact ge_i hx hb hr hlocks rfl hK hP hD hS trivial (Nat.le_of_ble_eq_true rfl) (Nat.le_of_ble_eq_true rfl) dX2_closed_9
theorem inX2_taken_X2 : ∀ q ∈ wsX20, q ∈ wsX2_taken := by decide +kernel
theorem hX2_taken__fieldLink_RX2_36_MakeupGasModel_taken_I_ : Cond.fieldLink RX2 36 "MakeupGasModel" "taken" "[I" ∈ wsX2_taken := by decide +kernel
set_option maxHeartbeats 4000000 in
set_option maxRecDepth 100000 in
theorem c_X2_taken (l : Launch) (D : va_G) (sz : Nat) (bd : Nat → Nat) (cI cL : ClassId) (th qy lp sp : Int32) (mK uK : Nat) (pr ex dy tk : Nat → Int32) (bi : Nat → Int64) (c : Nat) (sh sr mk su mu co : Nat → Int32) (du : Nat → Int64) (mS : Int32) (j : Nat) (hj : j < 20) : gCi l yX2_taken wsX2_taken ({ frames := 2, cells := 0, slots := 0, locals := 42 } : Room) D [(cI, .int), (cL, .long)] [.ref (bd 0), .int (nI j)] (wM bd cI cL th qy lp sp (nI mK) (nI uK) pr ex dy tk bi (nI c) sh sr mk su mu co du mS) (wM bd cI cL 0 qy lp sp (nI mK) (nI uK) pr ex dy tk bi (nI c) sh sr mk su mu co du mS) (tk j) True 0 0 sz := by
  refine gm_i (cc := cX2_taken) (maxL := 2) (by decide) rfl (Nat.le_of_ble_eq_true rfl) ?_
  intro pg en s m args below meth cd A ls hx hb hr hml hown hts hlocks hin hA hK hP hD hl
  have hl : lv_has ls 2 [(0, .ref (bd 0)), (1, .int (nI j))] := hl
  have hS : va_S A s.heap s.heap [] := va_S.rf
  refine lv_aload_n hx hb dX2_taken_0 rfl (lv_at hl 0 rfl) ?_
  refine lv_iload_n hx hb dX2_taken_1 rfl (lv_at hl 1 rfl) ?_
  refine gS_i (wc := []) (wr := [(bd 0, .inr (2, [.int th, .int qy, .int lp, .int sp, .int (nI mK), .int (nI uK), .ref (bd 1), .ref (bd 2), .ref (bd 3), .ref (bd 4), .ref (bd 5), .int (nI c), .ref (bd 6), .ref (bd 7), .ref (bd 8), .ref (bd 9), .ref (bd 10), .ref (bd 11), .ref (bd 12), .int mS])), (bd 1, .inl (cI, 20, .inl pr)), (bd 2, .inl (cI, 20, .inl ex)), (bd 3, .inl (cI, 360, .inl dy)), (bd 4, .inl (cI, 20, .inl tk)), (bd 5, .inl (cL, 20, .inr (.inl bi))), (bd 6, .inl (cI, 20, .inl sh)), (bd 7, .inl (cI, 20, .inl sr)), (bd 8, .inl (cI, 20, .inl mk)), (bd 9, .inl (cI, 20, .inl su)), (bd 10, .inl (cI, 20, .inl mu)), (bd 11, .inl (cI, 20, .inl co)), (bd 12, .inl (cL, 20, .inr (.inl du)))]) (w1 := []) (W' := (wM bd cI cL th qy lp sp (nI mK) (nI uK) pr ex dy tk bi (nI c) sh sr mk su mu co du mS)) (As := [.int (nI j)]) (rest := [.ref (bd 0)]) ⟨hx, hb, hml, hown, hts⟩ (c_X2_isYear l D s.heap.size cI cL (nI j)) (va_cwS 1 hts gX2_taken_X2_isYear rfl rfl rfl (by decide +kernel) ⟨(Nat.le_of_ble_eq_true rfl), (Nat.le_of_ble_eq_true rfl)⟩) hS hA hK hP hD [0, 1] rfl [] [0, 1, 2, 3, 4, 5, 6, 7, 8, 9, 10, 11, 12] [0, 1, 2, 3, 4, 5, 6, 7, 8, 9, 10, 11, 12] rfl (by decide) rfl (by decide) (by decide) rfl (by decide) rfl hl.1 rfl (Nat.le_of_ble_eq_true rfl) dX2_taken_2 ⟨(Nat.le_of_ble_eq_true rfl), (Nat.le_of_ble_eq_true rfl)⟩ (fun H locs _ hP hD hS => ?_)
  refine gj_i (bz_t (inR_nI (n := 19) rfl (by omega) (by decide))) ?_
  refine lv_if_eq (tgt := 12) hx hb dX2_taken_5 (by decide) (fun cz => ?_) (fun cz => ?_)
  · exact absurd cz (by decide)
  · refine lv_iconst (v := 0) hx hb dX2_taken_8 (by decide) ?_
    refine lv_goto (tgt := 13) hx hb dX2_taken_9 (by decide) ?_
    refine gV_i (wc := (wM bd cI cL th qy lp sp (nI mK) (nI uK) pr ex dy tk bi (nI c) sh sr mk su mu co du mS)) (wr := []) (w1 := (wM bd cI cL 0 qy lp sp (nI mK) (nI uK) pr ex dy tk bi (nI c) sh sr mk su mu co du mS)) (W' := (wM bd cI cL 0 qy lp sp (nI mK) (nI uK) pr ex dy tk bi (nI c) sh sr mk su mu co du mS)) (As := [.int 0]) (rest := []) ⟨hx, hb, hml, hown, hts⟩ (c_X2_holds l D H.size bd cI cL th qy lp sp mK uK pr ex dy tk bi c sh sr mk su mu co du mS 0) (cwV 1 hts gX2_taken_X2_holds rfl rfl rfl (by decide +kernel) ⟨(Nat.le_of_ble_eq_true rfl), (Nat.le_of_ble_eq_true rfl)⟩) hS hA hK hP hD [0, 1] rfl [0, 1, 2, 3, 4, 5, 6, 7, 8, 9, 10, 11, 12] [] [0, 1, 2, 3, 4, 5, 6, 7, 8, 9, 10, 11, 12] rfl (by decide) rfl (by decide) (by decide) rfl (by decide) 0 2 rfl rfl rfl rfl hl.1 rfl (Nat.le_of_ble_eq_true rfl) dX2_taken_13 ⟨(Nat.le_of_ble_eq_true rfl), (Nat.le_of_ble_eq_true rfl)⟩ (fun H locs _ hP hD hS => ?_)
    refine gj_i (bz_t rfl) ?_
    refine lv_if_eq (tgt := 28) hx hb dX2_taken_16 (by decide) (fun cz => ?_) (fun cz => ?_)
    · exact absurd cz (by decide)
    · refine lv_aload_n hx hb dX2_taken_19 rfl (lv_at hl 0 rfl) ?_
      refine va_get (D := D) (ci := 2) (C := RX2) (T := TX2) (N := 20) hx hb hts inX2_taken_X2 hown hK hP 0 rfl rfl 9 (by decide) (hts _ hX2_taken__fieldLink_RX2_36_MakeupGasModel_taken_I_) (fun _ h9 => h9) rfl dX2_taken_20 ?_
      refine lv_iload_n hx hb dX2_taken_23 rfl (lv_at hl 1 rfl) ?_
      refine ga_iald (j := j) hx hb hK hP 4 0 rfl rfl hj (by decide) dX2_taken_24 ?_
      refine lv_goto (tgt := 29) hx hb dX2_taken_25 (by decide) ?_
      exact ge_i hx hb hr hlocks rfl hK hP hD hS trivial (Nat.le_of_ble_eq_true rfl) (Nat.le_of_ble_eq_true rfl) dX2_taken_29
set_option maxHeartbeats 4000000 in
set_option maxRecDepth 100000 in
theorem c_X2_taken_1 (l : Launch) (D : va_G) (sz : Nat) (bd : Nat → Nat) (cI cL : ClassId) (th qy lp sp : Int32) (mK uK : Nat) (pr ex dy tk : Nat → Int32) (bi : Nat → Int64) (c : Nat) (sh sr mk su mu co : Nat → Int32) (du : Nat → Int64) (mS : Int32) (v : Int32) (hbad : ¬ inR v 0 19) : gCi l yX2_taken wsX2_taken ({ frames := 2, cells := 0, slots := 0, locals := 42 } : Room) D [(cI, .int), (cL, .long)] [.ref (bd 0), .int v] (wM bd cI cL th qy lp sp (nI mK) (nI uK) pr ex dy tk bi (nI c) sh sr mk su mu co du mS) (wM bd cI cL 1 qy lp sp (nI mK) (nI uK) pr ex dy tk bi (nI c) sh sr mk su mu co du mS) 0 True 0 0 sz := by
  refine gm_i (cc := cX2_taken) (maxL := 2) (by decide) rfl (Nat.le_of_ble_eq_true rfl) ?_
  intro pg en s m args below meth cd A ls hx hb hr hml hown hts hlocks hin hA hK hP hD hl
  have hl : lv_has ls 2 [(0, .ref (bd 0)), (1, .int v)] := hl
  have hS : va_S A s.heap s.heap [] := va_S.rf
  refine lv_aload_n hx hb dX2_taken_0 rfl (lv_at hl 0 rfl) ?_
  refine lv_iload_n hx hb dX2_taken_1 rfl (lv_at hl 1 rfl) ?_
  refine gS_i (wc := []) (wr := [(bd 0, .inr (2, [.int th, .int qy, .int lp, .int sp, .int (nI mK), .int (nI uK), .ref (bd 1), .ref (bd 2), .ref (bd 3), .ref (bd 4), .ref (bd 5), .int (nI c), .ref (bd 6), .ref (bd 7), .ref (bd 8), .ref (bd 9), .ref (bd 10), .ref (bd 11), .ref (bd 12), .int mS])), (bd 1, .inl (cI, 20, .inl pr)), (bd 2, .inl (cI, 20, .inl ex)), (bd 3, .inl (cI, 360, .inl dy)), (bd 4, .inl (cI, 20, .inl tk)), (bd 5, .inl (cL, 20, .inr (.inl bi))), (bd 6, .inl (cI, 20, .inl sh)), (bd 7, .inl (cI, 20, .inl sr)), (bd 8, .inl (cI, 20, .inl mk)), (bd 9, .inl (cI, 20, .inl su)), (bd 10, .inl (cI, 20, .inl mu)), (bd 11, .inl (cI, 20, .inl co)), (bd 12, .inl (cL, 20, .inr (.inl du)))]) (w1 := []) (W' := (wM bd cI cL th qy lp sp (nI mK) (nI uK) pr ex dy tk bi (nI c) sh sr mk su mu co du mS)) (As := [.int v]) (rest := [.ref (bd 0)]) ⟨hx, hb, hml, hown, hts⟩ (c_X2_isYear l D s.heap.size cI cL v) (va_cwS 1 hts gX2_taken_X2_isYear rfl rfl rfl (by decide +kernel) ⟨(Nat.le_of_ble_eq_true rfl), (Nat.le_of_ble_eq_true rfl)⟩) hS hA hK hP hD [0, 1] rfl [] [0, 1, 2, 3, 4, 5, 6, 7, 8, 9, 10, 11, 12] [0, 1, 2, 3, 4, 5, 6, 7, 8, 9, 10, 11, 12] rfl (by decide) rfl (by decide) (by decide) rfl (by decide) rfl hl.1 rfl (Nat.le_of_ble_eq_true rfl) dX2_taken_2 ⟨(Nat.le_of_ble_eq_true rfl), (Nat.le_of_ble_eq_true rfl)⟩ (fun H locs _ hP hD hS => ?_)
  refine gj_i (bz_f hbad) ?_
  refine lv_if_eq (tgt := 12) hx hb dX2_taken_5 (by decide) (fun cz => ?_) (fun cz => ?_)
  · refine lv_iconst (v := 1) hx hb dX2_taken_12 (by decide) ?_
    refine gV_i (wc := (wM bd cI cL th qy lp sp (nI mK) (nI uK) pr ex dy tk bi (nI c) sh sr mk su mu co du mS)) (wr := []) (w1 := (wM bd cI cL 1 qy lp sp (nI mK) (nI uK) pr ex dy tk bi (nI c) sh sr mk su mu co du mS)) (W' := (wM bd cI cL 1 qy lp sp (nI mK) (nI uK) pr ex dy tk bi (nI c) sh sr mk su mu co du mS)) (As := [.int 1]) (rest := []) ⟨hx, hb, hml, hown, hts⟩ (c_X2_holds l D H.size bd cI cL th qy lp sp mK uK pr ex dy tk bi c sh sr mk su mu co du mS 1) (cwV 1 hts gX2_taken_X2_holds rfl rfl rfl (by decide +kernel) ⟨(Nat.le_of_ble_eq_true rfl), (Nat.le_of_ble_eq_true rfl)⟩) hS hA hK hP hD [0, 1] rfl [0, 1, 2, 3, 4, 5, 6, 7, 8, 9, 10, 11, 12] [] [0, 1, 2, 3, 4, 5, 6, 7, 8, 9, 10, 11, 12] rfl (by decide) rfl (by decide) (by decide) rfl (by decide) 0 2 rfl rfl rfl rfl hl.1 rfl (Nat.le_of_ble_eq_true rfl) dX2_taken_13 ⟨(Nat.le_of_ble_eq_true rfl), (Nat.le_of_ble_eq_true rfl)⟩ (fun H locs _ hP hD hS => ?_)
    refine gj_i (bz_f (by decide)) ?_
    refine lv_if_eq (tgt := 28) hx hb dX2_taken_16 (by decide) (fun cz => ?_) (fun cz => ?_)
    · refine lv_iconst (v := 0) hx hb dX2_taken_28 (by decide) ?_
      exact ge_i hx hb hr hlocks rfl hK hP hD hS trivial (Nat.le_of_ble_eq_true rfl) (Nat.le_of_ble_eq_true rfl) dX2_taken_29
    · exact absurd cz (by decide)
  · exact absurd cz (by decide)
theorem inX2_price_X2 : ∀ q ∈ wsX20, q ∈ wsX2_price := by decide +kernel
theorem hX2_price__fieldLink_RX2_26_MakeupGasModel_prices_I_ : Cond.fieldLink RX2 26 "MakeupGasModel" "prices" "[I" ∈ wsX2_price := by decide +kernel
set_option maxHeartbeats 4000000 in
set_option maxRecDepth 100000 in
theorem c_X2_price (l : Launch) (D : va_G) (sz : Nat) (bd : Nat → Nat) (cI cL : ClassId) (th qy lp sp : Int32) (mK uK : Nat) (pr ex dy tk : Nat → Int32) (bi : Nat → Int64) (c : Nat) (sh sr mk su mu co : Nat → Int32) (du : Nat → Int64) (mS : Int32) (j : Nat) (hj : j < 20) : gCi l yX2_price wsX2_price ({ frames := 2, cells := 0, slots := 0, locals := 42 } : Room) D [(cI, .int), (cL, .long)] [.ref (bd 0), .int (nI j)] (wM bd cI cL th qy lp sp (nI mK) (nI uK) pr ex dy tk bi (nI c) sh sr mk su mu co du mS) (wM bd cI cL 0 qy lp sp (nI mK) (nI uK) pr ex dy tk bi (nI c) sh sr mk su mu co du mS) (pr j) True 0 0 sz := by
  refine gm_i (cc := cX2_price) (maxL := 2) (by decide) rfl (Nat.le_of_ble_eq_true rfl) ?_
  intro pg en s m args below meth cd A ls hx hb hr hml hown hts hlocks hin hA hK hP hD hl
  have hl : lv_has ls 2 [(0, .ref (bd 0)), (1, .int (nI j))] := hl
  have hS : va_S A s.heap s.heap [] := va_S.rf
  refine lv_aload_n hx hb dX2_price_0 rfl (lv_at hl 0 rfl) ?_
  refine lv_iload_n hx hb dX2_price_1 rfl (lv_at hl 1 rfl) ?_
  refine gS_i (wc := []) (wr := [(bd 0, .inr (2, [.int th, .int qy, .int lp, .int sp, .int (nI mK), .int (nI uK), .ref (bd 1), .ref (bd 2), .ref (bd 3), .ref (bd 4), .ref (bd 5), .int (nI c), .ref (bd 6), .ref (bd 7), .ref (bd 8), .ref (bd 9), .ref (bd 10), .ref (bd 11), .ref (bd 12), .int mS])), (bd 1, .inl (cI, 20, .inl pr)), (bd 2, .inl (cI, 20, .inl ex)), (bd 3, .inl (cI, 360, .inl dy)), (bd 4, .inl (cI, 20, .inl tk)), (bd 5, .inl (cL, 20, .inr (.inl bi))), (bd 6, .inl (cI, 20, .inl sh)), (bd 7, .inl (cI, 20, .inl sr)), (bd 8, .inl (cI, 20, .inl mk)), (bd 9, .inl (cI, 20, .inl su)), (bd 10, .inl (cI, 20, .inl mu)), (bd 11, .inl (cI, 20, .inl co)), (bd 12, .inl (cL, 20, .inr (.inl du)))]) (w1 := []) (W' := (wM bd cI cL th qy lp sp (nI mK) (nI uK) pr ex dy tk bi (nI c) sh sr mk su mu co du mS)) (As := [.int (nI j)]) (rest := [.ref (bd 0)]) ⟨hx, hb, hml, hown, hts⟩ (c_X2_isYear l D s.heap.size cI cL (nI j)) (va_cwS 1 hts gX2_price_X2_isYear rfl rfl rfl (by decide +kernel) ⟨(Nat.le_of_ble_eq_true rfl), (Nat.le_of_ble_eq_true rfl)⟩) hS hA hK hP hD [0, 1] rfl [] [0, 1, 2, 3, 4, 5, 6, 7, 8, 9, 10, 11, 12] [0, 1, 2, 3, 4, 5, 6, 7, 8, 9, 10, 11, 12] rfl (by decide) rfl (by decide) (by decide) rfl (by decide) rfl hl.1 rfl (Nat.le_of_ble_eq_true rfl) dX2_price_2 ⟨(Nat.le_of_ble_eq_true rfl), (Nat.le_of_ble_eq_true rfl)⟩ (fun H locs _ hP hD hS => ?_)
  refine gj_i (bz_t (inR_nI (n := 19) rfl (by omega) (by decide))) ?_
  refine lv_if_eq (tgt := 12) hx hb dX2_price_5 (by decide) (fun cz => ?_) (fun cz => ?_)
  · exact absurd cz (by decide)
  · refine lv_iconst (v := 0) hx hb dX2_price_8 (by decide) ?_
    refine lv_goto (tgt := 13) hx hb dX2_price_9 (by decide) ?_
    refine gV_i (wc := (wM bd cI cL th qy lp sp (nI mK) (nI uK) pr ex dy tk bi (nI c) sh sr mk su mu co du mS)) (wr := []) (w1 := (wM bd cI cL 0 qy lp sp (nI mK) (nI uK) pr ex dy tk bi (nI c) sh sr mk su mu co du mS)) (W' := (wM bd cI cL 0 qy lp sp (nI mK) (nI uK) pr ex dy tk bi (nI c) sh sr mk su mu co du mS)) (As := [.int 0]) (rest := []) ⟨hx, hb, hml, hown, hts⟩ (c_X2_holds l D H.size bd cI cL th qy lp sp mK uK pr ex dy tk bi c sh sr mk su mu co du mS 0) (cwV 1 hts gX2_price_X2_holds rfl rfl rfl (by decide +kernel) ⟨(Nat.le_of_ble_eq_true rfl), (Nat.le_of_ble_eq_true rfl)⟩) hS hA hK hP hD [0, 1] rfl [0, 1, 2, 3, 4, 5, 6, 7, 8, 9, 10, 11, 12] [] [0, 1, 2, 3, 4, 5, 6, 7, 8, 9, 10, 11, 12] rfl (by decide) rfl (by decide) (by decide) rfl (by decide) 0 2 rfl rfl rfl rfl hl.1 rfl (Nat.le_of_ble_eq_true rfl) dX2_price_13 ⟨(Nat.le_of_ble_eq_true rfl), (Nat.le_of_ble_eq_true rfl)⟩ (fun H locs _ hP hD hS => ?_)
    refine gj_i (bz_t rfl) ?_
    refine lv_if_eq (tgt := 28) hx hb dX2_price_16 (by decide) (fun cz => ?_) (fun cz => ?_)
    · exact absurd cz (by decide)
    · refine lv_aload_n hx hb dX2_price_19 rfl (lv_at hl 0 rfl) ?_
      refine va_get (D := D) (ci := 2) (C := RX2) (T := TX2) (N := 20) hx hb hts inX2_price_X2 hown hK hP 0 rfl rfl 6 (by decide) (hts _ hX2_price__fieldLink_RX2_26_MakeupGasModel_prices_I_) (fun _ h9 => h9) rfl dX2_price_20 ?_
      refine lv_iload_n hx hb dX2_price_23 rfl (lv_at hl 1 rfl) ?_
      refine ga_iald (j := j) hx hb hK hP 1 0 rfl rfl hj (by decide) dX2_price_24 ?_
      refine lv_goto (tgt := 29) hx hb dX2_price_25 (by decide) ?_
      exact ge_i hx hb hr hlocks rfl hK hP hD hS trivial (Nat.le_of_ble_eq_true rfl) (Nat.le_of_ble_eq_true rfl) dX2_price_29
set_option maxHeartbeats 4000000 in
set_option maxRecDepth 100000 in
theorem c_X2_price_1 (l : Launch) (D : va_G) (sz : Nat) (bd : Nat → Nat) (cI cL : ClassId) (th qy lp sp : Int32) (mK uK : Nat) (pr ex dy tk : Nat → Int32) (bi : Nat → Int64) (c : Nat) (sh sr mk su mu co : Nat → Int32) (du : Nat → Int64) (mS : Int32) (v : Int32) (hbad : ¬ inR v 0 19) : gCi l yX2_price wsX2_price ({ frames := 2, cells := 0, slots := 0, locals := 42 } : Room) D [(cI, .int), (cL, .long)] [.ref (bd 0), .int v] (wM bd cI cL th qy lp sp (nI mK) (nI uK) pr ex dy tk bi (nI c) sh sr mk su mu co du mS) (wM bd cI cL 1 qy lp sp (nI mK) (nI uK) pr ex dy tk bi (nI c) sh sr mk su mu co du mS) 0 True 0 0 sz := by
  refine gm_i (cc := cX2_price) (maxL := 2) (by decide) rfl (Nat.le_of_ble_eq_true rfl) ?_
  intro pg en s m args below meth cd A ls hx hb hr hml hown hts hlocks hin hA hK hP hD hl
  have hl : lv_has ls 2 [(0, .ref (bd 0)), (1, .int v)] := hl
  have hS : va_S A s.heap s.heap [] := va_S.rf
  refine lv_aload_n hx hb dX2_price_0 rfl (lv_at hl 0 rfl) ?_
  refine lv_iload_n hx hb dX2_price_1 rfl (lv_at hl 1 rfl) ?_
  refine gS_i (wc := []) (wr := [(bd 0, .inr (2, [.int th, .int qy, .int lp, .int sp, .int (nI mK), .int (nI uK), .ref (bd 1), .ref (bd 2), .ref (bd 3), .ref (bd 4), .ref (bd 5), .int (nI c), .ref (bd 6), .ref (bd 7), .ref (bd 8), .ref (bd 9), .ref (bd 10), .ref (bd 11), .ref (bd 12), .int mS])), (bd 1, .inl (cI, 20, .inl pr)), (bd 2, .inl (cI, 20, .inl ex)), (bd 3, .inl (cI, 360, .inl dy)), (bd 4, .inl (cI, 20, .inl tk)), (bd 5, .inl (cL, 20, .inr (.inl bi))), (bd 6, .inl (cI, 20, .inl sh)), (bd 7, .inl (cI, 20, .inl sr)), (bd 8, .inl (cI, 20, .inl mk)), (bd 9, .inl (cI, 20, .inl su)), (bd 10, .inl (cI, 20, .inl mu)), (bd 11, .inl (cI, 20, .inl co)), (bd 12, .inl (cL, 20, .inr (.inl du)))]) (w1 := []) (W' := (wM bd cI cL th qy lp sp (nI mK) (nI uK) pr ex dy tk bi (nI c) sh sr mk su mu co du mS)) (As := [.int v]) (rest := [.ref (bd 0)]) ⟨hx, hb, hml, hown, hts⟩ (c_X2_isYear l D s.heap.size cI cL v) (va_cwS 1 hts gX2_price_X2_isYear rfl rfl rfl (by decide +kernel) ⟨(Nat.le_of_ble_eq_true rfl), (Nat.le_of_ble_eq_true rfl)⟩) hS hA hK hP hD [0, 1] rfl [] [0, 1, 2, 3, 4, 5, 6, 7, 8, 9, 10, 11, 12] [0, 1, 2, 3, 4, 5, 6, 7, 8, 9, 10, 11, 12] rfl (by decide) rfl (by decide) (by decide) rfl (by decide) rfl hl.1 rfl (Nat.le_of_ble_eq_true rfl) dX2_price_2 ⟨(Nat.le_of_ble_eq_true rfl), (Nat.le_of_ble_eq_true rfl)⟩ (fun H locs _ hP hD hS => ?_)
  refine gj_i (bz_f hbad) ?_
  refine lv_if_eq (tgt := 12) hx hb dX2_price_5 (by decide) (fun cz => ?_) (fun cz => ?_)
  · refine lv_iconst (v := 1) hx hb dX2_price_12 (by decide) ?_
    refine gV_i (wc := (wM bd cI cL th qy lp sp (nI mK) (nI uK) pr ex dy tk bi (nI c) sh sr mk su mu co du mS)) (wr := []) (w1 := (wM bd cI cL 1 qy lp sp (nI mK) (nI uK) pr ex dy tk bi (nI c) sh sr mk su mu co du mS)) (W' := (wM bd cI cL 1 qy lp sp (nI mK) (nI uK) pr ex dy tk bi (nI c) sh sr mk su mu co du mS)) (As := [.int 1]) (rest := []) ⟨hx, hb, hml, hown, hts⟩ (c_X2_holds l D H.size bd cI cL th qy lp sp mK uK pr ex dy tk bi c sh sr mk su mu co du mS 1) (cwV 1 hts gX2_price_X2_holds rfl rfl rfl (by decide +kernel) ⟨(Nat.le_of_ble_eq_true rfl), (Nat.le_of_ble_eq_true rfl)⟩) hS hA hK hP hD [0, 1] rfl [0, 1, 2, 3, 4, 5, 6, 7, 8, 9, 10, 11, 12] [] [0, 1, 2, 3, 4, 5, 6, 7, 8, 9, 10, 11, 12] rfl (by decide) rfl (by decide) (by decide) rfl (by decide) 0 2 rfl rfl rfl rfl hl.1 rfl (Nat.le_of_ble_eq_true rfl) dX2_price_13 ⟨(Nat.le_of_ble_eq_true rfl), (Nat.le_of_ble_eq_true rfl)⟩ (fun H locs _ hP hD hS => ?_)
    refine gj_i (bz_f (by decide)) ?_
    refine lv_if_eq (tgt := 28) hx hb dX2_price_16 (by decide) (fun cz => ?_) (fun cz => ?_)
    · refine lv_iconst (v := 0) hx hb dX2_price_28 (by decide) ?_
      exact ge_i hx hb hr hlocks rfl hK hP hD hS trivial (Nat.le_of_ble_eq_true rfl) (Nat.le_of_ble_eq_true rfl) dX2_price_29
    · exact absurd cz (by decide)
  · exact absurd cz (by decide)
set_option maxHeartbeats 4000000 in
set_option maxRecDepth 100000 in
theorem c_X2_least (l : Launch) (D : va_G) (sz : Nat) (bd : Nat → Nat) (cI cL : ClassId) (th qy lp sp : Int32) (mK uK : Nat) (pr ex dy tk : Nat → Int32) (bi : Nat → Int64) (c : Nat) (sh sr mk su mu co : Nat → Int32) (du : Nat → Int64) (mS : Int32) (j : Nat) (hj : j < 20) : gCi l yX2_least wsX2_least ({ frames := 2, cells := 0, slots := 0, locals := 42 } : Room) D [(cI, .int), (cL, .long)] [.ref (bd 0), .int (nI j)] (wM bd cI cL th qy lp sp (nI mK) (nI uK) pr ex dy tk bi (nI c) sh sr mk su mu co du mS) (wM bd cI cL 0 qy lp sp (nI mK) (nI uK) pr ex dy tk bi (nI c) sh sr mk su mu co du mS) (lqf qy lp ex j) True 0 0 sz := by
  refine gm_i (cc := cX2_least) (maxL := 2) (by decide) rfl (Nat.le_of_ble_eq_true rfl) ?_
  intro pg en s m args below meth cd A ls hx hb hr hml hown hts hlocks hin hA hK hP hD hl
  have hl : lv_has ls 2 [(0, .ref (bd 0)), (1, .int (nI j))] := hl
  have hS : va_S A s.heap s.heap [] := va_S.rf
  refine lv_aload_n hx hb dX2_least_0 rfl (lv_at hl 0 rfl) ?_
  refine lv_iload_n hx hb dX2_least_1 rfl (lv_at hl 1 rfl) ?_
  refine gS_i (wc := []) (wr := [(bd 0, .inr (2, [.int th, .int qy, .int lp, .int sp, .int (nI mK), .int (nI uK), .ref (bd 1), .ref (bd 2), .ref (bd 3), .ref (bd 4), .ref (bd 5), .int (nI c), .ref (bd 6), .ref (bd 7), .ref (bd 8), .ref (bd 9), .ref (bd 10), .ref (bd 11), .ref (bd 12), .int mS])), (bd 1, .inl (cI, 20, .inl pr)), (bd 2, .inl (cI, 20, .inl ex)), (bd 3, .inl (cI, 360, .inl dy)), (bd 4, .inl (cI, 20, .inl tk)), (bd 5, .inl (cL, 20, .inr (.inl bi))), (bd 6, .inl (cI, 20, .inl sh)), (bd 7, .inl (cI, 20, .inl sr)), (bd 8, .inl (cI, 20, .inl mk)), (bd 9, .inl (cI, 20, .inl su)), (bd 10, .inl (cI, 20, .inl mu)), (bd 11, .inl (cI, 20, .inl co)), (bd 12, .inl (cL, 20, .inr (.inl du)))]) (w1 := []) (W' := (wM bd cI cL th qy lp sp (nI mK) (nI uK) pr ex dy tk bi (nI c) sh sr mk su mu co du mS)) (As := [.int (nI j)]) (rest := [.ref (bd 0)]) ⟨hx, hb, hml, hown, hts⟩ (c_X2_isYear l D s.heap.size cI cL (nI j)) (va_cwS 1 hts gX2_least_X2_isYear rfl rfl rfl (by decide +kernel) ⟨(Nat.le_of_ble_eq_true rfl), (Nat.le_of_ble_eq_true rfl)⟩) hS hA hK hP hD [0, 1] rfl [] [0, 1, 2, 3, 4, 5, 6, 7, 8, 9, 10, 11, 12] [0, 1, 2, 3, 4, 5, 6, 7, 8, 9, 10, 11, 12] rfl (by decide) rfl (by decide) (by decide) rfl (by decide) rfl hl.1 rfl (Nat.le_of_ble_eq_true rfl) dX2_least_2 ⟨(Nat.le_of_ble_eq_true rfl), (Nat.le_of_ble_eq_true rfl)⟩ (fun H locs _ hP hD hS => ?_)
  refine gj_i (bz_t (inR_nI (n := 19) rfl (by omega) (by decide))) ?_
  refine lv_if_eq (tgt := 12) hx hb dX2_least_5 (by decide) (fun cz => ?_) (fun cz => ?_)
  · exact absurd cz (by decide)
  · refine lv_iconst (v := 0) hx hb dX2_least_8 (by decide) ?_
    refine lv_goto (tgt := 13) hx hb dX2_least_9 (by decide) ?_
    refine gV_i (wc := (wM bd cI cL th qy lp sp (nI mK) (nI uK) pr ex dy tk bi (nI c) sh sr mk su mu co du mS)) (wr := []) (w1 := (wM bd cI cL 0 qy lp sp (nI mK) (nI uK) pr ex dy tk bi (nI c) sh sr mk su mu co du mS)) (W' := (wM bd cI cL 0 qy lp sp (nI mK) (nI uK) pr ex dy tk bi (nI c) sh sr mk su mu co du mS)) (As := [.int 0]) (rest := []) ⟨hx, hb, hml, hown, hts⟩ (c_X2_holds l D H.size bd cI cL th qy lp sp mK uK pr ex dy tk bi c sh sr mk su mu co du mS 0) (cwV 1 hts gX2_least_X2_holds rfl rfl rfl (by decide +kernel) ⟨(Nat.le_of_ble_eq_true rfl), (Nat.le_of_ble_eq_true rfl)⟩) hS hA hK hP hD [0, 1] rfl [0, 1, 2, 3, 4, 5, 6, 7, 8, 9, 10, 11, 12] [] [0, 1, 2, 3, 4, 5, 6, 7, 8, 9, 10, 11, 12] rfl (by decide) rfl (by decide) (by decide) rfl (by decide) 0 2 rfl rfl rfl rfl hl.1 rfl (Nat.le_of_ble_eq_true rfl) dX2_least_13 ⟨(Nat.le_of_ble_eq_true rfl), (Nat.le_of_ble_eq_true rfl)⟩ (fun H locs _ hP hD hS => ?_)
    refine gj_i (bz_t rfl) ?_
    refine lv_if_eq (tgt := 27) hx hb dX2_least_16 (by decide) (fun cz => ?_) (fun cz => ?_)
    · exact absurd cz (by decide)
    · refine lv_aload_n hx hb dX2_least_19 rfl (lv_at hl 0 rfl) ?_
      refine lv_iload_n hx hb dX2_least_20 rfl (lv_at hl 1 rfl) ?_
      refine gV_i (wc := (wM bd cI cL 0 qy lp sp (nI mK) (nI uK) pr ex dy tk bi (nI c) sh sr mk su mu co du mS)) (wr := []) (w1 := (wM bd cI cL 0 qy lp sp (nI mK) (nI uK) pr ex dy tk bi (nI c) sh sr mk su mu co du mS)) (W' := (wM bd cI cL 0 qy lp sp (nI mK) (nI uK) pr ex dy tk bi (nI c) sh sr mk su mu co du mS)) (As := [.int (nI j)]) (rest := []) ⟨hx, hb, hml, hown, hts⟩ (c_X2_leastOf l D H.size bd cI cL 0 qy lp sp mK uK pr ex dy tk bi c sh sr mk su mu co du mS j hj) (cwV 1 hts gX2_least_X2_leastOf rfl rfl rfl (by decide +kernel) ⟨(Nat.le_of_ble_eq_true rfl), (Nat.le_of_ble_eq_true rfl)⟩) hS hA hK hP hD [0, 1] rfl [0, 1, 2, 3, 4, 5, 6, 7, 8, 9, 10, 11, 12] [] [0, 1, 2, 3, 4, 5, 6, 7, 8, 9, 10, 11, 12] rfl (by decide) rfl (by decide) (by decide) rfl (by decide) 0 2 rfl rfl rfl rfl hl.1 rfl (Nat.le_of_ble_eq_true rfl) dX2_least_21 ⟨(Nat.le_of_ble_eq_true rfl), (Nat.le_of_ble_eq_true rfl)⟩ (fun H locs _ hP hD hS => ?_)
      refine lv_goto (tgt := 28) hx hb dX2_least_24 (by decide) ?_
      exact ge_i hx hb hr hlocks rfl hK hP hD hS trivial (Nat.le_of_ble_eq_true rfl) (Nat.le_of_ble_eq_true rfl) dX2_least_28
set_option maxHeartbeats 4000000 in
set_option maxRecDepth 100000 in
theorem c_X2_least_1 (l : Launch) (D : va_G) (sz : Nat) (bd : Nat → Nat) (cI cL : ClassId) (th qy lp sp : Int32) (mK uK : Nat) (pr ex dy tk : Nat → Int32) (bi : Nat → Int64) (c : Nat) (sh sr mk su mu co : Nat → Int32) (du : Nat → Int64) (mS : Int32) (v : Int32) (hbad : ¬ inR v 0 19) : gCi l yX2_least wsX2_least ({ frames := 2, cells := 0, slots := 0, locals := 42 } : Room) D [(cI, .int), (cL, .long)] [.ref (bd 0), .int v] (wM bd cI cL th qy lp sp (nI mK) (nI uK) pr ex dy tk bi (nI c) sh sr mk su mu co du mS) (wM bd cI cL 1 qy lp sp (nI mK) (nI uK) pr ex dy tk bi (nI c) sh sr mk su mu co du mS) 0 True 0 0 sz := by
  refine gm_i (cc := cX2_least) (maxL := 2) (by decide) rfl (Nat.le_of_ble_eq_true rfl) ?_
  intro pg en s m args below meth cd A ls hx hb hr hml hown hts hlocks hin hA hK hP hD hl
  have hl : lv_has ls 2 [(0, .ref (bd 0)), (1, .int v)] := hl
  have hS : va_S A s.heap s.heap [] := va_S.rf
  refine lv_aload_n hx hb dX2_least_0 rfl (lv_at hl 0 rfl) ?_
  refine lv_iload_n hx hb dX2_least_1 rfl (lv_at hl 1 rfl) ?_
  refine gS_i (wc := []) (wr := [(bd 0, .inr (2, [.int th, .int qy, .int lp, .int sp, .int (nI mK), .int (nI uK), .ref (bd 1), .ref (bd 2), .ref (bd 3), .ref (bd 4), .ref (bd 5), .int (nI c), .ref (bd 6), .ref (bd 7), .ref (bd 8), .ref (bd 9), .ref (bd 10), .ref (bd 11), .ref (bd 12), .int mS])), (bd 1, .inl (cI, 20, .inl pr)), (bd 2, .inl (cI, 20, .inl ex)), (bd 3, .inl (cI, 360, .inl dy)), (bd 4, .inl (cI, 20, .inl tk)), (bd 5, .inl (cL, 20, .inr (.inl bi))), (bd 6, .inl (cI, 20, .inl sh)), (bd 7, .inl (cI, 20, .inl sr)), (bd 8, .inl (cI, 20, .inl mk)), (bd 9, .inl (cI, 20, .inl su)), (bd 10, .inl (cI, 20, .inl mu)), (bd 11, .inl (cI, 20, .inl co)), (bd 12, .inl (cL, 20, .inr (.inl du)))]) (w1 := []) (W' := (wM bd cI cL th qy lp sp (nI mK) (nI uK) pr ex dy tk bi (nI c) sh sr mk su mu co du mS)) (As := [.int v]) (rest := [.ref (bd 0)]) ⟨hx, hb, hml, hown, hts⟩ (c_X2_isYear l D s.heap.size cI cL v) (va_cwS 1 hts gX2_least_X2_isYear rfl rfl rfl (by decide +kernel) ⟨(Nat.le_of_ble_eq_true rfl), (Nat.le_of_ble_eq_true rfl)⟩) hS hA hK hP hD [0, 1] rfl [] [0, 1, 2, 3, 4, 5, 6, 7, 8, 9, 10, 11, 12] [0, 1, 2, 3, 4, 5, 6, 7, 8, 9, 10, 11, 12] rfl (by decide) rfl (by decide) (by decide) rfl (by decide) rfl hl.1 rfl (Nat.le_of_ble_eq_true rfl) dX2_least_2 ⟨(Nat.le_of_ble_eq_true rfl), (Nat.le_of_ble_eq_true rfl)⟩ (fun H locs _ hP hD hS => ?_)
  refine gj_i (bz_f hbad) ?_
  refine lv_if_eq (tgt := 12) hx hb dX2_least_5 (by decide) (fun cz => ?_) (fun cz => ?_)
  · refine lv_iconst (v := 1) hx hb dX2_least_12 (by decide) ?_
    refine gV_i (wc := (wM bd cI cL th qy lp sp (nI mK) (nI uK) pr ex dy tk bi (nI c) sh sr mk su mu co du mS)) (wr := []) (w1 := (wM bd cI cL 1 qy lp sp (nI mK) (nI uK) pr ex dy tk bi (nI c) sh sr mk su mu co du mS)) (W' := (wM bd cI cL 1 qy lp sp (nI mK) (nI uK) pr ex dy tk bi (nI c) sh sr mk su mu co du mS)) (As := [.int 1]) (rest := []) ⟨hx, hb, hml, hown, hts⟩ (c_X2_holds l D H.size bd cI cL th qy lp sp mK uK pr ex dy tk bi c sh sr mk su mu co du mS 1) (cwV 1 hts gX2_least_X2_holds rfl rfl rfl (by decide +kernel) ⟨(Nat.le_of_ble_eq_true rfl), (Nat.le_of_ble_eq_true rfl)⟩) hS hA hK hP hD [0, 1] rfl [0, 1, 2, 3, 4, 5, 6, 7, 8, 9, 10, 11, 12] [] [0, 1, 2, 3, 4, 5, 6, 7, 8, 9, 10, 11, 12] rfl (by decide) rfl (by decide) (by decide) rfl (by decide) 0 2 rfl rfl rfl rfl hl.1 rfl (Nat.le_of_ble_eq_true rfl) dX2_least_13 ⟨(Nat.le_of_ble_eq_true rfl), (Nat.le_of_ble_eq_true rfl)⟩ (fun H locs _ hP hD hS => ?_)
    refine gj_i (bz_f (by decide)) ?_
    refine lv_if_eq (tgt := 27) hx hb dX2_least_16 (by decide) (fun cz => ?_) (fun cz => ?_)
    · refine lv_iconst (v := 0) hx hb dX2_least_27 (by decide) ?_
      exact ge_i hx hb hr hlocks rfl hK hP hD hS trivial (Nat.le_of_ble_eq_true rfl) (Nat.le_of_ble_eq_true rfl) dX2_least_28
    · exact absurd cz (by decide)
  · exact absurd cz (by decide)
theorem inX2_takenFrom_X2 : ∀ q ∈ wsX20, q ∈ wsX2_takenFrom := by decide +kernel
theorem hX2_takenFrom__fieldLink_RX2_33_MakeupGasModel_days_I_ : Cond.fieldLink RX2 33 "MakeupGasModel" "days" "[I" ∈ wsX2_takenFrom := by decide +kernel
set_option maxHeartbeats 4000000 in
set_option maxRecDepth 100000 in
theorem c_X2_takenFrom (l : Launch) (D : va_G) (sz : Nat) (bd : Nat → Nat) (cI cL : ClassId) (th qy lp sp : Int32) (mK uK : Nat) (pr ex dy tk : Nat → Int32) (bi : Nat → Int64) (c : Nat) (sh sr mk su mu co : Nat → Int32) (du : Nat → Int64) (mS : Int32) (a b : Nat) (hab : a ≤ b) (hb3 : b < 360) : gCi l yX2_takenFrom wsX2_takenFrom ({ frames := 1, cells := 0, slots := 0, locals := 21 } : Room) D [(cI, .int), (cL, .long)] [.ref (bd 0), .int (nI a), .int (nI b)] (wM bd cI cL th qy lp sp (nI mK) (nI uK) pr ex dy tk bi (nI c) sh sr mk su mu co du mS) (wM bd cI cL 0 qy lp sp (nI mK) (nI uK) pr ex dy tk bi (nI c) sh sr mk su mu co du mS) (smI dy a (b + 1 - a)) True 0 0 sz := by
  refine gm_i (cc := cX2_takenFrom) (maxL := 5) (by decide) rfl (Nat.le_of_ble_eq_true rfl) ?_
  intro pg en s m args below meth cd A ls hx hb hr hml hown hts hlocks hin hA hK hP hD hl
  have hl : lv_has ls 5 [(0, .ref (bd 0)), (1, .int (nI a)), (2, .int (nI b))] := hl
  have hS : va_S A s.heap s.heap [] := va_S.rf
  refine lv_aload_n hx hb dX2_takenFrom_0 rfl (lv_at hl 0 rfl) ?_
  refine lv_iload_n hx hb dX2_takenFrom_1 rfl (lv_at hl 1 rfl) ?_
  refine lv_iload_n hx hb dX2_takenFrom_2 rfl (lv_at hl 2 rfl) ?_
  refine gS_i (wc := []) (wr := [(bd 0, .inr (2, [.int th, .int qy, .int lp, .int sp, .int (nI mK), .int (nI uK), .ref (bd 1), .ref (bd 2), .ref (bd 3), .ref (bd 4), .ref (bd 5), .int (nI c), .ref (bd 6), .ref (bd 7), .ref (bd 8), .ref (bd 9), .ref (bd 10), .ref (bd 11), .ref (bd 12), .int mS])), (bd 1, .inl (cI, 20, .inl pr)), (bd 2, .inl (cI, 20, .inl ex)), (bd 3, .inl (cI, 360, .inl dy)), (bd 4, .inl (cI, 20, .inl tk)), (bd 5, .inl (cL, 20, .inr (.inl bi))), (bd 6, .inl (cI, 20, .inl sh)), (bd 7, .inl (cI, 20, .inl sr)), (bd 8, .inl (cI, 20, .inl mk)), (bd 9, .inl (cI, 20, .inl su)), (bd 10, .inl (cI, 20, .inl mu)), (bd 11, .inl (cI, 20, .inl co)), (bd 12, .inl (cL, 20, .inr (.inl du)))]) (w1 := []) (W' := (wM bd cI cL th qy lp sp (nI mK) (nI uK) pr ex dy tk bi (nI c) sh sr mk su mu co du mS)) (As := [.int (nI a), .int (nI b)]) (rest := [.ref (bd 0)]) ⟨hx, hb, hml, hown, hts⟩ (c_X2_isRange l D s.heap.size cI cL (nI a) (nI b)) (va_cwS 2 hts gX2_takenFrom_X2_isRange rfl rfl rfl (by decide +kernel) ⟨(Nat.le_of_ble_eq_true rfl), (Nat.le_of_ble_eq_true rfl)⟩) hS hA hK hP hD [0, 1] rfl [] [0, 1, 2, 3, 4, 5, 6, 7, 8, 9, 10, 11, 12] [0, 1, 2, 3, 4, 5, 6, 7, 8, 9, 10, 11, 12] rfl (by decide) rfl (by decide) (by decide) rfl (by decide) rfl hl.1 rfl (Nat.le_of_ble_eq_true rfl) dX2_takenFrom_3 ⟨(Nat.le_of_ble_eq_true rfl), (Nat.le_of_ble_eq_true rfl)⟩ (fun H locs _ hP hD hS => ?_)
  refine gj_i (bz_t ⟨nI_pos (by omega), Int32.not_lt.mpr (nI_le hab (by omega)), nI_ge (b := 360) hb3 (by decide)⟩) ?_
  refine lv_if_eq (tgt := 13) hx hb dX2_takenFrom_6 (by decide) (fun cz => ?_) (fun cz => ?_)
  · exact absurd cz (by decide)
  · refine lv_iconst (v := 0) hx hb dX2_takenFrom_9 (by decide) ?_
    refine lv_goto (tgt := 14) hx hb dX2_takenFrom_10 (by decide) ?_
    refine gV_i (wc := (wM bd cI cL th qy lp sp (nI mK) (nI uK) pr ex dy tk bi (nI c) sh sr mk su mu co du mS)) (wr := []) (w1 := (wM bd cI cL 0 qy lp sp (nI mK) (nI uK) pr ex dy tk bi (nI c) sh sr mk su mu co du mS)) (W' := (wM bd cI cL 0 qy lp sp (nI mK) (nI uK) pr ex dy tk bi (nI c) sh sr mk su mu co du mS)) (As := [.int 0]) (rest := []) ⟨hx, hb, hml, hown, hts⟩ (c_X2_holds l D H.size bd cI cL th qy lp sp mK uK pr ex dy tk bi c sh sr mk su mu co du mS 0) (cwV 1 hts gX2_takenFrom_X2_holds rfl rfl rfl (by decide +kernel) ⟨(Nat.le_of_ble_eq_true rfl), (Nat.le_of_ble_eq_true rfl)⟩) hS hA hK hP hD [0, 1] rfl [0, 1, 2, 3, 4, 5, 6, 7, 8, 9, 10, 11, 12] [] [0, 1, 2, 3, 4, 5, 6, 7, 8, 9, 10, 11, 12] rfl (by decide) rfl (by decide) (by decide) rfl (by decide) 0 2 rfl rfl rfl rfl hl.1 rfl (Nat.le_of_ble_eq_true rfl) dX2_takenFrom_14 ⟨(Nat.le_of_ble_eq_true rfl), (Nat.le_of_ble_eq_true rfl)⟩ (fun H locs _ hP hD hS => ?_)
    refine gj_i (bz_t rfl) ?_
    refine lv_if_ne (tgt := 22) hx hb dX2_takenFrom_17 (by decide) (fun cz => ?_) (fun cz => ?_)
    · refine lv_iconst (v := 0) hx hb dX2_takenFrom_22 (by decide) ?_
      refine lv_istore_n (lv' := [(3, .int 0), (0, .ref (bd 0)), (1, .int (nI a)), (2, .int (nI b))]) hx hb dX2_takenFrom_23 rfl hl (by decide) rfl (fun ls hl => ?_)
      refine lv_iload_n hx hb dX2_takenFrom_24 rfl (lv_at hl 2 rfl) ?_
      refine lv_istore (lv' := [(4, .int (nI a)), (3, .int 0), (0, .ref (bd 0)), (1, .int (nI a)), (2, .int (nI b))]) hx hb dX2_takenFrom_25 hl (by decide) rfl (fun ls hl => ?_)
      have lp_27 : ∀ (n i : Nat), i ≤ (b + 1) → (b + 1) < i + n → a ≤ i → ∀ (H : Heap) (locs : List Loc), va_P D vwCl (wM bd cI cL 0 qy lp sp (nI mK) (nI uK) pr ex dy tk bi (nI c) sh sr mk su mu co du mS) H → va_D A (wM bd cI cL 0 qy lp sp (nI mK) (nI uK) pr ex dy tk bi (nI c) sh sr mk su mu co du mS) → va_S A s.heap H locs → ∀ (ls : Array Slot), lv_has ls 5 [(0, .ref (bd 0)), (1, .int (nI a)), (2, .int (nI b)), (3, .int (smI dy a (i - a))), (4, .int (nI i))] → W pg l en ({ frames := 1, cells := 0, slots := 0, locals := 21 } : Room) s m args below meth cd H locs 0 0 (gEi (smI dy a (b + 1 - a)) True below D [(cI, .int), (cL, .long)] (wM bd cI cL 0 qy lp sp (nI mK) (nI uK) pr ex dy tk bi (nI c) sh sr mk su mu co du mS) A args s 0 0) (F0 m 27 ls []) := by
        intro n
        induction n with
        | zero => intro i h1 h2; exact absurd h2 (by omega)
        | succ n ih =>
          intro i hi hin2 hai H locs hP hD hS ls hl
          refine lv_iload hx hb dX2_takenFrom_27 (lv_at hl 4 rfl) ?_
          refine lv_iload_n hx hb dX2_takenFrom_29 rfl (lv_at hl 2 rfl) ?_
          refine lv_icmp_gt (tgt := 49) hx hb dX2_takenFrom_30 (by decide) (fun c6 => ?_) (fun c6 => ?_)
          · have hbi : ¬ i ≤ b := fun h => absurd c6 (Int32.not_lt.mpr (nI_le h (by omega)))
            obtain rfl : i = b + 1 := by omega
            refine lv_iload_n hx hb dX2_takenFrom_49 rfl (lv_at hl 3 rfl) ?_
            exact ge_i hx hb hr hlocks rfl hK hP hD hS trivial (Nat.le_of_ble_eq_true rfl) (Nat.le_of_ble_eq_true rfl) dX2_takenFrom_50
          · have hib : i ≤ b := Nat.not_lt.mp (fun h => c6 (nI_lt h (by omega)))
            have hi3 : i < 360 := by omega
            refine lv_iload_n hx hb dX2_takenFrom_33 rfl (lv_at hl 3 rfl) ?_
            refine lv_aload_n hx hb dX2_takenFrom_34 rfl (lv_at hl 0 rfl) ?_
            refine va_get (D := D) (ci := 2) (C := RX2) (T := TX2) (N := 20) hx hb hts inX2_takenFrom_X2 hown hK hP 0 rfl rfl 8 (by decide) (hts _ hX2_takenFrom__fieldLink_RX2_33_MakeupGasModel_days_I_) (fun _ h9 => h9) rfl dX2_takenFrom_35 ?_
            refine lv_iload hx hb dX2_takenFrom_38 (lv_at hl 4 rfl) ?_
            refine ga_iald (j := i) hx hb hK hP 3 0 rfl rfl hi3 (by decide) dX2_takenFrom_40 ?_
            refine lv_iadd hx hb dX2_takenFrom_41 ?_
            refine gj_i (y := smI dy a (i + 1 - a)) (by rw [show i + 1 - a = (i - a) + 1 by omega, smI, show a + (i - a) = i by omega]) ?_
            refine lv_istore_n (lv' := [(3, .int (smI dy a (i + 1 - a))), (0, .ref (bd 0)), (1, .int (nI a)), (2, .int (nI b)), (4, .int (nI i))]) hx hb dX2_takenFrom_42 rfl hl (by decide) rfl (fun ls hl => ?_)
            refine lv_iinc (v := nI (i + 1)) (lv' := [(4, .int (nI (i + 1))), (3, .int (smI dy a (i + 1 - a))), (0, .ref (bd 0)), (1, .int (nI a)), (2, .int (nI b))]) hx hb dX2_takenFrom_43 hl (k := 4) rfl (gi_1 _) (by decide) rfl (fun ls hl => ?_)
            refine lv_goto (tgt := 27) hx hb dX2_takenFrom_46 (by decide) ?_
            exact ih (i + 1) (by omega) (by omega) (by omega) _ _ hP hD hS ls (lv_sub hl [2, 3, 4, 1, 0] rfl)
      have e0 : a - a = 0 := Nat.sub_self a
      exact lp_27 ((b + 1) + 1) a (by omega) (by omega) (Nat.le_refl a) _ _ hP hD hS ls (by rw [e0]; exact lv_sub hl [2, 3, 4, 1, 0] rfl)
    · exact absurd cz (by decide)
set_option maxHeartbeats 4000000 in
set_option maxRecDepth 100000 in
theorem c_X2_takenFrom_1 (l : Launch) (D : va_G) (sz : Nat) (bd : Nat → Nat) (cI cL : ClassId) (th qy lp sp : Int32) (mK uK : Nat) (pr ex dy tk : Nat → Int32) (bi : Nat → Int64) (c : Nat) (sh sr mk su mu co : Nat → Int32) (du : Nat → Int64) (mS : Int32) (v w : Int32) (hbad : ¬ (¬ v < 0 ∧ ¬ w < v ∧ ¬ 360 ≤ w)) : gCi l yX2_takenFrom wsX2_takenFrom ({ frames := 1, cells := 0, slots := 0, locals := 21 } : Room) D [(cI, .int), (cL, .long)] [.ref (bd 0), .int v, .int w] (wM bd cI cL th qy lp sp (nI mK) (nI uK) pr ex dy tk bi (nI c) sh sr mk su mu co du mS) (wM bd cI cL 1 qy lp sp (nI mK) (nI uK) pr ex dy tk bi (nI c) sh sr mk su mu co du mS) 0 True 0 0 sz := by
  refine gm_i (cc := cX2_takenFrom) (maxL := 5) (by decide) rfl (Nat.le_of_ble_eq_true rfl) ?_
  intro pg en s m args below meth cd A ls hx hb hr hml hown hts hlocks hin hA hK hP hD hl
  have hl : lv_has ls 5 [(0, .ref (bd 0)), (1, .int v), (2, .int w)] := hl
  have hS : va_S A s.heap s.heap [] := va_S.rf
  refine lv_aload_n hx hb dX2_takenFrom_0 rfl (lv_at hl 0 rfl) ?_
  refine lv_iload_n hx hb dX2_takenFrom_1 rfl (lv_at hl 1 rfl) ?_
  refine lv_iload_n hx hb dX2_takenFrom_2 rfl (lv_at hl 2 rfl) ?_
  refine gS_i (wc := []) (wr := [(bd 0, .inr (2, [.int th, .int qy, .int lp, .int sp, .int (nI mK), .int (nI uK), .ref (bd 1), .ref (bd 2), .ref (bd 3), .ref (bd 4), .ref (bd 5), .int (nI c), .ref (bd 6), .ref (bd 7), .ref (bd 8), .ref (bd 9), .ref (bd 10), .ref (bd 11), .ref (bd 12), .int mS])), (bd 1, .inl (cI, 20, .inl pr)), (bd 2, .inl (cI, 20, .inl ex)), (bd 3, .inl (cI, 360, .inl dy)), (bd 4, .inl (cI, 20, .inl tk)), (bd 5, .inl (cL, 20, .inr (.inl bi))), (bd 6, .inl (cI, 20, .inl sh)), (bd 7, .inl (cI, 20, .inl sr)), (bd 8, .inl (cI, 20, .inl mk)), (bd 9, .inl (cI, 20, .inl su)), (bd 10, .inl (cI, 20, .inl mu)), (bd 11, .inl (cI, 20, .inl co)), (bd 12, .inl (cL, 20, .inr (.inl du)))]) (w1 := []) (W' := (wM bd cI cL th qy lp sp (nI mK) (nI uK) pr ex dy tk bi (nI c) sh sr mk su mu co du mS)) (As := [.int v, .int w]) (rest := [.ref (bd 0)]) ⟨hx, hb, hml, hown, hts⟩ (c_X2_isRange l D s.heap.size cI cL v w) (va_cwS 2 hts gX2_takenFrom_X2_isRange rfl rfl rfl (by decide +kernel) ⟨(Nat.le_of_ble_eq_true rfl), (Nat.le_of_ble_eq_true rfl)⟩) hS hA hK hP hD [0, 1] rfl [] [0, 1, 2, 3, 4, 5, 6, 7, 8, 9, 10, 11, 12] [0, 1, 2, 3, 4, 5, 6, 7, 8, 9, 10, 11, 12] rfl (by decide) rfl (by decide) (by decide) rfl (by decide) rfl hl.1 rfl (Nat.le_of_ble_eq_true rfl) dX2_takenFrom_3 ⟨(Nat.le_of_ble_eq_true rfl), (Nat.le_of_ble_eq_true rfl)⟩ (fun H locs _ hP hD hS => ?_)
  refine gj_i (bz_f hbad) ?_
  refine lv_if_eq (tgt := 13) hx hb dX2_takenFrom_6 (by decide) (fun cz => ?_) (fun cz => ?_)
  · refine lv_iconst (v := 1) hx hb dX2_takenFrom_13 (by decide) ?_
    refine gV_i (wc := (wM bd cI cL th qy lp sp (nI mK) (nI uK) pr ex dy tk bi (nI c) sh sr mk su mu co du mS)) (wr := []) (w1 := (wM bd cI cL 1 qy lp sp (nI mK) (nI uK) pr ex dy tk bi (nI c) sh sr mk su mu co du mS)) (W' := (wM bd cI cL 1 qy lp sp (nI mK) (nI uK) pr ex dy tk bi (nI c) sh sr mk su mu co du mS)) (As := [.int 1]) (rest := []) ⟨hx, hb, hml, hown, hts⟩ (c_X2_holds l D H.size bd cI cL th qy lp sp mK uK pr ex dy tk bi c sh sr mk su mu co du mS 1) (cwV 1 hts gX2_takenFrom_X2_holds rfl rfl rfl (by decide +kernel) ⟨(Nat.le_of_ble_eq_true rfl), (Nat.le_of_ble_eq_true rfl)⟩) hS hA hK hP hD [0, 1] rfl [0, 1, 2, 3, 4, 5, 6, 7, 8, 9, 10, 11, 12] [] [0, 1, 2, 3, 4, 5, 6, 7, 8, 9, 10, 11, 12] rfl (by decide) rfl (by decide) (by decide) rfl (by decide) 0 2 rfl rfl rfl rfl hl.1 rfl (Nat.le_of_ble_eq_true rfl) dX2_takenFrom_14 ⟨(Nat.le_of_ble_eq_true rfl), (Nat.le_of_ble_eq_true rfl)⟩ (fun H locs _ hP hD hS => ?_)
    refine gj_i (bz_f (by decide)) ?_
    refine lv_if_ne (tgt := 22) hx hb dX2_takenFrom_17 (by decide) (fun cz => ?_) (fun cz => ?_)
    · exact absurd cz (by decide)
    · refine lv_iconst (v := 0) hx hb dX2_takenFrom_20 (by decide) ?_
      exact ge_i hx hb hr hlocks rfl hK hP hD hS trivial (Nat.le_of_ble_eq_true rfl) (Nat.le_of_ble_eq_true rfl) dX2_takenFrom_21
  · exact absurd cz (by decide)
theorem inX2_isClosed_X2 : ∀ q ∈ wsX20, q ∈ wsX2_isClosed := by decide +kernel
theorem hX2_isClosed__fieldLink_RX2_80_MakeupGasModel_closed_I_ : Cond.fieldLink RX2 80 "MakeupGasModel" "closed" "I" ∈ wsX2_isClosed := by decide +kernel
set_option maxHeartbeats 4000000 in
set_option maxRecDepth 100000 in
theorem c_X2_isClosed (l : Launch) (D : va_G) (sz : Nat) (bd : Nat → Nat) (cI cL : ClassId) (th qy lp sp : Int32) (mK uK : Nat) (pr ex dy tk : Nat → Int32) (bi : Nat → Int64) (c : Nat) (sh sr mk su mu co : Nat → Int32) (du : Nat → Int64) (mS : Int32) (j : Nat) (hj : j < c) (hc : c ≤ 20) (hmK : mK < 20) (huK : uK < 20) : gCi l yX2_isClosed wsX2_isClosed ({ frames := 3, cells := 0, slots := 0, locals := 71 } : Room) D [(cI, .int), (cL, .long)] [.ref (bd 0), .int (nI j)] (wM bd cI cL th qy lp sp (nI mK) (nI uK) pr ex dy tk bi (nI c) sh sr mk su mu co du mS) (wM bd cI cL 0 qy lp sp (nI mK) (nI uK) pr ex dy tk bi (nI c) (nSh (rtC qy lp sp pr ex tk mK uK (rt0 mk su sh mu co sr du) c)) (nSr (rtC qy lp sp pr ex tk mK uK (rt0 mk su sh mu co sr du) c)) (nMk (rtC qy lp sp pr ex tk mK uK (rt0 mk su sh mu co sr du) c)) (nSu (rtC qy lp sp pr ex tk mK uK (rt0 mk su sh mu co sr du) c)) (nMu (rtC qy lp sp pr ex tk mK uK (rt0 mk su sh mu co sr du) c)) (nCo (rtC qy lp sp pr ex tk mK uK (rt0 mk su sh mu co sr du) c)) (nDu (rtC qy lp sp pr ex tk mK uK (rt0 mk su sh mu co sr du) c)) (nMS (rtC qy lp sp pr ex tk mK uK (rt0 mk su sh mu co sr du) c))) 1 True 0 0 sz := by
  refine gm_i (cc := cX2_isClosed) (maxL := 2) (by decide) rfl (Nat.le_of_ble_eq_true rfl) ?_
  intro pg en s m args below meth cd A ls hx hb hr hml hown hts hlocks hin hA hK hP hD hl
  have hl : lv_has ls 2 [(0, .ref (bd 0)), (1, .int (nI j))] := hl
  have hS : va_S A s.heap s.heap [] := va_S.rf
  refine lv_aload_n hx hb dX2_isClosed_0 rfl (lv_at hl 0 rfl) ?_
  refine lv_iload_n hx hb dX2_isClosed_1 rfl (lv_at hl 1 rfl) ?_
  refine gS_i (wc := []) (wr := [(bd 0, .inr (2, [.int th, .int qy, .int lp, .int sp, .int (nI mK), .int (nI uK), .ref (bd 1), .ref (bd 2), .ref (bd 3), .ref (bd 4), .ref (bd 5), .int (nI c), .ref (bd 6), .ref (bd 7), .ref (bd 8), .ref (bd 9), .ref (bd 10), .ref (bd 11), .ref (bd 12), .int mS])), (bd 1, .inl (cI, 20, .inl pr)), (bd 2, .inl (cI, 20, .inl ex)), (bd 3, .inl (cI, 360, .inl dy)), (bd 4, .inl (cI, 20, .inl tk)), (bd 5, .inl (cL, 20, .inr (.inl bi))), (bd 6, .inl (cI, 20, .inl sh)), (bd 7, .inl (cI, 20, .inl sr)), (bd 8, .inl (cI, 20, .inl mk)), (bd 9, .inl (cI, 20, .inl su)), (bd 10, .inl (cI, 20, .inl mu)), (bd 11, .inl (cI, 20, .inl co)), (bd 12, .inl (cL, 20, .inr (.inl du)))]) (w1 := []) (W' := (wM bd cI cL th qy lp sp (nI mK) (nI uK) pr ex dy tk bi (nI c) sh sr mk su mu co du mS)) (As := [.int (nI j)]) (rest := [.ref (bd 0)]) ⟨hx, hb, hml, hown, hts⟩ (c_X2_isYear l D s.heap.size cI cL (nI j)) (va_cwS 1 hts gX2_isClosed_X2_isYear rfl rfl rfl (by decide +kernel) ⟨(Nat.le_of_ble_eq_true rfl), (Nat.le_of_ble_eq_true rfl)⟩) hS hA hK hP hD [0, 1] rfl [] [0, 1, 2, 3, 4, 5, 6, 7, 8, 9, 10, 11, 12] [0, 1, 2, 3, 4, 5, 6, 7, 8, 9, 10, 11, 12] rfl (by decide) rfl (by decide) (by decide) rfl (by decide) rfl hl.1 rfl (Nat.le_of_ble_eq_true rfl) dX2_isClosed_2 ⟨(Nat.le_of_ble_eq_true rfl), (Nat.le_of_ble_eq_true rfl)⟩ (fun H locs _ hP hD hS => ?_)
  refine gj_i (bz_t (inR_nI (n := 19) rfl (by omega) (by decide))) ?_
  refine lv_if_ne (tgt := 12) hx hb dX2_isClosed_5 (by decide) (fun cz => ?_) (fun cz => ?_)
  · refine lv_iload_n hx hb dX2_isClosed_12 rfl (lv_at hl 1 rfl) ?_
    refine lv_aload_n hx hb dX2_isClosed_13 rfl (lv_at hl 0 rfl) ?_
    refine va_get (D := D) (ci := 2) (C := RX2) (T := TX2) (N := 20) hx hb hts inX2_isClosed_X2 hown hK hP 0 rfl rfl 11 (by decide) (hts _ hX2_isClosed__fieldLink_RX2_80_MakeupGasModel_closed_I_) (fun _ h9 => h9) rfl dX2_isClosed_14 ?_
    refine lv_icmp_ge (tgt := 24) hx hb dX2_isClosed_17 (by decide) (fun c1 => ?_) (fun c1 => ?_)
    · exact absurd c1 (nI_ge hj (by omega))
    · refine lv_iconst (v := 0) hx hb dX2_isClosed_20 (by decide) ?_
      refine lv_goto (tgt := 25) hx hb dX2_isClosed_21 (by decide) ?_
      refine gV_i (wc := (wM bd cI cL th qy lp sp (nI mK) (nI uK) pr ex dy tk bi (nI c) sh sr mk su mu co du mS)) (wr := []) (w1 := (wM bd cI cL 0 qy lp sp (nI mK) (nI uK) pr ex dy tk bi (nI c) sh sr mk su mu co du mS)) (W' := (wM bd cI cL 0 qy lp sp (nI mK) (nI uK) pr ex dy tk bi (nI c) sh sr mk su mu co du mS)) (As := [.int 0]) (rest := []) ⟨hx, hb, hml, hown, hts⟩ (c_X2_holds l D H.size bd cI cL th qy lp sp mK uK pr ex dy tk bi c sh sr mk su mu co du mS 0) (cwV 1 hts gX2_isClosed_X2_holds rfl rfl rfl (by decide +kernel) ⟨(Nat.le_of_ble_eq_true rfl), (Nat.le_of_ble_eq_true rfl)⟩) hS hA hK hP hD [0, 1] rfl [0, 1, 2, 3, 4, 5, 6, 7, 8, 9, 10, 11, 12] [] [0, 1, 2, 3, 4, 5, 6, 7, 8, 9, 10, 11, 12] rfl (by decide) rfl (by decide) (by decide) rfl (by decide) 0 2 rfl rfl rfl rfl hl.1 rfl (Nat.le_of_ble_eq_true rfl) dX2_isClosed_25 ⟨(Nat.le_of_ble_eq_true rfl), (Nat.le_of_ble_eq_true rfl)⟩ (fun H locs _ hP hD hS => ?_)
      refine gj_i (bz_t rfl) ?_
      refine lv_if_ne (tgt := 33) hx hb dX2_isClosed_28 (by decide) (fun cz => ?_) (fun cz => ?_)
      · refine lv_aload_n hx hb dX2_isClosed_33 rfl (lv_at hl 0 rfl) ?_
        refine gV_v (wc := (wM bd cI cL 0 qy lp sp (nI mK) (nI uK) pr ex dy tk bi (nI c) sh sr mk su mu co du mS)) (wr := []) (w1 := (wM bd cI cL 0 qy lp sp (nI mK) (nI uK) pr ex dy tk bi (nI c) (nSh (rtC qy lp sp pr ex tk mK uK (rt0 mk su sh mu co sr du) c)) (nSr (rtC qy lp sp pr ex tk mK uK (rt0 mk su sh mu co sr du) c)) (nMk (rtC qy lp sp pr ex tk mK uK (rt0 mk su sh mu co sr du) c)) (nSu (rtC qy lp sp pr ex tk mK uK (rt0 mk su sh mu co sr du) c)) (nMu (rtC qy lp sp pr ex tk mK uK (rt0 mk su sh mu co sr du) c)) (nCo (rtC qy lp sp pr ex tk mK uK (rt0 mk su sh mu co sr du) c)) (nDu (rtC qy lp sp pr ex tk mK uK (rt0 mk su sh mu co sr du) c)) (nMS (rtC qy lp sp pr ex tk mK uK (rt0 mk su sh mu co sr du) c)))) (W' := (wM bd cI cL 0 qy lp sp (nI mK) (nI uK) pr ex dy tk bi (nI c) (nSh (rtC qy lp sp pr ex tk mK uK (rt0 mk su sh mu co sr du) c)) (nSr (rtC qy lp sp pr ex tk mK uK (rt0 mk su sh mu co sr du) c)) (nMk (rtC qy lp sp pr ex tk mK uK (rt0 mk su sh mu co sr du) c)) (nSu (rtC qy lp sp pr ex tk mK uK (rt0 mk su sh mu co sr du) c)) (nMu (rtC qy lp sp pr ex tk mK uK (rt0 mk su sh mu co sr du) c)) (nCo (rtC qy lp sp pr ex tk mK uK (rt0 mk su sh mu co sr du) c)) (nDu (rtC qy lp sp pr ex tk mK uK (rt0 mk su sh mu co sr du) c)) (nMS (rtC qy lp sp pr ex tk mK uK (rt0 mk su sh mu co sr du) c)))) (As := []) (rest := []) ⟨hx, hb, hml, hown, hts⟩ (c_X2_goesThrough l D H.size bd cI cL 0 qy lp sp mK uK pr ex dy tk bi c sh sr mk su mu co du mS  hc hmK huK) (cwV 0 hts gX2_isClosed_X2_goesThrough rfl rfl rfl (by decide +kernel) ⟨(Nat.le_of_ble_eq_true rfl), (Nat.le_of_ble_eq_true rfl)⟩) hS hA hK hP hD [0, 1] rfl [0, 1, 2, 3, 4, 5, 6, 7, 8, 9, 10, 11, 12] [] [0, 1, 2, 3, 4, 5, 6, 7, 8, 9, 10, 11, 12] rfl (by decide) rfl (by decide) (by decide) rfl (by decide) 0 2 rfl rfl rfl rfl hl.1 rfl (Nat.le_of_ble_eq_true rfl) dX2_isClosed_34 ⟨(Nat.le_of_ble_eq_true rfl), (Nat.le_of_ble_eq_true rfl)⟩ (fun H locs _ hP hD hS => ?_)
        refine lv_iconst (v := 1) hx hb dX2_isClosed_37 (by decide) ?_
        exact ge_i hx hb hr hlocks rfl hK hP hD hS trivial (Nat.le_of_ble_eq_true rfl) (Nat.le_of_ble_eq_true rfl) dX2_isClosed_38
      · exact absurd cz (by decide)
  · exact absurd cz (by decide)
set_option maxHeartbeats 4000000 in
set_option maxRecDepth 100000 in
theorem c_X2_isClosed_1 (l : Launch) (D : va_G) (sz : Nat) (bd : Nat → Nat) (cI cL : ClassId) (th qy lp sp : Int32) (mK uK : Nat) (pr ex dy tk : Nat → Int32) (bi : Nat → Int64) (c : Nat) (sh sr mk su mu co : Nat → Int32) (du : Nat → Int64) (mS : Int32) (v : Int32) (hbad : ¬ inR v 0 19) : gCi l yX2_isClosed wsX2_isClosed ({ frames := 3, cells := 0, slots := 0, locals := 71 } : Room) D [(cI, .int), (cL, .long)] [.ref (bd 0), .int v] (wM bd cI cL th qy lp sp (nI mK) (nI uK) pr ex dy tk bi (nI c) sh sr mk su mu co du mS) (wM bd cI cL 1 qy lp sp (nI mK) (nI uK) pr ex dy tk bi (nI c) sh sr mk su mu co du mS) 0 True 0 0 sz := by
  refine gm_i (cc := cX2_isClosed) (maxL := 2) (by decide) rfl (Nat.le_of_ble_eq_true rfl) ?_
  intro pg en s m args below meth cd A ls hx hb hr hml hown hts hlocks hin hA hK hP hD hl
  have hl : lv_has ls 2 [(0, .ref (bd 0)), (1, .int v)] := hl
  have hS : va_S A s.heap s.heap [] := va_S.rf
  refine lv_aload_n hx hb dX2_isClosed_0 rfl (lv_at hl 0 rfl) ?_
  refine lv_iload_n hx hb dX2_isClosed_1 rfl (lv_at hl 1 rfl) ?_
  refine gS_i (wc := []) (wr := [(bd 0, .inr (2, [.int th, .int qy, .int lp, .int sp, .int (nI mK), .int (nI uK), .ref (bd 1), .ref (bd 2), .ref (bd 3), .ref (bd 4), .ref (bd 5), .int (nI c), .ref (bd 6), .ref (bd 7), .ref (bd 8), .ref (bd 9), .ref (bd 10), .ref (bd 11), .ref (bd 12), .int mS])), (bd 1, .inl (cI, 20, .inl pr)), (bd 2, .inl (cI, 20, .inl ex)), (bd 3, .inl (cI, 360, .inl dy)), (bd 4, .inl (cI, 20, .inl tk)), (bd 5, .inl (cL, 20, .inr (.inl bi))), (bd 6, .inl (cI, 20, .inl sh)), (bd 7, .inl (cI, 20, .inl sr)), (bd 8, .inl (cI, 20, .inl mk)), (bd 9, .inl (cI, 20, .inl su)), (bd 10, .inl (cI, 20, .inl mu)), (bd 11, .inl (cI, 20, .inl co)), (bd 12, .inl (cL, 20, .inr (.inl du)))]) (w1 := []) (W' := (wM bd cI cL th qy lp sp (nI mK) (nI uK) pr ex dy tk bi (nI c) sh sr mk su mu co du mS)) (As := [.int v]) (rest := [.ref (bd 0)]) ⟨hx, hb, hml, hown, hts⟩ (c_X2_isYear l D s.heap.size cI cL v) (va_cwS 1 hts gX2_isClosed_X2_isYear rfl rfl rfl (by decide +kernel) ⟨(Nat.le_of_ble_eq_true rfl), (Nat.le_of_ble_eq_true rfl)⟩) hS hA hK hP hD [0, 1] rfl [] [0, 1, 2, 3, 4, 5, 6, 7, 8, 9, 10, 11, 12] [0, 1, 2, 3, 4, 5, 6, 7, 8, 9, 10, 11, 12] rfl (by decide) rfl (by decide) (by decide) rfl (by decide) rfl hl.1 rfl (Nat.le_of_ble_eq_true rfl) dX2_isClosed_2 ⟨(Nat.le_of_ble_eq_true rfl), (Nat.le_of_ble_eq_true rfl)⟩ (fun H locs _ hP hD hS => ?_)
  refine gj_i (bz_f hbad) ?_
  refine lv_if_ne (tgt := 12) hx hb dX2_isClosed_5 (by decide) (fun cz => ?_) (fun cz => ?_)
  · exact absurd cz (by decide)
  · refine lv_iconst (v := 1) hx hb dX2_isClosed_8 (by decide) ?_
    refine lv_goto (tgt := 25) hx hb dX2_isClosed_9 (by decide) ?_
    refine gV_i (wc := (wM bd cI cL th qy lp sp (nI mK) (nI uK) pr ex dy tk bi (nI c) sh sr mk su mu co du mS)) (wr := []) (w1 := (wM bd cI cL 1 qy lp sp (nI mK) (nI uK) pr ex dy tk bi (nI c) sh sr mk su mu co du mS)) (W' := (wM bd cI cL 1 qy lp sp (nI mK) (nI uK) pr ex dy tk bi (nI c) sh sr mk su mu co du mS)) (As := [.int 1]) (rest := []) ⟨hx, hb, hml, hown, hts⟩ (c_X2_holds l D H.size bd cI cL th qy lp sp mK uK pr ex dy tk bi c sh sr mk su mu co du mS 1) (cwV 1 hts gX2_isClosed_X2_holds rfl rfl rfl (by decide +kernel) ⟨(Nat.le_of_ble_eq_true rfl), (Nat.le_of_ble_eq_true rfl)⟩) hS hA hK hP hD [0, 1] rfl [0, 1, 2, 3, 4, 5, 6, 7, 8, 9, 10, 11, 12] [] [0, 1, 2, 3, 4, 5, 6, 7, 8, 9, 10, 11, 12] rfl (by decide) rfl (by decide) (by decide) rfl (by decide) 0 2 rfl rfl rfl rfl hl.1 rfl (Nat.le_of_ble_eq_true rfl) dX2_isClosed_25 ⟨(Nat.le_of_ble_eq_true rfl), (Nat.le_of_ble_eq_true rfl)⟩ (fun H locs _ hP hD hS => ?_)
    refine gj_i (bz_f (by decide)) ?_
    refine lv_if_ne (tgt := 33) hx hb dX2_isClosed_28 (by decide) (fun cz => ?_) (fun cz => ?_)
    · exact absurd cz (by decide)
    · refine lv_iconst (v := 0) hx hb dX2_isClosed_31 (by decide) ?_
      exact ge_i hx hb hr hlocks rfl hK hP hD hS trivial (Nat.le_of_ble_eq_true rfl) (Nat.le_of_ble_eq_true rfl) dX2_isClosed_32
set_option maxHeartbeats 4000000 in
set_option maxRecDepth 100000 in
theorem c_X2_isClosed_2 (l : Launch) (D : va_G) (sz : Nat) (bd : Nat → Nat) (cI cL : ClassId) (th qy lp sp : Int32) (mK uK : Nat) (pr ex dy tk : Nat → Int32) (bi : Nat → Int64) (c : Nat) (sh sr mk su mu co : Nat → Int32) (du : Nat → Int64) (mS : Int32) (j : Nat) (hj : j < 20) (hbad : ¬ j < c) (hc : c ≤ 20) : gCi l yX2_isClosed wsX2_isClosed ({ frames := 3, cells := 0, slots := 0, locals := 71 } : Room) D [(cI, .int), (cL, .long)] [.ref (bd 0), .int (nI j)] (wM bd cI cL th qy lp sp (nI mK) (nI uK) pr ex dy tk bi (nI c) sh sr mk su mu co du mS) (wM bd cI cL 2 qy lp sp (nI mK) (nI uK) pr ex dy tk bi (nI c) sh sr mk su mu co du mS) 0 True 0 0 sz := by
  refine gm_i (cc := cX2_isClosed) (maxL := 2) (by decide) rfl (Nat.le_of_ble_eq_true rfl) ?_
  intro pg en s m args below meth cd A ls hx hb hr hml hown hts hlocks hin hA hK hP hD hl
  have hl : lv_has ls 2 [(0, .ref (bd 0)), (1, .int (nI j))] := hl
  have hS : va_S A s.heap s.heap [] := va_S.rf
  refine lv_aload_n hx hb dX2_isClosed_0 rfl (lv_at hl 0 rfl) ?_
  refine lv_iload_n hx hb dX2_isClosed_1 rfl (lv_at hl 1 rfl) ?_
  refine gS_i (wc := []) (wr := [(bd 0, .inr (2, [.int th, .int qy, .int lp, .int sp, .int (nI mK), .int (nI uK), .ref (bd 1), .ref (bd 2), .ref (bd 3), .ref (bd 4), .ref (bd 5), .int (nI c), .ref (bd 6), .ref (bd 7), .ref (bd 8), .ref (bd 9), .ref (bd 10), .ref (bd 11), .ref (bd 12), .int mS])), (bd 1, .inl (cI, 20, .inl pr)), (bd 2, .inl (cI, 20, .inl ex)), (bd 3, .inl (cI, 360, .inl dy)), (bd 4, .inl (cI, 20, .inl tk)), (bd 5, .inl (cL, 20, .inr (.inl bi))), (bd 6, .inl (cI, 20, .inl sh)), (bd 7, .inl (cI, 20, .inl sr)), (bd 8, .inl (cI, 20, .inl mk)), (bd 9, .inl (cI, 20, .inl su)), (bd 10, .inl (cI, 20, .inl mu)), (bd 11, .inl (cI, 20, .inl co)), (bd 12, .inl (cL, 20, .inr (.inl du)))]) (w1 := []) (W' := (wM bd cI cL th qy lp sp (nI mK) (nI uK) pr ex dy tk bi (nI c) sh sr mk su mu co du mS)) (As := [.int (nI j)]) (rest := [.ref (bd 0)]) ⟨hx, hb, hml, hown, hts⟩ (c_X2_isYear l D s.heap.size cI cL (nI j)) (va_cwS 1 hts gX2_isClosed_X2_isYear rfl rfl rfl (by decide +kernel) ⟨(Nat.le_of_ble_eq_true rfl), (Nat.le_of_ble_eq_true rfl)⟩) hS hA hK hP hD [0, 1] rfl [] [0, 1, 2, 3, 4, 5, 6, 7, 8, 9, 10, 11, 12] [0, 1, 2, 3, 4, 5, 6, 7, 8, 9, 10, 11, 12] rfl (by decide) rfl (by decide) (by decide) rfl (by decide) rfl hl.1 rfl (Nat.le_of_ble_eq_true rfl) dX2_isClosed_2 ⟨(Nat.le_of_ble_eq_true rfl), (Nat.le_of_ble_eq_true rfl)⟩ (fun H locs _ hP hD hS => ?_)
  refine gj_i (bz_t (inR_nI (n := 19) rfl (by omega) (by decide))) ?_
  refine lv_if_ne (tgt := 12) hx hb dX2_isClosed_5 (by decide) (fun cz => ?_) (fun cz => ?_)
  · refine lv_iload_n hx hb dX2_isClosed_12 rfl (lv_at hl 1 rfl) ?_
    refine lv_aload_n hx hb dX2_isClosed_13 rfl (lv_at hl 0 rfl) ?_
    refine va_get (D := D) (ci := 2) (C := RX2) (T := TX2) (N := 20) hx hb hts inX2_isClosed_X2 hown hK hP 0 rfl rfl 11 (by decide) (hts _ hX2_isClosed__fieldLink_RX2_80_MakeupGasModel_closed_I_) (fun _ h9 => h9) rfl dX2_isClosed_14 ?_
    refine lv_icmp_ge (tgt := 24) hx hb dX2_isClosed_17 (by decide) (fun c1 => ?_) (fun c1 => ?_)
    · refine lv_iconst (v := 2) hx hb dX2_isClosed_24 (by decide) ?_
      refine gV_i (wc := (wM bd cI cL th qy lp sp (nI mK) (nI uK) pr ex dy tk bi (nI c) sh sr mk su mu co du mS)) (wr := []) (w1 := (wM bd cI cL 2 qy lp sp (nI mK) (nI uK) pr ex dy tk bi (nI c) sh sr mk su mu co du mS)) (W' := (wM bd cI cL 2 qy lp sp (nI mK) (nI uK) pr ex dy tk bi (nI c) sh sr mk su mu co du mS)) (As := [.int 2]) (rest := []) ⟨hx, hb, hml, hown, hts⟩ (c_X2_holds l D H.size bd cI cL th qy lp sp mK uK pr ex dy tk bi c sh sr mk su mu co du mS 2) (cwV 1 hts gX2_isClosed_X2_holds rfl rfl rfl (by decide +kernel) ⟨(Nat.le_of_ble_eq_true rfl), (Nat.le_of_ble_eq_true rfl)⟩) hS hA hK hP hD [0, 1] rfl [0, 1, 2, 3, 4, 5, 6, 7, 8, 9, 10, 11, 12] [] [0, 1, 2, 3, 4, 5, 6, 7, 8, 9, 10, 11, 12] rfl (by decide) rfl (by decide) (by decide) rfl (by decide) 0 2 rfl rfl rfl rfl hl.1 rfl (Nat.le_of_ble_eq_true rfl) dX2_isClosed_25 ⟨(Nat.le_of_ble_eq_true rfl), (Nat.le_of_ble_eq_true rfl)⟩ (fun H locs _ hP hD hS => ?_)
      refine gj_i (bz_f (by decide)) ?_
      refine lv_if_ne (tgt := 33) hx hb dX2_isClosed_28 (by decide) (fun cz => ?_) (fun cz => ?_)
      · exact absurd cz (by decide)
      · refine lv_iconst (v := 0) hx hb dX2_isClosed_31 (by decide) ?_
        exact ge_i hx hb hr hlocks rfl hK hP hD hS trivial (Nat.le_of_ble_eq_true rfl) (Nat.le_of_ble_eq_true rfl) dX2_isClosed_32
    · exact absurd (nI_le (by omega) (by omega)) c1
  · exact absurd cz (by decide)
theorem inX2_shortfall_X2 : ∀ q ∈ wsX20, q ∈ wsX2_shortfall := by decide +kernel
theorem hX2_shortfall__fieldLink_RX2_43_MakeupGasModel_shortfalls_I_ : Cond.fieldLink RX2 43 "MakeupGasModel" "shortfalls" "[I" ∈ wsX2_shortfall := by decide +kernel
set_option maxHeartbeats 4000000 in
set_option maxRecDepth 100000 in
theorem c_X2_shortfall (l : Launch) (D : va_G) (sz : Nat) (bd : Nat → Nat) (cI cL : ClassId) (th qy lp sp : Int32) (mK uK : Nat) (pr ex dy tk : Nat → Int32) (bi : Nat → Int64) (c : Nat) (sh sr mk su mu co : Nat → Int32) (du : Nat → Int64) (mS : Int32) (j : Nat) (hj : j < c) (hc : c ≤ 20) (hmK : mK < 20) (huK : uK < 20) : gCi l yX2_shortfall wsX2_shortfall ({ frames := 4, cells := 0, slots := 0, locals := 92 } : Room) D [(cI, .int), (cL, .long)] [.ref (bd 0), .int (nI j)] (wM bd cI cL th qy lp sp (nI mK) (nI uK) pr ex dy tk bi (nI c) sh sr mk su mu co du mS) (wM bd cI cL 0 qy lp sp (nI mK) (nI uK) pr ex dy tk bi (nI c) (nSh (rtC qy lp sp pr ex tk mK uK (rt0 mk su sh mu co sr du) c)) (nSr (rtC qy lp sp pr ex tk mK uK (rt0 mk su sh mu co sr du) c)) (nMk (rtC qy lp sp pr ex tk mK uK (rt0 mk su sh mu co sr du) c)) (nSu (rtC qy lp sp pr ex tk mK uK (rt0 mk su sh mu co sr du) c)) (nMu (rtC qy lp sp pr ex tk mK uK (rt0 mk su sh mu co sr du) c)) (nCo (rtC qy lp sp pr ex tk mK uK (rt0 mk su sh mu co sr du) c)) (nDu (rtC qy lp sp pr ex tk mK uK (rt0 mk su sh mu co sr du) c)) (nMS (rtC qy lp sp pr ex tk mK uK (rt0 mk su sh mu co sr du) c))) (nSh (rtC qy lp sp pr ex tk mK uK (rt0 mk su sh mu co sr du) c) j) True 0 0 sz := by
  refine gm_i (cc := cX2_shortfall) (maxL := 2) (by decide) rfl (Nat.le_of_ble_eq_true rfl) ?_
  intro pg en s m args below meth cd A ls hx hb hr hml hown hts hlocks hin hA hK hP hD hl
  have hl : lv_has ls 2 [(0, .ref (bd 0)), (1, .int (nI j))] := hl
  have hS : va_S A s.heap s.heap [] := va_S.rf
  refine lv_aload_n hx hb dX2_shortfall_0 rfl (lv_at hl 0 rfl) ?_
  refine lv_iload_n hx hb dX2_shortfall_1 rfl (lv_at hl 1 rfl) ?_
  refine gV_i (wc := (wM bd cI cL th qy lp sp (nI mK) (nI uK) pr ex dy tk bi (nI c) sh sr mk su mu co du mS)) (wr := []) (w1 := (wM bd cI cL 0 qy lp sp (nI mK) (nI uK) pr ex dy tk bi (nI c) (nSh (rtC qy lp sp pr ex tk mK uK (rt0 mk su sh mu co sr du) c)) (nSr (rtC qy lp sp pr ex tk mK uK (rt0 mk su sh mu co sr du) c)) (nMk (rtC qy lp sp pr ex tk mK uK (rt0 mk su sh mu co sr du) c)) (nSu (rtC qy lp sp pr ex tk mK uK (rt0 mk su sh mu co sr du) c)) (nMu (rtC qy lp sp pr ex tk mK uK (rt0 mk su sh mu co sr du) c)) (nCo (rtC qy lp sp pr ex tk mK uK (rt0 mk su sh mu co sr du) c)) (nDu (rtC qy lp sp pr ex tk mK uK (rt0 mk su sh mu co sr du) c)) (nMS (rtC qy lp sp pr ex tk mK uK (rt0 mk su sh mu co sr du) c)))) (W' := (wM bd cI cL 0 qy lp sp (nI mK) (nI uK) pr ex dy tk bi (nI c) (nSh (rtC qy lp sp pr ex tk mK uK (rt0 mk su sh mu co sr du) c)) (nSr (rtC qy lp sp pr ex tk mK uK (rt0 mk su sh mu co sr du) c)) (nMk (rtC qy lp sp pr ex tk mK uK (rt0 mk su sh mu co sr du) c)) (nSu (rtC qy lp sp pr ex tk mK uK (rt0 mk su sh mu co sr du) c)) (nMu (rtC qy lp sp pr ex tk mK uK (rt0 mk su sh mu co sr du) c)) (nCo (rtC qy lp sp pr ex tk mK uK (rt0 mk su sh mu co sr du) c)) (nDu (rtC qy lp sp pr ex tk mK uK (rt0 mk su sh mu co sr du) c)) (nMS (rtC qy lp sp pr ex tk mK uK (rt0 mk su sh mu co sr du) c)))) (As := [.int (nI j)]) (rest := []) ⟨hx, hb, hml, hown, hts⟩ (c_X2_isClosed l D s.heap.size bd cI cL th qy lp sp mK uK pr ex dy tk bi c sh sr mk su mu co du mS j hj hc hmK huK) (cwV 1 hts gX2_shortfall_X2_isClosed rfl rfl rfl (by decide +kernel) ⟨(Nat.le_of_ble_eq_true rfl), (Nat.le_of_ble_eq_true rfl)⟩) hS hA hK hP hD [0, 1] rfl [0, 1, 2, 3, 4, 5, 6, 7, 8, 9, 10, 11, 12] [] [0, 1, 2, 3, 4, 5, 6, 7, 8, 9, 10, 11, 12] rfl (by decide) rfl (by decide) (by decide) rfl (by decide) 0 2 rfl rfl rfl rfl hl.1 rfl (Nat.le_of_ble_eq_true rfl) dX2_shortfall_2 ⟨(Nat.le_of_ble_eq_true rfl), (Nat.le_of_ble_eq_true rfl)⟩ (fun H locs _ hP hD hS => ?_)
  refine lv_if_eq (tgt := 17) hx hb dX2_shortfall_5 (by decide) (fun c1 => ?_) (fun c1 => ?_)
  · exact absurd c1 (by decide)
  · refine lv_aload_n hx hb dX2_shortfall_8 rfl (lv_at hl 0 rfl) ?_
    refine va_get (D := D) (ci := 2) (C := RX2) (T := TX2) (N := 20) hx hb hts inX2_shortfall_X2 hown hK hP 0 rfl rfl 12 (by decide) (hts _ hX2_shortfall__fieldLink_RX2_43_MakeupGasModel_shortfalls_I_) (fun _ h9 => h9) rfl dX2_shortfall_9 ?_
    refine lv_iload_n hx hb dX2_shortfall_12 rfl (lv_at hl 1 rfl) ?_
    refine ga_iald (j := j) hx hb hK hP 6 0 rfl rfl (show j < 20 by omega) (by decide) dX2_shortfall_13 ?_
    refine lv_goto (tgt := 18) hx hb dX2_shortfall_14 (by decide) ?_
    exact ge_i hx hb hr hlocks rfl hK hP hD hS trivial (Nat.le_of_ble_eq_true rfl) (Nat.le_of_ble_eq_true rfl) dX2_shortfall_18
set_option maxHeartbeats 4000000 in
set_option maxRecDepth 100000 in
theorem c_X2_shortfall_1 (l : Launch) (D : va_G) (sz : Nat) (bd : Nat → Nat) (cI cL : ClassId) (th qy lp sp : Int32) (mK uK : Nat) (pr ex dy tk : Nat → Int32) (bi : Nat → Int64) (c : Nat) (sh sr mk su mu co : Nat → Int32) (du : Nat → Int64) (mS : Int32) (v : Int32) (hbad : ¬ inR v 0 19) : gCi l yX2_shortfall wsX2_shortfall ({ frames := 4, cells := 0, slots := 0, locals := 92 } : Room) D [(cI, .int), (cL, .long)] [.ref (bd 0), .int v] (wM bd cI cL th qy lp sp (nI mK) (nI uK) pr ex dy tk bi (nI c) sh sr mk su mu co du mS) (wM bd cI cL 1 qy lp sp (nI mK) (nI uK) pr ex dy tk bi (nI c) sh sr mk su mu co du mS) 0 True 0 0 sz := by
  refine gm_i (cc := cX2_shortfall) (maxL := 2) (by decide) rfl (Nat.le_of_ble_eq_true rfl) ?_
  intro pg en s m args below meth cd A ls hx hb hr hml hown hts hlocks hin hA hK hP hD hl
  have hl : lv_has ls 2 [(0, .ref (bd 0)), (1, .int v)] := hl
  have hS : va_S A s.heap s.heap [] := va_S.rf
  refine lv_aload_n hx hb dX2_shortfall_0 rfl (lv_at hl 0 rfl) ?_
  refine lv_iload_n hx hb dX2_shortfall_1 rfl (lv_at hl 1 rfl) ?_
  refine gV_i (wc := (wM bd cI cL th qy lp sp (nI mK) (nI uK) pr ex dy tk bi (nI c) sh sr mk su mu co du mS)) (wr := []) (w1 := (wM bd cI cL 1 qy lp sp (nI mK) (nI uK) pr ex dy tk bi (nI c) sh sr mk su mu co du mS)) (W' := (wM bd cI cL 1 qy lp sp (nI mK) (nI uK) pr ex dy tk bi (nI c) sh sr mk su mu co du mS)) (As := [.int v]) (rest := []) ⟨hx, hb, hml, hown, hts⟩ (c_X2_isClosed_1 l D s.heap.size bd cI cL th qy lp sp mK uK pr ex dy tk bi c sh sr mk su mu co du mS v hbad) (cwV 1 hts gX2_shortfall_X2_isClosed rfl rfl rfl (by decide +kernel) ⟨(Nat.le_of_ble_eq_true rfl), (Nat.le_of_ble_eq_true rfl)⟩) hS hA hK hP hD [0, 1] rfl [0, 1, 2, 3, 4, 5, 6, 7, 8, 9, 10, 11, 12] [] [0, 1, 2, 3, 4, 5, 6, 7, 8, 9, 10, 11, 12] rfl (by decide) rfl (by decide) (by decide) rfl (by decide) 0 2 rfl rfl rfl rfl hl.1 rfl (Nat.le_of_ble_eq_true rfl) dX2_shortfall_2 ⟨(Nat.le_of_ble_eq_true rfl), (Nat.le_of_ble_eq_true rfl)⟩ (fun H locs _ hP hD hS => ?_)
  refine lv_if_eq (tgt := 17) hx hb dX2_shortfall_5 (by decide) (fun c1 => ?_) (fun c1 => ?_)
  · refine lv_iconst (v := 0) hx hb dX2_shortfall_17 (by decide) ?_
    exact ge_i hx hb hr hlocks rfl hK hP hD hS trivial (Nat.le_of_ble_eq_true rfl) (Nat.le_of_ble_eq_true rfl) dX2_shortfall_18
  · exact absurd rfl c1
set_option maxHeartbeats 4000000 in
set_option maxRecDepth 100000 in
theorem c_X2_shortfall_2 (l : Launch) (D : va_G) (sz : Nat) (bd : Nat → Nat) (cI cL : ClassId) (th qy lp sp : Int32) (mK uK : Nat) (pr ex dy tk : Nat → Int32) (bi : Nat → Int64) (c : Nat) (sh sr mk su mu co : Nat → Int32) (du : Nat → Int64) (mS : Int32) (j : Nat) (hj : j < 20) (hbad : ¬ j < c) (hc : c ≤ 20) : gCi l yX2_shortfall wsX2_shortfall ({ frames := 4, cells := 0, slots := 0, locals := 92 } : Room) D [(cI, .int), (cL, .long)] [.ref (bd 0), .int (nI j)] (wM bd cI cL th qy lp sp (nI mK) (nI uK) pr ex dy tk bi (nI c) sh sr mk su mu co du mS) (wM bd cI cL 2 qy lp sp (nI mK) (nI uK) pr ex dy tk bi (nI c) sh sr mk su mu co du mS) 0 True 0 0 sz := by
  refine gm_i (cc := cX2_shortfall) (maxL := 2) (by decide) rfl (Nat.le_of_ble_eq_true rfl) ?_
  intro pg en s m args below meth cd A ls hx hb hr hml hown hts hlocks hin hA hK hP hD hl
  have hl : lv_has ls 2 [(0, .ref (bd 0)), (1, .int (nI j))] := hl
  have hS : va_S A s.heap s.heap [] := va_S.rf
  refine lv_aload_n hx hb dX2_shortfall_0 rfl (lv_at hl 0 rfl) ?_
  refine lv_iload_n hx hb dX2_shortfall_1 rfl (lv_at hl 1 rfl) ?_
  refine gV_i (wc := (wM bd cI cL th qy lp sp (nI mK) (nI uK) pr ex dy tk bi (nI c) sh sr mk su mu co du mS)) (wr := []) (w1 := (wM bd cI cL 2 qy lp sp (nI mK) (nI uK) pr ex dy tk bi (nI c) sh sr mk su mu co du mS)) (W' := (wM bd cI cL 2 qy lp sp (nI mK) (nI uK) pr ex dy tk bi (nI c) sh sr mk su mu co du mS)) (As := [.int (nI j)]) (rest := []) ⟨hx, hb, hml, hown, hts⟩ (c_X2_isClosed_2 l D s.heap.size bd cI cL th qy lp sp mK uK pr ex dy tk bi c sh sr mk su mu co du mS j hj hbad hc) (cwV 1 hts gX2_shortfall_X2_isClosed rfl rfl rfl (by decide +kernel) ⟨(Nat.le_of_ble_eq_true rfl), (Nat.le_of_ble_eq_true rfl)⟩) hS hA hK hP hD [0, 1] rfl [0, 1, 2, 3, 4, 5, 6, 7, 8, 9, 10, 11, 12] [] [0, 1, 2, 3, 4, 5, 6, 7, 8, 9, 10, 11, 12] rfl (by decide) rfl (by decide) (by decide) rfl (by decide) 0 2 rfl rfl rfl rfl hl.1 rfl (Nat.le_of_ble_eq_true rfl) dX2_shortfall_2 ⟨(Nat.le_of_ble_eq_true rfl), (Nat.le_of_ble_eq_true rfl)⟩ (fun H locs _ hP hD hS => ?_)
  refine lv_if_eq (tgt := 17) hx hb dX2_shortfall_5 (by decide) (fun c1 => ?_) (fun c1 => ?_)
  · refine lv_iconst (v := 0) hx hb dX2_shortfall_17 (by decide) ?_
    exact ge_i hx hb hr hlocks rfl hK hP hD hS trivial (Nat.le_of_ble_eq_true rfl) (Nat.le_of_ble_eq_true rfl) dX2_shortfall_18
  · exact absurd rfl c1
theorem inX2_madeUp_X2 : ∀ q ∈ wsX20, q ∈ wsX2_madeUp := by decide +kernel
theorem hX2_madeUp__fieldLink_RX2_55_MakeupGasModel_madeUp_I_ : Cond.fieldLink RX2 55 "MakeupGasModel" "madeUp" "[I" ∈ wsX2_madeUp := by decide +kernel
set_option maxHeartbeats 4000000 in
set_option maxRecDepth 100000 in
theorem c_X2_madeUp (l : Launch) (D : va_G) (sz : Nat) (bd : Nat → Nat) (cI cL : ClassId) (th qy lp sp : Int32) (mK uK : Nat) (pr ex dy tk : Nat → Int32) (bi : Nat → Int64) (c : Nat) (sh sr mk su mu co : Nat → Int32) (du : Nat → Int64) (mS : Int32) (j : Nat) (hj : j < c) (hc : c ≤ 20) (hmK : mK < 20) (huK : uK < 20) : gCi l yX2_madeUp wsX2_madeUp ({ frames := 4, cells := 0, slots := 0, locals := 92 } : Room) D [(cI, .int), (cL, .long)] [.ref (bd 0), .int (nI j)] (wM bd cI cL th qy lp sp (nI mK) (nI uK) pr ex dy tk bi (nI c) sh sr mk su mu co du mS) (wM bd cI cL 0 qy lp sp (nI mK) (nI uK) pr ex dy tk bi (nI c) (nSh (rtC qy lp sp pr ex tk mK uK (rt0 mk su sh mu co sr du) c)) (nSr (rtC qy lp sp pr ex tk mK uK (rt0 mk su sh mu co sr du) c)) (nMk (rtC qy lp sp pr ex tk mK uK (rt0 mk su sh mu co sr du) c)) (nSu (rtC qy lp sp pr ex tk mK uK (rt0 mk su sh mu co sr du) c)) (nMu (rtC qy lp sp pr ex tk mK uK (rt0 mk su sh mu co sr du) c)) (nCo (rtC qy lp sp pr ex tk mK uK (rt0 mk su sh mu co sr du) c)) (nDu (rtC qy lp sp pr ex tk mK uK (rt0 mk su sh mu co sr du) c)) (nMS (rtC qy lp sp pr ex tk mK uK (rt0 mk su sh mu co sr du) c))) (nMu (rtC qy lp sp pr ex tk mK uK (rt0 mk su sh mu co sr du) c) j) True 0 0 sz := by
  refine gm_i (cc := cX2_madeUp) (maxL := 2) (by decide) rfl (Nat.le_of_ble_eq_true rfl) ?_
  intro pg en s m args below meth cd A ls hx hb hr hml hown hts hlocks hin hA hK hP hD hl
  have hl : lv_has ls 2 [(0, .ref (bd 0)), (1, .int (nI j))] := hl
  have hS : va_S A s.heap s.heap [] := va_S.rf
  refine lv_aload_n hx hb dX2_madeUp_0 rfl (lv_at hl 0 rfl) ?_
  refine lv_iload_n hx hb dX2_madeUp_1 rfl (lv_at hl 1 rfl) ?_
  refine gV_i (wc := (wM bd cI cL th qy lp sp (nI mK) (nI uK) pr ex dy tk bi (nI c) sh sr mk su mu co du mS)) (wr := []) (w1 := (wM bd cI cL 0 qy lp sp (nI mK) (nI uK) pr ex dy tk bi (nI c) (nSh (rtC qy lp sp pr ex tk mK uK (rt0 mk su sh mu co sr du) c)) (nSr (rtC qy lp sp pr ex tk mK uK (rt0 mk su sh mu co sr du) c)) (nMk (rtC qy lp sp pr ex tk mK uK (rt0 mk su sh mu co sr du) c)) (nSu (rtC qy lp sp pr ex tk mK uK (rt0 mk su sh mu co sr du) c)) (nMu (rtC qy lp sp pr ex tk mK uK (rt0 mk su sh mu co sr du) c)) (nCo (rtC qy lp sp pr ex tk mK uK (rt0 mk su sh mu co sr du) c)) (nDu (rtC qy lp sp pr ex tk mK uK (rt0 mk su sh mu co sr du) c)) (nMS (rtC qy lp sp pr ex tk mK uK (rt0 mk su sh mu co sr du) c)))) (W' := (wM bd cI cL 0 qy lp sp (nI mK) (nI uK) pr ex dy tk bi (nI c) (nSh (rtC qy lp sp pr ex tk mK uK (rt0 mk su sh mu co sr du) c)) (nSr (rtC qy lp sp pr ex tk mK uK (rt0 mk su sh mu co sr du) c)) (nMk (rtC qy lp sp pr ex tk mK uK (rt0 mk su sh mu co sr du) c)) (nSu (rtC qy lp sp pr ex tk mK uK (rt0 mk su sh mu co sr du) c)) (nMu (rtC qy lp sp pr ex tk mK uK (rt0 mk su sh mu co sr du) c)) (nCo (rtC qy lp sp pr ex tk mK uK (rt0 mk su sh mu co sr du) c)) (nDu (rtC qy lp sp pr ex tk mK uK (rt0 mk su sh mu co sr du) c)) (nMS (rtC qy lp sp pr ex tk mK uK (rt0 mk su sh mu co sr du) c)))) (As := [.int (nI j)]) (rest := []) ⟨hx, hb, hml, hown, hts⟩ (c_X2_isClosed l D s.heap.size bd cI cL th qy lp sp mK uK pr ex dy tk bi c sh sr mk su mu co du mS j hj hc hmK huK) (cwV 1 hts gX2_madeUp_X2_isClosed rfl rfl rfl (by decide +kernel) ⟨(Nat.le_of_ble_eq_true rfl), (Nat.le_of_ble_eq_true rfl)⟩) hS hA hK hP hD [0, 1] rfl [0, 1, 2, 3, 4, 5, 6, 7, 8, 9, 10, 11, 12] [] [0, 1, 2, 3, 4, 5, 6, 7, 8, 9, 10, 11, 12] rfl (by decide) rfl (by decide) (by decide) rfl (by decide) 0 2 rfl rfl rfl rfl hl.1 rfl (Nat.le_of_ble_eq_true rfl) dX2_madeUp_2 ⟨(Nat.le_of_ble_eq_true rfl), (Nat.le_of_ble_eq_true rfl)⟩ (fun H locs _ hP hD hS => ?_)
  refine lv_if_eq (tgt := 17) hx hb dX2_madeUp_5 (by decide) (fun c1 => ?_) (fun c1 => ?_)
  · exact absurd c1 (by decide)
  · refine lv_aload_n hx hb dX2_madeUp_8 rfl (lv_at hl 0 rfl) ?_
    refine va_get (D := D) (ci := 2) (C := RX2) (T := TX2) (N := 20) hx hb hts inX2_madeUp_X2 hown hK hP 0 rfl rfl 16 (by decide) (hts _ hX2_madeUp__fieldLink_RX2_55_MakeupGasModel_madeUp_I_) (fun _ h9 => h9) rfl dX2_madeUp_9 ?_
    refine lv_iload_n hx hb dX2_madeUp_12 rfl (lv_at hl 1 rfl) ?_
    refine ga_iald (j := j) hx hb hK hP 10 0 rfl rfl (show j < 20 by omega) (by decide) dX2_madeUp_13 ?_
    refine lv_goto (tgt := 18) hx hb dX2_madeUp_14 (by decide) ?_
    exact ge_i hx hb hr hlocks rfl hK hP hD hS trivial (Nat.le_of_ble_eq_true rfl) (Nat.le_of_ble_eq_true rfl) dX2_madeUp_18
set_option maxHeartbeats 4000000 in
set_option maxRecDepth 100000 in
theorem c_X2_madeUp_1 (l : Launch) (D : va_G) (sz : Nat) (bd : Nat → Nat) (cI cL : ClassId) (th qy lp sp : Int32) (mK uK : Nat) (pr ex dy tk : Nat → Int32) (bi : Nat → Int64) (c : Nat) (sh sr mk su mu co : Nat → Int32) (du : Nat → Int64) (mS : Int32) (v : Int32) (hbad : ¬ inR v 0 19) : gCi l yX2_madeUp wsX2_madeUp ({ frames := 4, cells := 0, slots := 0, locals := 92 } : Room) D [(cI, .int), (cL, .long)] [.ref (bd 0), .int v] (wM bd cI cL th qy lp sp (nI mK) (nI uK) pr ex dy tk bi (nI c) sh sr mk su mu co du mS) (wM bd cI cL 1 qy lp sp (nI mK) (nI uK) pr ex dy tk bi (nI c) sh sr mk su mu co du mS) 0 True 0 0 sz := by
  refine gm_i (cc := cX2_madeUp) (maxL := 2) (by decide) rfl (Nat.le_of_ble_eq_true rfl) ?_
  intro pg en s m args below meth cd A ls hx hb hr hml hown hts hlocks hin hA hK hP hD hl
  have hl : lv_has ls 2 [(0, .ref (bd 0)), (1, .int v)] := hl
  have hS : va_S A s.heap s.heap [] := va_S.rf
  refine lv_aload_n hx hb dX2_madeUp_0 rfl (lv_at hl 0 rfl) ?_
  refine lv_iload_n hx hb dX2_madeUp_1 rfl (lv_at hl 1 rfl) ?_
  refine gV_i (wc := (wM bd cI cL th qy lp sp (nI mK) (nI uK) pr ex dy tk bi (nI c) sh sr mk su mu co du mS)) (wr := []) (w1 := (wM bd cI cL 1 qy lp sp (nI mK) (nI uK) pr ex dy tk bi (nI c) sh sr mk su mu co du mS)) (W' := (wM bd cI cL 1 qy lp sp (nI mK) (nI uK) pr ex dy tk bi (nI c) sh sr mk su mu co du mS)) (As := [.int v]) (rest := []) ⟨hx, hb, hml, hown, hts⟩ (c_X2_isClosed_1 l D s.heap.size bd cI cL th qy lp sp mK uK pr ex dy tk bi c sh sr mk su mu co du mS v hbad) (cwV 1 hts gX2_madeUp_X2_isClosed rfl rfl rfl (by decide +kernel) ⟨(Nat.le_of_ble_eq_true rfl), (Nat.le_of_ble_eq_true rfl)⟩) hS hA hK hP hD [0, 1] rfl [0, 1, 2, 3, 4, 5, 6, 7, 8, 9, 10, 11, 12] [] [0, 1, 2, 3, 4, 5, 6, 7, 8, 9, 10, 11, 12] rfl (by decide) rfl (by decide) (by decide) rfl (by decide) 0 2 rfl rfl rfl rfl hl.1 rfl (Nat.le_of_ble_eq_true rfl) dX2_madeUp_2 ⟨(Nat.le_of_ble_eq_true rfl), (Nat.le_of_ble_eq_true rfl)⟩ (fun H locs _ hP hD hS => ?_)
  refine lv_if_eq (tgt := 17) hx hb dX2_madeUp_5 (by decide) (fun c1 => ?_) (fun c1 => ?_)
  · refine lv_iconst (v := 0) hx hb dX2_madeUp_17 (by decide) ?_
    exact ge_i hx hb hr hlocks rfl hK hP hD hS trivial (Nat.le_of_ble_eq_true rfl) (Nat.le_of_ble_eq_true rfl) dX2_madeUp_18
  · exact absurd rfl c1
set_option maxHeartbeats 4000000 in
set_option maxRecDepth 100000 in
theorem c_X2_madeUp_2 (l : Launch) (D : va_G) (sz : Nat) (bd : Nat → Nat) (cI cL : ClassId) (th qy lp sp : Int32) (mK uK : Nat) (pr ex dy tk : Nat → Int32) (bi : Nat → Int64) (c : Nat) (sh sr mk su mu co : Nat → Int32) (du : Nat → Int64) (mS : Int32) (j : Nat) (hj : j < 20) (hbad : ¬ j < c) (hc : c ≤ 20) : gCi l yX2_madeUp wsX2_madeUp ({ frames := 4, cells := 0, slots := 0, locals := 92 } : Room) D [(cI, .int), (cL, .long)] [.ref (bd 0), .int (nI j)] (wM bd cI cL th qy lp sp (nI mK) (nI uK) pr ex dy tk bi (nI c) sh sr mk su mu co du mS) (wM bd cI cL 2 qy lp sp (nI mK) (nI uK) pr ex dy tk bi (nI c) sh sr mk su mu co du mS) 0 True 0 0 sz := by
  refine gm_i (cc := cX2_madeUp) (maxL := 2) (by decide) rfl (Nat.le_of_ble_eq_true rfl) ?_
  intro pg en s m args below meth cd A ls hx hb hr hml hown hts hlocks hin hA hK hP hD hl
  have hl : lv_has ls 2 [(0, .ref (bd 0)), (1, .int (nI j))] := hl
  have hS : va_S A s.heap s.heap [] := va_S.rf
  refine lv_aload_n hx hb dX2_madeUp_0 rfl (lv_at hl 0 rfl) ?_
  refine lv_iload_n hx hb dX2_madeUp_1 rfl (lv_at hl 1 rfl) ?_
  refine gV_i (wc := (wM bd cI cL th qy lp sp (nI mK) (nI uK) pr ex dy tk bi (nI c) sh sr mk su mu co du mS)) (wr := []) (w1 := (wM bd cI cL 2 qy lp sp (nI mK) (nI uK) pr ex dy tk bi (nI c) sh sr mk su mu co du mS)) (W' := (wM bd cI cL 2 qy lp sp (nI mK) (nI uK) pr ex dy tk bi (nI c) sh sr mk su mu co du mS)) (As := [.int (nI j)]) (rest := []) ⟨hx, hb, hml, hown, hts⟩ (c_X2_isClosed_2 l D s.heap.size bd cI cL th qy lp sp mK uK pr ex dy tk bi c sh sr mk su mu co du mS j hj hbad hc) (cwV 1 hts gX2_madeUp_X2_isClosed rfl rfl rfl (by decide +kernel) ⟨(Nat.le_of_ble_eq_true rfl), (Nat.le_of_ble_eq_true rfl)⟩) hS hA hK hP hD [0, 1] rfl [0, 1, 2, 3, 4, 5, 6, 7, 8, 9, 10, 11, 12] [] [0, 1, 2, 3, 4, 5, 6, 7, 8, 9, 10, 11, 12] rfl (by decide) rfl (by decide) (by decide) rfl (by decide) 0 2 rfl rfl rfl rfl hl.1 rfl (Nat.le_of_ble_eq_true rfl) dX2_madeUp_2 ⟨(Nat.le_of_ble_eq_true rfl), (Nat.le_of_ble_eq_true rfl)⟩ (fun H locs _ hP hD hS => ?_)
  refine lv_if_eq (tgt := 17) hx hb dX2_madeUp_5 (by decide) (fun c1 => ?_) (fun c1 => ?_)
  · refine lv_iconst (v := 0) hx hb dX2_madeUp_17 (by decide) ?_
    exact ge_i hx hb hr hlocks rfl hK hP hD hS trivial (Nat.le_of_ble_eq_true rfl) (Nat.le_of_ble_eq_true rfl) dX2_madeUp_18
  · exact absurd rfl c1
theorem inX2_covered_X2 : ∀ q ∈ wsX20, q ∈ wsX2_covered := by decide +kernel
theorem hX2_covered__fieldLink_RX2_58_MakeupGasModel_covered_I_ : Cond.fieldLink RX2 58 "MakeupGasModel" "covered" "[I" ∈ wsX2_covered := by decide +kernel
set_option maxHeartbeats 4000000 in
set_option maxRecDepth 100000 in
theorem c_X2_covered (l : Launch) (D : va_G) (sz : Nat) (bd : Nat → Nat) (cI cL : ClassId) (th qy lp sp : Int32) (mK uK : Nat) (pr ex dy tk : Nat → Int32) (bi : Nat → Int64) (c : Nat) (sh sr mk su mu co : Nat → Int32) (du : Nat → Int64) (mS : Int32) (j : Nat) (hj : j < c) (hc : c ≤ 20) (hmK : mK < 20) (huK : uK < 20) : gCi l yX2_covered wsX2_covered ({ frames := 4, cells := 0, slots := 0, locals := 92 } : Room) D [(cI, .int), (cL, .long)] [.ref (bd 0), .int (nI j)] (wM bd cI cL th qy lp sp (nI mK) (nI uK) pr ex dy tk bi (nI c) sh sr mk su mu co du mS) (wM bd cI cL 0 qy lp sp (nI mK) (nI uK) pr ex dy tk bi (nI c) (nSh (rtC qy lp sp pr ex tk mK uK (rt0 mk su sh mu co sr du) c)) (nSr (rtC qy lp sp pr ex tk mK uK (rt0 mk su sh mu co sr du) c)) (nMk (rtC qy lp sp pr ex tk mK uK (rt0 mk su sh mu co sr du) c)) (nSu (rtC qy lp sp pr ex tk mK uK (rt0 mk su sh mu co sr du) c)) (nMu (rtC qy lp sp pr ex tk mK uK (rt0 mk su sh mu co sr du) c)) (nCo (rtC qy lp sp pr ex tk mK uK (rt0 mk su sh mu co sr du) c)) (nDu (rtC qy lp sp pr ex tk mK uK (rt0 mk su sh mu co sr du) c)) (nMS (rtC qy lp sp pr ex tk mK uK (rt0 mk su sh mu co sr du) c))) (nCo (rtC qy lp sp pr ex tk mK uK (rt0 mk su sh mu co sr du) c) j) True 0 0 sz := by
  refine gm_i (cc := cX2_covered) (maxL := 2) (by decide) rfl (Nat.le_of_ble_eq_true rfl) ?_
  intro pg en s m args below meth cd A ls hx hb hr hml hown hts hlocks hin hA hK hP hD hl
  have hl : lv_has ls 2 [(0, .ref (bd 0)), (1, .int (nI j))] := hl
  have hS : va_S A s.heap s.heap [] := va_S.rf
  refine lv_aload_n hx hb dX2_covered_0 rfl (lv_at hl 0 rfl) ?_
  refine lv_iload_n hx hb dX2_covered_1 rfl (lv_at hl 1 rfl) ?_
  refine gV_i (wc := (wM bd cI cL th qy lp sp (nI mK) (nI uK) pr ex dy tk bi (nI c) sh sr mk su mu co du mS)) (wr := []) (w1 := (wM bd cI cL 0 qy lp sp (nI mK) (nI uK) pr ex dy tk bi (nI c) (nSh (rtC qy lp sp pr ex tk mK uK (rt0 mk su sh mu co sr du) c)) (nSr (rtC qy lp sp pr ex tk mK uK (rt0 mk su sh mu co sr du) c)) (nMk (rtC qy lp sp pr ex tk mK uK (rt0 mk su sh mu co sr du) c)) (nSu (rtC qy lp sp pr ex tk mK uK (rt0 mk su sh mu co sr du) c)) (nMu (rtC qy lp sp pr ex tk mK uK (rt0 mk su sh mu co sr du) c)) (nCo (rtC qy lp sp pr ex tk mK uK (rt0 mk su sh mu co sr du) c)) (nDu (rtC qy lp sp pr ex tk mK uK (rt0 mk su sh mu co sr du) c)) (nMS (rtC qy lp sp pr ex tk mK uK (rt0 mk su sh mu co sr du) c)))) (W' := (wM bd cI cL 0 qy lp sp (nI mK) (nI uK) pr ex dy tk bi (nI c) (nSh (rtC qy lp sp pr ex tk mK uK (rt0 mk su sh mu co sr du) c)) (nSr (rtC qy lp sp pr ex tk mK uK (rt0 mk su sh mu co sr du) c)) (nMk (rtC qy lp sp pr ex tk mK uK (rt0 mk su sh mu co sr du) c)) (nSu (rtC qy lp sp pr ex tk mK uK (rt0 mk su sh mu co sr du) c)) (nMu (rtC qy lp sp pr ex tk mK uK (rt0 mk su sh mu co sr du) c)) (nCo (rtC qy lp sp pr ex tk mK uK (rt0 mk su sh mu co sr du) c)) (nDu (rtC qy lp sp pr ex tk mK uK (rt0 mk su sh mu co sr du) c)) (nMS (rtC qy lp sp pr ex tk mK uK (rt0 mk su sh mu co sr du) c)))) (As := [.int (nI j)]) (rest := []) ⟨hx, hb, hml, hown, hts⟩ (c_X2_isClosed l D s.heap.size bd cI cL th qy lp sp mK uK pr ex dy tk bi c sh sr mk su mu co du mS j hj hc hmK huK) (cwV 1 hts gX2_covered_X2_isClosed rfl rfl rfl (by decide +kernel) ⟨(Nat.le_of_ble_eq_true rfl), (Nat.le_of_ble_eq_true rfl)⟩) hS hA hK hP hD [0, 1] rfl [0, 1, 2, 3, 4, 5, 6, 7, 8, 9, 10, 11, 12] [] [0, 1, 2, 3, 4, 5, 6, 7, 8, 9, 10, 11, 12] rfl (by decide) rfl (by decide) (by decide) rfl (by decide) 0 2 rfl rfl rfl rfl hl.1 rfl (Nat.le_of_ble_eq_true rfl) dX2_covered_2 ⟨(Nat.le_of_ble_eq_true rfl), (Nat.le_of_ble_eq_true rfl)⟩ (fun H locs _ hP hD hS => ?_)
  refine lv_if_eq (tgt := 17) hx hb dX2_covered_5 (by decide) (fun c1 => ?_) (fun c1 => ?_)
  · exact absurd c1 (by decide)
  · refine lv_aload_n hx hb dX2_covered_8 rfl (lv_at hl 0 rfl) ?_
    refine va_get (D := D) (ci := 2) (C := RX2) (T := TX2) (N := 20) hx hb hts inX2_covered_X2 hown hK hP 0 rfl rfl 17 (by decide) (hts _ hX2_covered__fieldLink_RX2_58_MakeupGasModel_covered_I_) (fun _ h9 => h9) rfl dX2_covered_9 ?_
    refine lv_iload_n hx hb dX2_covered_12 rfl (lv_at hl 1 rfl) ?_
    refine ga_iald (j := j) hx hb hK hP 11 0 rfl rfl (show j < 20 by omega) (by decide) dX2_covered_13 ?_
    refine lv_goto (tgt := 18) hx hb dX2_covered_14 (by decide) ?_
    exact ge_i hx hb hr hlocks rfl hK hP hD hS trivial (Nat.le_of_ble_eq_true rfl) (Nat.le_of_ble_eq_true rfl) dX2_covered_18
set_option maxHeartbeats 4000000 in
set_option maxRecDepth 100000 in
theorem c_X2_covered_1 (l : Launch) (D : va_G) (sz : Nat) (bd : Nat → Nat) (cI cL : ClassId) (th qy lp sp : Int32) (mK uK : Nat) (pr ex dy tk : Nat → Int32) (bi : Nat → Int64) (c : Nat) (sh sr mk su mu co : Nat → Int32) (du : Nat → Int64) (mS : Int32) (v : Int32) (hbad : ¬ inR v 0 19) : gCi l yX2_covered wsX2_covered ({ frames := 4, cells := 0, slots := 0, locals := 92 } : Room) D [(cI, .int), (cL, .long)] [.ref (bd 0), .int v] (wM bd cI cL th qy lp sp (nI mK) (nI uK) pr ex dy tk bi (nI c) sh sr mk su mu co du mS) (wM bd cI cL 1 qy lp sp (nI mK) (nI uK) pr ex dy tk bi (nI c) sh sr mk su mu co du mS) 0 True 0 0 sz := by
  refine gm_i (cc := cX2_covered) (maxL := 2) (by decide) rfl (Nat.le_of_ble_eq_true rfl) ?_
  intro pg en s m args below meth cd A ls hx hb hr hml hown hts hlocks hin hA hK hP hD hl
  have hl : lv_has ls 2 [(0, .ref (bd 0)), (1, .int v)] := hl
  have hS : va_S A s.heap s.heap [] := va_S.rf
  refine lv_aload_n hx hb dX2_covered_0 rfl (lv_at hl 0 rfl) ?_
  refine lv_iload_n hx hb dX2_covered_1 rfl (lv_at hl 1 rfl) ?_
  refine gV_i (wc := (wM bd cI cL th qy lp sp (nI mK) (nI uK) pr ex dy tk bi (nI c) sh sr mk su mu co du mS)) (wr := []) (w1 := (wM bd cI cL 1 qy lp sp (nI mK) (nI uK) pr ex dy tk bi (nI c) sh sr mk su mu co du mS)) (W' := (wM bd cI cL 1 qy lp sp (nI mK) (nI uK) pr ex dy tk bi (nI c) sh sr mk su mu co du mS)) (As := [.int v]) (rest := []) ⟨hx, hb, hml, hown, hts⟩ (c_X2_isClosed_1 l D s.heap.size bd cI cL th qy lp sp mK uK pr ex dy tk bi c sh sr mk su mu co du mS v hbad) (cwV 1 hts gX2_covered_X2_isClosed rfl rfl rfl (by decide +kernel) ⟨(Nat.le_of_ble_eq_true rfl), (Nat.le_of_ble_eq_true rfl)⟩) hS hA hK hP hD [0, 1] rfl [0, 1, 2, 3, 4, 5, 6, 7, 8, 9, 10, 11, 12] [] [0, 1, 2, 3, 4, 5, 6, 7, 8, 9, 10, 11, 12] rfl (by decide) rfl (by decide) (by decide) rfl (by decide) 0 2 rfl rfl rfl rfl hl.1 rfl (Nat.le_of_ble_eq_true rfl) dX2_covered_2 ⟨(Nat.le_of_ble_eq_true rfl), (Nat.le_of_ble_eq_true rfl)⟩ (fun H locs _ hP hD hS => ?_)
  refine lv_if_eq (tgt := 17) hx hb dX2_covered_5 (by decide) (fun c1 => ?_) (fun c1 => ?_)
  · refine lv_iconst (v := 0) hx hb dX2_covered_17 (by decide) ?_
    exact ge_i hx hb hr hlocks rfl hK hP hD hS trivial (Nat.le_of_ble_eq_true rfl) (Nat.le_of_ble_eq_true rfl) dX2_covered_18
  · exact absurd rfl c1
set_option maxHeartbeats 4000000 in
set_option maxRecDepth 100000 in
theorem c_X2_covered_2 (l : Launch) (D : va_G) (sz : Nat) (bd : Nat → Nat) (cI cL : ClassId) (th qy lp sp : Int32) (mK uK : Nat) (pr ex dy tk : Nat → Int32) (bi : Nat → Int64) (c : Nat) (sh sr mk su mu co : Nat → Int32) (du : Nat → Int64) (mS : Int32) (j : Nat) (hj : j < 20) (hbad : ¬ j < c) (hc : c ≤ 20) : gCi l yX2_covered wsX2_covered ({ frames := 4, cells := 0, slots := 0, locals := 92 } : Room) D [(cI, .int), (cL, .long)] [.ref (bd 0), .int (nI j)] (wM bd cI cL th qy lp sp (nI mK) (nI uK) pr ex dy tk bi (nI c) sh sr mk su mu co du mS) (wM bd cI cL 2 qy lp sp (nI mK) (nI uK) pr ex dy tk bi (nI c) sh sr mk su mu co du mS) 0 True 0 0 sz := by
  refine gm_i (cc := cX2_covered) (maxL := 2) (by decide) rfl (Nat.le_of_ble_eq_true rfl) ?_
  intro pg en s m args below meth cd A ls hx hb hr hml hown hts hlocks hin hA hK hP hD hl
  have hl : lv_has ls 2 [(0, .ref (bd 0)), (1, .int (nI j))] := hl
  have hS : va_S A s.heap s.heap [] := va_S.rf
  refine lv_aload_n hx hb dX2_covered_0 rfl (lv_at hl 0 rfl) ?_
  refine lv_iload_n hx hb dX2_covered_1 rfl (lv_at hl 1 rfl) ?_
  refine gV_i (wc := (wM bd cI cL th qy lp sp (nI mK) (nI uK) pr ex dy tk bi (nI c) sh sr mk su mu co du mS)) (wr := []) (w1 := (wM bd cI cL 2 qy lp sp (nI mK) (nI uK) pr ex dy tk bi (nI c) sh sr mk su mu co du mS)) (W' := (wM bd cI cL 2 qy lp sp (nI mK) (nI uK) pr ex dy tk bi (nI c) sh sr mk su mu co du mS)) (As := [.int (nI j)]) (rest := []) ⟨hx, hb, hml, hown, hts⟩ (c_X2_isClosed_2 l D s.heap.size bd cI cL th qy lp sp mK uK pr ex dy tk bi c sh sr mk su mu co du mS j hj hbad hc) (cwV 1 hts gX2_covered_X2_isClosed rfl rfl rfl (by decide +kernel) ⟨(Nat.le_of_ble_eq_true rfl), (Nat.le_of_ble_eq_true rfl)⟩) hS hA hK hP hD [0, 1] rfl [0, 1, 2, 3, 4, 5, 6, 7, 8, 9, 10, 11, 12] [] [0, 1, 2, 3, 4, 5, 6, 7, 8, 9, 10, 11, 12] rfl (by decide) rfl (by decide) (by decide) rfl (by decide) 0 2 rfl rfl rfl rfl hl.1 rfl (Nat.le_of_ble_eq_true rfl) dX2_covered_2 ⟨(Nat.le_of_ble_eq_true rfl), (Nat.le_of_ble_eq_true rfl)⟩ (fun H locs _ hP hD hS => ?_)
  refine lv_if_eq (tgt := 17) hx hb dX2_covered_5 (by decide) (fun c1 => ?_) (fun c1 => ?_)
  · refine lv_iconst (v := 0) hx hb dX2_covered_17 (by decide) ?_
    exact ge_i hx hb hr hlocks rfl hK hP hD hS trivial (Nat.le_of_ble_eq_true rfl) (Nat.le_of_ble_eq_true rfl) dX2_covered_18
  · exact absurd rfl c1
theorem inX2_surplus_X2 : ∀ q ∈ wsX20, q ∈ wsX2_surplus := by decide +kernel
theorem hX2_surplus__fieldLink_RX2_46_MakeupGasModel_surpluses_I_ : Cond.fieldLink RX2 46 "MakeupGasModel" "surpluses" "[I" ∈ wsX2_surplus := by decide +kernel
set_option maxHeartbeats 4000000 in
set_option maxRecDepth 100000 in
theorem c_X2_surplus (l : Launch) (D : va_G) (sz : Nat) (bd : Nat → Nat) (cI cL : ClassId) (th qy lp sp : Int32) (mK uK : Nat) (pr ex dy tk : Nat → Int32) (bi : Nat → Int64) (c : Nat) (sh sr mk su mu co : Nat → Int32) (du : Nat → Int64) (mS : Int32) (j : Nat) (hj : j < c) (hc : c ≤ 20) (hmK : mK < 20) (huK : uK < 20) : gCi l yX2_surplus wsX2_surplus ({ frames := 4, cells := 0, slots := 0, locals := 92 } : Room) D [(cI, .int), (cL, .long)] [.ref (bd 0), .int (nI j)] (wM bd cI cL th qy lp sp (nI mK) (nI uK) pr ex dy tk bi (nI c) sh sr mk su mu co du mS) (wM bd cI cL 0 qy lp sp (nI mK) (nI uK) pr ex dy tk bi (nI c) (nSh (rtC qy lp sp pr ex tk mK uK (rt0 mk su sh mu co sr du) c)) (nSr (rtC qy lp sp pr ex tk mK uK (rt0 mk su sh mu co sr du) c)) (nMk (rtC qy lp sp pr ex tk mK uK (rt0 mk su sh mu co sr du) c)) (nSu (rtC qy lp sp pr ex tk mK uK (rt0 mk su sh mu co sr du) c)) (nMu (rtC qy lp sp pr ex tk mK uK (rt0 mk su sh mu co sr du) c)) (nCo (rtC qy lp sp pr ex tk mK uK (rt0 mk su sh mu co sr du) c)) (nDu (rtC qy lp sp pr ex tk mK uK (rt0 mk su sh mu co sr du) c)) (nMS (rtC qy lp sp pr ex tk mK uK (rt0 mk su sh mu co sr du) c))) (nSr (rtC qy lp sp pr ex tk mK uK (rt0 mk su sh mu co sr du) c) j) True 0 0 sz := by
  refine gm_i (cc := cX2_surplus) (maxL := 2) (by decide) rfl (Nat.le_of_ble_eq_true rfl) ?_
  intro pg en s m args below meth cd A ls hx hb hr hml hown hts hlocks hin hA hK hP hD hl
  have hl : lv_has ls 2 [(0, .ref (bd 0)), (1, .int (nI j))] := hl
  have hS : va_S A s.heap s.heap [] := va_S.rf
  refine lv_aload_n hx hb dX2_surplus_0 rfl (lv_at hl 0 rfl) ?_
  refine lv_iload_n hx hb dX2_surplus_1 rfl (lv_at hl 1 rfl) ?_
  refine gV_i (wc := (wM bd cI cL th qy lp sp (nI mK) (nI uK) pr ex dy tk bi (nI c) sh sr mk su mu co du mS)) (wr := []) (w1 := (wM bd cI cL 0 qy lp sp (nI mK) (nI uK) pr ex dy tk bi (nI c) (nSh (rtC qy lp sp pr ex tk mK uK (rt0 mk su sh mu co sr du) c)) (nSr (rtC qy lp sp pr ex tk mK uK (rt0 mk su sh mu co sr du) c)) (nMk (rtC qy lp sp pr ex tk mK uK (rt0 mk su sh mu co sr du) c)) (nSu (rtC qy lp sp pr ex tk mK uK (rt0 mk su sh mu co sr du) c)) (nMu (rtC qy lp sp pr ex tk mK uK (rt0 mk su sh mu co sr du) c)) (nCo (rtC qy lp sp pr ex tk mK uK (rt0 mk su sh mu co sr du) c)) (nDu (rtC qy lp sp pr ex tk mK uK (rt0 mk su sh mu co sr du) c)) (nMS (rtC qy lp sp pr ex tk mK uK (rt0 mk su sh mu co sr du) c)))) (W' := (wM bd cI cL 0 qy lp sp (nI mK) (nI uK) pr ex dy tk bi (nI c) (nSh (rtC qy lp sp pr ex tk mK uK (rt0 mk su sh mu co sr du) c)) (nSr (rtC qy lp sp pr ex tk mK uK (rt0 mk su sh mu co sr du) c)) (nMk (rtC qy lp sp pr ex tk mK uK (rt0 mk su sh mu co sr du) c)) (nSu (rtC qy lp sp pr ex tk mK uK (rt0 mk su sh mu co sr du) c)) (nMu (rtC qy lp sp pr ex tk mK uK (rt0 mk su sh mu co sr du) c)) (nCo (rtC qy lp sp pr ex tk mK uK (rt0 mk su sh mu co sr du) c)) (nDu (rtC qy lp sp pr ex tk mK uK (rt0 mk su sh mu co sr du) c)) (nMS (rtC qy lp sp pr ex tk mK uK (rt0 mk su sh mu co sr du) c)))) (As := [.int (nI j)]) (rest := []) ⟨hx, hb, hml, hown, hts⟩ (c_X2_isClosed l D s.heap.size bd cI cL th qy lp sp mK uK pr ex dy tk bi c sh sr mk su mu co du mS j hj hc hmK huK) (cwV 1 hts gX2_surplus_X2_isClosed rfl rfl rfl (by decide +kernel) ⟨(Nat.le_of_ble_eq_true rfl), (Nat.le_of_ble_eq_true rfl)⟩) hS hA hK hP hD [0, 1] rfl [0, 1, 2, 3, 4, 5, 6, 7, 8, 9, 10, 11, 12] [] [0, 1, 2, 3, 4, 5, 6, 7, 8, 9, 10, 11, 12] rfl (by decide) rfl (by decide) (by decide) rfl (by decide) 0 2 rfl rfl rfl rfl hl.1 rfl (Nat.le_of_ble_eq_true rfl) dX2_surplus_2 ⟨(Nat.le_of_ble_eq_true rfl), (Nat.le_of_ble_eq_true rfl)⟩ (fun H locs _ hP hD hS => ?_)
  refine lv_if_eq (tgt := 17) hx hb dX2_surplus_5 (by decide) (fun c1 => ?_) (fun c1 => ?_)
  · exact absurd c1 (by decide)
  · refine lv_aload_n hx hb dX2_surplus_8 rfl (lv_at hl 0 rfl) ?_
    refine va_get (D := D) (ci := 2) (C := RX2) (T := TX2) (N := 20) hx hb hts inX2_surplus_X2 hown hK hP 0 rfl rfl 13 (by decide) (hts _ hX2_surplus__fieldLink_RX2_46_MakeupGasModel_surpluses_I_) (fun _ h9 => h9) rfl dX2_surplus_9 ?_
    refine lv_iload_n hx hb dX2_surplus_12 rfl (lv_at hl 1 rfl) ?_
    refine ga_iald (j := j) hx hb hK hP 7 0 rfl rfl (show j < 20 by omega) (by decide) dX2_surplus_13 ?_
    refine lv_goto (tgt := 18) hx hb dX2_surplus_14 (by decide) ?_
    exact ge_i hx hb hr hlocks rfl hK hP hD hS trivial (Nat.le_of_ble_eq_true rfl) (Nat.le_of_ble_eq_true rfl) dX2_surplus_18
set_option maxHeartbeats 4000000 in
set_option maxRecDepth 100000 in
theorem c_X2_surplus_1 (l : Launch) (D : va_G) (sz : Nat) (bd : Nat → Nat) (cI cL : ClassId) (th qy lp sp : Int32) (mK uK : Nat) (pr ex dy tk : Nat → Int32) (bi : Nat → Int64) (c : Nat) (sh sr mk su mu co : Nat → Int32) (du : Nat → Int64) (mS : Int32) (v : Int32) (hbad : ¬ inR v 0 19) : gCi l yX2_surplus wsX2_surplus ({ frames := 4, cells := 0, slots := 0, locals := 92 } : Room) D [(cI, .int), (cL, .long)] [.ref (bd 0), .int v] (wM bd cI cL th qy lp sp (nI mK) (nI uK) pr ex dy tk bi (nI c) sh sr mk su mu co du mS) (wM bd cI cL 1 qy lp sp (nI mK) (nI uK) pr ex dy tk bi (nI c) sh sr mk su mu co du mS) 0 True 0 0 sz := by
  refine gm_i (cc := cX2_surplus) (maxL := 2) (by decide) rfl (Nat.le_of_ble_eq_true rfl) ?_
  intro pg en s m args below meth cd A ls hx hb hr hml hown hts hlocks hin hA hK hP hD hl
  have hl : lv_has ls 2 [(0, .ref (bd 0)), (1, .int v)] := hl
  have hS : va_S A s.heap s.heap [] := va_S.rf
  refine lv_aload_n hx hb dX2_surplus_0 rfl (lv_at hl 0 rfl) ?_
  refine lv_iload_n hx hb dX2_surplus_1 rfl (lv_at hl 1 rfl) ?_
  refine gV_i (wc := (wM bd cI cL th qy lp sp (nI mK) (nI uK) pr ex dy tk bi (nI c) sh sr mk su mu co du mS)) (wr := []) (w1 := (wM bd cI cL 1 qy lp sp (nI mK) (nI uK) pr ex dy tk bi (nI c) sh sr mk su mu co du mS)) (W' := (wM bd cI cL 1 qy lp sp (nI mK) (nI uK) pr ex dy tk bi (nI c) sh sr mk su mu co du mS)) (As := [.int v]) (rest := []) ⟨hx, hb, hml, hown, hts⟩ (c_X2_isClosed_1 l D s.heap.size bd cI cL th qy lp sp mK uK pr ex dy tk bi c sh sr mk su mu co du mS v hbad) (cwV 1 hts gX2_surplus_X2_isClosed rfl rfl rfl (by decide +kernel) ⟨(Nat.le_of_ble_eq_true rfl), (Nat.le_of_ble_eq_true rfl)⟩) hS hA hK hP hD [0, 1] rfl [0, 1, 2, 3, 4, 5, 6, 7, 8, 9, 10, 11, 12] [] [0, 1, 2, 3, 4, 5, 6, 7, 8, 9, 10, 11, 12] rfl (by decide) rfl (by decide) (by decide) rfl (by decide) 0 2 rfl rfl rfl rfl hl.1 rfl (Nat.le_of_ble_eq_true rfl) dX2_surplus_2 ⟨(Nat.le_of_ble_eq_true rfl), (Nat.le_of_ble_eq_true rfl)⟩ (fun H locs _ hP hD hS => ?_)
  refine lv_if_eq (tgt := 17) hx hb dX2_surplus_5 (by decide) (fun c1 => ?_) (fun c1 => ?_)
  · refine lv_iconst (v := 0) hx hb dX2_surplus_17 (by decide) ?_
    exact ge_i hx hb hr hlocks rfl hK hP hD hS trivial (Nat.le_of_ble_eq_true rfl) (Nat.le_of_ble_eq_true rfl) dX2_surplus_18
  · exact absurd rfl c1
set_option maxHeartbeats 4000000 in
set_option maxRecDepth 100000 in
theorem c_X2_surplus_2 (l : Launch) (D : va_G) (sz : Nat) (bd : Nat → Nat) (cI cL : ClassId) (th qy lp sp : Int32) (mK uK : Nat) (pr ex dy tk : Nat → Int32) (bi : Nat → Int64) (c : Nat) (sh sr mk su mu co : Nat → Int32) (du : Nat → Int64) (mS : Int32) (j : Nat) (hj : j < 20) (hbad : ¬ j < c) (hc : c ≤ 20) : gCi l yX2_surplus wsX2_surplus ({ frames := 4, cells := 0, slots := 0, locals := 92 } : Room) D [(cI, .int), (cL, .long)] [.ref (bd 0), .int (nI j)] (wM bd cI cL th qy lp sp (nI mK) (nI uK) pr ex dy tk bi (nI c) sh sr mk su mu co du mS) (wM bd cI cL 2 qy lp sp (nI mK) (nI uK) pr ex dy tk bi (nI c) sh sr mk su mu co du mS) 0 True 0 0 sz := by
  refine gm_i (cc := cX2_surplus) (maxL := 2) (by decide) rfl (Nat.le_of_ble_eq_true rfl) ?_
  intro pg en s m args below meth cd A ls hx hb hr hml hown hts hlocks hin hA hK hP hD hl
  have hl : lv_has ls 2 [(0, .ref (bd 0)), (1, .int (nI j))] := hl
  have hS : va_S A s.heap s.heap [] := va_S.rf
  refine lv_aload_n hx hb dX2_surplus_0 rfl (lv_at hl 0 rfl) ?_
  refine lv_iload_n hx hb dX2_surplus_1 rfl (lv_at hl 1 rfl) ?_
  refine gV_i (wc := (wM bd cI cL th qy lp sp (nI mK) (nI uK) pr ex dy tk bi (nI c) sh sr mk su mu co du mS)) (wr := []) (w1 := (wM bd cI cL 2 qy lp sp (nI mK) (nI uK) pr ex dy tk bi (nI c) sh sr mk su mu co du mS)) (W' := (wM bd cI cL 2 qy lp sp (nI mK) (nI uK) pr ex dy tk bi (nI c) sh sr mk su mu co du mS)) (As := [.int (nI j)]) (rest := []) ⟨hx, hb, hml, hown, hts⟩ (c_X2_isClosed_2 l D s.heap.size bd cI cL th qy lp sp mK uK pr ex dy tk bi c sh sr mk su mu co du mS j hj hbad hc) (cwV 1 hts gX2_surplus_X2_isClosed rfl rfl rfl (by decide +kernel) ⟨(Nat.le_of_ble_eq_true rfl), (Nat.le_of_ble_eq_true rfl)⟩) hS hA hK hP hD [0, 1] rfl [0, 1, 2, 3, 4, 5, 6, 7, 8, 9, 10, 11, 12] [] [0, 1, 2, 3, 4, 5, 6, 7, 8, 9, 10, 11, 12] rfl (by decide) rfl (by decide) (by decide) rfl (by decide) 0 2 rfl rfl rfl rfl hl.1 rfl (Nat.le_of_ble_eq_true rfl) dX2_surplus_2 ⟨(Nat.le_of_ble_eq_true rfl), (Nat.le_of_ble_eq_true rfl)⟩ (fun H locs _ hP hD hS => ?_)
  refine lv_if_eq (tgt := 17) hx hb dX2_surplus_5 (by decide) (fun c1 => ?_) (fun c1 => ?_)
  · refine lv_iconst (v := 0) hx hb dX2_surplus_17 (by decide) ?_
    exact ge_i hx hb hr hlocks rfl hK hP hD hS trivial (Nat.le_of_ble_eq_true rfl) (Nat.le_of_ble_eq_true rfl) dX2_surplus_18
  · exact absurd rfl c1
theorem inX2_due_X2 : ∀ q ∈ wsX20, q ∈ wsX2_due := by decide +kernel
theorem hX2_due__fieldLink_RX2_61_MakeupGasModel_dues_J_ : Cond.fieldLink RX2 61 "MakeupGasModel" "dues" "[J" ∈ wsX2_due := by decide +kernel
set_option maxHeartbeats 4000000 in
set_option maxRecDepth 100000 in
theorem c_X2_due (l : Launch) (D : va_G) (sz : Nat) (bd : Nat → Nat) (cI cL : ClassId) (th qy lp sp : Int32) (mK uK : Nat) (pr ex dy tk : Nat → Int32) (bi : Nat → Int64) (c : Nat) (sh sr mk su mu co : Nat → Int32) (du : Nat → Int64) (mS : Int32) (j : Nat) (hj : j < c) (hc : c ≤ 20) (hmK : mK < 20) (huK : uK < 20) : gCl l yX2_due wsX2_due ({ frames := 4, cells := 0, slots := 0, locals := 92 } : Room) D [(cI, .int), (cL, .long)] [.ref (bd 0), .int (nI j)] (wM bd cI cL th qy lp sp (nI mK) (nI uK) pr ex dy tk bi (nI c) sh sr mk su mu co du mS) (wM bd cI cL 0 qy lp sp (nI mK) (nI uK) pr ex dy tk bi (nI c) (nSh (rtC qy lp sp pr ex tk mK uK (rt0 mk su sh mu co sr du) c)) (nSr (rtC qy lp sp pr ex tk mK uK (rt0 mk su sh mu co sr du) c)) (nMk (rtC qy lp sp pr ex tk mK uK (rt0 mk su sh mu co sr du) c)) (nSu (rtC qy lp sp pr ex tk mK uK (rt0 mk su sh mu co sr du) c)) (nMu (rtC qy lp sp pr ex tk mK uK (rt0 mk su sh mu co sr du) c)) (nCo (rtC qy lp sp pr ex tk mK uK (rt0 mk su sh mu co sr du) c)) (nDu (rtC qy lp sp pr ex tk mK uK (rt0 mk su sh mu co sr du) c)) (nMS (rtC qy lp sp pr ex tk mK uK (rt0 mk su sh mu co sr du) c))) (nDu (rtC qy lp sp pr ex tk mK uK (rt0 mk su sh mu co sr du) c) j) True 0 0 sz := by
  refine gm_l (cc := cX2_due) (maxL := 2) (by decide) rfl (Nat.le_of_ble_eq_true rfl) ?_
  intro pg en s m args below meth cd A ls hx hb hr hml hown hts hlocks hin hA hK hP hD hl
  have hl : lv_has ls 2 [(0, .ref (bd 0)), (1, .int (nI j))] := hl
  have hS : va_S A s.heap s.heap [] := va_S.rf
  refine lv_aload_n hx hb dX2_due_0 rfl (lv_at hl 0 rfl) ?_
  refine lv_iload_n hx hb dX2_due_1 rfl (lv_at hl 1 rfl) ?_
  refine gV_i (wc := (wM bd cI cL th qy lp sp (nI mK) (nI uK) pr ex dy tk bi (nI c) sh sr mk su mu co du mS)) (wr := []) (w1 := (wM bd cI cL 0 qy lp sp (nI mK) (nI uK) pr ex dy tk bi (nI c) (nSh (rtC qy lp sp pr ex tk mK uK (rt0 mk su sh mu co sr du) c)) (nSr (rtC qy lp sp pr ex tk mK uK (rt0 mk su sh mu co sr du) c)) (nMk (rtC qy lp sp pr ex tk mK uK (rt0 mk su sh mu co sr du) c)) (nSu (rtC qy lp sp pr ex tk mK uK (rt0 mk su sh mu co sr du) c)) (nMu (rtC qy lp sp pr ex tk mK uK (rt0 mk su sh mu co sr du) c)) (nCo (rtC qy lp sp pr ex tk mK uK (rt0 mk su sh mu co sr du) c)) (nDu (rtC qy lp sp pr ex tk mK uK (rt0 mk su sh mu co sr du) c)) (nMS (rtC qy lp sp pr ex tk mK uK (rt0 mk su sh mu co sr du) c)))) (W' := (wM bd cI cL 0 qy lp sp (nI mK) (nI uK) pr ex dy tk bi (nI c) (nSh (rtC qy lp sp pr ex tk mK uK (rt0 mk su sh mu co sr du) c)) (nSr (rtC qy lp sp pr ex tk mK uK (rt0 mk su sh mu co sr du) c)) (nMk (rtC qy lp sp pr ex tk mK uK (rt0 mk su sh mu co sr du) c)) (nSu (rtC qy lp sp pr ex tk mK uK (rt0 mk su sh mu co sr du) c)) (nMu (rtC qy lp sp pr ex tk mK uK (rt0 mk su sh mu co sr du) c)) (nCo (rtC qy lp sp pr ex tk mK uK (rt0 mk su sh mu co sr du) c)) (nDu (rtC qy lp sp pr ex tk mK uK (rt0 mk su sh mu co sr du) c)) (nMS (rtC qy lp sp pr ex tk mK uK (rt0 mk su sh mu co sr du) c)))) (As := [.int (nI j)]) (rest := []) ⟨hx, hb, hml, hown, hts⟩ (c_X2_isClosed l D s.heap.size bd cI cL th qy lp sp mK uK pr ex dy tk bi c sh sr mk su mu co du mS j hj hc hmK huK) (cwV 1 hts gX2_due_X2_isClosed rfl rfl rfl (by decide +kernel) ⟨(Nat.le_of_ble_eq_true rfl), (Nat.le_of_ble_eq_true rfl)⟩) hS hA hK hP hD [0, 1] rfl [0, 1, 2, 3, 4, 5, 6, 7, 8, 9, 10, 11, 12] [] [0, 1, 2, 3, 4, 5, 6, 7, 8, 9, 10, 11, 12] rfl (by decide) rfl (by decide) (by decide) rfl (by decide) 0 2 rfl rfl rfl rfl hl.1 rfl (Nat.le_of_ble_eq_true rfl) dX2_due_2 ⟨(Nat.le_of_ble_eq_true rfl), (Nat.le_of_ble_eq_true rfl)⟩ (fun H locs _ hP hD hS => ?_)
  refine lv_if_eq (tgt := 17) hx hb dX2_due_5 (by decide) (fun c1 => ?_) (fun c1 => ?_)
  · exact absurd c1 (by decide)
  · refine lv_aload_n hx hb dX2_due_8 rfl (lv_at hl 0 rfl) ?_
    refine va_get (D := D) (ci := 2) (C := RX2) (T := TX2) (N := 20) hx hb hts inX2_due_X2 hown hK hP 0 rfl rfl 18 (by decide) (hts _ hX2_due__fieldLink_RX2_61_MakeupGasModel_dues_J_) (fun _ h9 => h9) rfl dX2_due_9 ?_
    refine lv_iload_n hx hb dX2_due_12 rfl (lv_at hl 1 rfl) ?_
    refine ga_lald (j := j) hx hb hK hP 12 1 rfl rfl (show j < 20 by omega) (by decide) dX2_due_13 ?_
    refine lv_goto (tgt := 18) hx hb dX2_due_14 (by decide) ?_
    exact ge_l hx hb hr hlocks hK hP hD hS trivial (Nat.le_of_ble_eq_true rfl) (Nat.le_of_ble_eq_true rfl) dX2_due_18
set_option maxHeartbeats 4000000 in
set_option maxRecDepth 100000 in
theorem c_X2_due_1 (l : Launch) (D : va_G) (sz : Nat) (bd : Nat → Nat) (cI cL : ClassId) (th qy lp sp : Int32) (mK uK : Nat) (pr ex dy tk : Nat → Int32) (bi : Nat → Int64) (c : Nat) (sh sr mk su mu co : Nat → Int32) (du : Nat → Int64) (mS : Int32) (v : Int32) (hbad : ¬ inR v 0 19) : gCl l yX2_due wsX2_due ({ frames := 4, cells := 0, slots := 0, locals := 92 } : Room) D [(cI, .int), (cL, .long)] [.ref (bd 0), .int v] (wM bd cI cL th qy lp sp (nI mK) (nI uK) pr ex dy tk bi (nI c) sh sr mk su mu co du mS) (wM bd cI cL 1 qy lp sp (nI mK) (nI uK) pr ex dy tk bi (nI c) sh sr mk su mu co du mS) 0 True 0 0 sz := by
  refine gm_l (cc := cX2_due) (maxL := 2) (by decide) rfl (Nat.le_of_ble_eq_true rfl) ?_
  intro pg en s m args below meth cd A ls hx hb hr hml hown hts hlocks hin hA hK hP hD hl
  have hl : lv_has ls 2 [(0, .ref (bd 0)), (1, .int v)] := hl
  have hS : va_S A s.heap s.heap [] := va_S.rf
  refine lv_aload_n hx hb dX2_due_0 rfl (lv_at hl 0 rfl) ?_
  refine lv_iload_n hx hb dX2_due_1 rfl (lv_at hl 1 rfl) ?_
  refine gV_i (wc := (wM bd cI cL th qy lp sp (nI mK) (nI uK) pr ex dy tk bi (nI c) sh sr mk su mu co du mS)) (wr := []) (w1 := (wM bd cI cL 1 qy lp sp (nI mK) (nI uK) pr ex dy tk bi (nI c) sh sr mk su mu co du mS)) (W' := (wM bd cI cL 1 qy lp sp (nI mK) (nI uK) pr ex dy tk bi (nI c) sh sr mk su mu co du mS)) (As := [.int v]) (rest := []) ⟨hx, hb, hml, hown, hts⟩ (c_X2_isClosed_1 l D s.heap.size bd cI cL th qy lp sp mK uK pr ex dy tk bi c sh sr mk su mu co du mS v hbad) (cwV 1 hts gX2_due_X2_isClosed rfl rfl rfl (by decide +kernel) ⟨(Nat.le_of_ble_eq_true rfl), (Nat.le_of_ble_eq_true rfl)⟩) hS hA hK hP hD [0, 1] rfl [0, 1, 2, 3, 4, 5, 6, 7, 8, 9, 10, 11, 12] [] [0, 1, 2, 3, 4, 5, 6, 7, 8, 9, 10, 11, 12] rfl (by decide) rfl (by decide) (by decide) rfl (by decide) 0 2 rfl rfl rfl rfl hl.1 rfl (Nat.le_of_ble_eq_true rfl) dX2_due_2 ⟨(Nat.le_of_ble_eq_true rfl), (Nat.le_of_ble_eq_true rfl)⟩ (fun H locs _ hP hD hS => ?_)
  refine lv_if_eq (tgt := 17) hx hb dX2_due_5 (by decide) (fun c1 => ?_) (fun c1 => ?_)
  · refine lv_lconst (v := 0) hx hb dX2_due_17 (by decide) ?_
    exact ge_l hx hb hr hlocks hK hP hD hS trivial (Nat.le_of_ble_eq_true rfl) (Nat.le_of_ble_eq_true rfl) dX2_due_18
  · exact absurd rfl c1
set_option maxHeartbeats 4000000 in
set_option maxRecDepth 100000 in
theorem c_X2_due_2 (l : Launch) (D : va_G) (sz : Nat) (bd : Nat → Nat) (cI cL : ClassId) (th qy lp sp : Int32) (mK uK : Nat) (pr ex dy tk : Nat → Int32) (bi : Nat → Int64) (c : Nat) (sh sr mk su mu co : Nat → Int32) (du : Nat → Int64) (mS : Int32) (j : Nat) (hj : j < 20) (hbad : ¬ j < c) (hc : c ≤ 20) : gCl l yX2_due wsX2_due ({ frames := 4, cells := 0, slots := 0, locals := 92 } : Room) D [(cI, .int), (cL, .long)] [.ref (bd 0), .int (nI j)] (wM bd cI cL th qy lp sp (nI mK) (nI uK) pr ex dy tk bi (nI c) sh sr mk su mu co du mS) (wM bd cI cL 2 qy lp sp (nI mK) (nI uK) pr ex dy tk bi (nI c) sh sr mk su mu co du mS) 0 True 0 0 sz := by
  refine gm_l (cc := cX2_due) (maxL := 2) (by decide) rfl (Nat.le_of_ble_eq_true rfl) ?_
  intro pg en s m args below meth cd A ls hx hb hr hml hown hts hlocks hin hA hK hP hD hl
  have hl : lv_has ls 2 [(0, .ref (bd 0)), (1, .int (nI j))] := hl
  have hS : va_S A s.heap s.heap [] := va_S.rf
  refine lv_aload_n hx hb dX2_due_0 rfl (lv_at hl 0 rfl) ?_
  refine lv_iload_n hx hb dX2_due_1 rfl (lv_at hl 1 rfl) ?_
  refine gV_i (wc := (wM bd cI cL th qy lp sp (nI mK) (nI uK) pr ex dy tk bi (nI c) sh sr mk su mu co du mS)) (wr := []) (w1 := (wM bd cI cL 2 qy lp sp (nI mK) (nI uK) pr ex dy tk bi (nI c) sh sr mk su mu co du mS)) (W' := (wM bd cI cL 2 qy lp sp (nI mK) (nI uK) pr ex dy tk bi (nI c) sh sr mk su mu co du mS)) (As := [.int (nI j)]) (rest := []) ⟨hx, hb, hml, hown, hts⟩ (c_X2_isClosed_2 l D s.heap.size bd cI cL th qy lp sp mK uK pr ex dy tk bi c sh sr mk su mu co du mS j hj hbad hc) (cwV 1 hts gX2_due_X2_isClosed rfl rfl rfl (by decide +kernel) ⟨(Nat.le_of_ble_eq_true rfl), (Nat.le_of_ble_eq_true rfl)⟩) hS hA hK hP hD [0, 1] rfl [0, 1, 2, 3, 4, 5, 6, 7, 8, 9, 10, 11, 12] [] [0, 1, 2, 3, 4, 5, 6, 7, 8, 9, 10, 11, 12] rfl (by decide) rfl (by decide) (by decide) rfl (by decide) 0 2 rfl rfl rfl rfl hl.1 rfl (Nat.le_of_ble_eq_true rfl) dX2_due_2 ⟨(Nat.le_of_ble_eq_true rfl), (Nat.le_of_ble_eq_true rfl)⟩ (fun H locs _ hP hD hS => ?_)
  refine lv_if_eq (tgt := 17) hx hb dX2_due_5 (by decide) (fun c1 => ?_) (fun c1 => ?_)
  · refine lv_lconst (v := 0) hx hb dX2_due_17 (by decide) ?_
    exact ge_l hx hb hr hlocks hK hP hD hS trivial (Nat.le_of_ble_eq_true rfl) (Nat.le_of_ble_eq_true rfl) dX2_due_18
  · exact absurd rfl c1
theorem inX2_bill_X2 : ∀ q ∈ wsX20, q ∈ wsX2_bill := by decide +kernel
theorem hX2_bill__fieldLink_RX2_39_MakeupGasModel_bills_J_ : Cond.fieldLink RX2 39 "MakeupGasModel" "bills" "[J" ∈ wsX2_bill := by decide +kernel
set_option maxHeartbeats 4000000 in
set_option maxRecDepth 100000 in
theorem c_X2_bill (l : Launch) (D : va_G) (sz : Nat) (bd : Nat → Nat) (cI cL : ClassId) (th qy lp sp : Int32) (mK uK : Nat) (pr ex dy tk : Nat → Int32) (bi : Nat → Int64) (c : Nat) (sh sr mk su mu co : Nat → Int32) (du : Nat → Int64) (mS : Int32) (j : Nat) (hj : j < c) (hc : c ≤ 20) (hmK : mK < 20) (huK : uK < 20) : gCl l yX2_bill wsX2_bill ({ frames := 4, cells := 0, slots := 0, locals := 92 } : Room) D [(cI, .int), (cL, .long)] [.ref (bd 0), .int (nI j)] (wM bd cI cL th qy lp sp (nI mK) (nI uK) pr ex dy tk bi (nI c) sh sr mk su mu co du mS) (wM bd cI cL 0 qy lp sp (nI mK) (nI uK) pr ex dy tk bi (nI c) (nSh (rtC qy lp sp pr ex tk mK uK (rt0 mk su sh mu co sr du) c)) (nSr (rtC qy lp sp pr ex tk mK uK (rt0 mk su sh mu co sr du) c)) (nMk (rtC qy lp sp pr ex tk mK uK (rt0 mk su sh mu co sr du) c)) (nSu (rtC qy lp sp pr ex tk mK uK (rt0 mk su sh mu co sr du) c)) (nMu (rtC qy lp sp pr ex tk mK uK (rt0 mk su sh mu co sr du) c)) (nCo (rtC qy lp sp pr ex tk mK uK (rt0 mk su sh mu co sr du) c)) (nDu (rtC qy lp sp pr ex tk mK uK (rt0 mk su sh mu co sr du) c)) (nMS (rtC qy lp sp pr ex tk mK uK (rt0 mk su sh mu co sr du) c))) (bi j) True 0 0 sz := by
  refine gm_l (cc := cX2_bill) (maxL := 2) (by decide) rfl (Nat.le_of_ble_eq_true rfl) ?_
  intro pg en s m args below meth cd A ls hx hb hr hml hown hts hlocks hin hA hK hP hD hl
  have hl : lv_has ls 2 [(0, .ref (bd 0)), (1, .int (nI j))] := hl
  have hS : va_S A s.heap s.heap [] := va_S.rf
  refine lv_aload_n hx hb dX2_bill_0 rfl (lv_at hl 0 rfl) ?_
  refine lv_iload_n hx hb dX2_bill_1 rfl (lv_at hl 1 rfl) ?_
  refine gV_i (wc := (wM bd cI cL th qy lp sp (nI mK) (nI uK) pr ex dy tk bi (nI c) sh sr mk su mu co du mS)) (wr := []) (w1 := (wM bd cI cL 0 qy lp sp (nI mK) (nI uK) pr ex dy tk bi (nI c) (nSh (rtC qy lp sp pr ex tk mK uK (rt0 mk su sh mu co sr du) c)) (nSr (rtC qy lp sp pr ex tk mK uK (rt0 mk su sh mu co sr du) c)) (nMk (rtC qy lp sp pr ex tk mK uK (rt0 mk su sh mu co sr du) c)) (nSu (rtC qy lp sp pr ex tk mK uK (rt0 mk su sh mu co sr du) c)) (nMu (rtC qy lp sp pr ex tk mK uK (rt0 mk su sh mu co sr du) c)) (nCo (rtC qy lp sp pr ex tk mK uK (rt0 mk su sh mu co sr du) c)) (nDu (rtC qy lp sp pr ex tk mK uK (rt0 mk su sh mu co sr du) c)) (nMS (rtC qy lp sp pr ex tk mK uK (rt0 mk su sh mu co sr du) c)))) (W' := (wM bd cI cL 0 qy lp sp (nI mK) (nI uK) pr ex dy tk bi (nI c) (nSh (rtC qy lp sp pr ex tk mK uK (rt0 mk su sh mu co sr du) c)) (nSr (rtC qy lp sp pr ex tk mK uK (rt0 mk su sh mu co sr du) c)) (nMk (rtC qy lp sp pr ex tk mK uK (rt0 mk su sh mu co sr du) c)) (nSu (rtC qy lp sp pr ex tk mK uK (rt0 mk su sh mu co sr du) c)) (nMu (rtC qy lp sp pr ex tk mK uK (rt0 mk su sh mu co sr du) c)) (nCo (rtC qy lp sp pr ex tk mK uK (rt0 mk su sh mu co sr du) c)) (nDu (rtC qy lp sp pr ex tk mK uK (rt0 mk su sh mu co sr du) c)) (nMS (rtC qy lp sp pr ex tk mK uK (rt0 mk su sh mu co sr du) c)))) (As := [.int (nI j)]) (rest := []) ⟨hx, hb, hml, hown, hts⟩ (c_X2_isClosed l D s.heap.size bd cI cL th qy lp sp mK uK pr ex dy tk bi c sh sr mk su mu co du mS j hj hc hmK huK) (cwV 1 hts gX2_bill_X2_isClosed rfl rfl rfl (by decide +kernel) ⟨(Nat.le_of_ble_eq_true rfl), (Nat.le_of_ble_eq_true rfl)⟩) hS hA hK hP hD [0, 1] rfl [0, 1, 2, 3, 4, 5, 6, 7, 8, 9, 10, 11, 12] [] [0, 1, 2, 3, 4, 5, 6, 7, 8, 9, 10, 11, 12] rfl (by decide) rfl (by decide) (by decide) rfl (by decide) 0 2 rfl rfl rfl rfl hl.1 rfl (Nat.le_of_ble_eq_true rfl) dX2_bill_2 ⟨(Nat.le_of_ble_eq_true rfl), (Nat.le_of_ble_eq_true rfl)⟩ (fun H locs _ hP hD hS => ?_)
  refine lv_if_eq (tgt := 17) hx hb dX2_bill_5 (by decide) (fun c1 => ?_) (fun c1 => ?_)
  · exact absurd c1 (by decide)
  · refine lv_aload_n hx hb dX2_bill_8 rfl (lv_at hl 0 rfl) ?_
    refine va_get (D := D) (ci := 2) (C := RX2) (T := TX2) (N := 20) hx hb hts inX2_bill_X2 hown hK hP 0 rfl rfl 10 (by decide) (hts _ hX2_bill__fieldLink_RX2_39_MakeupGasModel_bills_J_) (fun _ h9 => h9) rfl dX2_bill_9 ?_
    refine lv_iload_n hx hb dX2_bill_12 rfl (lv_at hl 1 rfl) ?_
    refine ga_lald (j := j) hx hb hK hP 5 1 rfl rfl (show j < 20 by omega) (by decide) dX2_bill_13 ?_
    refine lv_goto (tgt := 18) hx hb dX2_bill_14 (by decide) ?_
    exact ge_l hx hb hr hlocks hK hP hD hS trivial (Nat.le_of_ble_eq_true rfl) (Nat.le_of_ble_eq_true rfl) dX2_bill_18
set_option maxHeartbeats 4000000 in
set_option maxRecDepth 100000 in
theorem c_X2_bill_1 (l : Launch) (D : va_G) (sz : Nat) (bd : Nat → Nat) (cI cL : ClassId) (th qy lp sp : Int32) (mK uK : Nat) (pr ex dy tk : Nat → Int32) (bi : Nat → Int64) (c : Nat) (sh sr mk su mu co : Nat → Int32) (du : Nat → Int64) (mS : Int32) (v : Int32) (hbad : ¬ inR v 0 19) : gCl l yX2_bill wsX2_bill ({ frames := 4, cells := 0, slots := 0, locals := 92 } : Room) D [(cI, .int), (cL, .long)] [.ref (bd 0), .int v] (wM bd cI cL th qy lp sp (nI mK) (nI uK) pr ex dy tk bi (nI c) sh sr mk su mu co du mS) (wM bd cI cL 1 qy lp sp (nI mK) (nI uK) pr ex dy tk bi (nI c) sh sr mk su mu co du mS) 0 True 0 0 sz := by
  refine gm_l (cc := cX2_bill) (maxL := 2) (by decide) rfl (Nat.le_of_ble_eq_true rfl) ?_
  intro pg en s m args below meth cd A ls hx hb hr hml hown hts hlocks hin hA hK hP hD hl
  have hl : lv_has ls 2 [(0, .ref (bd 0)), (1, .int v)] := hl
  have hS : va_S A s.heap s.heap [] := va_S.rf
  refine lv_aload_n hx hb dX2_bill_0 rfl (lv_at hl 0 rfl) ?_
  refine lv_iload_n hx hb dX2_bill_1 rfl (lv_at hl 1 rfl) ?_
  refine gV_i (wc := (wM bd cI cL th qy lp sp (nI mK) (nI uK) pr ex dy tk bi (nI c) sh sr mk su mu co du mS)) (wr := []) (w1 := (wM bd cI cL 1 qy lp sp (nI mK) (nI uK) pr ex dy tk bi (nI c) sh sr mk su mu co du mS)) (W' := (wM bd cI cL 1 qy lp sp (nI mK) (nI uK) pr ex dy tk bi (nI c) sh sr mk su mu co du mS)) (As := [.int v]) (rest := []) ⟨hx, hb, hml, hown, hts⟩ (c_X2_isClosed_1 l D s.heap.size bd cI cL th qy lp sp mK uK pr ex dy tk bi c sh sr mk su mu co du mS v hbad) (cwV 1 hts gX2_bill_X2_isClosed rfl rfl rfl (by decide +kernel) ⟨(Nat.le_of_ble_eq_true rfl), (Nat.le_of_ble_eq_true rfl)⟩) hS hA hK hP hD [0, 1] rfl [0, 1, 2, 3, 4, 5, 6, 7, 8, 9, 10, 11, 12] [] [0, 1, 2, 3, 4, 5, 6, 7, 8, 9, 10, 11, 12] rfl (by decide) rfl (by decide) (by decide) rfl (by decide) 0 2 rfl rfl rfl rfl hl.1 rfl (Nat.le_of_ble_eq_true rfl) dX2_bill_2 ⟨(Nat.le_of_ble_eq_true rfl), (Nat.le_of_ble_eq_true rfl)⟩ (fun H locs _ hP hD hS => ?_)
  refine lv_if_eq (tgt := 17) hx hb dX2_bill_5 (by decide) (fun c1 => ?_) (fun c1 => ?_)
  · refine lv_lconst (v := 0) hx hb dX2_bill_17 (by decide) ?_
    exact ge_l hx hb hr hlocks hK hP hD hS trivial (Nat.le_of_ble_eq_true rfl) (Nat.le_of_ble_eq_true rfl) dX2_bill_18
  · exact absurd rfl c1
set_option maxHeartbeats 4000000 in
set_option maxRecDepth 100000 in
theorem c_X2_bill_2 (l : Launch) (D : va_G) (sz : Nat) (bd : Nat → Nat) (cI cL : ClassId) (th qy lp sp : Int32) (mK uK : Nat) (pr ex dy tk : Nat → Int32) (bi : Nat → Int64) (c : Nat) (sh sr mk su mu co : Nat → Int32) (du : Nat → Int64) (mS : Int32) (j : Nat) (hj : j < 20) (hbad : ¬ j < c) (hc : c ≤ 20) : gCl l yX2_bill wsX2_bill ({ frames := 4, cells := 0, slots := 0, locals := 92 } : Room) D [(cI, .int), (cL, .long)] [.ref (bd 0), .int (nI j)] (wM bd cI cL th qy lp sp (nI mK) (nI uK) pr ex dy tk bi (nI c) sh sr mk su mu co du mS) (wM bd cI cL 2 qy lp sp (nI mK) (nI uK) pr ex dy tk bi (nI c) sh sr mk su mu co du mS) 0 True 0 0 sz := by
  refine gm_l (cc := cX2_bill) (maxL := 2) (by decide) rfl (Nat.le_of_ble_eq_true rfl) ?_
  intro pg en s m args below meth cd A ls hx hb hr hml hown hts hlocks hin hA hK hP hD hl
  have hl : lv_has ls 2 [(0, .ref (bd 0)), (1, .int (nI j))] := hl
  have hS : va_S A s.heap s.heap [] := va_S.rf
  refine lv_aload_n hx hb dX2_bill_0 rfl (lv_at hl 0 rfl) ?_
  refine lv_iload_n hx hb dX2_bill_1 rfl (lv_at hl 1 rfl) ?_
  refine gV_i (wc := (wM bd cI cL th qy lp sp (nI mK) (nI uK) pr ex dy tk bi (nI c) sh sr mk su mu co du mS)) (wr := []) (w1 := (wM bd cI cL 2 qy lp sp (nI mK) (nI uK) pr ex dy tk bi (nI c) sh sr mk su mu co du mS)) (W' := (wM bd cI cL 2 qy lp sp (nI mK) (nI uK) pr ex dy tk bi (nI c) sh sr mk su mu co du mS)) (As := [.int (nI j)]) (rest := []) ⟨hx, hb, hml, hown, hts⟩ (c_X2_isClosed_2 l D s.heap.size bd cI cL th qy lp sp mK uK pr ex dy tk bi c sh sr mk su mu co du mS j hj hbad hc) (cwV 1 hts gX2_bill_X2_isClosed rfl rfl rfl (by decide +kernel) ⟨(Nat.le_of_ble_eq_true rfl), (Nat.le_of_ble_eq_true rfl)⟩) hS hA hK hP hD [0, 1] rfl [0, 1, 2, 3, 4, 5, 6, 7, 8, 9, 10, 11, 12] [] [0, 1, 2, 3, 4, 5, 6, 7, 8, 9, 10, 11, 12] rfl (by decide) rfl (by decide) (by decide) rfl (by decide) 0 2 rfl rfl rfl rfl hl.1 rfl (Nat.le_of_ble_eq_true rfl) dX2_bill_2 ⟨(Nat.le_of_ble_eq_true rfl), (Nat.le_of_ble_eq_true rfl)⟩ (fun H locs _ hP hD hS => ?_)
  refine lv_if_eq (tgt := 17) hx hb dX2_bill_5 (by decide) (fun c1 => ?_) (fun c1 => ?_)
  · refine lv_lconst (v := 0) hx hb dX2_bill_17 (by decide) ?_
    exact ge_l hx hb hr hlocks hK hP hD hS trivial (Nat.le_of_ble_eq_true rfl) (Nat.le_of_ble_eq_true rfl) dX2_bill_18
  · exact absurd rfl c1
theorem inX2_makeUpLeft_X2 : ∀ q ∈ wsX20, q ∈ wsX2_makeUpLeft := by decide +kernel
theorem hX2_makeUpLeft__fieldLink_RX2_49_MakeupGasModel_makeUpLeft_I_ : Cond.fieldLink RX2 49 "MakeupGasModel" "makeUpLeft" "[I" ∈ wsX2_makeUpLeft := by decide +kernel
set_option maxHeartbeats 4000000 in
set_option maxRecDepth 100000 in
theorem c_X2_makeUpLeft (l : Launch) (D : va_G) (sz : Nat) (bd : Nat → Nat) (cI cL : ClassId) (th qy lp sp : Int32) (mK uK : Nat) (pr ex dy tk : Nat → Int32) (bi : Nat → Int64) (c : Nat) (sh sr mk su mu co : Nat → Int32) (du : Nat → Int64) (mS : Int32) (j : Nat) (hj : j < c) (hc : c ≤ 20) (hmK : mK < 20) (huK : uK < 20) : gCi l yX2_makeUpLeft wsX2_makeUpLeft ({ frames := 4, cells := 0, slots := 0, locals := 92 } : Room) D [(cI, .int), (cL, .long)] [.ref (bd 0), .int (nI j)] (wM bd cI cL th qy lp sp (nI mK) (nI uK) pr ex dy tk bi (nI c) sh sr mk su mu co du mS) (wM bd cI cL 0 qy lp sp (nI mK) (nI uK) pr ex dy tk bi (nI c) (nSh (rtC qy lp sp pr ex tk mK uK (rt0 mk su sh mu co sr du) c)) (nSr (rtC qy lp sp pr ex tk mK uK (rt0 mk su sh mu co sr du) c)) (nMk (rtC qy lp sp pr ex tk mK uK (rt0 mk su sh mu co sr du) c)) (nSu (rtC qy lp sp pr ex tk mK uK (rt0 mk su sh mu co sr du) c)) (nMu (rtC qy lp sp pr ex tk mK uK (rt0 mk su sh mu co sr du) c)) (nCo (rtC qy lp sp pr ex tk mK uK (rt0 mk su sh mu co sr du) c)) (nDu (rtC qy lp sp pr ex tk mK uK (rt0 mk su sh mu co sr du) c)) (nMS (rtC qy lp sp pr ex tk mK uK (rt0 mk su sh mu co sr du) c))) (nMk (rtC qy lp sp pr ex tk mK uK (rt0 mk su sh mu co sr du) c) j) True 0 0 sz := by
  refine gm_i (cc := cX2_makeUpLeft) (maxL := 2) (by decide) rfl (Nat.le_of_ble_eq_true rfl) ?_
  intro pg en s m args below meth cd A ls hx hb hr hml hown hts hlocks hin hA hK hP hD hl
  have hl : lv_has ls 2 [(0, .ref (bd 0)), (1, .int (nI j))] := hl
  have hS : va_S A s.heap s.heap [] := va_S.rf
  refine lv_aload_n hx hb dX2_makeUpLeft_0 rfl (lv_at hl 0 rfl) ?_
  refine lv_iload_n hx hb dX2_makeUpLeft_1 rfl (lv_at hl 1 rfl) ?_
  refine gV_i (wc := (wM bd cI cL th qy lp sp (nI mK) (nI uK) pr ex dy tk bi (nI c) sh sr mk su mu co du mS)) (wr := []) (w1 := (wM bd cI cL 0 qy lp sp (nI mK) (nI uK) pr ex dy tk bi (nI c) (nSh (rtC qy lp sp pr ex tk mK uK (rt0 mk su sh mu co sr du) c)) (nSr (rtC qy lp sp pr ex tk mK uK (rt0 mk su sh mu co sr du) c)) (nMk (rtC qy lp sp pr ex tk mK uK (rt0 mk su sh mu co sr du) c)) (nSu (rtC qy lp sp pr ex tk mK uK (rt0 mk su sh mu co sr du) c)) (nMu (rtC qy lp sp pr ex tk mK uK (rt0 mk su sh mu co sr du) c)) (nCo (rtC qy lp sp pr ex tk mK uK (rt0 mk su sh mu co sr du) c)) (nDu (rtC qy lp sp pr ex tk mK uK (rt0 mk su sh mu co sr du) c)) (nMS (rtC qy lp sp pr ex tk mK uK (rt0 mk su sh mu co sr du) c)))) (W' := (wM bd cI cL 0 qy lp sp (nI mK) (nI uK) pr ex dy tk bi (nI c) (nSh (rtC qy lp sp pr ex tk mK uK (rt0 mk su sh mu co sr du) c)) (nSr (rtC qy lp sp pr ex tk mK uK (rt0 mk su sh mu co sr du) c)) (nMk (rtC qy lp sp pr ex tk mK uK (rt0 mk su sh mu co sr du) c)) (nSu (rtC qy lp sp pr ex tk mK uK (rt0 mk su sh mu co sr du) c)) (nMu (rtC qy lp sp pr ex tk mK uK (rt0 mk su sh mu co sr du) c)) (nCo (rtC qy lp sp pr ex tk mK uK (rt0 mk su sh mu co sr du) c)) (nDu (rtC qy lp sp pr ex tk mK uK (rt0 mk su sh mu co sr du) c)) (nMS (rtC qy lp sp pr ex tk mK uK (rt0 mk su sh mu co sr du) c)))) (As := [.int (nI j)]) (rest := []) ⟨hx, hb, hml, hown, hts⟩ (c_X2_isClosed l D s.heap.size bd cI cL th qy lp sp mK uK pr ex dy tk bi c sh sr mk su mu co du mS j hj hc hmK huK) (cwV 1 hts gX2_makeUpLeft_X2_isClosed rfl rfl rfl (by decide +kernel) ⟨(Nat.le_of_ble_eq_true rfl), (Nat.le_of_ble_eq_true rfl)⟩) hS hA hK hP hD [0, 1] rfl [0, 1, 2, 3, 4, 5, 6, 7, 8, 9, 10, 11, 12] [] [0, 1, 2, 3, 4, 5, 6, 7, 8, 9, 10, 11, 12] rfl (by decide) rfl (by decide) (by decide) rfl (by decide) 0 2 rfl rfl rfl rfl hl.1 rfl (Nat.le_of_ble_eq_true rfl) dX2_makeUpLeft_2 ⟨(Nat.le_of_ble_eq_true rfl), (Nat.le_of_ble_eq_true rfl)⟩ (fun H locs _ hP hD hS => ?_)
  refine lv_if_eq (tgt := 17) hx hb dX2_makeUpLeft_5 (by decide) (fun c1 => ?_) (fun c1 => ?_)
  · exact absurd c1 (by decide)
  · refine lv_aload_n hx hb dX2_makeUpLeft_8 rfl (lv_at hl 0 rfl) ?_
    refine va_get (D := D) (ci := 2) (C := RX2) (T := TX2) (N := 20) hx hb hts inX2_makeUpLeft_X2 hown hK hP 0 rfl rfl 14 (by decide) (hts _ hX2_makeUpLeft__fieldLink_RX2_49_MakeupGasModel_makeUpLeft_I_) (fun _ h9 => h9) rfl dX2_makeUpLeft_9 ?_
    refine lv_iload_n hx hb dX2_makeUpLeft_12 rfl (lv_at hl 1 rfl) ?_
    refine ga_iald (j := j) hx hb hK hP 8 0 rfl rfl (show j < 20 by omega) (by decide) dX2_makeUpLeft_13 ?_
    refine lv_goto (tgt := 18) hx hb dX2_makeUpLeft_14 (by decide) ?_
    exact ge_i hx hb hr hlocks rfl hK hP hD hS trivial (Nat.le_of_ble_eq_true rfl) (Nat.le_of_ble_eq_true rfl) dX2_makeUpLeft_18
set_option maxHeartbeats 4000000 in
set_option maxRecDepth 100000 in
theorem c_X2_makeUpLeft_1 (l : Launch) (D : va_G) (sz : Nat) (bd : Nat → Nat) (cI cL : ClassId) (th qy lp sp : Int32) (mK uK : Nat) (pr ex dy tk : Nat → Int32) (bi : Nat → Int64) (c : Nat) (sh sr mk su mu co : Nat → Int32) (du : Nat → Int64) (mS : Int32) (v : Int32) (hbad : ¬ inR v 0 19) : gCi l yX2_makeUpLeft wsX2_makeUpLeft ({ frames := 4, cells := 0, slots := 0, locals := 92 } : Room) D [(cI, .int), (cL, .long)] [.ref (bd 0), .int v] (wM bd cI cL th qy lp sp (nI mK) (nI uK) pr ex dy tk bi (nI c) sh sr mk su mu co du mS) (wM bd cI cL 1 qy lp sp (nI mK) (nI uK) pr ex dy tk bi (nI c) sh sr mk su mu co du mS) 0 True 0 0 sz := by
  refine gm_i (cc := cX2_makeUpLeft) (maxL := 2) (by decide) rfl (Nat.le_of_ble_eq_true rfl) ?_
  intro pg en s m args below meth cd A ls hx hb hr hml hown hts hlocks hin hA hK hP hD hl
  have hl : lv_has ls 2 [(0, .ref (bd 0)), (1, .int v)] := hl
  have hS : va_S A s.heap s.heap [] := va_S.rf
  refine lv_aload_n hx hb dX2_makeUpLeft_0 rfl (lv_at hl 0 rfl) ?_
  refine lv_iload_n hx hb dX2_makeUpLeft_1 rfl (lv_at hl 1 rfl) ?_
  refine gV_i (wc := (wM bd cI cL th qy lp sp (nI mK) (nI uK) pr ex dy tk bi (nI c) sh sr mk su mu co du mS)) (wr := []) (w1 := (wM bd cI cL 1 qy lp sp (nI mK) (nI uK) pr ex dy tk bi (nI c) sh sr mk su mu co du mS)) (W' := (wM bd cI cL 1 qy lp sp (nI mK) (nI uK) pr ex dy tk bi (nI c) sh sr mk su mu co du mS)) (As := [.int v]) (rest := []) ⟨hx, hb, hml, hown, hts⟩ (c_X2_isClosed_1 l D s.heap.size bd cI cL th qy lp sp mK uK pr ex dy tk bi c sh sr mk su mu co du mS v hbad) (cwV 1 hts gX2_makeUpLeft_X2_isClosed rfl rfl rfl (by decide +kernel) ⟨(Nat.le_of_ble_eq_true rfl), (Nat.le_of_ble_eq_true rfl)⟩) hS hA hK hP hD [0, 1] rfl [0, 1, 2, 3, 4, 5, 6, 7, 8, 9, 10, 11, 12] [] [0, 1, 2, 3, 4, 5, 6, 7, 8, 9, 10, 11, 12] rfl (by decide) rfl (by decide) (by decide) rfl (by decide) 0 2 rfl rfl rfl rfl hl.1 rfl (Nat.le_of_ble_eq_true rfl) dX2_makeUpLeft_2 ⟨(Nat.le_of_ble_eq_true rfl), (Nat.le_of_ble_eq_true rfl)⟩ (fun H locs _ hP hD hS => ?_)
  refine lv_if_eq (tgt := 17) hx hb dX2_makeUpLeft_5 (by decide) (fun c1 => ?_) (fun c1 => ?_)
  · refine lv_iconst (v := 0) hx hb dX2_makeUpLeft_17 (by decide) ?_
    exact ge_i hx hb hr hlocks rfl hK hP hD hS trivial (Nat.le_of_ble_eq_true rfl) (Nat.le_of_ble_eq_true rfl) dX2_makeUpLeft_18
  · exact absurd rfl c1
set_option maxHeartbeats 4000000 in
set_option maxRecDepth 100000 in
theorem c_X2_makeUpLeft_2 (l : Launch) (D : va_G) (sz : Nat) (bd : Nat → Nat) (cI cL : ClassId) (th qy lp sp : Int32) (mK uK : Nat) (pr ex dy tk : Nat → Int32) (bi : Nat → Int64) (c : Nat) (sh sr mk su mu co : Nat → Int32) (du : Nat → Int64) (mS : Int32) (j : Nat) (hj : j < 20) (hbad : ¬ j < c) (hc : c ≤ 20) : gCi l yX2_makeUpLeft wsX2_makeUpLeft ({ frames := 4, cells := 0, slots := 0, locals := 92 } : Room) D [(cI, .int), (cL, .long)] [.ref (bd 0), .int (nI j)] (wM bd cI cL th qy lp sp (nI mK) (nI uK) pr ex dy tk bi (nI c) sh sr mk su mu co du mS) (wM bd cI cL 2 qy lp sp (nI mK) (nI uK) pr ex dy tk bi (nI c) sh sr mk su mu co du mS) 0 True 0 0 sz := by
  refine gm_i (cc := cX2_makeUpLeft) (maxL := 2) (by decide) rfl (Nat.le_of_ble_eq_true rfl) ?_
  intro pg en s m args below meth cd A ls hx hb hr hml hown hts hlocks hin hA hK hP hD hl
  have hl : lv_has ls 2 [(0, .ref (bd 0)), (1, .int (nI j))] := hl
  have hS : va_S A s.heap s.heap [] := va_S.rf
  refine lv_aload_n hx hb dX2_makeUpLeft_0 rfl (lv_at hl 0 rfl) ?_
  refine lv_iload_n hx hb dX2_makeUpLeft_1 rfl (lv_at hl 1 rfl) ?_
  refine gV_i (wc := (wM bd cI cL th qy lp sp (nI mK) (nI uK) pr ex dy tk bi (nI c) sh sr mk su mu co du mS)) (wr := []) (w1 := (wM bd cI cL 2 qy lp sp (nI mK) (nI uK) pr ex dy tk bi (nI c) sh sr mk su mu co du mS)) (W' := (wM bd cI cL 2 qy lp sp (nI mK) (nI uK) pr ex dy tk bi (nI c) sh sr mk su mu co du mS)) (As := [.int (nI j)]) (rest := []) ⟨hx, hb, hml, hown, hts⟩ (c_X2_isClosed_2 l D s.heap.size bd cI cL th qy lp sp mK uK pr ex dy tk bi c sh sr mk su mu co du mS j hj hbad hc) (cwV 1 hts gX2_makeUpLeft_X2_isClosed rfl rfl rfl (by decide +kernel) ⟨(Nat.le_of_ble_eq_true rfl), (Nat.le_of_ble_eq_true rfl)⟩) hS hA hK hP hD [0, 1] rfl [0, 1, 2, 3, 4, 5, 6, 7, 8, 9, 10, 11, 12] [] [0, 1, 2, 3, 4, 5, 6, 7, 8, 9, 10, 11, 12] rfl (by decide) rfl (by decide) (by decide) rfl (by decide) 0 2 rfl rfl rfl rfl hl.1 rfl (Nat.le_of_ble_eq_true rfl) dX2_makeUpLeft_2 ⟨(Nat.le_of_ble_eq_true rfl), (Nat.le_of_ble_eq_true rfl)⟩ (fun H locs _ hP hD hS => ?_)
  refine lv_if_eq (tgt := 17) hx hb dX2_makeUpLeft_5 (by decide) (fun c1 => ?_) (fun c1 => ?_)
  · refine lv_iconst (v := 0) hx hb dX2_makeUpLeft_17 (by decide) ?_
    exact ge_i hx hb hr hlocks rfl hK hP hD hS trivial (Nat.le_of_ble_eq_true rfl) (Nat.le_of_ble_eq_true rfl) dX2_makeUpLeft_18
  · exact absurd rfl c1
theorem inX2_surplusLeft_X2 : ∀ q ∈ wsX20, q ∈ wsX2_surplusLeft := by decide +kernel
theorem hX2_surplusLeft__fieldLink_RX2_52_MakeupGasModel_surplusLeft_I_ : Cond.fieldLink RX2 52 "MakeupGasModel" "surplusLeft" "[I" ∈ wsX2_surplusLeft := by decide +kernel
set_option maxHeartbeats 4000000 in
set_option maxRecDepth 100000 in
theorem c_X2_surplusLeft (l : Launch) (D : va_G) (sz : Nat) (bd : Nat → Nat) (cI cL : ClassId) (th qy lp sp : Int32) (mK uK : Nat) (pr ex dy tk : Nat → Int32) (bi : Nat → Int64) (c : Nat) (sh sr mk su mu co : Nat → Int32) (du : Nat → Int64) (mS : Int32) (j : Nat) (hj : j < c) (hc : c ≤ 20) (hmK : mK < 20) (huK : uK < 20) : gCi l yX2_surplusLeft wsX2_surplusLeft ({ frames := 4, cells := 0, slots := 0, locals := 92 } : Room) D [(cI, .int), (cL, .long)] [.ref (bd 0), .int (nI j)] (wM bd cI cL th qy lp sp (nI mK) (nI uK) pr ex dy tk bi (nI c) sh sr mk su mu co du mS) (wM bd cI cL 0 qy lp sp (nI mK) (nI uK) pr ex dy tk bi (nI c) (nSh (rtC qy lp sp pr ex tk mK uK (rt0 mk su sh mu co sr du) c)) (nSr (rtC qy lp sp pr ex tk mK uK (rt0 mk su sh mu co sr du) c)) (nMk (rtC qy lp sp pr ex tk mK uK (rt0 mk su sh mu co sr du) c)) (nSu (rtC qy lp sp pr ex tk mK uK (rt0 mk su sh mu co sr du) c)) (nMu (rtC qy lp sp pr ex tk mK uK (rt0 mk su sh mu co sr du) c)) (nCo (rtC qy lp sp pr ex tk mK uK (rt0 mk su sh mu co sr du) c)) (nDu (rtC qy lp sp pr ex tk mK uK (rt0 mk su sh mu co sr du) c)) (nMS (rtC qy lp sp pr ex tk mK uK (rt0 mk su sh mu co sr du) c))) (nSu (rtC qy lp sp pr ex tk mK uK (rt0 mk su sh mu co sr du) c) j) True 0 0 sz := by
  refine gm_i (cc := cX2_surplusLeft) (maxL := 2) (by decide) rfl (Nat.le_of_ble_eq_true rfl) ?_
  intro pg en s m args below meth cd A ls hx hb hr hml hown hts hlocks hin hA hK hP hD hl
  have hl : lv_has ls 2 [(0, .ref (bd 0)), (1, .int (nI j))] := hl
  have hS : va_S A s.heap s.heap [] := va_S.rf
  refine lv_aload_n hx hb dX2_surplusLeft_0 rfl (lv_at hl 0 rfl) ?_
  refine lv_iload_n hx hb dX2_surplusLeft_1 rfl (lv_at hl 1 rfl) ?_
  refine gV_i (wc := (wM bd cI cL th qy lp sp (nI mK) (nI uK) pr ex dy tk bi (nI c) sh sr mk su mu co du mS)) (wr := []) (w1 := (wM bd cI cL 0 qy lp sp (nI mK) (nI uK) pr ex dy tk bi (nI c) (nSh (rtC qy lp sp pr ex tk mK uK (rt0 mk su sh mu co sr du) c)) (nSr (rtC qy lp sp pr ex tk mK uK (rt0 mk su sh mu co sr du) c)) (nMk (rtC qy lp sp pr ex tk mK uK (rt0 mk su sh mu co sr du) c)) (nSu (rtC qy lp sp pr ex tk mK uK (rt0 mk su sh mu co sr du) c)) (nMu (rtC qy lp sp pr ex tk mK uK (rt0 mk su sh mu co sr du) c)) (nCo (rtC qy lp sp pr ex tk mK uK (rt0 mk su sh mu co sr du) c)) (nDu (rtC qy lp sp pr ex tk mK uK (rt0 mk su sh mu co sr du) c)) (nMS (rtC qy lp sp pr ex tk mK uK (rt0 mk su sh mu co sr du) c)))) (W' := (wM bd cI cL 0 qy lp sp (nI mK) (nI uK) pr ex dy tk bi (nI c) (nSh (rtC qy lp sp pr ex tk mK uK (rt0 mk su sh mu co sr du) c)) (nSr (rtC qy lp sp pr ex tk mK uK (rt0 mk su sh mu co sr du) c)) (nMk (rtC qy lp sp pr ex tk mK uK (rt0 mk su sh mu co sr du) c)) (nSu (rtC qy lp sp pr ex tk mK uK (rt0 mk su sh mu co sr du) c)) (nMu (rtC qy lp sp pr ex tk mK uK (rt0 mk su sh mu co sr du) c)) (nCo (rtC qy lp sp pr ex tk mK uK (rt0 mk su sh mu co sr du) c)) (nDu (rtC qy lp sp pr ex tk mK uK (rt0 mk su sh mu co sr du) c)) (nMS (rtC qy lp sp pr ex tk mK uK (rt0 mk su sh mu co sr du) c)))) (As := [.int (nI j)]) (rest := []) ⟨hx, hb, hml, hown, hts⟩ (c_X2_isClosed l D s.heap.size bd cI cL th qy lp sp mK uK pr ex dy tk bi c sh sr mk su mu co du mS j hj hc hmK huK) (cwV 1 hts gX2_surplusLeft_X2_isClosed rfl rfl rfl (by decide +kernel) ⟨(Nat.le_of_ble_eq_true rfl), (Nat.le_of_ble_eq_true rfl)⟩) hS hA hK hP hD [0, 1] rfl [0, 1, 2, 3, 4, 5, 6, 7, 8, 9, 10, 11, 12] [] [0, 1, 2, 3, 4, 5, 6, 7, 8, 9, 10, 11, 12] rfl (by decide) rfl (by decide) (by decide) rfl (by decide) 0 2 rfl rfl rfl rfl hl.1 rfl (Nat.le_of_ble_eq_true rfl) dX2_surplusLeft_2 ⟨(Nat.le_of_ble_eq_true rfl), (Nat.le_of_ble_eq_true rfl)⟩ (fun H locs _ hP hD hS => ?_)
  refine lv_if_eq (tgt := 17) hx hb dX2_surplusLeft_5 (by decide) (fun c1 => ?_) (fun c1 => ?_)
  · exact absurd c1 (by decide)
  · refine lv_aload_n hx hb dX2_surplusLeft_8 rfl (lv_at hl 0 rfl) ?_
    refine va_get (D := D) (ci := 2) (C := RX2) (T := TX2) (N := 20) hx hb hts inX2_surplusLeft_X2 hown hK hP 0 rfl rfl 15 (by decide) (hts _ hX2_surplusLeft__fieldLink_RX2_52_MakeupGasModel_surplusLeft_I_) (fun _ h9 => h9) rfl dX2_surplusLeft_9 ?_
    refine lv_iload_n hx hb dX2_surplusLeft_12 rfl (lv_at hl 1 rfl) ?_
    refine ga_iald (j := j) hx hb hK hP 9 0 rfl rfl (show j < 20 by omega) (by decide) dX2_surplusLeft_13 ?_
    refine lv_goto (tgt := 18) hx hb dX2_surplusLeft_14 (by decide) ?_
    exact ge_i hx hb hr hlocks rfl hK hP hD hS trivial (Nat.le_of_ble_eq_true rfl) (Nat.le_of_ble_eq_true rfl) dX2_surplusLeft_18
set_option maxHeartbeats 4000000 in
set_option maxRecDepth 100000 in
theorem c_X2_surplusLeft_1 (l : Launch) (D : va_G) (sz : Nat) (bd : Nat → Nat) (cI cL : ClassId) (th qy lp sp : Int32) (mK uK : Nat) (pr ex dy tk : Nat → Int32) (bi : Nat → Int64) (c : Nat) (sh sr mk su mu co : Nat → Int32) (du : Nat → Int64) (mS : Int32) (v : Int32) (hbad : ¬ inR v 0 19) : gCi l yX2_surplusLeft wsX2_surplusLeft ({ frames := 4, cells := 0, slots := 0, locals := 92 } : Room) D [(cI, .int), (cL, .long)] [.ref (bd 0), .int v] (wM bd cI cL th qy lp sp (nI mK) (nI uK) pr ex dy tk bi (nI c) sh sr mk su mu co du mS) (wM bd cI cL 1 qy lp sp (nI mK) (nI uK) pr ex dy tk bi (nI c) sh sr mk su mu co du mS) 0 True 0 0 sz := by
  refine gm_i (cc := cX2_surplusLeft) (maxL := 2) (by decide) rfl (Nat.le_of_ble_eq_true rfl) ?_
  intro pg en s m args below meth cd A ls hx hb hr hml hown hts hlocks hin hA hK hP hD hl
  have hl : lv_has ls 2 [(0, .ref (bd 0)), (1, .int v)] := hl
  have hS : va_S A s.heap s.heap [] := va_S.rf
  refine lv_aload_n hx hb dX2_surplusLeft_0 rfl (lv_at hl 0 rfl) ?_
  refine lv_iload_n hx hb dX2_surplusLeft_1 rfl (lv_at hl 1 rfl) ?_
  refine gV_i (wc := (wM bd cI cL th qy lp sp (nI mK) (nI uK) pr ex dy tk bi (nI c) sh sr mk su mu co du mS)) (wr := []) (w1 := (wM bd cI cL 1 qy lp sp (nI mK) (nI uK) pr ex dy tk bi (nI c) sh sr mk su mu co du mS)) (W' := (wM bd cI cL 1 qy lp sp (nI mK) (nI uK) pr ex dy tk bi (nI c) sh sr mk su mu co du mS)) (As := [.int v]) (rest := []) ⟨hx, hb, hml, hown, hts⟩ (c_X2_isClosed_1 l D s.heap.size bd cI cL th qy lp sp mK uK pr ex dy tk bi c sh sr mk su mu co du mS v hbad) (cwV 1 hts gX2_surplusLeft_X2_isClosed rfl rfl rfl (by decide +kernel) ⟨(Nat.le_of_ble_eq_true rfl), (Nat.le_of_ble_eq_true rfl)⟩) hS hA hK hP hD [0, 1] rfl [0, 1, 2, 3, 4, 5, 6, 7, 8, 9, 10, 11, 12] [] [0, 1, 2, 3, 4, 5, 6, 7, 8, 9, 10, 11, 12] rfl (by decide) rfl (by decide) (by decide) rfl (by decide) 0 2 rfl rfl rfl rfl hl.1 rfl (Nat.le_of_ble_eq_true rfl) dX2_surplusLeft_2 ⟨(Nat.le_of_ble_eq_true rfl), (Nat.le_of_ble_eq_true rfl)⟩ (fun H locs _ hP hD hS => ?_)
  refine lv_if_eq (tgt := 17) hx hb dX2_surplusLeft_5 (by decide) (fun c1 => ?_) (fun c1 => ?_)
  · refine lv_iconst (v := 0) hx hb dX2_surplusLeft_17 (by decide) ?_
    exact ge_i hx hb hr hlocks rfl hK hP hD hS trivial (Nat.le_of_ble_eq_true rfl) (Nat.le_of_ble_eq_true rfl) dX2_surplusLeft_18
  · exact absurd rfl c1
set_option maxHeartbeats 4000000 in
set_option maxRecDepth 100000 in
theorem c_X2_surplusLeft_2 (l : Launch) (D : va_G) (sz : Nat) (bd : Nat → Nat) (cI cL : ClassId) (th qy lp sp : Int32) (mK uK : Nat) (pr ex dy tk : Nat → Int32) (bi : Nat → Int64) (c : Nat) (sh sr mk su mu co : Nat → Int32) (du : Nat → Int64) (mS : Int32) (j : Nat) (hj : j < 20) (hbad : ¬ j < c) (hc : c ≤ 20) : gCi l yX2_surplusLeft wsX2_surplusLeft ({ frames := 4, cells := 0, slots := 0, locals := 92 } : Room) D [(cI, .int), (cL, .long)] [.ref (bd 0), .int (nI j)] (wM bd cI cL th qy lp sp (nI mK) (nI uK) pr ex dy tk bi (nI c) sh sr mk su mu co du mS) (wM bd cI cL 2 qy lp sp (nI mK) (nI uK) pr ex dy tk bi (nI c) sh sr mk su mu co du mS) 0 True 0 0 sz := by
  refine gm_i (cc := cX2_surplusLeft) (maxL := 2) (by decide) rfl (Nat.le_of_ble_eq_true rfl) ?_
  intro pg en s m args below meth cd A ls hx hb hr hml hown hts hlocks hin hA hK hP hD hl
  have hl : lv_has ls 2 [(0, .ref (bd 0)), (1, .int (nI j))] := hl
  have hS : va_S A s.heap s.heap [] := va_S.rf
  refine lv_aload_n hx hb dX2_surplusLeft_0 rfl (lv_at hl 0 rfl) ?_
  refine lv_iload_n hx hb dX2_surplusLeft_1 rfl (lv_at hl 1 rfl) ?_
  refine gV_i (wc := (wM bd cI cL th qy lp sp (nI mK) (nI uK) pr ex dy tk bi (nI c) sh sr mk su mu co du mS)) (wr := []) (w1 := (wM bd cI cL 2 qy lp sp (nI mK) (nI uK) pr ex dy tk bi (nI c) sh sr mk su mu co du mS)) (W' := (wM bd cI cL 2 qy lp sp (nI mK) (nI uK) pr ex dy tk bi (nI c) sh sr mk su mu co du mS)) (As := [.int (nI j)]) (rest := []) ⟨hx, hb, hml, hown, hts⟩ (c_X2_isClosed_2 l D s.heap.size bd cI cL th qy lp sp mK uK pr ex dy tk bi c sh sr mk su mu co du mS j hj hbad hc) (cwV 1 hts gX2_surplusLeft_X2_isClosed rfl rfl rfl (by decide +kernel) ⟨(Nat.le_of_ble_eq_true rfl), (Nat.le_of_ble_eq_true rfl)⟩) hS hA hK hP hD [0, 1] rfl [0, 1, 2, 3, 4, 5, 6, 7, 8, 9, 10, 11, 12] [] [0, 1, 2, 3, 4, 5, 6, 7, 8, 9, 10, 11, 12] rfl (by decide) rfl (by decide) (by decide) rfl (by decide) 0 2 rfl rfl rfl rfl hl.1 rfl (Nat.le_of_ble_eq_true rfl) dX2_surplusLeft_2 ⟨(Nat.le_of_ble_eq_true rfl), (Nat.le_of_ble_eq_true rfl)⟩ (fun H locs _ hP hD hS => ?_)
  refine lv_if_eq (tgt := 17) hx hb dX2_surplusLeft_5 (by decide) (fun c1 => ?_) (fun c1 => ?_)
  · refine lv_iconst (v := 0) hx hb dX2_surplusLeft_17 (by decide) ?_
    exact ge_i hx hb hr hlocks rfl hK hP hD hS trivial (Nat.le_of_ble_eq_true rfl) (Nat.le_of_ble_eq_true rfl) dX2_surplusLeft_18
  · exact absurd rfl c1
theorem inX2_lapsed_X2 : ∀ q ∈ wsX20, q ∈ wsX2_lapsed := by decide +kernel
theorem hX2_lapsed__fieldLink_RX2_64_MakeupGasModel_thrown_I_ : Cond.fieldLink RX2 64 "MakeupGasModel" "thrown" "I" ∈ wsX2_lapsed := by decide +kernel
theorem hX2_lapsed__fieldLink_RX2_73_MakeupGasModel_lapsed_I_ : Cond.fieldLink RX2 73 "MakeupGasModel" "lapsed" "I" ∈ wsX2_lapsed := by decide +kernel
set_option maxHeartbeats 4000000 in
set_option maxRecDepth 100000 in
theorem c_X2_lapsed (l : Launch) (D : va_G) (sz : Nat) (bd : Nat → Nat) (cI cL : ClassId) (th qy lp sp : Int32) (mK uK : Nat) (pr ex dy tk : Nat → Int32) (bi : Nat → Int64) (c : Nat) (sh sr mk su mu co : Nat → Int32) (du : Nat → Int64) (mS : Int32) (hc : c ≤ 20) (hmK : mK < 20) (huK : uK < 20) : gCi l yX2_lapsed wsX2_lapsed ({ frames := 3, cells := 0, slots := 0, locals := 71 } : Room) D [(cI, .int), (cL, .long)] [.ref (bd 0)] (wM bd cI cL th qy lp sp (nI mK) (nI uK) pr ex dy tk bi (nI c) sh sr mk su mu co du mS) (wM bd cI cL 0 qy lp sp (nI mK) (nI uK) pr ex dy tk bi (nI c) (nSh (rtC qy lp sp pr ex tk mK uK (rt0 mk su sh mu co sr du) c)) (nSr (rtC qy lp sp pr ex tk mK uK (rt0 mk su sh mu co sr du) c)) (nMk (rtC qy lp sp pr ex tk mK uK (rt0 mk su sh mu co sr du) c)) (nSu (rtC qy lp sp pr ex tk mK uK (rt0 mk su sh mu co sr du) c)) (nMu (rtC qy lp sp pr ex tk mK uK (rt0 mk su sh mu co sr du) c)) (nCo (rtC qy lp sp pr ex tk mK uK (rt0 mk su sh mu co sr du) c)) (nDu (rtC qy lp sp pr ex tk mK uK (rt0 mk su sh mu co sr du) c)) (nMS (rtC qy lp sp pr ex tk mK uK (rt0 mk su sh mu co sr du) c))) (nMS (rtC qy lp sp pr ex tk mK uK (rt0 mk su sh mu co sr du) c)) True 0 0 sz := by
  refine gm_i (cc := cX2_lapsed) (maxL := 1) (by decide) rfl (Nat.le_of_ble_eq_true rfl) ?_
  intro pg en s m args below meth cd A ls hx hb hr hml hown hts hlocks hin hA hK hP hD hl
  have hl : lv_has ls 1 [(0, .ref (bd 0))] := hl
  have hS : va_S A s.heap s.heap [] := va_S.rf
  refine lv_aload_n hx hb dX2_lapsed_0 rfl (lv_at hl 0 rfl) ?_
  refine lv_iconst (v := 0) hx hb dX2_lapsed_1 (by decide) ?_
  refine va_put (D := D) (ci := 2) (v := .int 0) (ty := .int) (C := RX2) (T := TX2) (N := 20) hx hb hts inX2_lapsed_X2 tyX2 tyX2_ok nmX2 hown hK hP hD hS 0 rfl rfl 0 (by decide) (hts _ hX2_lapsed__fieldLink_RX2_64_MakeupGasModel_thrown_I_) (fun _ h9 => h9) (by decide +kernel) (by decide +kernel) rfl rfl (Nat.le_of_ble_eq_true rfl) dX2_lapsed_2 (fun H locs hP hD hS => ?_)
  have hP : va_P D vwCl (wM bd cI cL 0 qy lp sp (nI mK) (nI uK) pr ex dy tk bi (nI c) sh sr mk su mu co du mS) H := hP
  have hD : va_D A (wM bd cI cL 0 qy lp sp (nI mK) (nI uK) pr ex dy tk bi (nI c) sh sr mk su mu co du mS) := hD
  refine lv_aload_n hx hb dX2_lapsed_5 rfl (lv_at hl 0 rfl) ?_
  refine gV_v (wc := (wM bd cI cL 0 qy lp sp (nI mK) (nI uK) pr ex dy tk bi (nI c) sh sr mk su mu co du mS)) (wr := []) (w1 := (wM bd cI cL 0 qy lp sp (nI mK) (nI uK) pr ex dy tk bi (nI c) (nSh (rtC qy lp sp pr ex tk mK uK (rt0 mk su sh mu co sr du) c)) (nSr (rtC qy lp sp pr ex tk mK uK (rt0 mk su sh mu co sr du) c)) (nMk (rtC qy lp sp pr ex tk mK uK (rt0 mk su sh mu co sr du) c)) (nSu (rtC qy lp sp pr ex tk mK uK (rt0 mk su sh mu co sr du) c)) (nMu (rtC qy lp sp pr ex tk mK uK (rt0 mk su sh mu co sr du) c)) (nCo (rtC qy lp sp pr ex tk mK uK (rt0 mk su sh mu co sr du) c)) (nDu (rtC qy lp sp pr ex tk mK uK (rt0 mk su sh mu co sr du) c)) (nMS (rtC qy lp sp pr ex tk mK uK (rt0 mk su sh mu co sr du) c)))) (W' := (wM bd cI cL 0 qy lp sp (nI mK) (nI uK) pr ex dy tk bi (nI c) (nSh (rtC qy lp sp pr ex tk mK uK (rt0 mk su sh mu co sr du) c)) (nSr (rtC qy lp sp pr ex tk mK uK (rt0 mk su sh mu co sr du) c)) (nMk (rtC qy lp sp pr ex tk mK uK (rt0 mk su sh mu co sr du) c)) (nSu (rtC qy lp sp pr ex tk mK uK (rt0 mk su sh mu co sr du) c)) (nMu (rtC qy lp sp pr ex tk mK uK (rt0 mk su sh mu co sr du) c)) (nCo (rtC qy lp sp pr ex tk mK uK (rt0 mk su sh mu co sr du) c)) (nDu (rtC qy lp sp pr ex tk mK uK (rt0 mk su sh mu co sr du) c)) (nMS (rtC qy lp sp pr ex tk mK uK (rt0 mk su sh mu co sr du) c)))) (As := []) (rest := []) ⟨hx, hb, hml, hown, hts⟩ (c_X2_goesThrough l D H.size bd cI cL 0 qy lp sp mK uK pr ex dy tk bi c sh sr mk su mu co du mS  hc hmK huK) (cwV 0 hts gX2_lapsed_X2_goesThrough rfl rfl rfl (by decide +kernel) ⟨(Nat.le_of_ble_eq_true rfl), (Nat.le_of_ble_eq_true rfl)⟩) hS hA hK hP hD [0, 1] rfl [0, 1, 2, 3, 4, 5, 6, 7, 8, 9, 10, 11, 12] [] [0, 1, 2, 3, 4, 5, 6, 7, 8, 9, 10, 11, 12] rfl (by decide) rfl (by decide) (by decide) rfl (by decide) 0 2 rfl rfl rfl rfl hl.1 rfl (Nat.le_of_ble_eq_true rfl) dX2_lapsed_6 ⟨(Nat.le_of_ble_eq_true rfl), (Nat.le_of_ble_eq_true rfl)⟩ (fun H locs _ hP hD hS => ?_)
  refine lv_aload_n hx hb dX2_lapsed_9 rfl (lv_at hl 0 rfl) ?_
  refine va_get (D := D) (ci := 2) (C := RX2) (T := TX2) (N := 20) hx hb hts inX2_lapsed_X2 hown hK hP 0 rfl rfl 19 (by decide) (hts _ hX2_lapsed__fieldLink_RX2_73_MakeupGasModel_lapsed_I_) (fun _ h9 => h9) rfl dX2_lapsed_10 ?_
  exact ge_i hx hb hr hlocks rfl hK hP hD hS trivial (Nat.le_of_ble_eq_true rfl) (Nat.le_of_ble_eq_true rfl) dX2_lapsed_13
theorem inX2_open_X2 : ∀ q ∈ wsX20, q ∈ wsX2_open := by decide +kernel
theorem hX2_open__fieldLink_RX2_64_MakeupGasModel_thrown_I_ : Cond.fieldLink RX2 64 "MakeupGasModel" "thrown" "I" ∈ wsX2_open := by decide +kernel
set_option maxHeartbeats 4000000 in
set_option maxRecDepth 100000 in
theorem c_X2_open (l : Launch) (D : va_G) (sz : Nat) (bd : Nat → Nat) (cI cL : ClassId) (th qy lp sp : Int32) (mK uK : Nat) (pr ex dy tk : Nat → Int32) (bi : Nat → Int64) (c : Nat) (sh sr mk su mu co : Nat → Int32) (du : Nat → Int64) (mS : Int32) (hc : c ≤ 20) (hmK : mK < 20) (huK : uK < 20) : gCl l yX2_open wsX2_open ({ frames := 4, cells := 0, slots := 0, locals := 94 } : Room) D [(cI, .int), (cL, .long)] [.ref (bd 0)] (wM bd cI cL th qy lp sp (nI mK) (nI uK) pr ex dy tk bi (nI c) sh sr mk su mu co du mS) (wM bd cI cL 0 qy lp sp (nI mK) (nI uK) pr ex dy tk bi (nI c) (nSh (rtC qy lp sp pr ex tk mK uK (rt0 mk su sh mu co sr du) c)) (nSr (rtC qy lp sp pr ex tk mK uK (rt0 mk su sh mu co sr du) c)) (nMk (rtC qy lp sp pr ex tk mK uK (rt0 mk su sh mu co sr du) c)) (nSu (rtC qy lp sp pr ex tk mK uK (rt0 mk su sh mu co sr du) c)) (nMu (rtC qy lp sp pr ex tk mK uK (rt0 mk su sh mu co sr du) c)) (nCo (rtC qy lp sp pr ex tk mK uK (rt0 mk su sh mu co sr du) c)) (nDu (rtC qy lp sp pr ex tk mK uK (rt0 mk su sh mu co sr du) c)) (nMS (rtC qy lp sp pr ex tk mK uK (rt0 mk su sh mu co sr du) c))) (smL (fun j => nDu (rtC qy lp sp pr ex tk mK uK (rt0 mk su sh mu co sr du) c) j - bi j) c) True 0 0 sz := by
  refine gm_l (cc := cX2_open) (maxL := 1) (by decide) rfl (Nat.le_of_ble_eq_true rfl) ?_
  intro pg en s m args below meth cd A ls hx hb hr hml hown hts hlocks hin hA hK hP hD hl
  have hl : lv_has ls 1 [(0, .ref (bd 0))] := hl
  have hS : va_S A s.heap s.heap [] := va_S.rf
  refine lv_aload_n hx hb dX2_open_0 rfl (lv_at hl 0 rfl) ?_
  refine lv_iconst (v := 0) hx hb dX2_open_1 (by decide) ?_
  refine va_put (D := D) (ci := 2) (v := .int 0) (ty := .int) (C := RX2) (T := TX2) (N := 20) hx hb hts inX2_open_X2 tyX2 tyX2_ok nmX2 hown hK hP hD hS 0 rfl rfl 0 (by decide) (hts _ hX2_open__fieldLink_RX2_64_MakeupGasModel_thrown_I_) (fun _ h9 => h9) (by decide +kernel) (by decide +kernel) rfl rfl (Nat.le_of_ble_eq_true rfl) dX2_open_2 (fun H locs hP hD hS => ?_)
  have hP : va_P D vwCl (wM bd cI cL 0 qy lp sp (nI mK) (nI uK) pr ex dy tk bi (nI c) sh sr mk su mu co du mS) H := hP
  have hD : va_D A (wM bd cI cL 0 qy lp sp (nI mK) (nI uK) pr ex dy tk bi (nI c) sh sr mk su mu co du mS) := hD
  refine lv_aload_n hx hb dX2_open_5 rfl (lv_at hl 0 rfl) ?_
  refine gV_l (wc := (wM bd cI cL 0 qy lp sp (nI mK) (nI uK) pr ex dy tk bi (nI c) sh sr mk su mu co du mS)) (wr := []) (w1 := (wM bd cI cL 0 qy lp sp (nI mK) (nI uK) pr ex dy tk bi (nI c) (nSh (rtC qy lp sp pr ex tk mK uK (rt0 mk su sh mu co sr du) c)) (nSr (rtC qy lp sp pr ex tk mK uK (rt0 mk su sh mu co sr du) c)) (nMk (rtC qy lp sp pr ex tk mK uK (rt0 mk su sh mu co sr du) c)) (nSu (rtC qy lp sp pr ex tk mK uK (rt0 mk su sh mu co sr du) c)) (nMu (rtC qy lp sp pr ex tk mK uK (rt0 mk su sh mu co sr du) c)) (nCo (rtC qy lp sp pr ex tk mK uK (rt0 mk su sh mu co sr du) c)) (nDu (rtC qy lp sp pr ex tk mK uK (rt0 mk su sh mu co sr du) c)) (nMS (rtC qy lp sp pr ex tk mK uK (rt0 mk su sh mu co sr du) c)))) (W' := (wM bd cI cL 0 qy lp sp (nI mK) (nI uK) pr ex dy tk bi (nI c) (nSh (rtC qy lp sp pr ex tk mK uK (rt0 mk su sh mu co sr du) c)) (nSr (rtC qy lp sp pr ex tk mK uK (rt0 mk su sh mu co sr du) c)) (nMk (rtC qy lp sp pr ex tk mK uK (rt0 mk su sh mu co sr du) c)) (nSu (rtC qy lp sp pr ex tk mK uK (rt0 mk su sh mu co sr du) c)) (nMu (rtC qy lp sp pr ex tk mK uK (rt0 mk su sh mu co sr du) c)) (nCo (rtC qy lp sp pr ex tk mK uK (rt0 mk su sh mu co sr du) c)) (nDu (rtC qy lp sp pr ex tk mK uK (rt0 mk su sh mu co sr du) c)) (nMS (rtC qy lp sp pr ex tk mK uK (rt0 mk su sh mu co sr du) c)))) (As := []) (rest := []) ⟨hx, hb, hml, hown, hts⟩ (c_X2_openNow l D H.size bd cI cL 0 qy lp sp mK uK pr ex dy tk bi c sh sr mk su mu co du mS  hc hmK huK) (cwV 0 hts gX2_open_X2_openNow rfl rfl rfl (by decide +kernel) ⟨(Nat.le_of_ble_eq_true rfl), (Nat.le_of_ble_eq_true rfl)⟩) hS hA hK hP hD [0, 1] rfl [0, 1, 2, 3, 4, 5, 6, 7, 8, 9, 10, 11, 12] [] [0, 1, 2, 3, 4, 5, 6, 7, 8, 9, 10, 11, 12] rfl (by decide) rfl (by decide) (by decide) rfl (by decide) 0 2 rfl rfl rfl rfl hl.1 rfl (Nat.le_of_ble_eq_true rfl) dX2_open_6 ⟨(Nat.le_of_ble_eq_true rfl), (Nat.le_of_ble_eq_true rfl)⟩ (fun H locs _ hP hD hS => ?_)
  exact ge_l hx hb hr hlocks hK hP hD hS trivial (Nat.le_of_ble_eq_true rfl) (Nat.le_of_ble_eq_true rfl) dX2_open_9
