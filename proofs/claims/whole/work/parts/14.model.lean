theorem inX2_lapses_X2 : ∀ q ∈ wsX20, q ∈ wsX2_lapses := by decide +kernel
theorem hX2_lapses__fieldLink_RX2_20_MakeupGasModel_makeUpYears_I_ : Cond.fieldLink RX2 20 "MakeupGasModel" "makeUpYears" "I" ∈ wsX2_lapses := by decide +kernel
theorem hX2_lapses__fieldLink_RX2_23_MakeupGasModel_surplusYears_I_ : Cond.fieldLink RX2 23 "MakeupGasModel" "surplusYears" "I" ∈ wsX2_lapses := by decide +kernel
theorem hX2_lapses__fieldLink_RX2_52_MakeupGasModel_surplusLeft_I_ : Cond.fieldLink RX2 52 "MakeupGasModel" "surplusLeft" "[I" ∈ wsX2_lapses := by decide +kernel
theorem hX2_lapses__fieldLink_RX2_73_MakeupGasModel_lapsed_I_ : Cond.fieldLink RX2 73 "MakeupGasModel" "lapsed" "I" ∈ wsX2_lapses := by decide +kernel
theorem hX2_lapses__fieldLink_RX2_49_MakeupGasModel_makeUpLeft_I_ : Cond.fieldLink RX2 49 "MakeupGasModel" "makeUpLeft" "[I" ∈ wsX2_lapses := by decide +kernel
set_option maxHeartbeats 4000000 in
set_option maxRecDepth 100000 in
theorem c_X2_lapses (l : Launch) (D : va_G) (sz : Nat) (bd : Nat → Nat) (cI cL : ClassId) (th qy lp sp : Int32) (mK uK : Nat) (pr ex dy tk : Nat → Int32) (bi : Nat → Int64) (c : Nat) (sh sr mk su mu co : Nat → Int32) (du : Nat → Int64) (mS : Int32) (y : Nat) (hy : y < 20) (hmK : mK < 20) (huK : uK < 20) : gCv l yX2_lapses wsX2_lapses ({ frames := 0, cells := 0, slots := 0, locals := 0 } : Room) D [(cI, .int), (cL, .long)] [.ref (bd 0), .int (nI y)] (wM bd cI cL th qy lp sp (nI mK) (nI uK) pr ex dy tk bi (nI c) sh sr mk su mu co du mS) (wM bd cI cL th qy lp sp (nI mK) (nI uK) pr ex dy tk bi (nI c) sh sr (lsF mk mK y y) (lsF su uK y y) mu co du (lsZ mk mS mK y y)) True 0 0 sz := by
  refine gm_v (cc := cX2_lapses) (maxL := 3) (by decide) rfl (Nat.le_of_ble_eq_true rfl) ?_
  intro pg en s m args below meth cd A ls hx hb hr hml hown hts hlocks hin hA hK hP hD hl
  have hl : lv_has ls 3 [(0, .ref (bd 0)), (1, .int (nI y))] := hl
  have hS : va_S A s.heap s.heap [] := va_S.rf
  refine lv_iconst (v := 0) hx hb dX2_lapses_0 (by decide) ?_
  refine lv_istore_n (lv' := [(2, .int 0), (0, .ref (bd 0)), (1, .int (nI y))]) hx hb dX2_lapses_1 rfl hl (by decide) rfl (fun ls hl => ?_)
  have lp_2 : ∀ (n i : Nat), i ≤ y → y < i + n → ∀ (H : Heap) (locs : List Loc), va_P D vwCl (wM bd cI cL th qy lp sp (nI mK) (nI uK) pr ex dy tk bi (nI c) sh sr (lsF mk mK y i) (lsF su uK y i) mu co du (lsZ mk mS mK y i)) H → va_D A (wM bd cI cL th qy lp sp (nI mK) (nI uK) pr ex dy tk bi (nI c) sh sr (lsF mk mK y i) (lsF su uK y i) mu co du (lsZ mk mS mK y i)) → va_S A s.heap H locs → ∀ (ls : Array Slot), lv_has ls 3 [(0, .ref (bd 0)), (1, .int (nI y)), (2, .int (nI i))] → W pg l en ({ frames := 0, cells := 0, slots := 0, locals := 0 } : Room) s m args below meth cd H locs 0 0 (gEv True below D [(cI, .int), (cL, .long)] (wM bd cI cL th qy lp sp (nI mK) (nI uK) pr ex dy tk bi (nI c) sh sr (lsF mk mK y y) (lsF su uK y y) mu co du (lsZ mk mS mK y y)) A args s 0 0) (F0 m 2 ls []) := by
    intro n
    induction n with
    | zero => intro i h1 h2; exact absurd h2 (by omega)
    | succ n ih =>
      intro i hi hin2  H locs hP hD hS ls hl
      refine lv_iload_n hx hb dX2_lapses_2 rfl (lv_at hl 2 rfl) ?_
      refine lv_iload_n hx hb dX2_lapses_3 rfl (lv_at hl 1 rfl) ?_
      refine lv_icmp_ge (tgt := 62) hx hb dX2_lapses_4 (by decide) (fun c1 => ?_) (fun c1 => ?_)
      · obtain rfl : i = y := Nat.le_antisymm hi (Nat.not_lt.mp fun h => absurd c1 (nI_ge h (by omega)))
        exact ge_v hx hb hr hlocks hK hP hD hS trivial (Nat.le_of_ble_eq_true rfl) (Nat.le_of_ble_eq_true rfl) dX2_lapses_62
      · have hiy : i < y := Nat.not_le.mp (fun h => c1 (nI_le h (by omega)))
        have hi3 : i < 20 := by omega
        refine lv_iload_n hx hb dX2_lapses_7 rfl (lv_at hl 1 rfl) ?_
        refine lv_iload_n hx hb dX2_lapses_8 rfl (lv_at hl 2 rfl) ?_
        refine lv_aload_n hx hb dX2_lapses_9 rfl (lv_at hl 0 rfl) ?_
        refine va_get (D := D) (ci := 2) (C := RX2) (T := TX2) (N := 20) hx hb hts inX2_lapses_X2 hown hK hP 0 rfl rfl 4 (by decide) (hts _ hX2_lapses__fieldLink_RX2_20_MakeupGasModel_makeUpYears_I_) (fun _ h9 => h9) rfl dX2_lapses_10 ?_
        refine lv_iadd hx hb dX2_lapses_13 ?_
        refine gj_i (nI_add i mK) ?_
        refine lv_icmp_le (tgt := 39) hx hb dX2_lapses_14 (by decide) (fun c2 => ?_) (fun c2 => ?_)
        · have hn2 : ¬ i + mK < y := fun h => absurd c2 (nI_ge h (by omega))
          have hP : va_P D vwCl (wM bd cI cL th qy lp sp (nI mK) (nI uK) pr ex dy tk bi (nI c) sh sr (lsF mk mK y (i + 1)) (lsF su uK y i) mu co du (lsZ mk mS mK y (i + 1))) H := by rw [lsF_f hn2, lsZ_f hn2]; exact hP
          have hD : va_D A (wM bd cI cL th qy lp sp (nI mK) (nI uK) pr ex dy tk bi (nI c) sh sr (lsF mk mK y (i + 1)) (lsF su uK y i) mu co du (lsZ mk mS mK y (i + 1))) := by rw [lsF_f hn2, lsZ_f hn2]; exact hD
          refine lv_iload_n hx hb dX2_lapses_39 rfl (lv_at hl 1 rfl) ?_
          refine lv_iload_n hx hb dX2_lapses_40 rfl (lv_at hl 2 rfl) ?_
          refine lv_aload_n hx hb dX2_lapses_41 rfl (lv_at hl 0 rfl) ?_
          refine va_get (D := D) (ci := 2) (C := RX2) (T := TX2) (N := 20) hx hb hts inX2_lapses_X2 hown hK hP 0 rfl rfl 5 (by decide) (hts _ hX2_lapses__fieldLink_RX2_23_MakeupGasModel_surplusYears_I_) (fun _ h9 => h9) rfl dX2_lapses_42 ?_
          refine lv_iadd hx hb dX2_lapses_45 ?_
          refine gj_i (nI_add i uK) ?_
          refine lv_icmp_le (tgt := 56) hx hb dX2_lapses_46 (by decide) (fun c3 => ?_) (fun c3 => ?_)
          · have hn3 : ¬ i + uK < y := fun h => absurd c3 (nI_ge h (by omega))
            have hP : va_P D vwCl (wM bd cI cL th qy lp sp (nI mK) (nI uK) pr ex dy tk bi (nI c) sh sr (lsF mk mK y (i + 1)) (lsF su uK y (i + 1)) mu co du (lsZ mk mS mK y (i + 1))) H := by rw [lsF_f hn3]; exact hP
            have hD : va_D A (wM bd cI cL th qy lp sp (nI mK) (nI uK) pr ex dy tk bi (nI c) sh sr (lsF mk mK y (i + 1)) (lsF su uK y (i + 1)) mu co du (lsZ mk mS mK y (i + 1))) := by rw [lsF_f hn3]; exact hD
            refine lv_iinc (v := nI (i + 1)) (lv' := [(2, .int (nI (i + 1))), (0, .ref (bd 0)), (1, .int (nI y))]) hx hb dX2_lapses_56 hl (k := 2) rfl (gi_1 _) (by decide) rfl (fun ls hl => ?_)
            refine lv_goto (tgt := 2) hx hb dX2_lapses_59 (by decide) ?_
            exact ih (i + 1) (by omega) (by omega) _ _ hP hD hS ls (lv_sub hl [1, 2, 0] rfl)
          · have hn3 : i + uK < y := Nat.not_le.mp (fun h => c3 (nI_le h (by omega)))
            refine lv_aload_n hx hb dX2_lapses_49 rfl (lv_at hl 0 rfl) ?_
            refine va_get (D := D) (ci := 2) (C := RX2) (T := TX2) (N := 20) hx hb hts inX2_lapses_X2 hown hK hP 0 rfl rfl 15 (by decide) (hts _ hX2_lapses__fieldLink_RX2_52_MakeupGasModel_surplusLeft_I_) (fun _ h9 => h9) rfl dX2_lapses_50 ?_
            refine lv_iload_n hx hb dX2_lapses_53 rfl (lv_at hl 2 rfl) ?_
            refine lv_iconst (v := 0) hx hb dX2_lapses_54 (by decide) ?_
            refine ga_iast (j := i) (ws' := (wM bd cI cL th qy lp sp (nI mK) (nI uK) pr ex dy tk bi (nI c) sh sr (lsF mk mK y (i + 1)) (upd (lsF su uK y i) i 0) mu co du (lsZ mk mS mK y (i + 1)))) hx hb hK hP hD hS 9 0 rfl rfl hi3 (by decide) dX2_lapses_55 rfl (fun H locs hP hD hS => ?_)
            have hP : va_P D vwCl (wM bd cI cL th qy lp sp (nI mK) (nI uK) pr ex dy tk bi (nI c) sh sr (lsF mk mK y (i + 1)) (lsF su uK y (i + 1)) mu co du (lsZ mk mS mK y (i + 1))) H := by rw [lsF_t hn3]; exact hP
            have hD : va_D A (wM bd cI cL th qy lp sp (nI mK) (nI uK) pr ex dy tk bi (nI c) sh sr (lsF mk mK y (i + 1)) (lsF su uK y (i + 1)) mu co du (lsZ mk mS mK y (i + 1))) := by rw [lsF_t hn3]; exact hD
            refine lv_iinc (v := nI (i + 1)) (lv' := [(2, .int (nI (i + 1))), (0, .ref (bd 0)), (1, .int (nI y))]) hx hb dX2_lapses_56 hl (k := 2) rfl (gi_1 _) (by decide) rfl (fun ls hl => ?_)
            refine lv_goto (tgt := 2) hx hb dX2_lapses_59 (by decide) ?_
            exact ih (i + 1) (by omega) (by omega) _ _ hP hD hS ls (lv_sub hl [1, 2, 0] rfl)
        · have hn2 : i + mK < y := Nat.not_le.mp (fun h => c2 (nI_le h (by omega)))
          refine lv_aload_n hx hb dX2_lapses_17 rfl (lv_at hl 0 rfl) ?_
          refine lv_dup hx hb dX2_lapses_18 rfl ?_
          refine va_get (D := D) (ci := 2) (C := RX2) (T := TX2) (N := 20) hx hb hts inX2_lapses_X2 hown hK hP 0 rfl rfl 19 (by decide) (hts _ hX2_lapses__fieldLink_RX2_73_MakeupGasModel_lapsed_I_) (fun _ h9 => h9) rfl dX2_lapses_19 ?_
          refine lv_aload_n hx hb dX2_lapses_22 rfl (lv_at hl 0 rfl) ?_
          refine va_get (D := D) (ci := 2) (C := RX2) (T := TX2) (N := 20) hx hb hts inX2_lapses_X2 hown hK hP 0 rfl rfl 14 (by decide) (hts _ hX2_lapses__fieldLink_RX2_49_MakeupGasModel_makeUpLeft_I_) (fun _ h9 => h9) rfl dX2_lapses_23 ?_
          refine lv_iload_n hx hb dX2_lapses_26 rfl (lv_at hl 2 rfl) ?_
          refine ga_iald (j := i) hx hb hK hP 8 0 rfl rfl hi3 (by decide) dX2_lapses_27 ?_
          refine lv_iadd hx hb dX2_lapses_28 ?_
          refine va_put (D := D) (ci := 2) (v := .int ((lsZ mk mS mK y i) + ((lsF mk mK y i) i))) (ty := .int) (C := RX2) (T := TX2) (N := 20) hx hb hts inX2_lapses_X2 tyX2 tyX2_ok nmX2 hown hK hP hD hS 0 rfl rfl 19 (by decide) (hts _ hX2_lapses__fieldLink_RX2_73_MakeupGasModel_lapsed_I_) (fun _ h9 => h9) (by decide +kernel) (by decide +kernel) rfl rfl (Nat.le_of_ble_eq_true rfl) dX2_lapses_29 (fun H locs hP hD hS => ?_)
          have hP : va_P D vwCl (wM bd cI cL th qy lp sp (nI mK) (nI uK) pr ex dy tk bi (nI c) sh sr (lsF mk mK y i) (lsF su uK y i) mu co du ((lsZ mk mS mK y i) + ((lsF mk mK y i) i))) H := hP
          have hD : va_D A (wM bd cI cL th qy lp sp (nI mK) (nI uK) pr ex dy tk bi (nI c) sh sr (lsF mk mK y i) (lsF su uK y i) mu co du ((lsZ mk mS mK y i) + ((lsF mk mK y i) i))) := hD
          refine lv_aload_n hx hb dX2_lapses_32 rfl (lv_at hl 0 rfl) ?_
          refine va_get (D := D) (ci := 2) (C := RX2) (T := TX2) (N := 20) hx hb hts inX2_lapses_X2 hown hK hP 0 rfl rfl 14 (by decide) (hts _ hX2_lapses__fieldLink_RX2_49_MakeupGasModel_makeUpLeft_I_) (fun _ h9 => h9) rfl dX2_lapses_33 ?_
          refine lv_iload_n hx hb dX2_lapses_36 rfl (lv_at hl 2 rfl) ?_
          refine lv_iconst (v := 0) hx hb dX2_lapses_37 (by decide) ?_
          refine ga_iast (j := i) (ws' := (wM bd cI cL th qy lp sp (nI mK) (nI uK) pr ex dy tk bi (nI c) sh sr (upd (lsF mk mK y i) i 0) (lsF su uK y i) mu co du ((lsZ mk mS mK y i) + ((lsF mk mK y i) i)))) hx hb hK hP hD hS 8 0 rfl rfl hi3 (by decide) dX2_lapses_38 rfl (fun H locs hP hD hS => ?_)
          have hP : va_P D vwCl (wM bd cI cL th qy lp sp (nI mK) (nI uK) pr ex dy tk bi (nI c) sh sr (lsF mk mK y (i + 1)) (lsF su uK y i) mu co du (lsZ mk mS mK y (i + 1))) H := by rw [lsF_t hn2, lsZ_t hn2]; exact hP
          have hD : va_D A (wM bd cI cL th qy lp sp (nI mK) (nI uK) pr ex dy tk bi (nI c) sh sr (lsF mk mK y (i + 1)) (lsF su uK y i) mu co du (lsZ mk mS mK y (i + 1))) := by rw [lsF_t hn2, lsZ_t hn2]; exact hD
          refine lv_iload_n hx hb dX2_lapses_39 rfl (lv_at hl 1 rfl) ?_
          refine lv_iload_n hx hb dX2_lapses_40 rfl (lv_at hl 2 rfl) ?_
          refine lv_aload_n hx hb dX2_lapses_41 rfl (lv_at hl 0 rfl) ?_
          refine va_get (D := D) (ci := 2) (C := RX2) (T := TX2) (N := 20) hx hb hts inX2_lapses_X2 hown hK hP 0 rfl rfl 5 (by decide) (hts _ hX2_lapses__fieldLink_RX2_23_MakeupGasModel_surplusYears_I_) (fun _ h9 => h9) rfl dX2_lapses_42 ?_
          refine lv_iadd hx hb dX2_lapses_45 ?_
          refine gj_i (nI_add i uK) ?_
          refine lv_icmp_le (tgt := 56) hx hb dX2_lapses_46 (by decide) (fun c3 => ?_) (fun c3 => ?_)
          · have hn3 : ¬ i + uK < y := fun h => absurd c3 (nI_ge h (by omega))
            have hP : va_P D vwCl (wM bd cI cL th qy lp sp (nI mK) (nI uK) pr ex dy tk bi (nI c) sh sr (lsF mk mK y (i + 1)) (lsF su uK y (i + 1)) mu co du (lsZ mk mS mK y (i + 1))) H := by rw [lsF_f hn3]; exact hP
            have hD : va_D A (wM bd cI cL th qy lp sp (nI mK) (nI uK) pr ex dy tk bi (nI c) sh sr (lsF mk mK y (i + 1)) (lsF su uK y (i + 1)) mu co du (lsZ mk mS mK y (i + 1))) := by rw [lsF_f hn3]; exact hD
            refine lv_iinc (v := nI (i + 1)) (lv' := [(2, .int (nI (i + 1))), (0, .ref (bd 0)), (1, .int (nI y))]) hx hb dX2_lapses_56 hl (k := 2) rfl (gi_1 _) (by decide) rfl (fun ls hl => ?_)
            refine lv_goto (tgt := 2) hx hb dX2_lapses_59 (by decide) ?_
            exact ih (i + 1) (by omega) (by omega) _ _ hP hD hS ls (lv_sub hl [1, 2, 0] rfl)
          · have hn3 : i + uK < y := Nat.not_le.mp (fun h => c3 (nI_le h (by omega)))
            refine lv_aload_n hx hb dX2_lapses_49 rfl (lv_at hl 0 rfl) ?_
            refine va_get (D := D) (ci := 2) (C := RX2) (T := TX2) (N := 20) hx hb hts inX2_lapses_X2 hown hK hP 0 rfl rfl 15 (by decide) (hts _ hX2_lapses__fieldLink_RX2_52_MakeupGasModel_surplusLeft_I_) (fun _ h9 => h9) rfl dX2_lapses_50 ?_
            refine lv_iload_n hx hb dX2_lapses_53 rfl (lv_at hl 2 rfl) ?_
            refine lv_iconst (v := 0) hx hb dX2_lapses_54 (by decide) ?_
            refine ga_iast (j := i) (ws' := (wM bd cI cL th qy lp sp (nI mK) (nI uK) pr ex dy tk bi (nI c) sh sr (lsF mk mK y (i + 1)) (upd (lsF su uK y i) i 0) mu co du (lsZ mk mS mK y (i + 1)))) hx hb hK hP hD hS 9 0 rfl rfl hi3 (by decide) dX2_lapses_55 rfl (fun H locs hP hD hS => ?_)
            have hP : va_P D vwCl (wM bd cI cL th qy lp sp (nI mK) (nI uK) pr ex dy tk bi (nI c) sh sr (lsF mk mK y (i + 1)) (lsF su uK y (i + 1)) mu co du (lsZ mk mS mK y (i + 1))) H := by rw [lsF_t hn3]; exact hP
            have hD : va_D A (wM bd cI cL th qy lp sp (nI mK) (nI uK) pr ex dy tk bi (nI c) sh sr (lsF mk mK y (i + 1)) (lsF su uK y (i + 1)) mu co du (lsZ mk mS mK y (i + 1))) := by rw [lsF_t hn3]; exact hD
            refine lv_iinc (v := nI (i + 1)) (lv' := [(2, .int (nI (i + 1))), (0, .ref (bd 0)), (1, .int (nI y))]) hx hb dX2_lapses_56 hl (k := 2) rfl (gi_1 _) (by decide) rfl (fun ls hl => ?_)
            refine lv_goto (tgt := 2) hx hb dX2_lapses_59 (by decide) ?_
            exact ih (i + 1) (by omega) (by omega) _ _ hP hD hS ls (lv_sub hl [1, 2, 0] rfl)
  exact lp_2 (y + 1) 0 (by omega) (by omega) _ _ hP hD hS ls (lv_sub hl [1, 2, 0] rfl)
theorem inX2_covers_X2 : ∀ q ∈ wsX20, q ∈ wsX2_covers := by decide +kernel
theorem hX2_covers__fieldLink_RX2_58_MakeupGasModel_covered_I_ : Cond.fieldLink RX2 58 "MakeupGasModel" "covered" "[I" ∈ wsX2_covers := by decide +kernel
theorem hX2_covers__fieldLink_RX2_43_MakeupGasModel_shortfalls_I_ : Cond.fieldLink RX2 43 "MakeupGasModel" "shortfalls" "[I" ∈ wsX2_covers := by decide +kernel
theorem hX2_covers__fieldLink_RX2_49_MakeupGasModel_makeUpLeft_I_ : Cond.fieldLink RX2 49 "MakeupGasModel" "makeUpLeft" "[I" ∈ wsX2_covers := by decide +kernel
theorem hX2_covers__fieldLink_RX2_61_MakeupGasModel_dues_J_ : Cond.fieldLink RX2 61 "MakeupGasModel" "dues" "[J" ∈ wsX2_covers := by decide +kernel
theorem hX2_covers__fieldLink_RX2_36_MakeupGasModel_taken_I_ : Cond.fieldLink RX2 36 "MakeupGasModel" "taken" "[I" ∈ wsX2_covers := by decide +kernel
theorem hX2_covers__fieldLink_RX2_26_MakeupGasModel_prices_I_ : Cond.fieldLink RX2 26 "MakeupGasModel" "prices" "[I" ∈ wsX2_covers := by decide +kernel
theorem hX2_covers__fieldLink_RX2_52_MakeupGasModel_surplusLeft_I_ : Cond.fieldLink RX2 52 "MakeupGasModel" "surplusLeft" "[I" ∈ wsX2_covers := by decide +kernel
set_option maxHeartbeats 4000000 in
set_option maxRecDepth 100000 in
theorem c_X2_covers (l : Launch) (D : va_G) (sz : Nat) (bd : Nat → Nat) (cI cL : ClassId) (th qy lp sp : Int32) (mK uK : Nat) (pr ex dy tk : Nat → Int32) (bi : Nat → Int64) (c : Nat) (sh sr mk su mu co : Nat → Int32) (du : Nat → Int64) (mS : Int32) (y : Nat) (w : Int32) (hy : y < 20) : gCv l yX2_covers wsX2_covers ({ frames := 1, cells := 0, slots := 0, locals := 21 } : Room) D [(cI, .int), (cL, .long)] [.ref (bd 0), .int (nI y), .int w] (wM bd cI cL th qy lp sp (nI mK) (nI uK) pr ex dy tk bi (nI c) sh sr mk su mu co du mS) (wM bd cI cL th qy lp sp (nI mK) (nI uK) pr ex dy tk bi (nI c) (upd sh y (w - (dw su w y).2)) sr (upd mk y (w - (dw su w y).2)) ((dw su w y).1) mu (upd co y (dw su w y).2) (vp_updL du y ((tk y).toInt64 * (pr y).toInt64 + (w - (dw su w y).2).toInt64 * (spf pr sp y).toInt64)) mS) True 0 0 sz := by
  refine gm_v (cc := cX2_covers) (maxL := 6) (by decide) rfl (Nat.le_of_ble_eq_true rfl) ?_
  intro pg en s m args below meth cd A ls hx hb hr hml hown hts hlocks hin hA hK hP hD hl
  have hl : lv_has ls 6 [(0, .ref (bd 0)), (1, .int (nI y)), (2, .int w)] := hl
  have hS : va_S A s.heap s.heap [] := va_S.rf
  refine lv_iload_n hx hb dX2_covers_0 rfl (lv_at hl 2 rfl) ?_
  refine gj_i ((i32_s0 w).symm) ?_
  refine lv_istore_n (lv' := [(3, .int (w - (dw su w 0).2)), (0, .ref (bd 0)), (1, .int (nI y)), (2, .int w)]) hx hb dX2_covers_1 rfl hl (by decide) rfl (fun ls hl => ?_)
  refine lv_iconst (v := 0) hx hb dX2_covers_2 (by decide) ?_
  refine lv_istore (lv' := [(4, .int 0), (3, .int (w - (dw su w 0).2)), (0, .ref (bd 0)), (1, .int (nI y)), (2, .int w)]) hx hb dX2_covers_3 hl (by decide) rfl (fun ls hl => ?_)
  have lp_5 : ∀ (n i : Nat), i ≤ y → y < i + n → ∀ (H : Heap) (locs : List Loc), va_P D vwCl (wM bd cI cL th qy lp sp (nI mK) (nI uK) pr ex dy tk bi (nI c) sh sr mk ((dw su w i).1) mu co du mS) H → va_D A (wM bd cI cL th qy lp sp (nI mK) (nI uK) pr ex dy tk bi (nI c) sh sr mk ((dw su w i).1) mu co du mS) → va_S A s.heap H locs → ∀ (ls : Array Slot), lv_has ls 6 [(0, .ref (bd 0)), (1, .int (nI y)), (2, .int w), (3, .int (w - (dw su w i).2)), (4, .int (nI i))] → W pg l en ({ frames := 1, cells := 0, slots := 0, locals := 21 } : Room) s m args below meth cd H locs 0 0 (gEv True below D [(cI, .int), (cL, .long)] (wM bd cI cL th qy lp sp (nI mK) (nI uK) pr ex dy tk bi (nI c) (upd sh y (w - (dw su w y).2)) sr (upd mk y (w - (dw su w y).2)) ((dw su w y).1) mu (upd co y (dw su w y).2) (vp_updL du y ((tk y).toInt64 * (pr y).toInt64 + (w - (dw su w y).2).toInt64 * (spf pr sp y).toInt64)) mS) A args s 0 0) (F0 m 5 ls []) := by
    intro n
    induction n with
    | zero => intro i h1 h2; exact absurd h2 (by omega)
    | succ n ih =>
      intro i hi hin2  H locs hP hD hS ls hl
      refine lv_iload hx hb dX2_covers_5 (lv_at hl 4 rfl) ?_
      refine lv_iload_n hx hb dX2_covers_7 rfl (lv_at hl 1 rfl) ?_
      refine lv_icmp_ge (tgt := 58) hx hb dX2_covers_8 (by decide) (fun c1 => ?_) (fun c1 => ?_)
      · obtain rfl : i = y := Nat.le_antisymm hi (Nat.not_lt.mp fun h => absurd c1 (nI_ge h (by omega)))
        refine lv_aload_n hx hb dX2_covers_58 rfl (lv_at hl 0 rfl) ?_
        refine va_get (D := D) (ci := 2) (C := RX2) (T := TX2) (N := 20) hx hb hts inX2_covers_X2 hown hK hP 0 rfl rfl 17 (by decide) (hts _ hX2_covers__fieldLink_RX2_58_MakeupGasModel_covered_I_) (fun _ h9 => h9) rfl dX2_covers_59 ?_
        refine lv_iload_n hx hb dX2_covers_62 rfl (lv_at hl 1 rfl) ?_
        refine lv_iload_n hx hb dX2_covers_63 rfl (lv_at hl 2 rfl) ?_
        refine lv_iload_n hx hb dX2_covers_64 rfl (lv_at hl 3 rfl) ?_
        refine lv_isub hx hb dX2_covers_65 ?_
        refine gj_i (i32_sss w _) ?_
        refine ga_iast (j := i) (ws' := (wM bd cI cL th qy lp sp (nI mK) (nI uK) pr ex dy tk bi (nI c) sh sr mk ((dw su w i).1) mu (upd co i ((dw su w i).2)) du mS)) hx hb hK hP hD hS 11 0 rfl rfl hy (by decide) dX2_covers_66 rfl (fun H locs hP hD hS => ?_)
        refine lv_aload_n hx hb dX2_covers_67 rfl (lv_at hl 0 rfl) ?_
        refine va_get (D := D) (ci := 2) (C := RX2) (T := TX2) (N := 20) hx hb hts inX2_covers_X2 hown hK hP 0 rfl rfl 12 (by decide) (hts _ hX2_covers__fieldLink_RX2_43_MakeupGasModel_shortfalls_I_) (fun _ h9 => h9) rfl dX2_covers_68 ?_
        refine lv_iload_n hx hb dX2_covers_71 rfl (lv_at hl 1 rfl) ?_
        refine lv_iload_n hx hb dX2_covers_72 rfl (lv_at hl 3 rfl) ?_
        refine ga_iast (j := i) (ws' := (wM bd cI cL th qy lp sp (nI mK) (nI uK) pr ex dy tk bi (nI c) (upd sh i (w - (dw su w i).2)) sr mk ((dw su w i).1) mu (upd co i ((dw su w i).2)) du mS)) hx hb hK hP hD hS 6 0 rfl rfl hy (by decide) dX2_covers_73 rfl (fun H locs hP hD hS => ?_)
        refine lv_aload_n hx hb dX2_covers_74 rfl (lv_at hl 0 rfl) ?_
        refine va_get (D := D) (ci := 2) (C := RX2) (T := TX2) (N := 20) hx hb hts inX2_covers_X2 hown hK hP 0 rfl rfl 14 (by decide) (hts _ hX2_covers__fieldLink_RX2_49_MakeupGasModel_makeUpLeft_I_) (fun _ h9 => h9) rfl dX2_covers_75 ?_
        refine lv_iload_n hx hb dX2_covers_78 rfl (lv_at hl 1 rfl) ?_
        refine lv_iload_n hx hb dX2_covers_79 rfl (lv_at hl 3 rfl) ?_
        refine ga_iast (j := i) (ws' := (wM bd cI cL th qy lp sp (nI mK) (nI uK) pr ex dy tk bi (nI c) (upd sh i (w - (dw su w i).2)) sr (upd mk i (w - (dw su w i).2)) ((dw su w i).1) mu (upd co i ((dw su w i).2)) du mS)) hx hb hK hP hD hS 8 0 rfl rfl hy (by decide) dX2_covers_80 rfl (fun H locs hP hD hS => ?_)
        refine lv_aload_n hx hb dX2_covers_81 rfl (lv_at hl 0 rfl) ?_
        refine va_get (D := D) (ci := 2) (C := RX2) (T := TX2) (N := 20) hx hb hts inX2_covers_X2 hown hK hP 0 rfl rfl 18 (by decide) (hts _ hX2_covers__fieldLink_RX2_61_MakeupGasModel_dues_J_) (fun _ h9 => h9) rfl dX2_covers_82 ?_
        refine lv_iload_n hx hb dX2_covers_85 rfl (lv_at hl 1 rfl) ?_
        refine lv_aload_n hx hb dX2_covers_86 rfl (lv_at hl 0 rfl) ?_
        refine va_get (D := D) (ci := 2) (C := RX2) (T := TX2) (N := 20) hx hb hts inX2_covers_X2 hown hK hP 0 rfl rfl 9 (by decide) (hts _ hX2_covers__fieldLink_RX2_36_MakeupGasModel_taken_I_) (fun _ h9 => h9) rfl dX2_covers_87 ?_
        refine lv_iload_n hx hb dX2_covers_90 rfl (lv_at hl 1 rfl) ?_
        refine ga_iald (j := i) hx hb hK hP 4 0 rfl rfl hy (by decide) dX2_covers_91 ?_
        refine lv_i2l hx hb dX2_covers_92 rfl ?_
        refine lv_aload_n hx hb dX2_covers_93 rfl (lv_at hl 0 rfl) ?_
        refine va_get (D := D) (ci := 2) (C := RX2) (T := TX2) (N := 20) hx hb hts inX2_covers_X2 hown hK hP 0 rfl rfl 6 (by decide) (hts _ hX2_covers__fieldLink_RX2_26_MakeupGasModel_prices_I_) (fun _ h9 => h9) rfl dX2_covers_94 ?_
        refine lv_iload_n hx hb dX2_covers_97 rfl (lv_at hl 1 rfl) ?_
        refine ga_iald (j := i) hx hb hK hP 1 0 rfl rfl hy (by decide) dX2_covers_98 ?_
        refine lv_i2l hx hb dX2_covers_99 rfl ?_
        refine lv_lmul hx hb dX2_covers_100 ?_
        refine lv_iload_n hx hb dX2_covers_101 rfl (lv_at hl 3 rfl) ?_
        refine lv_i2l hx hb dX2_covers_102 rfl ?_
        refine lv_aload_n hx hb dX2_covers_103 rfl (lv_at hl 0 rfl) ?_
        refine lv_iload_n hx hb dX2_covers_104 rfl (lv_at hl 1 rfl) ?_
        refine gV_i (wc := (wM bd cI cL th qy lp sp (nI mK) (nI uK) pr ex dy tk bi (nI c) (upd sh i (w - (dw su w i).2)) sr (upd mk i (w - (dw su w i).2)) ((dw su w i).1) mu (upd co i ((dw su w i).2)) du mS)) (wr := []) (w1 := (wM bd cI cL th qy lp sp (nI mK) (nI uK) pr ex dy tk bi (nI c) (upd sh i (w - (dw su w i).2)) sr (upd mk i (w - (dw su w i).2)) ((dw su w i).1) mu (upd co i ((dw su w i).2)) du mS)) (W' := (wM bd cI cL th qy lp sp (nI mK) (nI uK) pr ex dy tk bi (nI c) (upd sh i (w - (dw su w i).2)) sr (upd mk i (w - (dw su w i).2)) ((dw su w i).1) mu (upd co i ((dw su w i).2)) du mS)) (As := [.int (nI i)]) (rest := [.long ((w - (dw su w i).2).toInt64), .long (((tk i).toInt64) * ((pr i).toInt64)), .int (nI i), .ref (bd 12)]) ⟨hx, hb, hml, hown, hts⟩ (c_X2_shortfallPrice l D H.size bd cI cL th qy lp sp mK uK pr ex dy tk bi c (upd sh i (w - (dw su w i).2)) sr (upd mk i (w - (dw su w i).2)) ((dw su w i).1) mu (upd co i ((dw su w i).2)) du mS i hy) (cwV 1 hts gX2_covers_X2_shortfallPrice rfl rfl rfl (by decide +kernel) ⟨(Nat.le_of_ble_eq_true rfl), (Nat.le_of_ble_eq_true rfl)⟩) hS hA hK hP hD [0, 1] rfl [0, 1, 2, 3, 4, 5, 6, 7, 8, 9, 10, 11, 12] [] [0, 1, 2, 3, 4, 5, 6, 7, 8, 9, 10, 11, 12] rfl (by decide) rfl (by decide) (by decide) rfl (by decide) 0 2 rfl rfl rfl rfl hl.1 rfl (Nat.le_of_ble_eq_true rfl) dX2_covers_105 ⟨(Nat.le_of_ble_eq_true rfl), (Nat.le_of_ble_eq_true rfl)⟩ (fun H locs _ hP hD hS => ?_)
        refine lv_i2l hx hb dX2_covers_108 rfl ?_
        refine lv_lmul hx hb dX2_covers_109 ?_
        refine lv_ladd hx hb dX2_covers_110 ?_
        refine ga_last (j := i) (ws' := (wM bd cI cL th qy lp sp (nI mK) (nI uK) pr ex dy tk bi (nI c) (upd sh i (w - (dw su w i).2)) sr (upd mk i (w - (dw su w i).2)) ((dw su w i).1) mu (upd co i ((dw su w i).2)) (vp_updL du i ((((tk i).toInt64) * ((pr i).toInt64)) + (((w - (dw su w i).2).toInt64) * ((spf pr sp i).toInt64)))) mS)) hx hb hK hP hD hS 12 1 rfl rfl hy (by decide) dX2_covers_111 rfl (fun H locs hP hD hS => ?_)
        exact ge_v hx hb hr hlocks hK hP hD hS trivial (Nat.le_of_ble_eq_true rfl) (Nat.le_of_ble_eq_true rfl) dX2_covers_112
      · have hiy : i < y := Nat.not_le.mp (fun h => c1 (nI_le h (by omega)))
        have hi3 : i < 20 := by omega
        refine lv_aload_n hx hb dX2_covers_11 rfl (lv_at hl 0 rfl) ?_
        refine va_get (D := D) (ci := 2) (C := RX2) (T := TX2) (N := 20) hx hb hts inX2_covers_X2 hown hK hP 0 rfl rfl 15 (by decide) (hts _ hX2_covers__fieldLink_RX2_52_MakeupGasModel_surplusLeft_I_) (fun _ h9 => h9) rfl dX2_covers_12 ?_
        refine lv_iload hx hb dX2_covers_15 (lv_at hl 4 rfl) ?_
        refine ga_iald (j := i) hx hb hK hP 9 0 rfl rfl hi3 (by decide) dX2_covers_17 ?_
        refine lv_iload_n hx hb dX2_covers_18 rfl (lv_at hl 3 rfl) ?_
        have k33 : W pg l en ({ frames := 1, cells := 0, slots := 0, locals := 21 } : Room) s m args below meth cd H locs 0 0 (gEv True below D [(cI, .int), (cL, .long)] (wM bd cI cL th qy lp sp (nI mK) (nI uK) pr ex dy tk bi (nI c) (upd sh y (w - (dw su w y).2)) sr (upd mk y (w - (dw su w y).2)) ((dw su w y).1) mu (upd co y (dw su w y).2) (vp_updL du y ((tk y).toInt64 * (pr y).toInt64 + (w - (dw su w y).2).toInt64 * (spf pr sp y).toInt64)) mS) A args s 0 0) (F0 m 33 ls [.int (mnI (w - (dw su w i).2) ((dw su w i).1 i))]) := by
          refine lv_istore (lv' := [(5, .int (mnI (w - (dw su w i).2) ((dw su w i).1 i))), (0, .ref (bd 0)), (1, .int (nI y)), (2, .int w), (3, .int (w - (dw su w i).2)), (4, .int (nI i))]) hx hb dX2_covers_33 hl (by decide) rfl (fun ls hl => ?_)
          refine lv_aload_n hx hb dX2_covers_35 rfl (lv_at hl 1 rfl) ?_
          refine va_get (D := D) (ci := 2) (C := RX2) (T := TX2) (N := 20) hx hb hts inX2_covers_X2 hown hK hP 0 rfl rfl 15 (by decide) (hts _ hX2_covers__fieldLink_RX2_52_MakeupGasModel_surplusLeft_I_) (fun _ h9 => h9) rfl dX2_covers_36 ?_
          refine lv_iload hx hb dX2_covers_39 (lv_at hl 5 rfl) ?_
          refine lv_dup2_11 hx hb dX2_covers_41 rfl rfl ?_
          refine ga_iald (j := i) hx hb hK hP 9 0 rfl rfl hi3 (by decide) dX2_covers_42 ?_
          refine lv_iload hx hb dX2_covers_43 (lv_at hl 0 rfl) ?_
          refine lv_isub hx hb dX2_covers_45 ?_
          refine ga_iast (j := i) (ws' := (wM bd cI cL th qy lp sp (nI mK) (nI uK) pr ex dy tk bi (nI c) sh sr mk (upd ((dw su w i).1) i ((((dw su w i).1) i) - (mnI (w - (dw su w i).2) ((dw su w i).1 i)))) mu co du mS)) hx hb hK hP hD hS 9 0 rfl rfl hi3 (by decide) dX2_covers_46 rfl (fun H locs hP hD hS => ?_)
          refine lv_iload_n hx hb dX2_covers_47 rfl (lv_at hl 4 rfl) ?_
          refine lv_iload hx hb dX2_covers_48 (lv_at hl 0 rfl) ?_
          refine lv_isub hx hb dX2_covers_50 ?_
          refine gj_i (i32_ss w _ _) ?_
          refine lv_istore_n (lv' := [(3, .int (w - (dw su w (i + 1)).2)), (5, .int (mnI (w - (dw su w i).2) ((dw su w i).1 i))), (0, .ref (bd 0)), (1, .int (nI y)), (2, .int w), (4, .int (nI i))]) hx hb dX2_covers_51 rfl hl (by decide) rfl (fun ls hl => ?_)
          refine lv_iinc (v := nI (i + 1)) (lv' := [(4, .int (nI (i + 1))), (3, .int (w - (dw su w (i + 1)).2)), (5, .int (mnI (w - (dw su w i).2) ((dw su w i).1 i))), (0, .ref (bd 0)), (1, .int (nI y)), (2, .int w)]) hx hb dX2_covers_52 hl (k := 5) rfl (gi_1 _) (by decide) rfl (fun ls hl => ?_)
          refine lv_goto (tgt := 5) hx hb dX2_covers_55 (by decide) ?_
          exact ih (i + 1) (by omega) (by omega) _ _ hP hD hS ls (lv_sub hl [3, 4, 5, 1, 0] rfl)
        refine lv_icmp_ge (tgt := 32) hx hb dX2_covers_19 (by decide) (fun c2 => ?_) (fun c2 => ?_)
        · refine lv_iload_n hx hb dX2_covers_32 rfl (lv_at hl 3 rfl) ?_
          exact gj_i (mn_if2 c2) k33
        · refine lv_aload_n hx hb dX2_covers_22 rfl (lv_at hl 0 rfl) ?_
          refine va_get (D := D) (ci := 2) (C := RX2) (T := TX2) (N := 20) hx hb hts inX2_covers_X2 hown hK hP 0 rfl rfl 15 (by decide) (hts _ hX2_covers__fieldLink_RX2_52_MakeupGasModel_surplusLeft_I_) (fun _ h9 => h9) rfl dX2_covers_23 ?_
          refine lv_iload hx hb dX2_covers_26 (lv_at hl 4 rfl) ?_
          refine ga_iald (j := i) hx hb hK hP 9 0 rfl rfl hi3 (by decide) dX2_covers_28 ?_
          refine lv_goto (tgt := 33) hx hb dX2_covers_29 (by decide) ?_
          exact gj_i (mn_if1 c2) k33
  exact lp_5 (y + 1) 0 (by omega) (by omega) _ _ hP hD hS ls (lv_sub hl [2, 3, 4, 1, 0] rfl)
theorem inX2_makesUp_X2 : ∀ q ∈ wsX20, q ∈ wsX2_makesUp := by decide +kernel
theorem hX2_makesUp__fieldLink_RX2_55_MakeupGasModel_madeUp_I_ : Cond.fieldLink RX2 55 "MakeupGasModel" "madeUp" "[I" ∈ wsX2_makesUp := by decide +kernel
theorem hX2_makesUp__fieldLink_RX2_36_MakeupGasModel_taken_I_ : Cond.fieldLink RX2 36 "MakeupGasModel" "taken" "[I" ∈ wsX2_makesUp := by decide +kernel
theorem hX2_makesUp__fieldLink_RX2_46_MakeupGasModel_surpluses_I_ : Cond.fieldLink RX2 46 "MakeupGasModel" "surpluses" "[I" ∈ wsX2_makesUp := by decide +kernel
theorem hX2_makesUp__fieldLink_RX2_8_MakeupGasModel_quantity_I_ : Cond.fieldLink RX2 8 "MakeupGasModel" "quantity" "I" ∈ wsX2_makesUp := by decide +kernel
theorem hX2_makesUp__fieldLink_RX2_52_MakeupGasModel_surplusLeft_I_ : Cond.fieldLink RX2 52 "MakeupGasModel" "surplusLeft" "[I" ∈ wsX2_makesUp := by decide +kernel
theorem hX2_makesUp__fieldLink_RX2_61_MakeupGasModel_dues_J_ : Cond.fieldLink RX2 61 "MakeupGasModel" "dues" "[J" ∈ wsX2_makesUp := by decide +kernel
theorem hX2_makesUp__fieldLink_RX2_26_MakeupGasModel_prices_I_ : Cond.fieldLink RX2 26 "MakeupGasModel" "prices" "[I" ∈ wsX2_makesUp := by decide +kernel
theorem hX2_makesUp__fieldLink_RX2_49_MakeupGasModel_makeUpLeft_I_ : Cond.fieldLink RX2 49 "MakeupGasModel" "makeUpLeft" "[I" ∈ wsX2_makesUp := by decide +kernel
set_option maxHeartbeats 4000000 in
set_option maxRecDepth 100000 in
theorem c_X2_makesUp (l : Launch) (D : va_G) (sz : Nat) (bd : Nat → Nat) (cI cL : ClassId) (th qy lp sp : Int32) (mK uK : Nat) (pr ex dy tk : Nat → Int32) (bi : Nat → Int64) (c : Nat) (sh sr mk su mu co : Nat → Int32) (du : Nat → Int64) (mS : Int32) (y : Nat) (w : Int32) (hy : y < 20) : gCv l yX2_makesUp wsX2_makesUp ({ frames := 1, cells := 0, slots := 0, locals := 21 } : Room) D [(cI, .int), (cL, .long)] [.ref (bd 0), .int (nI y), .int w] (wM bd cI cL th qy lp sp (nI mK) (nI uK) pr ex dy tk bi (nI c) sh sr mk su mu co du mS) (wM bd cI cL th qy lp sp (nI mK) (nI uK) pr ex dy tk bi (nI c) sh (upd sr y (if qy < (tk y - (dw mk w y).2) then (tk y - (dw mk w y).2) - qy else 0)) ((dw mk w y).1) (upd su y (if qy < (tk y - (dw mk w y).2) then (tk y - (dw mk w y).2) - qy else 0)) (upd mu y (dw mk w y).2) co (vp_updL du y ((tk y - (dw mk w y).2).toInt64 * (pr y).toInt64 + dwa mk w pr sp y y)) mS) True 0 0 sz := by
  refine gm_v (cc := cX2_makesUp) (maxL := 9) (by decide) rfl (Nat.le_of_ble_eq_true rfl) ?_
  intro pg en s m args below meth cd A ls hx hb hr hml hown hts hlocks hin hA hK hP hD hl
  have hl : lv_has ls 9 [(0, .ref (bd 0)), (1, .int (nI y)), (2, .int w)] := hl
  have hS : va_S A s.heap s.heap [] := va_S.rf
  refine lv_iload_n hx hb dX2_makesUp_0 rfl (lv_at hl 2 rfl) ?_
  refine gj_i ((i32_s0 w).symm) ?_
  refine lv_istore_n (lv' := [(3, .int (w - (dw mk w 0).2)), (0, .ref (bd 0)), (1, .int (nI y)), (2, .int w)]) hx hb dX2_makesUp_1 rfl hl (by decide) rfl (fun ls hl => ?_)
  refine lv_lconst (v := 0) hx hb dX2_makesUp_2 (by decide) ?_
  refine lv_lstore (lv' := [(4, .long 0), (3, .int (w - (dw mk w 0).2)), (0, .ref (bd 0)), (1, .int (nI y)), (2, .int w)]) hx hb dX2_makesUp_3 hl (by decide) rfl (fun ls hl => ?_)
  refine lv_iconst (v := 0) hx hb dX2_makesUp_5 (by decide) ?_
  refine lv_istore (lv' := [(6, .int 0), (4, .long 0), (3, .int (w - (dw mk w 0).2)), (0, .ref (bd 0)), (1, .int (nI y)), (2, .int w)]) hx hb dX2_makesUp_6 hl (by decide) rfl (fun ls hl => ?_)
  have lp_8 : ∀ (n i : Nat), i ≤ y → y < i + n → ∀ (H : Heap) (locs : List Loc), va_P D vwCl (wM bd cI cL th qy lp sp (nI mK) (nI uK) pr ex dy tk bi (nI c) sh sr ((dw mk w i).1) su mu co du mS) H → va_D A (wM bd cI cL th qy lp sp (nI mK) (nI uK) pr ex dy tk bi (nI c) sh sr ((dw mk w i).1) su mu co du mS) → va_S A s.heap H locs → ∀ (ls : Array Slot), lv_has ls 9 [(0, .ref (bd 0)), (1, .int (nI y)), (2, .int w), (3, .int (w - (dw mk w i).2)), (4, .long (dwa mk w pr sp y i)), (6, .int (nI i))] → W pg l en ({ frames := 1, cells := 0, slots := 0, locals := 21 } : Room) s m args below meth cd H locs 0 0 (gEv True below D [(cI, .int), (cL, .long)] (wM bd cI cL th qy lp sp (nI mK) (nI uK) pr ex dy tk bi (nI c) sh (upd sr y (if qy < (tk y - (dw mk w y).2) then (tk y - (dw mk w y).2) - qy else 0)) ((dw mk w y).1) (upd su y (if qy < (tk y - (dw mk w y).2) then (tk y - (dw mk w y).2) - qy else 0)) (upd mu y (dw mk w y).2) co (vp_updL du y ((tk y - (dw mk w y).2).toInt64 * (pr y).toInt64 + dwa mk w pr sp y y)) mS) A args s 0 0) (F0 m 8 ls []) := by
    intro n
    induction n with
    | zero => intro i h1 h2; exact absurd h2 (by omega)
    | succ n ih =>
      intro i hi hin2  H locs hP hD hS ls hl
      refine lv_iload hx hb dX2_makesUp_8 (lv_at hl 5 rfl) ?_
      refine lv_iload_n hx hb dX2_makesUp_10 rfl (lv_at hl 1 rfl) ?_
      refine lv_icmp_ge (tgt := 97) hx hb dX2_makesUp_11 (by decide) (fun c1 => ?_) (fun c1 => ?_)
      · obtain rfl : i = y := Nat.le_antisymm hi (Nat.not_lt.mp fun h => absurd c1 (nI_ge h (by omega)))
        refine lv_aload_n hx hb dX2_makesUp_97 rfl (lv_at hl 0 rfl) ?_
        refine va_get (D := D) (ci := 2) (C := RX2) (T := TX2) (N := 20) hx hb hts inX2_makesUp_X2 hown hK hP 0 rfl rfl 16 (by decide) (hts _ hX2_makesUp__fieldLink_RX2_55_MakeupGasModel_madeUp_I_) (fun _ h9 => h9) rfl dX2_makesUp_98 ?_
        refine lv_iload_n hx hb dX2_makesUp_101 rfl (lv_at hl 1 rfl) ?_
        refine lv_iload_n hx hb dX2_makesUp_102 rfl (lv_at hl 2 rfl) ?_
        refine lv_iload_n hx hb dX2_makesUp_103 rfl (lv_at hl 3 rfl) ?_
        refine lv_isub hx hb dX2_makesUp_104 ?_
        refine gj_i (i32_sss w _) ?_
        refine ga_iast (j := i) (ws' := (wM bd cI cL th qy lp sp (nI mK) (nI uK) pr ex dy tk bi (nI c) sh sr ((dw mk w i).1) su (upd mu i ((dw mk w i).2)) co du mS)) hx hb hK hP hD hS 10 0 rfl rfl hy (by decide) dX2_makesUp_105 rfl (fun H locs hP hD hS => ?_)
        refine lv_aload_n hx hb dX2_makesUp_106 rfl (lv_at hl 0 rfl) ?_
        refine va_get (D := D) (ci := 2) (C := RX2) (T := TX2) (N := 20) hx hb hts inX2_makesUp_X2 hown hK hP 0 rfl rfl 9 (by decide) (hts _ hX2_makesUp__fieldLink_RX2_36_MakeupGasModel_taken_I_) (fun _ h9 => h9) rfl dX2_makesUp_107 ?_
        refine lv_iload_n hx hb dX2_makesUp_110 rfl (lv_at hl 1 rfl) ?_
        refine ga_iald (j := i) hx hb hK hP 4 0 rfl rfl hy (by decide) dX2_makesUp_111 ?_
        refine lv_aload_n hx hb dX2_makesUp_112 rfl (lv_at hl 0 rfl) ?_
        refine va_get (D := D) (ci := 2) (C := RX2) (T := TX2) (N := 20) hx hb hts inX2_makesUp_X2 hown hK hP 0 rfl rfl 16 (by decide) (hts _ hX2_makesUp__fieldLink_RX2_55_MakeupGasModel_madeUp_I_) (fun _ h9 => h9) rfl dX2_makesUp_113 ?_
        refine lv_iload_n hx hb dX2_makesUp_116 rfl (lv_at hl 1 rfl) ?_
        refine ga_iald (j := i) hx hb hK hP 10 0 rfl rfl hy (by decide) dX2_makesUp_117 ?_
        refine gj_i pk_us ?_
        refine lv_isub hx hb dX2_makesUp_118 ?_
        refine lv_istore (lv' := [(6, .int ((tk i) - ((dw mk w i).2))), (0, .ref (bd 0)), (1, .int (nI i)), (2, .int w), (3, .int (w - (dw mk w i).2)), (4, .long (dwa mk w pr sp i i))]) hx hb dX2_makesUp_119 hl (by decide) rfl (fun ls hl => ?_)
        refine lv_aload_n hx hb dX2_makesUp_121 rfl (lv_at hl 1 rfl) ?_
        refine va_get (D := D) (ci := 2) (C := RX2) (T := TX2) (N := 20) hx hb hts inX2_makesUp_X2 hown hK hP 0 rfl rfl 13 (by decide) (hts _ hX2_makesUp__fieldLink_RX2_46_MakeupGasModel_surpluses_I_) (fun _ h9 => h9) rfl dX2_makesUp_122 ?_
        refine lv_iload_n hx hb dX2_makesUp_125 rfl (lv_at hl 2 rfl) ?_
        refine lv_iload hx hb dX2_makesUp_126 (lv_at hl 0 rfl) ?_
        refine lv_aload_n hx hb dX2_makesUp_128 rfl (lv_at hl 1 rfl) ?_
        refine va_get (D := D) (ci := 2) (C := RX2) (T := TX2) (N := 20) hx hb hts inX2_makesUp_X2 hown hK hP 0 rfl rfl 1 (by decide) (hts _ hX2_makesUp__fieldLink_RX2_8_MakeupGasModel_quantity_I_) (fun _ h9 => h9) rfl dX2_makesUp_129 ?_
        have k146 : W pg l en ({ frames := 1, cells := 0, slots := 0, locals := 21 } : Room) s m args below meth cd H locs 0 0 (gEv True below D [(cI, .int), (cL, .long)] (wM bd cI cL th qy lp sp (nI mK) (nI uK) pr ex dy tk bi (nI c) sh (upd sr i (if qy < (tk i - (dw mk w i).2) then (tk i - (dw mk w i).2) - qy else 0)) ((dw mk w i).1) (upd su i (if qy < (tk i - (dw mk w i).2) then (tk i - (dw mk w i).2) - qy else 0)) (upd mu i (dw mk w i).2) co (vp_updL du i ((tk i - (dw mk w i).2).toInt64 * (pr i).toInt64 + dwa mk w pr sp i i)) mS) A args s 0 0) (F0 m 146 ls [.int (if qy < (tk i - (dw mk w i).2) then (tk i - (dw mk w i).2) - qy else 0), .int (nI i), .ref (bd 7)]) := by
          refine ga_iast (j := i) (ws' := (wM bd cI cL th qy lp sp (nI mK) (nI uK) pr ex dy tk bi (nI c) sh (upd sr i (if qy < (tk i - (dw mk w i).2) then (tk i - (dw mk w i).2) - qy else 0)) ((dw mk w i).1) su (upd mu i ((dw mk w i).2)) co du mS)) hx hb hK hP hD hS 7 0 rfl rfl hy (by decide) dX2_makesUp_146 rfl (fun H locs hP hD hS => ?_)
          refine lv_aload_n hx hb dX2_makesUp_147 rfl (lv_at hl 1 rfl) ?_
          refine va_get (D := D) (ci := 2) (C := RX2) (T := TX2) (N := 20) hx hb hts inX2_makesUp_X2 hown hK hP 0 rfl rfl 15 (by decide) (hts _ hX2_makesUp__fieldLink_RX2_52_MakeupGasModel_surplusLeft_I_) (fun _ h9 => h9) rfl dX2_makesUp_148 ?_
          refine lv_iload_n hx hb dX2_makesUp_151 rfl (lv_at hl 2 rfl) ?_
          refine lv_aload_n hx hb dX2_makesUp_152 rfl (lv_at hl 1 rfl) ?_
          refine va_get (D := D) (ci := 2) (C := RX2) (T := TX2) (N := 20) hx hb hts inX2_makesUp_X2 hown hK hP 0 rfl rfl 13 (by decide) (hts _ hX2_makesUp__fieldLink_RX2_46_MakeupGasModel_surpluses_I_) (fun _ h9 => h9) rfl dX2_makesUp_153 ?_
          refine lv_iload_n hx hb dX2_makesUp_156 rfl (lv_at hl 2 rfl) ?_
          refine ga_iald (j := i) hx hb hK hP 7 0 rfl rfl hy (by decide) dX2_makesUp_157 ?_
          refine gj_i pk_us ?_
          refine ga_iast (j := i) (ws' := (wM bd cI cL th qy lp sp (nI mK) (nI uK) pr ex dy tk bi (nI c) sh (upd sr i (if qy < (tk i - (dw mk w i).2) then (tk i - (dw mk w i).2) - qy else 0)) ((dw mk w i).1) (upd su i (if qy < (tk i - (dw mk w i).2) then (tk i - (dw mk w i).2) - qy else 0)) (upd mu i ((dw mk w i).2)) co du mS)) hx hb hK hP hD hS 9 0 rfl rfl hy (by decide) dX2_makesUp_158 rfl (fun H locs hP hD hS => ?_)
          refine lv_aload_n hx hb dX2_makesUp_159 rfl (lv_at hl 1 rfl) ?_
          refine va_get (D := D) (ci := 2) (C := RX2) (T := TX2) (N := 20) hx hb hts inX2_makesUp_X2 hown hK hP 0 rfl rfl 18 (by decide) (hts _ hX2_makesUp__fieldLink_RX2_61_MakeupGasModel_dues_J_) (fun _ h9 => h9) rfl dX2_makesUp_160 ?_
          refine lv_iload_n hx hb dX2_makesUp_163 rfl (lv_at hl 2 rfl) ?_
          refine lv_iload hx hb dX2_makesUp_164 (lv_at hl 0 rfl) ?_
          refine lv_i2l hx hb dX2_makesUp_166 rfl ?_
          refine lv_aload_n hx hb dX2_makesUp_167 rfl (lv_at hl 1 rfl) ?_
          refine va_get (D := D) (ci := 2) (C := RX2) (T := TX2) (N := 20) hx hb hts inX2_makesUp_X2 hown hK hP 0 rfl rfl 6 (by decide) (hts _ hX2_makesUp__fieldLink_RX2_26_MakeupGasModel_prices_I_) (fun _ h9 => h9) rfl dX2_makesUp_168 ?_
          refine lv_iload_n hx hb dX2_makesUp_171 rfl (lv_at hl 2 rfl) ?_
          refine ga_iald (j := i) hx hb hK hP 1 0 rfl rfl hy (by decide) dX2_makesUp_172 ?_
          refine lv_i2l hx hb dX2_makesUp_173 rfl ?_
          refine lv_lmul hx hb dX2_makesUp_174 ?_
          refine lv_lload hx hb dX2_makesUp_175 (lv_at hl 5 rfl) ?_
          refine lv_ladd hx hb dX2_makesUp_177 ?_
          refine ga_last (j := i) (ws' := (wM bd cI cL th qy lp sp (nI mK) (nI uK) pr ex dy tk bi (nI c) sh (upd sr i (if qy < (tk i - (dw mk w i).2) then (tk i - (dw mk w i).2) - qy else 0)) ((dw mk w i).1) (upd su i (if qy < (tk i - (dw mk w i).2) then (tk i - (dw mk w i).2) - qy else 0)) (upd mu i ((dw mk w i).2)) co (vp_updL du i (((((tk i) - ((dw mk w i).2)).toInt64) * ((pr i).toInt64)) + (dwa mk w pr sp i i))) mS)) hx hb hK hP hD hS 12 1 rfl rfl hy (by decide) dX2_makesUp_178 rfl (fun H locs hP hD hS => ?_)
          exact ge_v hx hb hr hlocks hK hP hD hS trivial (Nat.le_of_ble_eq_true rfl) (Nat.le_of_ble_eq_true rfl) dX2_makesUp_179
        refine lv_icmp_le (tgt := 145) hx hb dX2_makesUp_132 (by decide) (fun c2 => ?_) (fun c2 => ?_)
        · refine lv_iconst (v := 0) hx hb dX2_makesUp_145 (by decide) ?_
          exact gj_i (if_neg (Int32.not_lt.mpr c2)).symm k146
        · refine lv_iload hx hb dX2_makesUp_135 (lv_at hl 0 rfl) ?_
          refine lv_aload_n hx hb dX2_makesUp_137 rfl (lv_at hl 1 rfl) ?_
          refine va_get (D := D) (ci := 2) (C := RX2) (T := TX2) (N := 20) hx hb hts inX2_makesUp_X2 hown hK hP 0 rfl rfl 1 (by decide) (hts _ hX2_makesUp__fieldLink_RX2_8_MakeupGasModel_quantity_I_) (fun _ h9 => h9) rfl dX2_makesUp_138 ?_
          refine lv_isub hx hb dX2_makesUp_141 ?_
          refine lv_goto (tgt := 146) hx hb dX2_makesUp_142 (by decide) ?_
          exact gj_i (if_pos (Int32.not_le.mp c2)).symm k146
      · have hiy : i < y := Nat.not_le.mp (fun h => c1 (nI_le h (by omega)))
        have hi3 : i < 20 := by omega
        refine lv_aload_n hx hb dX2_makesUp_14 rfl (lv_at hl 0 rfl) ?_
        refine va_get (D := D) (ci := 2) (C := RX2) (T := TX2) (N := 20) hx hb hts inX2_makesUp_X2 hown hK hP 0 rfl rfl 14 (by decide) (hts _ hX2_makesUp__fieldLink_RX2_49_MakeupGasModel_makeUpLeft_I_) (fun _ h9 => h9) rfl dX2_makesUp_15 ?_
        refine lv_iload hx hb dX2_makesUp_18 (lv_at hl 5 rfl) ?_
        refine ga_iald (j := i) hx hb hK hP 8 0 rfl rfl hi3 (by decide) dX2_makesUp_20 ?_
        refine lv_iload_n hx hb dX2_makesUp_21 rfl (lv_at hl 3 rfl) ?_
        have k36 : W pg l en ({ frames := 1, cells := 0, slots := 0, locals := 21 } : Room) s m args below meth cd H locs 0 0 (gEv True below D [(cI, .int), (cL, .long)] (wM bd cI cL th qy lp sp (nI mK) (nI uK) pr ex dy tk bi (nI c) sh (upd sr y (if qy < (tk y - (dw mk w y).2) then (tk y - (dw mk w y).2) - qy else 0)) ((dw mk w y).1) (upd su y (if qy < (tk y - (dw mk w y).2) then (tk y - (dw mk w y).2) - qy else 0)) (upd mu y (dw mk w y).2) co (vp_updL du y ((tk y - (dw mk w y).2).toInt64 * (pr y).toInt64 + dwa mk w pr sp y y)) mS) A args s 0 0) (F0 m 36 ls [.int (mnI (w - (dw mk w i).2) ((dw mk w i).1 i))]) := by
          refine lv_istore (lv' := [(7, .int (mnI (w - (dw mk w i).2) ((dw mk w i).1 i))), (0, .ref (bd 0)), (1, .int (nI y)), (2, .int w), (3, .int (w - (dw mk w i).2)), (4, .long (dwa mk w pr sp y i)), (6, .int (nI i))]) hx hb dX2_makesUp_36 hl (by decide) rfl (fun ls hl => ?_)
          refine lv_aload_n hx hb dX2_makesUp_38 rfl (lv_at hl 1 rfl) ?_
          refine va_get (D := D) (ci := 2) (C := RX2) (T := TX2) (N := 20) hx hb hts inX2_makesUp_X2 hown hK hP 0 rfl rfl 6 (by decide) (hts _ hX2_makesUp__fieldLink_RX2_26_MakeupGasModel_prices_I_) (fun _ h9 => h9) rfl dX2_makesUp_39 ?_
          refine lv_iload_n hx hb dX2_makesUp_42 rfl (lv_at hl 2 rfl) ?_
          refine ga_iald (j := y) hx hb hK hP 1 0 rfl rfl hy (by decide) dX2_makesUp_43 ?_
          refine lv_aload_n hx hb dX2_makesUp_44 rfl (lv_at hl 1 rfl) ?_
          refine lv_iload hx hb dX2_makesUp_45 (lv_at hl 6 rfl) ?_
          refine gV_i (wc := (wM bd cI cL th qy lp sp (nI mK) (nI uK) pr ex dy tk bi (nI c) sh sr ((dw mk w i).1) su mu co du mS)) (wr := []) (w1 := (wM bd cI cL th qy lp sp (nI mK) (nI uK) pr ex dy tk bi (nI c) sh sr ((dw mk w i).1) su mu co du mS)) (W' := (wM bd cI cL th qy lp sp (nI mK) (nI uK) pr ex dy tk bi (nI c) sh sr ((dw mk w i).1) su mu co du mS)) (As := [.int (nI i)]) (rest := [.int (pr y)]) ⟨hx, hb, hml, hown, hts⟩ (c_X2_shortfallPrice l D H.size bd cI cL th qy lp sp mK uK pr ex dy tk bi c sh sr ((dw mk w i).1) su mu co du mS i hi3) (cwV 1 hts gX2_makesUp_X2_shortfallPrice rfl rfl rfl (by decide +kernel) ⟨(Nat.le_of_ble_eq_true rfl), (Nat.le_of_ble_eq_true rfl)⟩) hS hA hK hP hD [0, 1] rfl [0, 1, 2, 3, 4, 5, 6, 7, 8, 9, 10, 11, 12] [] [0, 1, 2, 3, 4, 5, 6, 7, 8, 9, 10, 11, 12] rfl (by decide) rfl (by decide) (by decide) rfl (by decide) 0 2 rfl rfl rfl rfl hl.1 rfl (Nat.le_of_ble_eq_true rfl) dX2_makesUp_47 ⟨(Nat.le_of_ble_eq_true rfl), (Nat.le_of_ble_eq_true rfl)⟩ (fun H locs _ hP hD hS => ?_)
          refine lv_isub hx hb dX2_makesUp_50 ?_
          refine lv_istore (lv' := [(8, .int ((pr y) - (spf pr sp i))), (7, .int (mnI (w - (dw mk w i).2) ((dw mk w i).1 i))), (0, .ref (bd 0)), (1, .int (nI y)), (2, .int w), (3, .int (w - (dw mk w i).2)), (4, .long (dwa mk w pr sp y i)), (6, .int (nI i))]) hx hb dX2_makesUp_51 hl (by decide) rfl (fun ls hl => ?_)
          refine lv_aload_n hx hb dX2_makesUp_53 rfl (lv_at hl 2 rfl) ?_
          refine va_get (D := D) (ci := 2) (C := RX2) (T := TX2) (N := 20) hx hb hts inX2_makesUp_X2 hown hK hP 0 rfl rfl 14 (by decide) (hts _ hX2_makesUp__fieldLink_RX2_49_MakeupGasModel_makeUpLeft_I_) (fun _ h9 => h9) rfl dX2_makesUp_54 ?_
          refine lv_iload hx hb dX2_makesUp_57 (lv_at hl 7 rfl) ?_
          refine lv_dup2_11 hx hb dX2_makesUp_59 rfl rfl ?_
          refine ga_iald (j := i) hx hb hK hP 8 0 rfl rfl hi3 (by decide) dX2_makesUp_60 ?_
          refine lv_iload hx hb dX2_makesUp_61 (lv_at hl 1 rfl) ?_
          refine lv_isub hx hb dX2_makesUp_63 ?_
          refine ga_iast (j := i) (ws' := (wM bd cI cL th qy lp sp (nI mK) (nI uK) pr ex dy tk bi (nI c) sh sr (upd ((dw mk w i).1) i ((((dw mk w i).1) i) - (mnI (w - (dw mk w i).2) ((dw mk w i).1 i)))) su mu co du mS)) hx hb hK hP hD hS 8 0 rfl rfl hi3 (by decide) dX2_makesUp_64 rfl (fun H locs hP hD hS => ?_)
          refine lv_iload_n hx hb dX2_makesUp_65 rfl (lv_at hl 5 rfl) ?_
          refine lv_iload hx hb dX2_makesUp_66 (lv_at hl 1 rfl) ?_
          refine lv_isub hx hb dX2_makesUp_68 ?_
          refine gj_i (i32_ss w _ _) ?_
          refine lv_istore_n (lv' := [(3, .int (w - (dw mk w (i + 1)).2)), (8, .int ((pr y) - (spf pr sp i))), (7, .int (mnI (w - (dw mk w i).2) ((dw mk w i).1 i))), (0, .ref (bd 0)), (1, .int (nI y)), (2, .int w), (4, .long (dwa mk w pr sp y i)), (6, .int (nI i))]) hx hb dX2_makesUp_69 rfl hl (by decide) rfl (fun ls hl => ?_)
          refine lv_lload hx hb dX2_makesUp_70 (lv_at hl 6 rfl) ?_
          refine lv_iload hx hb dX2_makesUp_72 (lv_at hl 1 rfl) ?_
          have k88 : W pg l en ({ frames := 1, cells := 0, slots := 0, locals := 21 } : Room) s m args below meth cd H locs 0 0 (gEv True below D [(cI, .int), (cL, .long)] (wM bd cI cL th qy lp sp (nI mK) (nI uK) pr ex dy tk bi (nI c) sh (upd sr y (if qy < (tk y - (dw mk w y).2) then (tk y - (dw mk w y).2) - qy else 0)) ((dw mk w y).1) (upd su y (if qy < (tk y - (dw mk w y).2) then (tk y - (dw mk w y).2) - qy else 0)) (upd mu y (dw mk w y).2) co (vp_updL du y ((tk y - (dw mk w y).2).toInt64 * (pr y).toInt64 + dwa mk w pr sp y y)) mS) A args s 0 0) (F0 m 88 ls [.long ((mnI (w - (dw mk w i).2) ((dw mk w i).1 i)).toInt64 * (mxI 0 (pr y - spf pr sp i)).toInt64), .long (dwa mk w pr sp y i)]) := by
            refine lv_ladd hx hb dX2_makesUp_88 ?_
            refine lv_lstore (lv' := [(4, .long (dwa mk w pr sp y (i + 1))), (3, .int (w - (dw mk w (i + 1)).2)), (8, .int ((pr y) - (spf pr sp i))), (7, .int (mnI (w - (dw mk w i).2) ((dw mk w i).1 i))), (0, .ref (bd 0)), (1, .int (nI y)), (2, .int w), (6, .int (nI i))]) hx hb dX2_makesUp_89 hl (by decide) rfl (fun ls hl => ?_)
            refine lv_iinc (v := nI (i + 1)) (lv' := [(6, .int (nI (i + 1))), (4, .long (dwa mk w pr sp y (i + 1))), (3, .int (w - (dw mk w (i + 1)).2)), (8, .int ((pr y) - (spf pr sp i))), (7, .int (mnI (w - (dw mk w i).2) ((dw mk w i).1 i))), (0, .ref (bd 0)), (1, .int (nI y)), (2, .int w)]) hx hb dX2_makesUp_91 hl (k := 7) rfl (gi_1 _) (by decide) rfl (fun ls hl => ?_)
            refine lv_goto (tgt := 8) hx hb dX2_makesUp_94 (by decide) ?_
            exact ih (i + 1) (by omega) (by omega) _ _ hP hD hS ls (lv_sub hl [5, 6, 7, 2, 1, 0] rfl)
          refine lv_if_le (tgt := 87) hx hb dX2_makesUp_74 (by decide) (fun c3 => ?_) (fun c3 => ?_)
          · refine lv_lconst (v := 0) hx hb dX2_makesUp_87 (by decide) ?_
            exact gj_l (mx_if2 c3) k88
          · refine lv_iload hx hb dX2_makesUp_77 (lv_at hl 2 rfl) ?_
            refine lv_i2l hx hb dX2_makesUp_79 rfl ?_
            refine lv_iload hx hb dX2_makesUp_80 (lv_at hl 1 rfl) ?_
            refine lv_i2l hx hb dX2_makesUp_82 rfl ?_
            refine lv_lmul hx hb dX2_makesUp_83 ?_
            refine lv_goto (tgt := 88) hx hb dX2_makesUp_84 (by decide) ?_
            exact gj_l (mx_if1 c3) k88
        refine lv_icmp_ge (tgt := 35) hx hb dX2_makesUp_22 (by decide) (fun c2 => ?_) (fun c2 => ?_)
        · refine lv_iload_n hx hb dX2_makesUp_35 rfl (lv_at hl 3 rfl) ?_
          exact gj_i (mn_if2 c2) k36
        · refine lv_aload_n hx hb dX2_makesUp_25 rfl (lv_at hl 0 rfl) ?_
          refine va_get (D := D) (ci := 2) (C := RX2) (T := TX2) (N := 20) hx hb hts inX2_makesUp_X2 hown hK hP 0 rfl rfl 14 (by decide) (hts _ hX2_makesUp__fieldLink_RX2_49_MakeupGasModel_makeUpLeft_I_) (fun _ h9 => h9) rfl dX2_makesUp_26 ?_
          refine lv_iload hx hb dX2_makesUp_29 (lv_at hl 5 rfl) ?_
          refine ga_iald (j := i) hx hb hK hP 8 0 rfl rfl hi3 (by decide) dX2_makesUp_31 ?_
          refine lv_goto (tgt := 36) hx hb dX2_makesUp_32 (by decide) ?_
          exact gj_i (mn_if1 c2) k36
  exact lp_8 (y + 1) 0 (by omega) (by omega) _ _ hP hD hS ls (lv_sub hl [3, 4, 5, 2, 1, 0] rfl)
theorem inX2_goesThrough_X2 : ∀ q ∈ wsX20, q ∈ wsX2_goesThrough := by decide +kernel
theorem hX2_goesThrough__fieldLink_RX2_73_MakeupGasModel_lapsed_I_ : Cond.fieldLink RX2 73 "MakeupGasModel" "lapsed" "I" ∈ wsX2_goesThrough := by decide +kernel
theorem hX2_goesThrough__fieldLink_RX2_80_MakeupGasModel_closed_I_ : Cond.fieldLink RX2 80 "MakeupGasModel" "closed" "I" ∈ wsX2_goesThrough := by decide +kernel
theorem hX2_goesThrough__fieldLink_RX2_43_MakeupGasModel_shortfalls_I_ : Cond.fieldLink RX2 43 "MakeupGasModel" "shortfalls" "[I" ∈ wsX2_goesThrough := by decide +kernel
theorem hX2_goesThrough__fieldLink_RX2_46_MakeupGasModel_surpluses_I_ : Cond.fieldLink RX2 46 "MakeupGasModel" "surpluses" "[I" ∈ wsX2_goesThrough := by decide +kernel
theorem hX2_goesThrough__fieldLink_RX2_49_MakeupGasModel_makeUpLeft_I_ : Cond.fieldLink RX2 49 "MakeupGasModel" "makeUpLeft" "[I" ∈ wsX2_goesThrough := by decide +kernel
theorem hX2_goesThrough__fieldLink_RX2_52_MakeupGasModel_surplusLeft_I_ : Cond.fieldLink RX2 52 "MakeupGasModel" "surplusLeft" "[I" ∈ wsX2_goesThrough := by decide +kernel
theorem hX2_goesThrough__fieldLink_RX2_55_MakeupGasModel_madeUp_I_ : Cond.fieldLink RX2 55 "MakeupGasModel" "madeUp" "[I" ∈ wsX2_goesThrough := by decide +kernel
theorem hX2_goesThrough__fieldLink_RX2_58_MakeupGasModel_covered_I_ : Cond.fieldLink RX2 58 "MakeupGasModel" "covered" "[I" ∈ wsX2_goesThrough := by decide +kernel
theorem hX2_goesThrough__fieldLink_RX2_36_MakeupGasModel_taken_I_ : Cond.fieldLink RX2 36 "MakeupGasModel" "taken" "[I" ∈ wsX2_goesThrough := by decide +kernel
set_option maxHeartbeats 4000000 in
set_option maxRecDepth 100000 in
theorem c_X2_goesThrough (l : Launch) (D : va_G) (sz : Nat) (bd : Nat → Nat) (cI cL : ClassId) (th qy lp sp : Int32) (mK uK : Nat) (pr ex dy tk : Nat → Int32) (bi : Nat → Int64) (c : Nat) (sh sr mk su mu co : Nat → Int32) (du : Nat → Int64) (mS : Int32) (hc : c ≤ 20) (hmK : mK < 20) (huK : uK < 20) : gCv l yX2_goesThrough wsX2_goesThrough ({ frames := 2, cells := 0, slots := 0, locals := 49 } : Room) D [(cI, .int), (cL, .long)] [.ref (bd 0)] (wM bd cI cL th qy lp sp (nI mK) (nI uK) pr ex dy tk bi (nI c) sh sr mk su mu co du mS) (wM bd cI cL th qy lp sp (nI mK) (nI uK) pr ex dy tk bi (nI c) (nSh (rtC qy lp sp pr ex tk mK uK (rt0 mk su sh mu co sr du) c)) (nSr (rtC qy lp sp pr ex tk mK uK (rt0 mk su sh mu co sr du) c)) (nMk (rtC qy lp sp pr ex tk mK uK (rt0 mk su sh mu co sr du) c)) (nSu (rtC qy lp sp pr ex tk mK uK (rt0 mk su sh mu co sr du) c)) (nMu (rtC qy lp sp pr ex tk mK uK (rt0 mk su sh mu co sr du) c)) (nCo (rtC qy lp sp pr ex tk mK uK (rt0 mk su sh mu co sr du) c)) (nDu (rtC qy lp sp pr ex tk mK uK (rt0 mk su sh mu co sr du) c)) (nMS (rtC qy lp sp pr ex tk mK uK (rt0 mk su sh mu co sr du) c))) True 0 0 sz := by
  refine gm_v (cc := cX2_goesThrough) (maxL := 3) (by decide) rfl (Nat.le_of_ble_eq_true rfl) ?_
  intro pg en s m args below meth cd A ls hx hb hr hml hown hts hlocks hin hA hK hP hD hl
  have hl : lv_has ls 3 [(0, .ref (bd 0))] := hl
  have hS : va_S A s.heap s.heap [] := va_S.rf
  refine lv_aload_n hx hb dX2_goesThrough_0 rfl (lv_at hl 0 rfl) ?_
  refine lv_iconst (v := 0) hx hb dX2_goesThrough_1 (by decide) ?_
  refine va_put (D := D) (ci := 2) (v := .int 0) (ty := .int) (C := RX2) (T := TX2) (N := 20) hx hb hts inX2_goesThrough_X2 tyX2 tyX2_ok nmX2 hown hK hP hD hS 0 rfl rfl 19 (by decide) (hts _ hX2_goesThrough__fieldLink_RX2_73_MakeupGasModel_lapsed_I_) (fun _ h9 => h9) (by decide +kernel) (by decide +kernel) rfl rfl (Nat.le_of_ble_eq_true rfl) dX2_goesThrough_2 (fun H locs hP hD hS => ?_)
  have hP : va_P D vwCl (wM bd cI cL th qy lp sp (nI mK) (nI uK) pr ex dy tk bi (nI c) sh sr mk su mu co du 0) H := hP
  have hD : va_D A (wM bd cI cL th qy lp sp (nI mK) (nI uK) pr ex dy tk bi (nI c) sh sr mk su mu co du 0) := hD
  refine lv_iconst (v := 0) hx hb dX2_goesThrough_5 (by decide) ?_
  refine lv_istore_n (lv' := [(1, .int 0), (0, .ref (bd 0))]) hx hb dX2_goesThrough_6 rfl hl (by decide) rfl (fun ls hl => ?_)
  obtain ⟨T, hT0, hTs, hTc⟩ : ∃ T : Nat → TM, T 0 = rt0 mk su sh mu co sr du ∧ (∀ n, T (n + 1) = rtp qy lp sp pr ex tk mK uK n (T n)) ∧ T c = rtC qy lp sp pr ex tk mK uK (rt0 mk su sh mu co sr du) c := ⟨rtC qy lp sp pr ex tk mK uK (rt0 mk su sh mu co sr du), rfl, fun _ => rfl, rfl⟩
  rw [← hTc]
  have hP : va_P D vwCl (wM bd cI cL th qy lp sp (nI mK) (nI uK) pr ex dy tk bi (nI c) (nSh (T 0)) (nSr (T 0)) (nMk (T 0)) (nSu (T 0)) (nMu (T 0)) (nCo (T 0)) (nDu (T 0)) (nMS (T 0))) H := by rw [hT0]; exact hP
  have hD : va_D A (wM bd cI cL th qy lp sp (nI mK) (nI uK) pr ex dy tk bi (nI c) (nSh (T 0)) (nSr (T 0)) (nMk (T 0)) (nSu (T 0)) (nMu (T 0)) (nCo (T 0)) (nDu (T 0)) (nMS (T 0))) := by rw [hT0]; exact hD
  have lp_7 : ∀ (n i : Nat), i ≤ c → c < i + n → ∀ (H : Heap) (locs : List Loc), va_P D vwCl (wM bd cI cL th qy lp sp (nI mK) (nI uK) pr ex dy tk bi (nI c) (nSh (T i)) (nSr (T i)) (nMk (T i)) (nSu (T i)) (nMu (T i)) (nCo (T i)) (nDu (T i)) (nMS (T i))) H → va_D A (wM bd cI cL th qy lp sp (nI mK) (nI uK) pr ex dy tk bi (nI c) (nSh (T i)) (nSr (T i)) (nMk (T i)) (nSu (T i)) (nMu (T i)) (nCo (T i)) (nDu (T i)) (nMS (T i))) → va_S A s.heap H locs → ∀ (ls : Array Slot), lv_has ls 3 [(0, .ref (bd 0)), (1, .int (nI i))] → W pg l en ({ frames := 2, cells := 0, slots := 0, locals := 49 } : Room) s m args below meth cd H locs 0 0 (gEv True below D [(cI, .int), (cL, .long)] (wM bd cI cL th qy lp sp (nI mK) (nI uK) pr ex dy tk bi (nI c) (nSh (T c)) (nSr (T c)) (nMk (T c)) (nSu (T c)) (nMu (T c)) (nCo (T c)) (nDu (T c)) (nMS (T c))) A args s 0 0) (F0 m 7 ls []) := by
    intro n
    induction n with
    | zero => intro i h1 h2; exact absurd h2 (by omega)
    | succ n ih =>
      intro i hi hin2  H locs hP hD hS ls hl
      refine lv_iload_n hx hb dX2_goesThrough_7 rfl (lv_at hl 1 rfl) ?_
      refine lv_aload_n hx hb dX2_goesThrough_8 rfl (lv_at hl 0 rfl) ?_
      refine va_get (D := D) (ci := 2) (C := RX2) (T := TX2) (N := 20) hx hb hts inX2_goesThrough_X2 hown hK hP 0 rfl rfl 11 (by decide) (hts _ hX2_goesThrough__fieldLink_RX2_80_MakeupGasModel_closed_I_) (fun _ h9 => h9) rfl dX2_goesThrough_9 ?_
      refine lv_icmp_ge (tgt := 113) hx hb dX2_goesThrough_12 (by decide) (fun c1 => ?_) (fun c1 => ?_)
      · obtain rfl : i = c := Nat.le_antisymm hi (Nat.not_lt.mp fun h => absurd c1 (nI_ge h (by omega)))
        exact ge_v hx hb hr hlocks hK hP hD hS trivial (Nat.le_of_ble_eq_true rfl) (Nat.le_of_ble_eq_true rfl) dX2_goesThrough_113
      · have hic : i < c := Nat.not_le.mp (fun h => c1 (nI_le h (by omega)))
        have hi3 : i < 20 := by omega
        refine lv_aload_n hx hb dX2_goesThrough_15 rfl (lv_at hl 0 rfl) ?_
        refine va_get (D := D) (ci := 2) (C := RX2) (T := TX2) (N := 20) hx hb hts inX2_goesThrough_X2 hown hK hP 0 rfl rfl 12 (by decide) (hts _ hX2_goesThrough__fieldLink_RX2_43_MakeupGasModel_shortfalls_I_) (fun _ h9 => h9) rfl dX2_goesThrough_16 ?_
        refine lv_iload_n hx hb dX2_goesThrough_19 rfl (lv_at hl 1 rfl) ?_
        refine lv_iconst (v := 0) hx hb dX2_goesThrough_20 (by decide) ?_
        refine ga_iast (j := i) (ws' := (wM bd cI cL th qy lp sp (nI mK) (nI uK) pr ex dy tk bi (nI c) (upd (nSh (T i)) i 0) (nSr (T i)) (nMk (T i)) (nSu (T i)) (nMu (T i)) (nCo (T i)) (nDu (T i)) (nMS (T i)))) hx hb hK hP hD hS 6 0 rfl rfl hi3 (by decide) dX2_goesThrough_21 rfl (fun H locs hP hD hS => ?_)
        refine lv_aload_n hx hb dX2_goesThrough_22 rfl (lv_at hl 0 rfl) ?_
        refine va_get (D := D) (ci := 2) (C := RX2) (T := TX2) (N := 20) hx hb hts inX2_goesThrough_X2 hown hK hP 0 rfl rfl 13 (by decide) (hts _ hX2_goesThrough__fieldLink_RX2_46_MakeupGasModel_surpluses_I_) (fun _ h9 => h9) rfl dX2_goesThrough_23 ?_
        refine lv_iload_n hx hb dX2_goesThrough_26 rfl (lv_at hl 1 rfl) ?_
        refine lv_iconst (v := 0) hx hb dX2_goesThrough_27 (by decide) ?_
        refine ga_iast (j := i) (ws' := (wM bd cI cL th qy lp sp (nI mK) (nI uK) pr ex dy tk bi (nI c) (upd (nSh (T i)) i 0) (upd (nSr (T i)) i 0) (nMk (T i)) (nSu (T i)) (nMu (T i)) (nCo (T i)) (nDu (T i)) (nMS (T i)))) hx hb hK hP hD hS 7 0 rfl rfl hi3 (by decide) dX2_goesThrough_28 rfl (fun H locs hP hD hS => ?_)
        refine lv_aload_n hx hb dX2_goesThrough_29 rfl (lv_at hl 0 rfl) ?_
        refine va_get (D := D) (ci := 2) (C := RX2) (T := TX2) (N := 20) hx hb hts inX2_goesThrough_X2 hown hK hP 0 rfl rfl 14 (by decide) (hts _ hX2_goesThrough__fieldLink_RX2_49_MakeupGasModel_makeUpLeft_I_) (fun _ h9 => h9) rfl dX2_goesThrough_30 ?_
        refine lv_iload_n hx hb dX2_goesThrough_33 rfl (lv_at hl 1 rfl) ?_
        refine lv_iconst (v := 0) hx hb dX2_goesThrough_34 (by decide) ?_
        refine ga_iast (j := i) (ws' := (wM bd cI cL th qy lp sp (nI mK) (nI uK) pr ex dy tk bi (nI c) (upd (nSh (T i)) i 0) (upd (nSr (T i)) i 0) (upd (nMk (T i)) i 0) (nSu (T i)) (nMu (T i)) (nCo (T i)) (nDu (T i)) (nMS (T i)))) hx hb hK hP hD hS 8 0 rfl rfl hi3 (by decide) dX2_goesThrough_35 rfl (fun H locs hP hD hS => ?_)
        refine lv_aload_n hx hb dX2_goesThrough_36 rfl (lv_at hl 0 rfl) ?_
        refine va_get (D := D) (ci := 2) (C := RX2) (T := TX2) (N := 20) hx hb hts inX2_goesThrough_X2 hown hK hP 0 rfl rfl 15 (by decide) (hts _ hX2_goesThrough__fieldLink_RX2_52_MakeupGasModel_surplusLeft_I_) (fun _ h9 => h9) rfl dX2_goesThrough_37 ?_
        refine lv_iload_n hx hb dX2_goesThrough_40 rfl (lv_at hl 1 rfl) ?_
        refine lv_iconst (v := 0) hx hb dX2_goesThrough_41 (by decide) ?_
        refine ga_iast (j := i) (ws' := (wM bd cI cL th qy lp sp (nI mK) (nI uK) pr ex dy tk bi (nI c) (upd (nSh (T i)) i 0) (upd (nSr (T i)) i 0) (upd (nMk (T i)) i 0) (upd (nSu (T i)) i 0) (nMu (T i)) (nCo (T i)) (nDu (T i)) (nMS (T i)))) hx hb hK hP hD hS 9 0 rfl rfl hi3 (by decide) dX2_goesThrough_42 rfl (fun H locs hP hD hS => ?_)
        refine lv_aload_n hx hb dX2_goesThrough_43 rfl (lv_at hl 0 rfl) ?_
        refine va_get (D := D) (ci := 2) (C := RX2) (T := TX2) (N := 20) hx hb hts inX2_goesThrough_X2 hown hK hP 0 rfl rfl 16 (by decide) (hts _ hX2_goesThrough__fieldLink_RX2_55_MakeupGasModel_madeUp_I_) (fun _ h9 => h9) rfl dX2_goesThrough_44 ?_
        refine lv_iload_n hx hb dX2_goesThrough_47 rfl (lv_at hl 1 rfl) ?_
        refine lv_iconst (v := 0) hx hb dX2_goesThrough_48 (by decide) ?_
        refine ga_iast (j := i) (ws' := (wM bd cI cL th qy lp sp (nI mK) (nI uK) pr ex dy tk bi (nI c) (upd (nSh (T i)) i 0) (upd (nSr (T i)) i 0) (upd (nMk (T i)) i 0) (upd (nSu (T i)) i 0) (upd (nMu (T i)) i 0) (nCo (T i)) (nDu (T i)) (nMS (T i)))) hx hb hK hP hD hS 10 0 rfl rfl hi3 (by decide) dX2_goesThrough_49 rfl (fun H locs hP hD hS => ?_)
        refine lv_aload_n hx hb dX2_goesThrough_50 rfl (lv_at hl 0 rfl) ?_
        refine va_get (D := D) (ci := 2) (C := RX2) (T := TX2) (N := 20) hx hb hts inX2_goesThrough_X2 hown hK hP 0 rfl rfl 17 (by decide) (hts _ hX2_goesThrough__fieldLink_RX2_58_MakeupGasModel_covered_I_) (fun _ h9 => h9) rfl dX2_goesThrough_51 ?_
        refine lv_iload_n hx hb dX2_goesThrough_54 rfl (lv_at hl 1 rfl) ?_
        refine lv_iconst (v := 0) hx hb dX2_goesThrough_55 (by decide) ?_
        refine ga_iast (j := i) (ws' := (wM bd cI cL th qy lp sp (nI mK) (nI uK) pr ex dy tk bi (nI c) (upd (nSh (T i)) i 0) (upd (nSr (T i)) i 0) (upd (nMk (T i)) i 0) (upd (nSu (T i)) i 0) (upd (nMu (T i)) i 0) (upd (nCo (T i)) i 0) (nDu (T i)) (nMS (T i)))) hx hb hK hP hD hS 11 0 rfl rfl hi3 (by decide) dX2_goesThrough_56 rfl (fun H locs hP hD hS => ?_)
        refine lv_aload_n hx hb dX2_goesThrough_57 rfl (lv_at hl 0 rfl) ?_
        refine lv_iload_n hx hb dX2_goesThrough_58 rfl (lv_at hl 1 rfl) ?_
        refine gV_v (wc := (wM bd cI cL th qy lp sp (nI mK) (nI uK) pr ex dy tk bi (nI c) (upd (nSh (T i)) i 0) (upd (nSr (T i)) i 0) (upd (nMk (T i)) i 0) (upd (nSu (T i)) i 0) (upd (nMu (T i)) i 0) (upd (nCo (T i)) i 0) (nDu (T i)) (nMS (T i)))) (wr := []) (w1 := (wM bd cI cL th qy lp sp (nI mK) (nI uK) pr ex dy tk bi (nI c) (upd (nSh (T i)) i 0) (upd (nSr (T i)) i 0) (lsF (upd (nMk (T i)) i 0) mK i i) (lsF (upd (nSu (T i)) i 0) uK i i) (upd (nMu (T i)) i 0) (upd (nCo (T i)) i 0) (nDu (T i)) (lsZ (upd (nMk (T i)) i 0) (nMS (T i)) mK i i))) (W' := (wM bd cI cL th qy lp sp (nI mK) (nI uK) pr ex dy tk bi (nI c) (upd (nSh (T i)) i 0) (upd (nSr (T i)) i 0) (lsF (upd (nMk (T i)) i 0) mK i i) (lsF (upd (nSu (T i)) i 0) uK i i) (upd (nMu (T i)) i 0) (upd (nCo (T i)) i 0) (nDu (T i)) (lsZ (upd (nMk (T i)) i 0) (nMS (T i)) mK i i))) (As := [.int (nI i)]) (rest := []) ⟨hx, hb, hml, hown, hts⟩ (c_X2_lapses l D H.size bd cI cL th qy lp sp mK uK pr ex dy tk bi c (upd (nSh (T i)) i 0) (upd (nSr (T i)) i 0) (upd (nMk (T i)) i 0) (upd (nSu (T i)) i 0) (upd (nMu (T i)) i 0) (upd (nCo (T i)) i 0) (nDu (T i)) (nMS (T i)) i hi3 hmK huK) (cwV 1 hts gX2_goesThrough_X2_lapses rfl rfl rfl (by decide +kernel) ⟨(Nat.le_of_ble_eq_true rfl), (Nat.le_of_ble_eq_true rfl)⟩) hS hA hK hP hD [0, 1] rfl [0, 1, 2, 3, 4, 5, 6, 7, 8, 9, 10, 11, 12] [] [0, 1, 2, 3, 4, 5, 6, 7, 8, 9, 10, 11, 12] rfl (by decide) rfl (by decide) (by decide) rfl (by decide) 0 2 rfl rfl rfl rfl hl.1 rfl (Nat.le_of_ble_eq_true rfl) dX2_goesThrough_59 ⟨(Nat.le_of_ble_eq_true rfl), (Nat.le_of_ble_eq_true rfl)⟩ (fun H locs _ hP hD hS => ?_)
        refine lv_aload_n hx hb dX2_goesThrough_62 rfl (lv_at hl 0 rfl) ?_
        refine lv_iload_n hx hb dX2_goesThrough_63 rfl (lv_at hl 1 rfl) ?_
        refine gV_i (wc := (wM bd cI cL th qy lp sp (nI mK) (nI uK) pr ex dy tk bi (nI c) (upd (nSh (T i)) i 0) (upd (nSr (T i)) i 0) (lsF (upd (nMk (T i)) i 0) mK i i) (lsF (upd (nSu (T i)) i 0) uK i i) (upd (nMu (T i)) i 0) (upd (nCo (T i)) i 0) (nDu (T i)) (lsZ (upd (nMk (T i)) i 0) (nMS (T i)) mK i i))) (wr := []) (w1 := (wM bd cI cL th qy lp sp (nI mK) (nI uK) pr ex dy tk bi (nI c) (upd (nSh (T i)) i 0) (upd (nSr (T i)) i 0) (lsF (upd (nMk (T i)) i 0) mK i i) (lsF (upd (nSu (T i)) i 0) uK i i) (upd (nMu (T i)) i 0) (upd (nCo (T i)) i 0) (nDu (T i)) (lsZ (upd (nMk (T i)) i 0) (nMS (T i)) mK i i))) (W' := (wM bd cI cL th qy lp sp (nI mK) (nI uK) pr ex dy tk bi (nI c) (upd (nSh (T i)) i 0) (upd (nSr (T i)) i 0) (lsF (upd (nMk (T i)) i 0) mK i i) (lsF (upd (nSu (T i)) i 0) uK i i) (upd (nMu (T i)) i 0) (upd (nCo (T i)) i 0) (nDu (T i)) (lsZ (upd (nMk (T i)) i 0) (nMS (T i)) mK i i))) (As := [.int (nI i)]) (rest := []) ⟨hx, hb, hml, hown, hts⟩ (c_X2_leastOf l D H.size bd cI cL th qy lp sp mK uK pr ex dy tk bi c (upd (nSh (T i)) i 0) (upd (nSr (T i)) i 0) (lsF (upd (nMk (T i)) i 0) mK i i) (lsF (upd (nSu (T i)) i 0) uK i i) (upd (nMu (T i)) i 0) (upd (nCo (T i)) i 0) (nDu (T i)) (lsZ (upd (nMk (T i)) i 0) (nMS (T i)) mK i i) i hi3) (cwV 1 hts gX2_goesThrough_X2_leastOf rfl rfl rfl (by decide +kernel) ⟨(Nat.le_of_ble_eq_true rfl), (Nat.le_of_ble_eq_true rfl)⟩) hS hA hK hP hD [0, 1] rfl [0, 1, 2, 3, 4, 5, 6, 7, 8, 9, 10, 11, 12] [] [0, 1, 2, 3, 4, 5, 6, 7, 8, 9, 10, 11, 12] rfl (by decide) rfl (by decide) (by decide) rfl (by decide) 0 2 rfl rfl rfl rfl hl.1 rfl (Nat.le_of_ble_eq_true rfl) dX2_goesThrough_64 ⟨(Nat.le_of_ble_eq_true rfl), (Nat.le_of_ble_eq_true rfl)⟩ (fun H locs _ hP hD hS => ?_)
        refine lv_istore_n (lv' := [(2, .int (lqf qy lp ex i)), (0, .ref (bd 0)), (1, .int (nI i))]) hx hb dX2_goesThrough_67 rfl hl (by decide) rfl (fun ls hl => ?_)
        refine lv_aload_n hx hb dX2_goesThrough_68 rfl (lv_at hl 1 rfl) ?_
        refine va_get (D := D) (ci := 2) (C := RX2) (T := TX2) (N := 20) hx hb hts inX2_goesThrough_X2 hown hK hP 0 rfl rfl 9 (by decide) (hts _ hX2_goesThrough__fieldLink_RX2_36_MakeupGasModel_taken_I_) (fun _ h9 => h9) rfl dX2_goesThrough_69 ?_
        refine lv_iload_n hx hb dX2_goesThrough_72 rfl (lv_at hl 2 rfl) ?_
        refine ga_iald (j := i) hx hb hK hP 4 0 rfl rfl hi3 (by decide) dX2_goesThrough_73 ?_
        refine lv_iload_n hx hb dX2_goesThrough_74 rfl (lv_at hl 0 rfl) ?_
        refine lv_icmp_ge (tgt := 94) hx hb dX2_goesThrough_75 (by decide) (fun c2 => ?_) (fun c2 => ?_)
        · refine lv_aload_n hx hb dX2_goesThrough_94 rfl (lv_at hl 1 rfl) ?_
          refine lv_iload_n hx hb dX2_goesThrough_95 rfl (lv_at hl 2 rfl) ?_
          refine lv_aload_n hx hb dX2_goesThrough_96 rfl (lv_at hl 1 rfl) ?_
          refine va_get (D := D) (ci := 2) (C := RX2) (T := TX2) (N := 20) hx hb hts inX2_goesThrough_X2 hown hK hP 0 rfl rfl 9 (by decide) (hts _ hX2_goesThrough__fieldLink_RX2_36_MakeupGasModel_taken_I_) (fun _ h9 => h9) rfl dX2_goesThrough_97 ?_
          refine lv_iload_n hx hb dX2_goesThrough_100 rfl (lv_at hl 2 rfl) ?_
          refine ga_iald (j := i) hx hb hK hP 4 0 rfl rfl hi3 (by decide) dX2_goesThrough_101 ?_
          refine lv_iload_n hx hb dX2_goesThrough_102 rfl (lv_at hl 0 rfl) ?_
          refine lv_isub hx hb dX2_goesThrough_103 ?_
          refine gV_v (wc := (wM bd cI cL th qy lp sp (nI mK) (nI uK) pr ex dy tk bi (nI c) (upd (nSh (T i)) i 0) (upd (nSr (T i)) i 0) (lsF (upd (nMk (T i)) i 0) mK i i) (lsF (upd (nSu (T i)) i 0) uK i i) (upd (nMu (T i)) i 0) (upd (nCo (T i)) i 0) (nDu (T i)) (lsZ (upd (nMk (T i)) i 0) (nMS (T i)) mK i i))) (wr := []) (w1 := (wM bd cI cL th qy lp sp (nI mK) (nI uK) pr ex dy tk bi (nI c) (upd (nSh (T i)) i 0) (upd (upd (nSr (T i)) i 0) i (if qy < (tk i - (dw (lsF (upd (nMk (T i)) i 0) mK i i) ((tk i) - (lqf qy lp ex i)) i).2) then (tk i - (dw (lsF (upd (nMk (T i)) i 0) mK i i) ((tk i) - (lqf qy lp ex i)) i).2) - qy else 0)) ((dw (lsF (upd (nMk (T i)) i 0) mK i i) ((tk i) - (lqf qy lp ex i)) i).1) (upd (lsF (upd (nSu (T i)) i 0) uK i i) i (if qy < (tk i - (dw (lsF (upd (nMk (T i)) i 0) mK i i) ((tk i) - (lqf qy lp ex i)) i).2) then (tk i - (dw (lsF (upd (nMk (T i)) i 0) mK i i) ((tk i) - (lqf qy lp ex i)) i).2) - qy else 0)) (upd (upd (nMu (T i)) i 0) i (dw (lsF (upd (nMk (T i)) i 0) mK i i) ((tk i) - (lqf qy lp ex i)) i).2) (upd (nCo (T i)) i 0) (vp_updL (nDu (T i)) i ((tk i - (dw (lsF (upd (nMk (T i)) i 0) mK i i) ((tk i) - (lqf qy lp ex i)) i).2).toInt64 * (pr i).toInt64 + dwa (lsF (upd (nMk (T i)) i 0) mK i i) ((tk i) - (lqf qy lp ex i)) pr sp i i)) (lsZ (upd (nMk (T i)) i 0) (nMS (T i)) mK i i))) (W' := (wM bd cI cL th qy lp sp (nI mK) (nI uK) pr ex dy tk bi (nI c) (upd (nSh (T i)) i 0) (upd (upd (nSr (T i)) i 0) i (if qy < (tk i - (dw (lsF (upd (nMk (T i)) i 0) mK i i) ((tk i) - (lqf qy lp ex i)) i).2) then (tk i - (dw (lsF (upd (nMk (T i)) i 0) mK i i) ((tk i) - (lqf qy lp ex i)) i).2) - qy else 0)) ((dw (lsF (upd (nMk (T i)) i 0) mK i i) ((tk i) - (lqf qy lp ex i)) i).1) (upd (lsF (upd (nSu (T i)) i 0) uK i i) i (if qy < (tk i - (dw (lsF (upd (nMk (T i)) i 0) mK i i) ((tk i) - (lqf qy lp ex i)) i).2) then (tk i - (dw (lsF (upd (nMk (T i)) i 0) mK i i) ((tk i) - (lqf qy lp ex i)) i).2) - qy else 0)) (upd (upd (nMu (T i)) i 0) i (dw (lsF (upd (nMk (T i)) i 0) mK i i) ((tk i) - (lqf qy lp ex i)) i).2) (upd (nCo (T i)) i 0) (vp_updL (nDu (T i)) i ((tk i - (dw (lsF (upd (nMk (T i)) i 0) mK i i) ((tk i) - (lqf qy lp ex i)) i).2).toInt64 * (pr i).toInt64 + dwa (lsF (upd (nMk (T i)) i 0) mK i i) ((tk i) - (lqf qy lp ex i)) pr sp i i)) (lsZ (upd (nMk (T i)) i 0) (nMS (T i)) mK i i))) (As := [.int (nI i), .int ((tk i) - (lqf qy lp ex i))]) (rest := []) ⟨hx, hb, hml, hown, hts⟩ (c_X2_makesUp l D H.size bd cI cL th qy lp sp mK uK pr ex dy tk bi c (upd (nSh (T i)) i 0) (upd (nSr (T i)) i 0) (lsF (upd (nMk (T i)) i 0) mK i i) (lsF (upd (nSu (T i)) i 0) uK i i) (upd (nMu (T i)) i 0) (upd (nCo (T i)) i 0) (nDu (T i)) (lsZ (upd (nMk (T i)) i 0) (nMS (T i)) mK i i) i ((tk i) - (lqf qy lp ex i)) hi3) (cwV 2 hts gX2_goesThrough_X2_makesUp rfl rfl rfl (by decide +kernel) ⟨(Nat.le_of_ble_eq_true rfl), (Nat.le_of_ble_eq_true rfl)⟩) hS hA hK hP hD [0, 1] rfl [0, 1, 2, 3, 4, 5, 6, 7, 8, 9, 10, 11, 12] [] [0, 1, 2, 3, 4, 5, 6, 7, 8, 9, 10, 11, 12] rfl (by decide) rfl (by decide) (by decide) rfl (by decide) 0 2 rfl rfl rfl rfl hl.1 rfl (Nat.le_of_ble_eq_true rfl) dX2_goesThrough_104 ⟨(Nat.le_of_ble_eq_true rfl), (Nat.le_of_ble_eq_true rfl)⟩ (fun H locs _ hP hD hS => ?_)
          have hP : va_P D vwCl (wM bd cI cL th qy lp sp (nI mK) (nI uK) pr ex dy tk bi (nI c) (nSh (T (i + 1))) (nSr (T (i + 1))) (nMk (T (i + 1))) (nSu (T (i + 1))) (nMu (T (i + 1))) (nCo (T (i + 1))) (nDu (T (i + 1))) (nMS (T (i + 1)))) H := by rw [hTs, rtp, if_neg (Int32.not_lt.mpr c2)]; exact hP
          have hD : va_D A (wM bd cI cL th qy lp sp (nI mK) (nI uK) pr ex dy tk bi (nI c) (nSh (T (i + 1))) (nSr (T (i + 1))) (nMk (T (i + 1))) (nSu (T (i + 1))) (nMu (T (i + 1))) (nCo (T (i + 1))) (nDu (T (i + 1))) (nMS (T (i + 1)))) := by rw [hTs, rtp, if_neg (Int32.not_lt.mpr c2)]; exact hD
          refine lv_iinc (v := nI (i + 1)) (lv' := [(1, .int (nI (i + 1))), (2, .int (lqf qy lp ex i)), (0, .ref (bd 0))]) hx hb dX2_goesThrough_107 hl (k := 2) rfl (gi_1 _) (by decide) rfl (fun ls hl => ?_)
          refine lv_goto (tgt := 7) hx hb dX2_goesThrough_110 (by decide) ?_
          exact ih (i + 1) (by omega) (by omega) _ _ hP hD hS ls (lv_sub hl [2, 0] rfl)
        · refine lv_aload_n hx hb dX2_goesThrough_78 rfl (lv_at hl 1 rfl) ?_
          refine lv_iload_n hx hb dX2_goesThrough_79 rfl (lv_at hl 2 rfl) ?_
          refine lv_iload_n hx hb dX2_goesThrough_80 rfl (lv_at hl 0 rfl) ?_
          refine lv_aload_n hx hb dX2_goesThrough_81 rfl (lv_at hl 1 rfl) ?_
          refine va_get (D := D) (ci := 2) (C := RX2) (T := TX2) (N := 20) hx hb hts inX2_goesThrough_X2 hown hK hP 0 rfl rfl 9 (by decide) (hts _ hX2_goesThrough__fieldLink_RX2_36_MakeupGasModel_taken_I_) (fun _ h9 => h9) rfl dX2_goesThrough_82 ?_
          refine lv_iload_n hx hb dX2_goesThrough_85 rfl (lv_at hl 2 rfl) ?_
          refine ga_iald (j := i) hx hb hK hP 4 0 rfl rfl hi3 (by decide) dX2_goesThrough_86 ?_
          refine lv_isub hx hb dX2_goesThrough_87 ?_
          refine gV_v (wc := (wM bd cI cL th qy lp sp (nI mK) (nI uK) pr ex dy tk bi (nI c) (upd (nSh (T i)) i 0) (upd (nSr (T i)) i 0) (lsF (upd (nMk (T i)) i 0) mK i i) (lsF (upd (nSu (T i)) i 0) uK i i) (upd (nMu (T i)) i 0) (upd (nCo (T i)) i 0) (nDu (T i)) (lsZ (upd (nMk (T i)) i 0) (nMS (T i)) mK i i))) (wr := []) (w1 := (wM bd cI cL th qy lp sp (nI mK) (nI uK) pr ex dy tk bi (nI c) (upd (upd (nSh (T i)) i 0) i (((lqf qy lp ex i) - (tk i)) - (dw (lsF (upd (nSu (T i)) i 0) uK i i) ((lqf qy lp ex i) - (tk i)) i).2)) (upd (nSr (T i)) i 0) (upd (lsF (upd (nMk (T i)) i 0) mK i i) i (((lqf qy lp ex i) - (tk i)) - (dw (lsF (upd (nSu (T i)) i 0) uK i i) ((lqf qy lp ex i) - (tk i)) i).2)) ((dw (lsF (upd (nSu (T i)) i 0) uK i i) ((lqf qy lp ex i) - (tk i)) i).1) (upd (nMu (T i)) i 0) (upd (upd (nCo (T i)) i 0) i (dw (lsF (upd (nSu (T i)) i 0) uK i i) ((lqf qy lp ex i) - (tk i)) i).2) (vp_updL (nDu (T i)) i ((tk i).toInt64 * (pr i).toInt64 + (((lqf qy lp ex i) - (tk i)) - (dw (lsF (upd (nSu (T i)) i 0) uK i i) ((lqf qy lp ex i) - (tk i)) i).2).toInt64 * (spf pr sp i).toInt64)) (lsZ (upd (nMk (T i)) i 0) (nMS (T i)) mK i i))) (W' := (wM bd cI cL th qy lp sp (nI mK) (nI uK) pr ex dy tk bi (nI c) (upd (upd (nSh (T i)) i 0) i (((lqf qy lp ex i) - (tk i)) - (dw (lsF (upd (nSu (T i)) i 0) uK i i) ((lqf qy lp ex i) - (tk i)) i).2)) (upd (nSr (T i)) i 0) (upd (lsF (upd (nMk (T i)) i 0) mK i i) i (((lqf qy lp ex i) - (tk i)) - (dw (lsF (upd (nSu (T i)) i 0) uK i i) ((lqf qy lp ex i) - (tk i)) i).2)) ((dw (lsF (upd (nSu (T i)) i 0) uK i i) ((lqf qy lp ex i) - (tk i)) i).1) (upd (nMu (T i)) i 0) (upd (upd (nCo (T i)) i 0) i (dw (lsF (upd (nSu (T i)) i 0) uK i i) ((lqf qy lp ex i) - (tk i)) i).2) (vp_updL (nDu (T i)) i ((tk i).toInt64 * (pr i).toInt64 + (((lqf qy lp ex i) - (tk i)) - (dw (lsF (upd (nSu (T i)) i 0) uK i i) ((lqf qy lp ex i) - (tk i)) i).2).toInt64 * (spf pr sp i).toInt64)) (lsZ (upd (nMk (T i)) i 0) (nMS (T i)) mK i i))) (As := [.int (nI i), .int ((lqf qy lp ex i) - (tk i))]) (rest := []) ⟨hx, hb, hml, hown, hts⟩ (c_X2_covers l D H.size bd cI cL th qy lp sp mK uK pr ex dy tk bi c (upd (nSh (T i)) i 0) (upd (nSr (T i)) i 0) (lsF (upd (nMk (T i)) i 0) mK i i) (lsF (upd (nSu (T i)) i 0) uK i i) (upd (nMu (T i)) i 0) (upd (nCo (T i)) i 0) (nDu (T i)) (lsZ (upd (nMk (T i)) i 0) (nMS (T i)) mK i i) i ((lqf qy lp ex i) - (tk i)) hi3) (cwV 2 hts gX2_goesThrough_X2_covers rfl rfl rfl (by decide +kernel) ⟨(Nat.le_of_ble_eq_true rfl), (Nat.le_of_ble_eq_true rfl)⟩) hS hA hK hP hD [0, 1] rfl [0, 1, 2, 3, 4, 5, 6, 7, 8, 9, 10, 11, 12] [] [0, 1, 2, 3, 4, 5, 6, 7, 8, 9, 10, 11, 12] rfl (by decide) rfl (by decide) (by decide) rfl (by decide) 0 2 rfl rfl rfl rfl hl.1 rfl (Nat.le_of_ble_eq_true rfl) dX2_goesThrough_88 ⟨(Nat.le_of_ble_eq_true rfl), (Nat.le_of_ble_eq_true rfl)⟩ (fun H locs _ hP hD hS => ?_)
          refine lv_goto (tgt := 107) hx hb dX2_goesThrough_91 (by decide) ?_
          have hP : va_P D vwCl (wM bd cI cL th qy lp sp (nI mK) (nI uK) pr ex dy tk bi (nI c) (nSh (T (i + 1))) (nSr (T (i + 1))) (nMk (T (i + 1))) (nSu (T (i + 1))) (nMu (T (i + 1))) (nCo (T (i + 1))) (nDu (T (i + 1))) (nMS (T (i + 1)))) H := by rw [hTs, rtp, if_pos (Int32.not_le.mp c2)]; exact hP
          have hD : va_D A (wM bd cI cL th qy lp sp (nI mK) (nI uK) pr ex dy tk bi (nI c) (nSh (T (i + 1))) (nSr (T (i + 1))) (nMk (T (i + 1))) (nSu (T (i + 1))) (nMu (T (i + 1))) (nCo (T (i + 1))) (nDu (T (i + 1))) (nMS (T (i + 1)))) := by rw [hTs, rtp, if_pos (Int32.not_le.mp c2)]; exact hD
          refine lv_iinc (v := nI (i + 1)) (lv' := [(1, .int (nI (i + 1))), (2, .int (lqf qy lp ex i)), (0, .ref (bd 0))]) hx hb dX2_goesThrough_107 hl (k := 2) rfl (gi_1 _) (by decide) rfl (fun ls hl => ?_)
          refine lv_goto (tgt := 7) hx hb dX2_goesThrough_110 (by decide) ?_
          exact ih (i + 1) (by omega) (by omega) _ _ hP hD hS ls (lv_sub hl [2, 0] rfl)
  exact lp_7 (c + 1) 0 (by omega) (by omega) _ _ hP hD hS ls (lv_sub hl [1, 0] rfl)
theorem inX2_openNow_X2 : ∀ q ∈ wsX20, q ∈ wsX2_openNow := by decide +kernel
theorem hX2_openNow__fieldLink_RX2_80_MakeupGasModel_closed_I_ : Cond.fieldLink RX2 80 "MakeupGasModel" "closed" "I" ∈ wsX2_openNow := by decide +kernel
theorem hX2_openNow__fieldLink_RX2_61_MakeupGasModel_dues_J_ : Cond.fieldLink RX2 61 "MakeupGasModel" "dues" "[J" ∈ wsX2_openNow := by decide +kernel
theorem hX2_openNow__fieldLink_RX2_39_MakeupGasModel_bills_J_ : Cond.fieldLink RX2 39 "MakeupGasModel" "bills" "[J" ∈ wsX2_openNow := by decide +kernel
set_option maxHeartbeats 4000000 in
set_option maxRecDepth 100000 in
theorem c_X2_openNow (l : Launch) (D : va_G) (sz : Nat) (bd : Nat → Nat) (cI cL : ClassId) (th qy lp sp : Int32) (mK uK : Nat) (pr ex dy tk : Nat → Int32) (bi : Nat → Int64) (c : Nat) (sh sr mk su mu co : Nat → Int32) (du : Nat → Int64) (mS : Int32) (hc : c ≤ 20) (hmK : mK < 20) (huK : uK < 20) : gCl l yX2_openNow wsX2_openNow ({ frames := 3, cells := 0, slots := 0, locals := 71 } : Room) D [(cI, .int), (cL, .long)] [.ref (bd 0)] (wM bd cI cL th qy lp sp (nI mK) (nI uK) pr ex dy tk bi (nI c) sh sr mk su mu co du mS) (wM bd cI cL th qy lp sp (nI mK) (nI uK) pr ex dy tk bi (nI c) (nSh (rtC qy lp sp pr ex tk mK uK (rt0 mk su sh mu co sr du) c)) (nSr (rtC qy lp sp pr ex tk mK uK (rt0 mk su sh mu co sr du) c)) (nMk (rtC qy lp sp pr ex tk mK uK (rt0 mk su sh mu co sr du) c)) (nSu (rtC qy lp sp pr ex tk mK uK (rt0 mk su sh mu co sr du) c)) (nMu (rtC qy lp sp pr ex tk mK uK (rt0 mk su sh mu co sr du) c)) (nCo (rtC qy lp sp pr ex tk mK uK (rt0 mk su sh mu co sr du) c)) (nDu (rtC qy lp sp pr ex tk mK uK (rt0 mk su sh mu co sr du) c)) (nMS (rtC qy lp sp pr ex tk mK uK (rt0 mk su sh mu co sr du) c))) (smL (fun j => nDu (rtC qy lp sp pr ex tk mK uK (rt0 mk su sh mu co sr du) c) j - bi j) c) True 0 0 sz := by
  refine gm_l (cc := cX2_openNow) (maxL := 4) (by decide) rfl (Nat.le_of_ble_eq_true rfl) ?_
  intro pg en s m args below meth cd A ls hx hb hr hml hown hts hlocks hin hA hK hP hD hl
  have hl : lv_has ls 4 [(0, .ref (bd 0))] := hl
  have hS : va_S A s.heap s.heap [] := va_S.rf
  refine lv_aload_n hx hb dX2_openNow_0 rfl (lv_at hl 0 rfl) ?_
  refine gV_v (wc := (wM bd cI cL th qy lp sp (nI mK) (nI uK) pr ex dy tk bi (nI c) sh sr mk su mu co du mS)) (wr := []) (w1 := (wM bd cI cL th qy lp sp (nI mK) (nI uK) pr ex dy tk bi (nI c) (nSh (rtC qy lp sp pr ex tk mK uK (rt0 mk su sh mu co sr du) c)) (nSr (rtC qy lp sp pr ex tk mK uK (rt0 mk su sh mu co sr du) c)) (nMk (rtC qy lp sp pr ex tk mK uK (rt0 mk su sh mu co sr du) c)) (nSu (rtC qy lp sp pr ex tk mK uK (rt0 mk su sh mu co sr du) c)) (nMu (rtC qy lp sp pr ex tk mK uK (rt0 mk su sh mu co sr du) c)) (nCo (rtC qy lp sp pr ex tk mK uK (rt0 mk su sh mu co sr du) c)) (nDu (rtC qy lp sp pr ex tk mK uK (rt0 mk su sh mu co sr du) c)) (nMS (rtC qy lp sp pr ex tk mK uK (rt0 mk su sh mu co sr du) c)))) (W' := (wM bd cI cL th qy lp sp (nI mK) (nI uK) pr ex dy tk bi (nI c) (nSh (rtC qy lp sp pr ex tk mK uK (rt0 mk su sh mu co sr du) c)) (nSr (rtC qy lp sp pr ex tk mK uK (rt0 mk su sh mu co sr du) c)) (nMk (rtC qy lp sp pr ex tk mK uK (rt0 mk su sh mu co sr du) c)) (nSu (rtC qy lp sp pr ex tk mK uK (rt0 mk su sh mu co sr du) c)) (nMu (rtC qy lp sp pr ex tk mK uK (rt0 mk su sh mu co sr du) c)) (nCo (rtC qy lp sp pr ex tk mK uK (rt0 mk su sh mu co sr du) c)) (nDu (rtC qy lp sp pr ex tk mK uK (rt0 mk su sh mu co sr du) c)) (nMS (rtC qy lp sp pr ex tk mK uK (rt0 mk su sh mu co sr du) c)))) (As := []) (rest := []) ⟨hx, hb, hml, hown, hts⟩ (c_X2_goesThrough l D s.heap.size bd cI cL th qy lp sp mK uK pr ex dy tk bi c sh sr mk su mu co du mS  hc hmK huK) (cwV 0 hts gX2_openNow_X2_goesThrough rfl rfl rfl (by decide +kernel) ⟨(Nat.le_of_ble_eq_true rfl), (Nat.le_of_ble_eq_true rfl)⟩) hS hA hK hP hD [0, 1] rfl [0, 1, 2, 3, 4, 5, 6, 7, 8, 9, 10, 11, 12] [] [0, 1, 2, 3, 4, 5, 6, 7, 8, 9, 10, 11, 12] rfl (by decide) rfl (by decide) (by decide) rfl (by decide) 0 2 rfl rfl rfl rfl hl.1 rfl (Nat.le_of_ble_eq_true rfl) dX2_openNow_1 ⟨(Nat.le_of_ble_eq_true rfl), (Nat.le_of_ble_eq_true rfl)⟩ (fun H locs _ hP hD hS => ?_)
  refine lv_lconst (v := 0) hx hb dX2_openNow_4 (by decide) ?_
  refine lv_lstore_n (lv' := [(1, .long 0), (0, .ref (bd 0))]) hx hb dX2_openNow_5 rfl hl (by decide) rfl (fun ls hl => ?_)
  refine lv_iconst (v := 0) hx hb dX2_openNow_6 (by decide) ?_
  refine lv_istore_n (lv' := [(3, .int 0), (1, .long 0), (0, .ref (bd 0))]) hx hb dX2_openNow_7 rfl hl (by decide) rfl (fun ls hl => ?_)
  have lp_8 : ∀ (n i : Nat), i ≤ c → c < i + n → ∀ (H : Heap) (locs : List Loc), va_P D vwCl (wM bd cI cL th qy lp sp (nI mK) (nI uK) pr ex dy tk bi (nI c) (nSh (rtC qy lp sp pr ex tk mK uK (rt0 mk su sh mu co sr du) c)) (nSr (rtC qy lp sp pr ex tk mK uK (rt0 mk su sh mu co sr du) c)) (nMk (rtC qy lp sp pr ex tk mK uK (rt0 mk su sh mu co sr du) c)) (nSu (rtC qy lp sp pr ex tk mK uK (rt0 mk su sh mu co sr du) c)) (nMu (rtC qy lp sp pr ex tk mK uK (rt0 mk su sh mu co sr du) c)) (nCo (rtC qy lp sp pr ex tk mK uK (rt0 mk su sh mu co sr du) c)) (nDu (rtC qy lp sp pr ex tk mK uK (rt0 mk su sh mu co sr du) c)) (nMS (rtC qy lp sp pr ex tk mK uK (rt0 mk su sh mu co sr du) c))) H → va_D A (wM bd cI cL th qy lp sp (nI mK) (nI uK) pr ex dy tk bi (nI c) (nSh (rtC qy lp sp pr ex tk mK uK (rt0 mk su sh mu co sr du) c)) (nSr (rtC qy lp sp pr ex tk mK uK (rt0 mk su sh mu co sr du) c)) (nMk (rtC qy lp sp pr ex tk mK uK (rt0 mk su sh mu co sr du) c)) (nSu (rtC qy lp sp pr ex tk mK uK (rt0 mk su sh mu co sr du) c)) (nMu (rtC qy lp sp pr ex tk mK uK (rt0 mk su sh mu co sr du) c)) (nCo (rtC qy lp sp pr ex tk mK uK (rt0 mk su sh mu co sr du) c)) (nDu (rtC qy lp sp pr ex tk mK uK (rt0 mk su sh mu co sr du) c)) (nMS (rtC qy lp sp pr ex tk mK uK (rt0 mk su sh mu co sr du) c))) → va_S A s.heap H locs → ∀ (ls : Array Slot), lv_has ls 4 [(0, .ref (bd 0)), (1, .long (smL (fun j => nDu (rtC qy lp sp pr ex tk mK uK (rt0 mk su sh mu co sr du) c) j - bi j) i)), (3, .int (nI i))] → W pg l en ({ frames := 3, cells := 0, slots := 0, locals := 71 } : Room) s m args below meth cd H locs 0 0 (gEl (smL (fun j => nDu (rtC qy lp sp pr ex tk mK uK (rt0 mk su sh mu co sr du) c) j - bi j) c) True below D [(cI, .int), (cL, .long)] (wM bd cI cL th qy lp sp (nI mK) (nI uK) pr ex dy tk bi (nI c) (nSh (rtC qy lp sp pr ex tk mK uK (rt0 mk su sh mu co sr du) c)) (nSr (rtC qy lp sp pr ex tk mK uK (rt0 mk su sh mu co sr du) c)) (nMk (rtC qy lp sp pr ex tk mK uK (rt0 mk su sh mu co sr du) c)) (nSu (rtC qy lp sp pr ex tk mK uK (rt0 mk su sh mu co sr du) c)) (nMu (rtC qy lp sp pr ex tk mK uK (rt0 mk su sh mu co sr du) c)) (nCo (rtC qy lp sp pr ex tk mK uK (rt0 mk su sh mu co sr du) c)) (nDu (rtC qy lp sp pr ex tk mK uK (rt0 mk su sh mu co sr du) c)) (nMS (rtC qy lp sp pr ex tk mK uK (rt0 mk su sh mu co sr du) c))) A args s 0 0) (F0 m 8 ls []) := by
    intro n
    induction n with
    | zero => intro i h1 h2; exact absurd h2 (by omega)
    | succ n ih =>
      intro i hi hin2  H locs hP hD hS ls hl
      refine lv_iload_n hx hb dX2_openNow_8 rfl (lv_at hl 2 rfl) ?_
      refine lv_aload_n hx hb dX2_openNow_9 rfl (lv_at hl 0 rfl) ?_
      refine va_get (D := D) (ci := 2) (C := RX2) (T := TX2) (N := 20) hx hb hts inX2_openNow_X2 hown hK hP 0 rfl rfl 11 (by decide) (hts _ hX2_openNow__fieldLink_RX2_80_MakeupGasModel_closed_I_) (fun _ h9 => h9) rfl dX2_openNow_10 ?_
      refine lv_icmp_ge (tgt := 38) hx hb dX2_openNow_13 (by decide) (fun c1 => ?_) (fun c1 => ?_)
      · obtain rfl : i = c := Nat.le_antisymm hi (Nat.not_lt.mp fun h => absurd c1 (nI_ge h (by omega)))
        refine lv_lload_n hx hb dX2_openNow_38 rfl (lv_at hl 1 rfl) ?_
        exact ge_l hx hb hr hlocks hK hP hD hS trivial (Nat.le_of_ble_eq_true rfl) (Nat.le_of_ble_eq_true rfl) dX2_openNow_39
      · have hic : i < c := Nat.not_le.mp (fun h => c1 (nI_le h (by omega)))
        have hi3 : i < 20 := by omega
        refine lv_lload_n hx hb dX2_openNow_16 rfl (lv_at hl 1 rfl) ?_
        refine lv_aload_n hx hb dX2_openNow_17 rfl (lv_at hl 0 rfl) ?_
        refine va_get (D := D) (ci := 2) (C := RX2) (T := TX2) (N := 20) hx hb hts inX2_openNow_X2 hown hK hP 0 rfl rfl 18 (by decide) (hts _ hX2_openNow__fieldLink_RX2_61_MakeupGasModel_dues_J_) (fun _ h9 => h9) rfl dX2_openNow_18 ?_
        refine lv_iload_n hx hb dX2_openNow_21 rfl (lv_at hl 2 rfl) ?_
        refine ga_lald (j := i) hx hb hK hP 12 1 rfl rfl hi3 (by decide) dX2_openNow_22 ?_
        refine lv_aload_n hx hb dX2_openNow_23 rfl (lv_at hl 0 rfl) ?_
        refine va_get (D := D) (ci := 2) (C := RX2) (T := TX2) (N := 20) hx hb hts inX2_openNow_X2 hown hK hP 0 rfl rfl 10 (by decide) (hts _ hX2_openNow__fieldLink_RX2_39_MakeupGasModel_bills_J_) (fun _ h9 => h9) rfl dX2_openNow_24 ?_
        refine lv_iload_n hx hb dX2_openNow_27 rfl (lv_at hl 2 rfl) ?_
        refine ga_lald (j := i) hx hb hK hP 5 1 rfl rfl hi3 (by decide) dX2_openNow_28 ?_
        refine lv_lsub hx hb dX2_openNow_29 ?_
        refine lv_ladd hx hb dX2_openNow_30 ?_
        refine lv_lstore_n (lv' := [(1, .long (smL (fun j => nDu (rtC qy lp sp pr ex tk mK uK (rt0 mk su sh mu co sr du) c) j - bi j) (i + 1))), (0, .ref (bd 0)), (3, .int (nI i))]) hx hb dX2_openNow_31 rfl hl (by decide) rfl (fun ls hl => ?_)
        refine lv_iinc (v := nI (i + 1)) (lv' := [(3, .int (nI (i + 1))), (1, .long (smL (fun j => nDu (rtC qy lp sp pr ex tk mK uK (rt0 mk su sh mu co sr du) c) j - bi j) (i + 1))), (0, .ref (bd 0))]) hx hb dX2_openNow_32 hl (k := 2) rfl (gi_1 _) (by decide) rfl (fun ls hl => ?_)
        refine lv_goto (tgt := 8) hx hb dX2_openNow_35 (by decide) ?_
        exact ih (i + 1) (by omega) (by omega) _ _ hP hD hS ls (lv_sub hl [2, 1, 0] rfl)
  exact lp_8 (c + 1) 0 (by omega) (by omega) _ _ hP hD hS ls (lv_sub hl [2, 1, 0] rfl)
