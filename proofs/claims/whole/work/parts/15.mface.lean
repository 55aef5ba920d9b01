theorem hX2_set__constant_RX2_100_100000_ : Cond.constant RX2 100 (100000) ∈ wsX2_set := by decide +kernel
theorem inX2_set_X2 : ∀ q ∈ wsX20, q ∈ wsX2_set := by decide +kernel
theorem hX2_set__fieldLink_RX2_80_MakeupGasModel_closed_I_ : Cond.fieldLink RX2 80 "MakeupGasModel" "closed" "I" ∈ wsX2_set := by decide +kernel
theorem hX2_set__fieldLink_RX2_36_MakeupGasModel_taken_I_ : Cond.fieldLink RX2 36 "MakeupGasModel" "taken" "[I" ∈ wsX2_set := by decide +kernel
theorem hX2_set__fieldLink_RX2_8_MakeupGasModel_quantity_I_ : Cond.fieldLink RX2 8 "MakeupGasModel" "quantity" "I" ∈ wsX2_set := by decide +kernel
theorem hX2_set__fieldLink_RX2_14_MakeupGasModel_percent_I_ : Cond.fieldLink RX2 14 "MakeupGasModel" "percent" "I" ∈ wsX2_set := by decide +kernel
theorem hX2_set__fieldLink_RX2_17_MakeupGasModel_share_I_ : Cond.fieldLink RX2 17 "MakeupGasModel" "share" "I" ∈ wsX2_set := by decide +kernel
theorem hX2_set__fieldLink_RX2_20_MakeupGasModel_makeUpYears_I_ : Cond.fieldLink RX2 20 "MakeupGasModel" "makeUpYears" "I" ∈ wsX2_set := by decide +kernel
theorem hX2_set__fieldLink_RX2_23_MakeupGasModel_surplusYears_I_ : Cond.fieldLink RX2 23 "MakeupGasModel" "surplusYears" "I" ∈ wsX2_set := by decide +kernel
set_option maxHeartbeats 4000000 in
set_option maxRecDepth 100000 in
theorem c_X2_set (l : Launch) (D : va_G) (sz : Nat) (bd : Nat → Nat) (cI cL : ClassId) (th qy lp sp : Int32) (mK uK : Nat) (pr ex dy tk : Nat → Int32) (bi : Nat → Int64) (c : Nat) (sh sr mk su mu co : Nat → Int32) (du : Nat → Int64) (mS : Int32) (p0 p1 p2 p3 p4 : Int32) (r0 : inR p0 1 100000) (r1 : inR p1 0 100) (r2 : inR p2 0 100) (r3 : inR p3 1 5) (r4 : inR p4 1 5) (hu : ¬ 0 < nI c ∧ tk 0 ≤ 0) : gCv l yX2_set wsX2_set ({ frames := 1, cells := 0, slots := 0, locals := 22 } : Room) D [(cI, .int), (cL, .long)] [.ref (bd 0), .int p0, .int p1, .int p2, .int p3, .int p4] (wM bd cI cL th qy lp sp (nI mK) (nI uK) pr ex dy tk bi (nI c) sh sr mk su mu co du mS) (wM bd cI cL 0 p0 p1 p2 p3 p4 pr ex dy tk bi (nI c) sh sr mk su mu co du mS) True 0 0 sz := by
  refine gm_v (cc := cX2_set) (maxL := 7) (by decide) rfl (Nat.le_of_ble_eq_true rfl) ?_
  intro pg en s m args below meth cd A ls hx hb hr hml hown hts hlocks hin hA hK hP hD hl
  have hl : lv_has ls 7 [(0, .ref (bd 0)), (1, .int p0), (2, .int p1), (3, .int p2), (4, .int p3), (5, .int p4)] := hl
  have hS : va_S A s.heap s.heap [] := va_S.rf
  refine lv_iload_n hx hb dX2_set_0 rfl (lv_at hl 1 rfl) ?_
  refine lv_iconst (v := 1) hx hb dX2_set_1 (by decide) ?_
  refine lv_ldc (v := 100000) hx hb hown (hts _ hX2_set__constant_RX2_100_100000_) dX2_set_2 ?_
  refine gS_i (wc := []) (wr := [(bd 0, .inr (2, [.int th, .int qy, .int lp, .int sp, .int (nI mK), .int (nI uK), .ref (bd 1), .ref (bd 2), .ref (bd 3), .ref (bd 4), .ref (bd 5), .int (nI c), .ref (bd 6), .ref (bd 7), .ref (bd 8), .ref (bd 9), .ref (bd 10), .ref (bd 11), .ref (bd 12), .int mS])), (bd 1, .inl (cI, 20, .inl pr)), (bd 2, .inl (cI, 20, .inl ex)), (bd 3, .inl (cI, 360, .inl dy)), (bd 4, .inl (cI, 20, .inl tk)), (bd 5, .inl (cL, 20, .inr (.inl bi))), (bd 6, .inl (cI, 20, .inl sh)), (bd 7, .inl (cI, 20, .inl sr)), (bd 8, .inl (cI, 20, .inl mk)), (bd 9, .inl (cI, 20, .inl su)), (bd 10, .inl (cI, 20, .inl mu)), (bd 11, .inl (cI, 20, .inl co)), (bd 12, .inl (cL, 20, .inr (.inl du)))]) (w1 := []) (W' := (wM bd cI cL th qy lp sp (nI mK) (nI uK) pr ex dy tk bi (nI c) sh sr mk su mu co du mS)) (As := [.int p0, .int 1, .int 100000]) (rest := []) ⟨hx, hb, hml, hown, hts⟩ (c_X2_isIn l D s.heap.size cI cL p0 1 100000) (va_cwS 3 hts gX2_set_X2_isIn rfl rfl rfl (by decide +kernel) ⟨(Nat.le_of_ble_eq_true rfl), (Nat.le_of_ble_eq_true rfl)⟩) hS hA hK hP hD [0, 1] rfl [] [0, 1, 2, 3, 4, 5, 6, 7, 8, 9, 10, 11, 12] [0, 1, 2, 3, 4, 5, 6, 7, 8, 9, 10, 11, 12] rfl (by decide) rfl (by decide) (by decide) rfl (by decide) rfl hl.1 rfl (Nat.le_of_ble_eq_true rfl) dX2_set_4 ⟨(Nat.le_of_ble_eq_true rfl), (Nat.le_of_ble_eq_true rfl)⟩ (fun H locs _ hP hD hS => ?_)
  refine gj_i (bz_t r0) ?_
  refine lv_if_eq (tgt := 54) hx hb dX2_set_7 (by decide) (fun cz => ?_) (fun cz => ?_)
  · exact absurd cz (by decide)
  · refine lv_iload_n hx hb dX2_set_10 rfl (lv_at hl 2 rfl) ?_
    refine lv_iconst (v := 0) hx hb dX2_set_11 (by decide) ?_
    refine lv_bipush (v := 100) hx hb dX2_set_12 (by decide) ?_
    refine gS_i (wc := []) (wr := [(bd 0, .inr (2, [.int th, .int qy, .int lp, .int sp, .int (nI mK), .int (nI uK), .ref (bd 1), .ref (bd 2), .ref (bd 3), .ref (bd 4), .ref (bd 5), .int (nI c), .ref (bd 6), .ref (bd 7), .ref (bd 8), .ref (bd 9), .ref (bd 10), .ref (bd 11), .ref (bd 12), .int mS])), (bd 1, .inl (cI, 20, .inl pr)), (bd 2, .inl (cI, 20, .inl ex)), (bd 3, .inl (cI, 360, .inl dy)), (bd 4, .inl (cI, 20, .inl tk)), (bd 5, .inl (cL, 20, .inr (.inl bi))), (bd 6, .inl (cI, 20, .inl sh)), (bd 7, .inl (cI, 20, .inl sr)), (bd 8, .inl (cI, 20, .inl mk)), (bd 9, .inl (cI, 20, .inl su)), (bd 10, .inl (cI, 20, .inl mu)), (bd 11, .inl (cI, 20, .inl co)), (bd 12, .inl (cL, 20, .inr (.inl du)))]) (w1 := []) (W' := (wM bd cI cL th qy lp sp (nI mK) (nI uK) pr ex dy tk bi (nI c) sh sr mk su mu co du mS)) (As := [.int p1, .int 0, .int 100]) (rest := []) ⟨hx, hb, hml, hown, hts⟩ (c_X2_isIn l D H.size cI cL p1 0 100) (va_cwS 3 hts gX2_set_X2_isIn rfl rfl rfl (by decide +kernel) ⟨(Nat.le_of_ble_eq_true rfl), (Nat.le_of_ble_eq_true rfl)⟩) hS hA hK hP hD [0, 1] rfl [] [0, 1, 2, 3, 4, 5, 6, 7, 8, 9, 10, 11, 12] [0, 1, 2, 3, 4, 5, 6, 7, 8, 9, 10, 11, 12] rfl (by decide) rfl (by decide) (by decide) rfl (by decide) rfl hl.1 rfl (Nat.le_of_ble_eq_true rfl) dX2_set_14 ⟨(Nat.le_of_ble_eq_true rfl), (Nat.le_of_ble_eq_true rfl)⟩ (fun H locs _ hP hD hS => ?_)
    refine gj_i (bz_t r1) ?_
    refine lv_if_eq (tgt := 54) hx hb dX2_set_17 (by decide) (fun cz => ?_) (fun cz => ?_)
    · exact absurd cz (by decide)
    · refine lv_iload_n hx hb dX2_set_20 rfl (lv_at hl 3 rfl) ?_
      refine lv_iconst (v := 0) hx hb dX2_set_21 (by decide) ?_
      refine lv_bipush (v := 100) hx hb dX2_set_22 (by decide) ?_
      refine gS_i (wc := []) (wr := [(bd 0, .inr (2, [.int th, .int qy, .int lp, .int sp, .int (nI mK), .int (nI uK), .ref (bd 1), .ref (bd 2), .ref (bd 3), .ref (bd 4), .ref (bd 5), .int (nI c), .ref (bd 6), .ref (bd 7), .ref (bd 8), .ref (bd 9), .ref (bd 10), .ref (bd 11), .ref (bd 12), .int mS])), (bd 1, .inl (cI, 20, .inl pr)), (bd 2, .inl (cI, 20, .inl ex)), (bd 3, .inl (cI, 360, .inl dy)), (bd 4, .inl (cI, 20, .inl tk)), (bd 5, .inl (cL, 20, .inr (.inl bi))), (bd 6, .inl (cI, 20, .inl sh)), (bd 7, .inl (cI, 20, .inl sr)), (bd 8, .inl (cI, 20, .inl mk)), (bd 9, .inl (cI, 20, .inl su)), (bd 10, .inl (cI, 20, .inl mu)), (bd 11, .inl (cI, 20, .inl co)), (bd 12, .inl (cL, 20, .inr (.inl du)))]) (w1 := []) (W' := (wM bd cI cL th qy lp sp (nI mK) (nI uK) pr ex dy tk bi (nI c) sh sr mk su mu co du mS)) (As := [.int p2, .int 0, .int 100]) (rest := []) ⟨hx, hb, hml, hown, hts⟩ (c_X2_isIn l D H.size cI cL p2 0 100) (va_cwS 3 hts gX2_set_X2_isIn rfl rfl rfl (by decide +kernel) ⟨(Nat.le_of_ble_eq_true rfl), (Nat.le_of_ble_eq_true rfl)⟩) hS hA hK hP hD [0, 1] rfl [] [0, 1, 2, 3, 4, 5, 6, 7, 8, 9, 10, 11, 12] [0, 1, 2, 3, 4, 5, 6, 7, 8, 9, 10, 11, 12] rfl (by decide) rfl (by decide) (by decide) rfl (by decide) rfl hl.1 rfl (Nat.le_of_ble_eq_true rfl) dX2_set_24 ⟨(Nat.le_of_ble_eq_true rfl), (Nat.le_of_ble_eq_true rfl)⟩ (fun H locs _ hP hD hS => ?_)
      refine gj_i (bz_t r2) ?_
      refine lv_if_eq (tgt := 54) hx hb dX2_set_27 (by decide) (fun cz => ?_) (fun cz => ?_)
      · exact absurd cz (by decide)
      · refine lv_iload hx hb dX2_set_30 (lv_at hl 4 rfl) ?_
        refine lv_iconst (v := 1) hx hb dX2_set_32 (by decide) ?_
        refine lv_iconst (v := 5) hx hb dX2_set_33 (by decide) ?_
        refine gS_i (wc := []) (wr := [(bd 0, .inr (2, [.int th, .int qy, .int lp, .int sp, .int (nI mK), .int (nI uK), .ref (bd 1), .ref (bd 2), .ref (bd 3), .ref (bd 4), .ref (bd 5), .int (nI c), .ref (bd 6), .ref (bd 7), .ref (bd 8), .ref (bd 9), .ref (bd 10), .ref (bd 11), .ref (bd 12), .int mS])), (bd 1, .inl (cI, 20, .inl pr)), (bd 2, .inl (cI, 20, .inl ex)), (bd 3, .inl (cI, 360, .inl dy)), (bd 4, .inl (cI, 20, .inl tk)), (bd 5, .inl (cL, 20, .inr (.inl bi))), (bd 6, .inl (cI, 20, .inl sh)), (bd 7, .inl (cI, 20, .inl sr)), (bd 8, .inl (cI, 20, .inl mk)), (bd 9, .inl (cI, 20, .inl su)), (bd 10, .inl (cI, 20, .inl mu)), (bd 11, .inl (cI, 20, .inl co)), (bd 12, .inl (cL, 20, .inr (.inl du)))]) (w1 := []) (W' := (wM bd cI cL th qy lp sp (nI mK) (nI uK) pr ex dy tk bi (nI c) sh sr mk su mu co du mS)) (As := [.int p3, .int 1, .int 5]) (rest := []) ⟨hx, hb, hml, hown, hts⟩ (c_X2_isIn l D H.size cI cL p3 1 5) (va_cwS 3 hts gX2_set_X2_isIn rfl rfl rfl (by decide +kernel) ⟨(Nat.le_of_ble_eq_true rfl), (Nat.le_of_ble_eq_true rfl)⟩) hS hA hK hP hD [0, 1] rfl [] [0, 1, 2, 3, 4, 5, 6, 7, 8, 9, 10, 11, 12] [0, 1, 2, 3, 4, 5, 6, 7, 8, 9, 10, 11, 12] rfl (by decide) rfl (by decide) (by decide) rfl (by decide) rfl hl.1 rfl (Nat.le_of_ble_eq_true rfl) dX2_set_34 ⟨(Nat.le_of_ble_eq_true rfl), (Nat.le_of_ble_eq_true rfl)⟩ (fun H locs _ hP hD hS => ?_)
        refine gj_i (bz_t r3) ?_
        refine lv_if_eq (tgt := 54) hx hb dX2_set_37 (by decide) (fun cz => ?_) (fun cz => ?_)
        · exact absurd cz (by decide)
        · refine lv_iload hx hb dX2_set_40 (lv_at hl 5 rfl) ?_
          refine lv_iconst (v := 1) hx hb dX2_set_42 (by decide) ?_
          refine lv_iconst (v := 5) hx hb dX2_set_43 (by decide) ?_
          refine gS_i (wc := []) (wr := [(bd 0, .inr (2, [.int th, .int qy, .int lp, .int sp, .int (nI mK), .int (nI uK), .ref (bd 1), .ref (bd 2), .ref (bd 3), .ref (bd 4), .ref (bd 5), .int (nI c), .ref (bd 6), .ref (bd 7), .ref (bd 8), .ref (bd 9), .ref (bd 10), .ref (bd 11), .ref (bd 12), .int mS])), (bd 1, .inl (cI, 20, .inl pr)), (bd 2, .inl (cI, 20, .inl ex)), (bd 3, .inl (cI, 360, .inl dy)), (bd 4, .inl (cI, 20, .inl tk)), (bd 5, .inl (cL, 20, .inr (.inl bi))), (bd 6, .inl (cI, 20, .inl sh)), (bd 7, .inl (cI, 20, .inl sr)), (bd 8, .inl (cI, 20, .inl mk)), (bd 9, .inl (cI, 20, .inl su)), (bd 10, .inl (cI, 20, .inl mu)), (bd 11, .inl (cI, 20, .inl co)), (bd 12, .inl (cL, 20, .inr (.inl du)))]) (w1 := []) (W' := (wM bd cI cL th qy lp sp (nI mK) (nI uK) pr ex dy tk bi (nI c) sh sr mk su mu co du mS)) (As := [.int p4, .int 1, .int 5]) (rest := []) ⟨hx, hb, hml, hown, hts⟩ (c_X2_isIn l D H.size cI cL p4 1 5) (va_cwS 3 hts gX2_set_X2_isIn rfl rfl rfl (by decide +kernel) ⟨(Nat.le_of_ble_eq_true rfl), (Nat.le_of_ble_eq_true rfl)⟩) hS hA hK hP hD [0, 1] rfl [] [0, 1, 2, 3, 4, 5, 6, 7, 8, 9, 10, 11, 12] [0, 1, 2, 3, 4, 5, 6, 7, 8, 9, 10, 11, 12] rfl (by decide) rfl (by decide) (by decide) rfl (by decide) rfl hl.1 rfl (Nat.le_of_ble_eq_true rfl) dX2_set_44 ⟨(Nat.le_of_ble_eq_true rfl), (Nat.le_of_ble_eq_true rfl)⟩ (fun H locs _ hP hD hS => ?_)
          refine gj_i (bz_t r4) ?_
          refine lv_if_eq (tgt := 54) hx hb dX2_set_47 (by decide) (fun cz => ?_) (fun cz => ?_)
          · exact absurd cz (by decide)
          · refine lv_iconst (v := 1) hx hb dX2_set_50 (by decide) ?_
            refine lv_goto (tgt := 55) hx hb dX2_set_51 (by decide) ?_
            refine lv_istore (lv' := [(6, .int 1), (0, .ref (bd 0)), (1, .int p0), (2, .int p1), (3, .int p2), (4, .int p3), (5, .int p4)]) hx hb dX2_set_55 hl (by decide) rfl (fun ls hl => ?_)
            refine lv_aload_n hx hb dX2_set_57 rfl (lv_at hl 1 rfl) ?_
            refine lv_iload hx hb dX2_set_58 (lv_at hl 0 rfl) ?_
            refine lv_if_ne (tgt := 67) hx hb dX2_set_60 (by decide) (fun cy => ?_) (fun cy => ?_)
            · refine lv_aload_n hx hb dX2_set_67 rfl (lv_at hl 1 rfl) ?_
              refine va_get (D := D) (ci := 2) (C := RX2) (T := TX2) (N := 20) hx hb hts inX2_set_X2 hown hK hP 0 rfl rfl 11 (by decide) (hts _ hX2_set__fieldLink_RX2_80_MakeupGasModel_closed_I_) (fun _ h9 => h9) rfl dX2_set_68 ?_
              refine lv_if_gt (tgt := 83) hx hb dX2_set_71 (by decide) (fun cc => ?_) (fun cc => ?_)
              · exact absurd cc hu.1
              · refine lv_aload_n hx hb dX2_set_74 rfl (lv_at hl 1 rfl) ?_
                refine va_get (D := D) (ci := 2) (C := RX2) (T := TX2) (N := 20) hx hb hts inX2_set_X2 hown hK hP 0 rfl rfl 9 (by decide) (hts _ hX2_set__fieldLink_RX2_36_MakeupGasModel_taken_I_) (fun _ h9 => h9) rfl dX2_set_75 ?_
                refine lv_iconst (v := 0) hx hb dX2_set_78 (by decide) ?_
                refine ga_iald (j := 0) hx hb hK hP 4 0 rfl rfl (by decide) (by decide) dX2_set_79 ?_
                refine lv_if_le (tgt := 87) hx hb dX2_set_80 (by decide) (fun ct => ?_) (fun ct => ?_)
                · refine lv_iconst (v := 0) hx hb dX2_set_87 (by decide) ?_
                  refine gV_i (wc := (wM bd cI cL th qy lp sp (nI mK) (nI uK) pr ex dy tk bi (nI c) sh sr mk su mu co du mS)) (wr := []) (w1 := (wM bd cI cL 0 qy lp sp (nI mK) (nI uK) pr ex dy tk bi (nI c) sh sr mk su mu co du mS)) (W' := (wM bd cI cL 0 qy lp sp (nI mK) (nI uK) pr ex dy tk bi (nI c) sh sr mk su mu co du mS)) (As := [.int 0]) (rest := []) ⟨hx, hb, hml, hown, hts⟩ (c_X2_holds l D H.size bd cI cL th qy lp sp mK uK pr ex dy tk bi c sh sr mk su mu co du mS 0) (cwV 1 hts gX2_set_X2_holds rfl rfl rfl (by decide +kernel) ⟨(Nat.le_of_ble_eq_true rfl), (Nat.le_of_ble_eq_true rfl)⟩) hS hA hK hP hD [0, 1] rfl [0, 1, 2, 3, 4, 5, 6, 7, 8, 9, 10, 11, 12] [] [0, 1, 2, 3, 4, 5, 6, 7, 8, 9, 10, 11, 12] rfl (by decide) rfl (by decide) (by decide) rfl (by decide) 0 2 rfl rfl rfl rfl hl.1 rfl (Nat.le_of_ble_eq_true rfl) dX2_set_88 ⟨(Nat.le_of_ble_eq_true rfl), (Nat.le_of_ble_eq_true rfl)⟩ (fun H locs _ hP hD hS => ?_)
                  refine gj_i (bz_t rfl) ?_
                  refine lv_if_eq (tgt := 121) hx hb dX2_set_91 (by decide) (fun cz => ?_) (fun cz => ?_)
                  · exact absurd cz (by decide)
                  · refine lv_aload_n hx hb dX2_set_94 rfl (lv_at hl 1 rfl) ?_
                    refine lv_iload_n hx hb dX2_set_95 rfl (lv_at hl 2 rfl) ?_
                    refine va_put (D := D) (ci := 2) (v := .int p0) (ty := .int) (C := RX2) (T := TX2) (N := 20) hx hb hts inX2_set_X2 tyX2 tyX2_ok nmX2 hown hK hP hD hS 0 rfl rfl 1 (by decide) (hts _ hX2_set__fieldLink_RX2_8_MakeupGasModel_quantity_I_) (fun _ h9 => h9) (by decide +kernel) (by decide +kernel) rfl rfl (Nat.le_of_ble_eq_true rfl) dX2_set_96 (fun H locs hP hD hS => ?_)
                    have hP : va_P D vwCl (wM bd cI cL 0 p0 lp sp (nI mK) (nI uK) pr ex dy tk bi (nI c) sh sr mk su mu co du mS) H := hP
                    have hD : va_D A (wM bd cI cL 0 p0 lp sp (nI mK) (nI uK) pr ex dy tk bi (nI c) sh sr mk su mu co du mS) := hD
                    refine lv_aload_n hx hb dX2_set_99 rfl (lv_at hl 1 rfl) ?_
                    refine lv_iload_n hx hb dX2_set_100 rfl (lv_at hl 3 rfl) ?_
                    refine va_put (D := D) (ci := 2) (v := .int p1) (ty := .int) (C := RX2) (T := TX2) (N := 20) hx hb hts inX2_set_X2 tyX2 tyX2_ok nmX2 hown hK hP hD hS 0 rfl rfl 2 (by decide) (hts _ hX2_set__fieldLink_RX2_14_MakeupGasModel_percent_I_) (fun _ h9 => h9) (by decide +kernel) (by decide +kernel) rfl rfl (Nat.le_of_ble_eq_true rfl) dX2_set_101 (fun H locs hP hD hS => ?_)
                    have hP : va_P D vwCl (wM bd cI cL 0 p0 p1 sp (nI mK) (nI uK) pr ex dy tk bi (nI c) sh sr mk su mu co du mS) H := hP
                    have hD : va_D A (wM bd cI cL 0 p0 p1 sp (nI mK) (nI uK) pr ex dy tk bi (nI c) sh sr mk su mu co du mS) := hD
                    refine lv_aload_n hx hb dX2_set_104 rfl (lv_at hl 1 rfl) ?_
                    refine lv_iload_n hx hb dX2_set_105 rfl (lv_at hl 4 rfl) ?_
                    refine va_put (D := D) (ci := 2) (v := .int p2) (ty := .int) (C := RX2) (T := TX2) (N := 20) hx hb hts inX2_set_X2 tyX2 tyX2_ok nmX2 hown hK hP hD hS 0 rfl rfl 3 (by decide) (hts _ hX2_set__fieldLink_RX2_17_MakeupGasModel_share_I_) (fun _ h9 => h9) (by decide +kernel) (by decide +kernel) rfl rfl (Nat.le_of_ble_eq_true rfl) dX2_set_106 (fun H locs hP hD hS => ?_)
                    have hP : va_P D vwCl (wM bd cI cL 0 p0 p1 p2 (nI mK) (nI uK) pr ex dy tk bi (nI c) sh sr mk su mu co du mS) H := hP
                    have hD : va_D A (wM bd cI cL 0 p0 p1 p2 (nI mK) (nI uK) pr ex dy tk bi (nI c) sh sr mk su mu co du mS) := hD
                    refine lv_aload_n hx hb dX2_set_109 rfl (lv_at hl 1 rfl) ?_
                    refine lv_iload hx hb dX2_set_110 (lv_at hl 5 rfl) ?_
                    refine va_put (D := D) (ci := 2) (v := .int p3) (ty := .int) (C := RX2) (T := TX2) (N := 20) hx hb hts inX2_set_X2 tyX2 tyX2_ok nmX2 hown hK hP hD hS 0 rfl rfl 4 (by decide) (hts _ hX2_set__fieldLink_RX2_20_MakeupGasModel_makeUpYears_I_) (fun _ h9 => h9) (by decide +kernel) (by decide +kernel) rfl rfl (Nat.le_of_ble_eq_true rfl) dX2_set_112 (fun H locs hP hD hS => ?_)
                    have hP : va_P D vwCl (wM bd cI cL 0 p0 p1 p2 p3 (nI uK) pr ex dy tk bi (nI c) sh sr mk su mu co du mS) H := hP
                    have hD : va_D A (wM bd cI cL 0 p0 p1 p2 p3 (nI uK) pr ex dy tk bi (nI c) sh sr mk su mu co du mS) := hD
                    refine lv_aload_n hx hb dX2_set_115 rfl (lv_at hl 1 rfl) ?_
                    refine lv_iload hx hb dX2_set_116 (lv_at hl 6 rfl) ?_
                    refine va_put (D := D) (ci := 2) (v := .int p4) (ty := .int) (C := RX2) (T := TX2) (N := 20) hx hb hts inX2_set_X2 tyX2 tyX2_ok nmX2 hown hK hP hD hS 0 rfl rfl 5 (by decide) (hts _ hX2_set__fieldLink_RX2_23_MakeupGasModel_surplusYears_I_) (fun _ h9 => h9) (by decide +kernel) (by decide +kernel) rfl rfl (Nat.le_of_ble_eq_true rfl) dX2_set_118 (fun H locs hP hD hS => ?_)
                    have hP : va_P D vwCl (wM bd cI cL 0 p0 p1 p2 p3 p4 pr ex dy tk bi (nI c) sh sr mk su mu co du mS) H := hP
                    have hD : va_D A (wM bd cI cL 0 p0 p1 p2 p3 p4 pr ex dy tk bi (nI c) sh sr mk su mu co du mS) := hD
                    exact ge_v hx hb hr hlocks hK hP hD hS trivial (Nat.le_of_ble_eq_true rfl) (Nat.le_of_ble_eq_true rfl) dX2_set_121
                · exact absurd hu.2 ct
            · exact absurd cy (by decide)
set_option maxHeartbeats 4000000 in
set_option maxRecDepth 100000 in
theorem c_X2_set_1 (l : Launch) (D : va_G) (sz : Nat) (bd : Nat → Nat) (cI cL : ClassId) (th qy lp sp : Int32) (mK uK : Nat) (pr ex dy tk : Nat → Int32) (bi : Nat → Int64) (c : Nat) (sh sr mk su mu co : Nat → Int32) (du : Nat → Int64) (mS : Int32) (p0 p1 p2 p3 p4 : Int32) (hbad : ¬ (inR p0 1 100000 ∧ inR p1 0 100 ∧ inR p2 0 100 ∧ inR p3 1 5 ∧ inR p4 1 5)) : gCv l yX2_set wsX2_set ({ frames := 1, cells := 0, slots := 0, locals := 22 } : Room) D [(cI, .int), (cL, .long)] [.ref (bd 0), .int p0, .int p1, .int p2, .int p3, .int p4] (wM bd cI cL th qy lp sp (nI mK) (nI uK) pr ex dy tk bi (nI c) sh sr mk su mu co du mS) (wM bd cI cL 1 qy lp sp (nI mK) (nI uK) pr ex dy tk bi (nI c) sh sr mk su mu co du mS) True 0 0 sz := by
  refine gm_v (cc := cX2_set) (maxL := 7) (by decide) rfl (Nat.le_of_ble_eq_true rfl) ?_
  intro pg en s m args below meth cd A ls hx hb hr hml hown hts hlocks hin hA hK hP hD hl
  have hl : lv_has ls 7 [(0, .ref (bd 0)), (1, .int p0), (2, .int p1), (3, .int p2), (4, .int p3), (5, .int p4)] := hl
  have hS : va_S A s.heap s.heap [] := va_S.rf
  have k54 : ∀ (H : Heap) (locs : List Loc), va_P D vwCl (wM bd cI cL th qy lp sp (nI mK) (nI uK) pr ex dy tk bi (nI c) sh sr mk su mu co du mS) H → va_D A (wM bd cI cL th qy lp sp (nI mK) (nI uK) pr ex dy tk bi (nI c) sh sr mk su mu co du mS) → va_S A s.heap H locs → W pg l en ({ frames := 1, cells := 0, slots := 0, locals := 22 } : Room) s m args below meth cd H locs 0 0 (gEv True below D [(cI, .int), (cL, .long)] (wM bd cI cL 1 qy lp sp (nI mK) (nI uK) pr ex dy tk bi (nI c) sh sr mk su mu co du mS) A args s 0 0) (F0 m 54 ls []) := by
    intro H locs hP hD hS
    refine lv_iconst (v := 0) hx hb dX2_set_54 (by decide) ?_
    refine lv_istore (lv' := [(6, .int 0), (0, .ref (bd 0)), (1, .int p0), (2, .int p1), (3, .int p2), (4, .int p3), (5, .int p4)]) hx hb dX2_set_55 hl (by decide) rfl (fun ls hl => ?_)
    refine lv_aload_n hx hb dX2_set_57 rfl (lv_at hl 1 rfl) ?_
    refine lv_iload hx hb dX2_set_58 (lv_at hl 0 rfl) ?_
    refine lv_if_ne (tgt := 67) hx hb dX2_set_60 (by decide) (fun cy => ?_) (fun cy => ?_)
    · exact absurd rfl cy
    · refine lv_iconst (v := 1) hx hb dX2_set_63 (by decide) ?_
      refine lv_goto (tgt := 88) hx hb dX2_set_64 (by decide) ?_
      refine gV_i (wc := (wM bd cI cL th qy lp sp (nI mK) (nI uK) pr ex dy tk bi (nI c) sh sr mk su mu co du mS)) (wr := []) (w1 := (wM bd cI cL 1 qy lp sp (nI mK) (nI uK) pr ex dy tk bi (nI c) sh sr mk su mu co du mS)) (W' := (wM bd cI cL 1 qy lp sp (nI mK) (nI uK) pr ex dy tk bi (nI c) sh sr mk su mu co du mS)) (As := [.int 1]) (rest := []) ⟨hx, hb, hml, hown, hts⟩ (c_X2_holds l D H.size bd cI cL th qy lp sp mK uK pr ex dy tk bi c sh sr mk su mu co du mS 1) (cwV 1 hts gX2_set_X2_holds rfl rfl rfl (by decide +kernel) ⟨(Nat.le_of_ble_eq_true rfl), (Nat.le_of_ble_eq_true rfl)⟩) hS hA hK hP hD [0, 1] rfl [0, 1, 2, 3, 4, 5, 6, 7, 8, 9, 10, 11, 12] [] [0, 1, 2, 3, 4, 5, 6, 7, 8, 9, 10, 11, 12] rfl (by decide) rfl (by decide) (by decide) rfl (by decide) 0 2 rfl rfl rfl rfl hl.1 rfl (Nat.le_of_ble_eq_true rfl) dX2_set_88 ⟨(Nat.le_of_ble_eq_true rfl), (Nat.le_of_ble_eq_true rfl)⟩ (fun H locs _ hP hD hS => ?_)
      refine gj_i (bz_f (by decide)) ?_
      refine lv_if_eq (tgt := 121) hx hb dX2_set_91 (by decide) (fun cz => ?_) (fun cz => ?_)
      · exact ge_v hx hb hr hlocks hK hP hD hS trivial (Nat.le_of_ble_eq_true rfl) (Nat.le_of_ble_eq_true rfl) dX2_set_121
      · exact absurd cz (by decide)
  refine lv_iload_n hx hb dX2_set_0 rfl (lv_at hl 1 rfl) ?_
  refine lv_iconst (v := 1) hx hb dX2_set_1 (by decide) ?_
  refine lv_ldc (v := 100000) hx hb hown (hts _ hX2_set__constant_RX2_100_100000_) dX2_set_2 ?_
  refine gS_i (wc := []) (wr := [(bd 0, .inr (2, [.int th, .int qy, .int lp, .int sp, .int (nI mK), .int (nI uK), .ref (bd 1), .ref (bd 2), .ref (bd 3), .ref (bd 4), .ref (bd 5), .int (nI c), .ref (bd 6), .ref (bd 7), .ref (bd 8), .ref (bd 9), .ref (bd 10), .ref (bd 11), .ref (bd 12), .int mS])), (bd 1, .inl (cI, 20, .inl pr)), (bd 2, .inl (cI, 20, .inl ex)), (bd 3, .inl (cI, 360, .inl dy)), (bd 4, .inl (cI, 20, .inl tk)), (bd 5, .inl (cL, 20, .inr (.inl bi))), (bd 6, .inl (cI, 20, .inl sh)), (bd 7, .inl (cI, 20, .inl sr)), (bd 8, .inl (cI, 20, .inl mk)), (bd 9, .inl (cI, 20, .inl su)), (bd 10, .inl (cI, 20, .inl mu)), (bd 11, .inl (cI, 20, .inl co)), (bd 12, .inl (cL, 20, .inr (.inl du)))]) (w1 := []) (W' := (wM bd cI cL th qy lp sp (nI mK) (nI uK) pr ex dy tk bi (nI c) sh sr mk su mu co du mS)) (As := [.int p0, .int 1, .int 100000]) (rest := []) ⟨hx, hb, hml, hown, hts⟩ (c_X2_isIn l D s.heap.size cI cL p0 1 100000) (va_cwS 3 hts gX2_set_X2_isIn rfl rfl rfl (by decide +kernel) ⟨(Nat.le_of_ble_eq_true rfl), (Nat.le_of_ble_eq_true rfl)⟩) hS hA hK hP hD [0, 1] rfl [] [0, 1, 2, 3, 4, 5, 6, 7, 8, 9, 10, 11, 12] [0, 1, 2, 3, 4, 5, 6, 7, 8, 9, 10, 11, 12] rfl (by decide) rfl (by decide) (by decide) rfl (by decide) rfl hl.1 rfl (Nat.le_of_ble_eq_true rfl) dX2_set_4 ⟨(Nat.le_of_ble_eq_true rfl), (Nat.le_of_ble_eq_true rfl)⟩ (fun H locs _ hP hD hS => ?_)
  by_cases q0 : inR p0 1 100000
  · refine gj_i (bz_t q0) ?_
    refine lv_if_eq (tgt := 54) hx hb dX2_set_7 (by decide) (fun cz => ?_) (fun cz => ?_)
    · exact absurd cz (by decide)
    · refine lv_iload_n hx hb dX2_set_10 rfl (lv_at hl 2 rfl) ?_
      refine lv_iconst (v := 0) hx hb dX2_set_11 (by decide) ?_
      refine lv_bipush (v := 100) hx hb dX2_set_12 (by decide) ?_
      refine gS_i (wc := []) (wr := [(bd 0, .inr (2, [.int th, .int qy, .int lp, .int sp, .int (nI mK), .int (nI uK), .ref (bd 1), .ref (bd 2), .ref (bd 3), .ref (bd 4), .ref (bd 5), .int (nI c), .ref (bd 6), .ref (bd 7), .ref (bd 8), .ref (bd 9), .ref (bd 10), .ref (bd 11), .ref (bd 12), .int mS])), (bd 1, .inl (cI, 20, .inl pr)), (bd 2, .inl (cI, 20, .inl ex)), (bd 3, .inl (cI, 360, .inl dy)), (bd 4, .inl (cI, 20, .inl tk)), (bd 5, .inl (cL, 20, .inr (.inl bi))), (bd 6, .inl (cI, 20, .inl sh)), (bd 7, .inl (cI, 20, .inl sr)), (bd 8, .inl (cI, 20, .inl mk)), (bd 9, .inl (cI, 20, .inl su)), (bd 10, .inl (cI, 20, .inl mu)), (bd 11, .inl (cI, 20, .inl co)), (bd 12, .inl (cL, 20, .inr (.inl du)))]) (w1 := []) (W' := (wM bd cI cL th qy lp sp (nI mK) (nI uK) pr ex dy tk bi (nI c) sh sr mk su mu co du mS)) (As := [.int p1, .int 0, .int 100]) (rest := []) ⟨hx, hb, hml, hown, hts⟩ (c_X2_isIn l D H.size cI cL p1 0 100) (va_cwS 3 hts gX2_set_X2_isIn rfl rfl rfl (by decide +kernel) ⟨(Nat.le_of_ble_eq_true rfl), (Nat.le_of_ble_eq_true rfl)⟩) hS hA hK hP hD [0, 1] rfl [] [0, 1, 2, 3, 4, 5, 6, 7, 8, 9, 10, 11, 12] [0, 1, 2, 3, 4, 5, 6, 7, 8, 9, 10, 11, 12] rfl (by decide) rfl (by decide) (by decide) rfl (by decide) rfl hl.1 rfl (Nat.le_of_ble_eq_true rfl) dX2_set_14 ⟨(Nat.le_of_ble_eq_true rfl), (Nat.le_of_ble_eq_true rfl)⟩ (fun H locs _ hP hD hS => ?_)
      by_cases q1 : inR p1 0 100
      · refine gj_i (bz_t q1) ?_
        refine lv_if_eq (tgt := 54) hx hb dX2_set_17 (by decide) (fun cz => ?_) (fun cz => ?_)
        · exact absurd cz (by decide)
        · refine lv_iload_n hx hb dX2_set_20 rfl (lv_at hl 3 rfl) ?_
          refine lv_iconst (v := 0) hx hb dX2_set_21 (by decide) ?_
          refine lv_bipush (v := 100) hx hb dX2_set_22 (by decide) ?_
          refine gS_i (wc := []) (wr := [(bd 0, .inr (2, [.int th, .int qy, .int lp, .int sp, .int (nI mK), .int (nI uK), .ref (bd 1), .ref (bd 2), .ref (bd 3), .ref (bd 4), .ref (bd 5), .int (nI c), .ref (bd 6), .ref (bd 7), .ref (bd 8), .ref (bd 9), .ref (bd 10), .ref (bd 11), .ref (bd 12), .int mS])), (bd 1, .inl (cI, 20, .inl pr)), (bd 2, .inl (cI, 20, .inl ex)), (bd 3, .inl (cI, 360, .inl dy)), (bd 4, .inl (cI, 20, .inl tk)), (bd 5, .inl (cL, 20, .inr (.inl bi))), (bd 6, .inl (cI, 20, .inl sh)), (bd 7, .inl (cI, 20, .inl sr)), (bd 8, .inl (cI, 20, .inl mk)), (bd 9, .inl (cI, 20, .inl su)), (bd 10, .inl (cI, 20, .inl mu)), (bd 11, .inl (cI, 20, .inl co)), (bd 12, .inl (cL, 20, .inr (.inl du)))]) (w1 := []) (W' := (wM bd cI cL th qy lp sp (nI mK) (nI uK) pr ex dy tk bi (nI c) sh sr mk su mu co du mS)) (As := [.int p2, .int 0, .int 100]) (rest := []) ⟨hx, hb, hml, hown, hts⟩ (c_X2_isIn l D H.size cI cL p2 0 100) (va_cwS 3 hts gX2_set_X2_isIn rfl rfl rfl (by decide +kernel) ⟨(Nat.le_of_ble_eq_true rfl), (Nat.le_of_ble_eq_true rfl)⟩) hS hA hK hP hD [0, 1] rfl [] [0, 1, 2, 3, 4, 5, 6, 7, 8, 9, 10, 11, 12] [0, 1, 2, 3, 4, 5, 6, 7, 8, 9, 10, 11, 12] rfl (by decide) rfl (by decide) (by decide) rfl (by decide) rfl hl.1 rfl (Nat.le_of_ble_eq_true rfl) dX2_set_24 ⟨(Nat.le_of_ble_eq_true rfl), (Nat.le_of_ble_eq_true rfl)⟩ (fun H locs _ hP hD hS => ?_)
          by_cases q2 : inR p2 0 100
          · refine gj_i (bz_t q2) ?_
            refine lv_if_eq (tgt := 54) hx hb dX2_set_27 (by decide) (fun cz => ?_) (fun cz => ?_)
            · exact absurd cz (by decide)
            · refine lv_iload hx hb dX2_set_30 (lv_at hl 4 rfl) ?_
              refine lv_iconst (v := 1) hx hb dX2_set_32 (by decide) ?_
              refine lv_iconst (v := 5) hx hb dX2_set_33 (by decide) ?_
              refine gS_i (wc := []) (wr := [(bd 0, .inr (2, [.int th, .int qy, .int lp, .int sp, .int (nI mK), .int (nI uK), .ref (bd 1), .ref (bd 2), .ref (bd 3), .ref (bd 4), .ref (bd 5), .int (nI c), .ref (bd 6), .ref (bd 7), .ref (bd 8), .ref (bd 9), .ref (bd 10), .ref (bd 11), .ref (bd 12), .int mS])), (bd 1, .inl (cI, 20, .inl pr)), (bd 2, .inl (cI, 20, .inl ex)), (bd 3, .inl (cI, 360, .inl dy)), (bd 4, .inl (cI, 20, .inl tk)), (bd 5, .inl (cL, 20, .inr (.inl bi))), (bd 6, .inl (cI, 20, .inl sh)), (bd 7, .inl (cI, 20, .inl sr)), (bd 8, .inl (cI, 20, .inl mk)), (bd 9, .inl (cI, 20, .inl su)), (bd 10, .inl (cI, 20, .inl mu)), (bd 11, .inl (cI, 20, .inl co)), (bd 12, .inl (cL, 20, .inr (.inl du)))]) (w1 := []) (W' := (wM bd cI cL th qy lp sp (nI mK) (nI uK) pr ex dy tk bi (nI c) sh sr mk su mu co du mS)) (As := [.int p3, .int 1, .int 5]) (rest := []) ⟨hx, hb, hml, hown, hts⟩ (c_X2_isIn l D H.size cI cL p3 1 5) (va_cwS 3 hts gX2_set_X2_isIn rfl rfl rfl (by decide +kernel) ⟨(Nat.le_of_ble_eq_true rfl), (Nat.le_of_ble_eq_true rfl)⟩) hS hA hK hP hD [0, 1] rfl [] [0, 1, 2, 3, 4, 5, 6, 7, 8, 9, 10, 11, 12] [0, 1, 2, 3, 4, 5, 6, 7, 8, 9, 10, 11, 12] rfl (by decide) rfl (by decide) (by decide) rfl (by decide) rfl hl.1 rfl (Nat.le_of_ble_eq_true rfl) dX2_set_34 ⟨(Nat.le_of_ble_eq_true rfl), (Nat.le_of_ble_eq_true rfl)⟩ (fun H locs _ hP hD hS => ?_)
              by_cases q3 : inR p3 1 5
              · refine gj_i (bz_t q3) ?_
                refine lv_if_eq (tgt := 54) hx hb dX2_set_37 (by decide) (fun cz => ?_) (fun cz => ?_)
                · exact absurd cz (by decide)
                · refine lv_iload hx hb dX2_set_40 (lv_at hl 5 rfl) ?_
                  refine lv_iconst (v := 1) hx hb dX2_set_42 (by decide) ?_
                  refine lv_iconst (v := 5) hx hb dX2_set_43 (by decide) ?_
                  refine gS_i (wc := []) (wr := [(bd 0, .inr (2, [.int th, .int qy, .int lp, .int sp, .int (nI mK), .int (nI uK), .ref (bd 1), .ref (bd 2), .ref (bd 3), .ref (bd 4), .ref (bd 5), .int (nI c), .ref (bd 6), .ref (bd 7), .ref (bd 8), .ref (bd 9), .ref (bd 10), .ref (bd 11), .ref (bd 12), .int mS])), (bd 1, .inl (cI, 20, .inl pr)), (bd 2, .inl (cI, 20, .inl ex)), (bd 3, .inl (cI, 360, .inl dy)), (bd 4, .inl (cI, 20, .inl tk)), (bd 5, .inl (cL, 20, .inr (.inl bi))), (bd 6, .inl (cI, 20, .inl sh)), (bd 7, .inl (cI, 20, .inl sr)), (bd 8, .inl (cI, 20, .inl mk)), (bd 9, .inl (cI, 20, .inl su)), (bd 10, .inl (cI, 20, .inl mu)), (bd 11, .inl (cI, 20, .inl co)), (bd 12, .inl (cL, 20, .inr (.inl du)))]) (w1 := []) (W' := (wM bd cI cL th qy lp sp (nI mK) (nI uK) pr ex dy tk bi (nI c) sh sr mk su mu co du mS)) (As := [.int p4, .int 1, .int 5]) (rest := []) ⟨hx, hb, hml, hown, hts⟩ (c_X2_isIn l D H.size cI cL p4 1 5) (va_cwS 3 hts gX2_set_X2_isIn rfl rfl rfl (by decide +kernel) ⟨(Nat.le_of_ble_eq_true rfl), (Nat.le_of_ble_eq_true rfl)⟩) hS hA hK hP hD [0, 1] rfl [] [0, 1, 2, 3, 4, 5, 6, 7, 8, 9, 10, 11, 12] [0, 1, 2, 3, 4, 5, 6, 7, 8, 9, 10, 11, 12] rfl (by decide) rfl (by decide) (by decide) rfl (by decide) rfl hl.1 rfl (Nat.le_of_ble_eq_true rfl) dX2_set_44 ⟨(Nat.le_of_ble_eq_true rfl), (Nat.le_of_ble_eq_true rfl)⟩ (fun H locs _ hP hD hS => ?_)
                  by_cases q4 : inR p4 1 5
                  · refine gj_i (bz_t q4) ?_
                    refine lv_if_eq (tgt := 54) hx hb dX2_set_47 (by decide) (fun cz => ?_) (fun cz => ?_)
                    · exact absurd cz (by decide)
                    · exact absurd ⟨q0, q1, q2, q3, q4⟩ hbad
                  · refine gj_i (bz_f q4) ?_
                    refine lv_if_eq (tgt := 54) hx hb dX2_set_47 (by decide) (fun cz => ?_) (fun cz => ?_)
                    · exact k54 _ _ hP hD hS
                    · exact absurd cz (by decide)
              · refine gj_i (bz_f q3) ?_
                refine lv_if_eq (tgt := 54) hx hb dX2_set_37 (by decide) (fun cz => ?_) (fun cz => ?_)
                · exact k54 _ _ hP hD hS
                · exact absurd cz (by decide)
          · refine gj_i (bz_f q2) ?_
            refine lv_if_eq (tgt := 54) hx hb dX2_set_27 (by decide) (fun cz => ?_) (fun cz => ?_)
            · exact k54 _ _ hP hD hS
            · exact absurd cz (by decide)
      · refine gj_i (bz_f q1) ?_
        refine lv_if_eq (tgt := 54) hx hb dX2_set_17 (by decide) (fun cz => ?_) (fun cz => ?_)
        · exact k54 _ _ hP hD hS
        · exact absurd cz (by decide)
  · refine gj_i (bz_f q0) ?_
    refine lv_if_eq (tgt := 54) hx hb dX2_set_7 (by decide) (fun cz => ?_) (fun cz => ?_)
    · exact k54 _ _ hP hD hS
    · exact absurd cz (by decide)
set_option maxHeartbeats 4000000 in
set_option maxRecDepth 100000 in
theorem c_X2_set_2 (l : Launch) (D : va_G) (sz : Nat) (bd : Nat → Nat) (cI cL : ClassId) (th qy lp sp : Int32) (mK uK : Nat) (pr ex dy tk : Nat → Int32) (bi : Nat → Int64) (c : Nat) (sh sr mk su mu co : Nat → Int32) (du : Nat → Int64) (mS : Int32) (p0 p1 p2 p3 p4 : Int32) (r0 : inR p0 1 100000) (r1 : inR p1 0 100) (r2 : inR p2 0 100) (r3 : inR p3 1 5) (r4 : inR p4 1 5) (hbad : ¬ (¬ 0 < nI c ∧ tk 0 ≤ 0)) : gCv l yX2_set wsX2_set ({ frames := 1, cells := 0, slots := 0, locals := 22 } : Room) D [(cI, .int), (cL, .long)] [.ref (bd 0), .int p0, .int p1, .int p2, .int p3, .int p4] (wM bd cI cL th qy lp sp (nI mK) (nI uK) pr ex dy tk bi (nI c) sh sr mk su mu co du mS) (wM bd cI cL 2 qy lp sp (nI mK) (nI uK) pr ex dy tk bi (nI c) sh sr mk su mu co du mS) True 0 0 sz := by
  refine gm_v (cc := cX2_set) (maxL := 7) (by decide) rfl (Nat.le_of_ble_eq_true rfl) ?_
  intro pg en s m args below meth cd A ls hx hb hr hml hown hts hlocks hin hA hK hP hD hl
  have hl : lv_has ls 7 [(0, .ref (bd 0)), (1, .int p0), (2, .int p1), (3, .int p2), (4, .int p3), (5, .int p4)] := hl
  have hS : va_S A s.heap s.heap [] := va_S.rf
  refine lv_iload_n hx hb dX2_set_0 rfl (lv_at hl 1 rfl) ?_
  refine lv_iconst (v := 1) hx hb dX2_set_1 (by decide) ?_
  refine lv_ldc (v := 100000) hx hb hown (hts _ hX2_set__constant_RX2_100_100000_) dX2_set_2 ?_
  refine gS_i (wc := []) (wr := [(bd 0, .inr (2, [.int th, .int qy, .int lp, .int sp, .int (nI mK), .int (nI uK), .ref (bd 1), .ref (bd 2), .ref (bd 3), .ref (bd 4), .ref (bd 5), .int (nI c), .ref (bd 6), .ref (bd 7), .ref (bd 8), .ref (bd 9), .ref (bd 10), .ref (bd 11), .ref (bd 12), .int mS])), (bd 1, .inl (cI, 20, .inl pr)), (bd 2, .inl (cI, 20, .inl ex)), (bd 3, .inl (cI, 360, .inl dy)), (bd 4, .inl (cI, 20, .inl tk)), (bd 5, .inl (cL, 20, .inr (.inl bi))), (bd 6, .inl (cI, 20, .inl sh)), (bd 7, .inl (cI, 20, .inl sr)), (bd 8, .inl (cI, 20, .inl mk)), (bd 9, .inl (cI, 20, .inl su)), (bd 10, .inl (cI, 20, .inl mu)), (bd 11, .inl (cI, 20, .inl co)), (bd 12, .inl (cL, 20, .inr (.inl du)))]) (w1 := []) (W' := (wM bd cI cL th qy lp sp (nI mK) (nI uK) pr ex dy tk bi (nI c) sh sr mk su mu co du mS)) (As := [.int p0, .int 1, .int 100000]) (rest := []) ⟨hx, hb, hml, hown, hts⟩ (c_X2_isIn l D s.heap.size cI cL p0 1 100000) (va_cwS 3 hts gX2_set_X2_isIn rfl rfl rfl (by decide +kernel) ⟨(Nat.le_of_ble_eq_true rfl), (Nat.le_of_ble_eq_true rfl)⟩) hS hA hK hP hD [0, 1] rfl [] [0, 1, 2, 3, 4, 5, 6, 7, 8, 9, 10, 11, 12] [0, 1, 2, 3, 4, 5, 6, 7, 8, 9, 10, 11, 12] rfl (by decide) rfl (by decide) (by decide) rfl (by decide) rfl hl.1 rfl (Nat.le_of_ble_eq_true rfl) dX2_set_4 ⟨(Nat.le_of_ble_eq_true rfl), (Nat.le_of_ble_eq_true rfl)⟩ (fun H locs _ hP hD hS => ?_)
  refine gj_i (bz_t r0) ?_
  refine lv_if_eq (tgt := 54) hx hb dX2_set_7 (by decide) (fun cz => ?_) (fun cz => ?_)
  · exact absurd cz (by decide)
  · refine lv_iload_n hx hb dX2_set_10 rfl (lv_at hl 2 rfl) ?_
    refine lv_iconst (v := 0) hx hb dX2_set_11 (by decide) ?_
    refine lv_bipush (v := 100) hx hb dX2_set_12 (by decide) ?_
    refine gS_i (wc := []) (wr := [(bd 0, .inr (2, [.int th, .int qy, .int lp, .int sp, .int (nI mK), .int (nI uK), .ref (bd 1), .ref (bd 2), .ref (bd 3), .ref (bd 4), .ref (bd 5), .int (nI c), .ref (bd 6), .ref (bd 7), .ref (bd 8), .ref (bd 9), .ref (bd 10), .ref (bd 11), .ref (bd 12), .int mS])), (bd 1, .inl (cI, 20, .inl pr)), (bd 2, .inl (cI, 20, .inl ex)), (bd 3, .inl (cI, 360, .inl dy)), (bd 4, .inl (cI, 20, .inl tk)), (bd 5, .inl (cL, 20, .inr (.inl bi))), (bd 6, .inl (cI, 20, .inl sh)), (bd 7, .inl (cI, 20, .inl sr)), (bd 8, .inl (cI, 20, .inl mk)), (bd 9, .inl (cI, 20, .inl su)), (bd 10, .inl (cI, 20, .inl mu)), (bd 11, .inl (cI, 20, .inl co)), (bd 12, .inl (cL, 20, .inr (.inl du)))]) (w1 := []) (W' := (wM bd cI cL th qy lp sp (nI mK) (nI uK) pr ex dy tk bi (nI c) sh sr mk su mu co du mS)) (As := [.int p1, .int 0, .int 100]) (rest := []) ⟨hx, hb, hml, hown, hts⟩ (c_X2_isIn l D H.size cI cL p1 0 100) (va_cwS 3 hts gX2_set_X2_isIn rfl rfl rfl (by decide +kernel) ⟨(Nat.le_of_ble_eq_true rfl), (Nat.le_of_ble_eq_true rfl)⟩) hS hA hK hP hD [0, 1] rfl [] [0, 1, 2, 3, 4, 5, 6, 7, 8, 9, 10, 11, 12] [0, 1, 2, 3, 4, 5, 6, 7, 8, 9, 10, 11, 12] rfl (by decide) rfl (by decide) (by decide) rfl (by decide) rfl hl.1 rfl (Nat.le_of_ble_eq_true rfl) dX2_set_14 ⟨(Nat.le_of_ble_eq_true rfl), (Nat.le_of_ble_eq_true rfl)⟩ (fun H locs _ hP hD hS => ?_)
    refine gj_i (bz_t r1) ?_
    refine lv_if_eq (tgt := 54) hx hb dX2_set_17 (by decide) (fun cz => ?_) (fun cz => ?_)
    · exact absurd cz (by decide)
    · refine lv_iload_n hx hb dX2_set_20 rfl (lv_at hl 3 rfl) ?_
      refine lv_iconst (v := 0) hx hb dX2_set_21 (by decide) ?_
      refine lv_bipush (v := 100) hx hb dX2_set_22 (by decide) ?_
      refine gS_i (wc := []) (wr := [(bd 0, .inr (2, [.int th, .int qy, .int lp, .int sp, .int (nI mK), .int (nI uK), .ref (bd 1), .ref (bd 2), .ref (bd 3), .ref (bd 4), .ref (bd 5), .int (nI c), .ref (bd 6), .ref (bd 7), .ref (bd 8), .ref (bd 9), .ref (bd 10), .ref (bd 11), .ref (bd 12), .int mS])), (bd 1, .inl (cI, 20, .inl pr)), (bd 2, .inl (cI, 20, .inl ex)), (bd 3, .inl (cI, 360, .inl dy)), (bd 4, .inl (cI, 20, .inl tk)), (bd 5, .inl (cL, 20, .inr (.inl bi))), (bd 6, .inl (cI, 20, .inl sh)), (bd 7, .inl (cI, 20, .inl sr)), (bd 8, .inl (cI, 20, .inl mk)), (bd 9, .inl (cI, 20, .inl su)), (bd 10, .inl (cI, 20, .inl mu)), (bd 11, .inl (cI, 20, .inl co)), (bd 12, .inl (cL, 20, .inr (.inl du)))]) (w1 := []) (W' := (wM bd cI cL th qy lp sp (nI mK) (nI uK) pr ex dy tk bi (nI c) sh sr mk su mu co du mS)) (As := [.int p2, .int 0, .int 100]) (rest := []) ⟨hx, hb, hml, hown, hts⟩ (c_X2_isIn l D H.size cI cL p2 0 100) (va_cwS 3 hts gX2_set_X2_isIn rfl rfl rfl (by decide +kernel) ⟨(Nat.le_of_ble_eq_true rfl), (Nat.le_of_ble_eq_true rfl)⟩) hS hA hK hP hD [0, 1] rfl [] [0, 1, 2, 3, 4, 5, 6, 7, 8, 9, 10, 11, 12] [0, 1, 2, 3, 4, 5, 6, 7, 8, 9, 10, 11, 12] rfl (by decide) rfl (by decide) (by decide) rfl (by decide) rfl hl.1 rfl (Nat.le_of_ble_eq_true rfl) dX2_set_24 ⟨(Nat.le_of_ble_eq_true rfl), (Nat.le_of_ble_eq_true rfl)⟩ (fun H locs _ hP hD hS => ?_)
      refine gj_i (bz_t r2) ?_
      refine lv_if_eq (tgt := 54) hx hb dX2_set_27 (by decide) (fun cz => ?_) (fun cz => ?_)
      · exact absurd cz (by decide)
      · refine lv_iload hx hb dX2_set_30 (lv_at hl 4 rfl) ?_
        refine lv_iconst (v := 1) hx hb dX2_set_32 (by decide) ?_
        refine lv_iconst (v := 5) hx hb dX2_set_33 (by decide) ?_
        refine gS_i (wc := []) (wr := [(bd 0, .inr (2, [.int th, .int qy, .int lp, .int sp, .int (nI mK), .int (nI uK), .ref (bd 1), .ref (bd 2), .ref (bd 3), .ref (bd 4), .ref (bd 5), .int (nI c), .ref (bd 6), .ref (bd 7), .ref (bd 8), .ref (bd 9), .ref (bd 10), .ref (bd 11), .ref (bd 12), .int mS])), (bd 1, .inl (cI, 20, .inl pr)), (bd 2, .inl (cI, 20, .inl ex)), (bd 3, .inl (cI, 360, .inl dy)), (bd 4, .inl (cI, 20, .inl tk)), (bd 5, .inl (cL, 20, .inr (.inl bi))), (bd 6, .inl (cI, 20, .inl sh)), (bd 7, .inl (cI, 20, .inl sr)), (bd 8, .inl (cI, 20, .inl mk)), (bd 9, .inl (cI, 20, .inl su)), (bd 10, .inl (cI, 20, .inl mu)), (bd 11, .inl (cI, 20, .inl co)), (bd 12, .inl (cL, 20, .inr (.inl du)))]) (w1 := []) (W' := (wM bd cI cL th qy lp sp (nI mK) (nI uK) pr ex dy tk bi (nI c) sh sr mk su mu co du mS)) (As := [.int p3, .int 1, .int 5]) (rest := []) ⟨hx, hb, hml, hown, hts⟩ (c_X2_isIn l D H.size cI cL p3 1 5) (va_cwS 3 hts gX2_set_X2_isIn rfl rfl rfl (by decide +kernel) ⟨(Nat.le_of_ble_eq_true rfl), (Nat.le_of_ble_eq_true rfl)⟩) hS hA hK hP hD [0, 1] rfl [] [0, 1, 2, 3, 4, 5, 6, 7, 8, 9, 10, 11, 12] [0, 1, 2, 3, 4, 5, 6, 7, 8, 9, 10, 11, 12] rfl (by decide) rfl (by decide) (by decide) rfl (by decide) rfl hl.1 rfl (Nat.le_of_ble_eq_true rfl) dX2_set_34 ⟨(Nat.le_of_ble_eq_true rfl), (Nat.le_of_ble_eq_true rfl)⟩ (fun H locs _ hP hD hS => ?_)
        refine gj_i (bz_t r3) ?_
        refine lv_if_eq (tgt := 54) hx hb dX2_set_37 (by decide) (fun cz => ?_) (fun cz => ?_)
        · exact absurd cz (by decide)
        · refine lv_iload hx hb dX2_set_40 (lv_at hl 5 rfl) ?_
          refine lv_iconst (v := 1) hx hb dX2_set_42 (by decide) ?_
          refine lv_iconst (v := 5) hx hb dX2_set_43 (by decide) ?_
          refine gS_i (wc := []) (wr := [(bd 0, .inr (2, [.int th, .int qy, .int lp, .int sp, .int (nI mK), .int (nI uK), .ref (bd 1), .ref (bd 2), .ref (bd 3), .ref (bd 4), .ref (bd 5), .int (nI c), .ref (bd 6), .ref (bd 7), .ref (bd 8), .ref (bd 9), .ref (bd 10), .ref (bd 11), .ref (bd 12), .int mS])), (bd 1, .inl (cI, 20, .inl pr)), (bd 2, .inl (cI, 20, .inl ex)), (bd 3, .inl (cI, 360, .inl dy)), (bd 4, .inl (cI, 20, .inl tk)), (bd 5, .inl (cL, 20, .inr (.inl bi))), (bd 6, .inl (cI, 20, .inl sh)), (bd 7, .inl (cI, 20, .inl sr)), (bd 8, .inl (cI, 20, .inl mk)), (bd 9, .inl (cI, 20, .inl su)), (bd 10, .inl (cI, 20, .inl mu)), (bd 11, .inl (cI, 20, .inl co)), (bd 12, .inl (cL, 20, .inr (.inl du)))]) (w1 := []) (W' := (wM bd cI cL th qy lp sp (nI mK) (nI uK) pr ex dy tk bi (nI c) sh sr mk su mu co du mS)) (As := [.int p4, .int 1, .int 5]) (rest := []) ⟨hx, hb, hml, hown, hts⟩ (c_X2_isIn l D H.size cI cL p4 1 5) (va_cwS 3 hts gX2_set_X2_isIn rfl rfl rfl (by decide +kernel) ⟨(Nat.le_of_ble_eq_true rfl), (Nat.le_of_ble_eq_true rfl)⟩) hS hA hK hP hD [0, 1] rfl [] [0, 1, 2, 3, 4, 5, 6, 7, 8, 9, 10, 11, 12] [0, 1, 2, 3, 4, 5, 6, 7, 8, 9, 10, 11, 12] rfl (by decide) rfl (by decide) (by decide) rfl (by decide) rfl hl.1 rfl (Nat.le_of_ble_eq_true rfl) dX2_set_44 ⟨(Nat.le_of_ble_eq_true rfl), (Nat.le_of_ble_eq_true rfl)⟩ (fun H locs _ hP hD hS => ?_)
          refine gj_i (bz_t r4) ?_
          refine lv_if_eq (tgt := 54) hx hb dX2_set_47 (by decide) (fun cz => ?_) (fun cz => ?_)
          · exact absurd cz (by decide)
          · refine lv_iconst (v := 1) hx hb dX2_set_50 (by decide) ?_
            refine lv_goto (tgt := 55) hx hb dX2_set_51 (by decide) ?_
            refine lv_istore (lv' := [(6, .int 1), (0, .ref (bd 0)), (1, .int p0), (2, .int p1), (3, .int p2), (4, .int p3), (5, .int p4)]) hx hb dX2_set_55 hl (by decide) rfl (fun ls hl => ?_)
            refine lv_aload_n hx hb dX2_set_57 rfl (lv_at hl 1 rfl) ?_
            refine lv_iload hx hb dX2_set_58 (lv_at hl 0 rfl) ?_
            refine lv_if_ne (tgt := 67) hx hb dX2_set_60 (by decide) (fun cy => ?_) (fun cy => ?_)
            · refine lv_aload_n hx hb dX2_set_67 rfl (lv_at hl 1 rfl) ?_
              refine va_get (D := D) (ci := 2) (C := RX2) (T := TX2) (N := 20) hx hb hts inX2_set_X2 hown hK hP 0 rfl rfl 11 (by decide) (hts _ hX2_set__fieldLink_RX2_80_MakeupGasModel_closed_I_) (fun _ h9 => h9) rfl dX2_set_68 ?_
              have k83 : W pg l en ({ frames := 1, cells := 0, slots := 0, locals := 22 } : Room) s m args below meth cd H locs 0 0 (gEv True below D [(cI, .int), (cL, .long)] (wM bd cI cL 2 qy lp sp (nI mK) (nI uK) pr ex dy tk bi (nI c) sh sr mk su mu co du mS) A args s 0 0) (F0 m 83 ls [.ref (bd 0)]) := by
                refine lv_iconst (v := 2) hx hb dX2_set_83 (by decide) ?_
                refine lv_goto (tgt := 88) hx hb dX2_set_84 (by decide) ?_
                refine gV_i (wc := (wM bd cI cL th qy lp sp (nI mK) (nI uK) pr ex dy tk bi (nI c) sh sr mk su mu co du mS)) (wr := []) (w1 := (wM bd cI cL 2 qy lp sp (nI mK) (nI uK) pr ex dy tk bi (nI c) sh sr mk su mu co du mS)) (W' := (wM bd cI cL 2 qy lp sp (nI mK) (nI uK) pr ex dy tk bi (nI c) sh sr mk su mu co du mS)) (As := [.int 2]) (rest := []) ⟨hx, hb, hml, hown, hts⟩ (c_X2_holds l D H.size bd cI cL th qy lp sp mK uK pr ex dy tk bi c sh sr mk su mu co du mS 2) (cwV 1 hts gX2_set_X2_holds rfl rfl rfl (by decide +kernel) ⟨(Nat.le_of_ble_eq_true rfl), (Nat.le_of_ble_eq_true rfl)⟩) hS hA hK hP hD [0, 1] rfl [0, 1, 2, 3, 4, 5, 6, 7, 8, 9, 10, 11, 12] [] [0, 1, 2, 3, 4, 5, 6, 7, 8, 9, 10, 11, 12] rfl (by decide) rfl (by decide) (by decide) rfl (by decide) 0 2 rfl rfl rfl rfl hl.1 rfl (Nat.le_of_ble_eq_true rfl) dX2_set_88 ⟨(Nat.le_of_ble_eq_true rfl), (Nat.le_of_ble_eq_true rfl)⟩ (fun H locs _ hP hD hS => ?_)
                refine gj_i (bz_f (by decide)) ?_
                refine lv_if_eq (tgt := 121) hx hb dX2_set_91 (by decide) (fun cz => ?_) (fun cz => ?_)
                · exact ge_v hx hb hr hlocks hK hP hD hS trivial (Nat.le_of_ble_eq_true rfl) (Nat.le_of_ble_eq_true rfl) dX2_set_121
                · exact absurd cz (by decide)
              refine lv_if_gt (tgt := 83) hx hb dX2_set_71 (by decide) (fun cc => ?_) (fun cc => ?_)
              · exact k83
              · refine lv_aload_n hx hb dX2_set_74 rfl (lv_at hl 1 rfl) ?_
                refine va_get (D := D) (ci := 2) (C := RX2) (T := TX2) (N := 20) hx hb hts inX2_set_X2 hown hK hP 0 rfl rfl 9 (by decide) (hts _ hX2_set__fieldLink_RX2_36_MakeupGasModel_taken_I_) (fun _ h9 => h9) rfl dX2_set_75 ?_
                refine lv_iconst (v := 0) hx hb dX2_set_78 (by decide) ?_
                refine ga_iald (j := 0) hx hb hK hP 4 0 rfl rfl (by decide) (by decide) dX2_set_79 ?_
                refine lv_if_le (tgt := 87) hx hb dX2_set_80 (by decide) (fun ct => ?_) (fun ct => ?_)
                · exact absurd ⟨cc, ct⟩ hbad
                · exact k83
            · exact absurd cy (by decide)
theorem inX2_review_X2 : ∀ q ∈ wsX20, q ∈ wsX2_review := by decide +kernel
theorem hX2_review__fieldLink_RX2_26_MakeupGasModel_prices_I_ : Cond.fieldLink RX2 26 "MakeupGasModel" "prices" "[I" ∈ wsX2_review := by decide +kernel
set_option maxHeartbeats 4000000 in
set_option maxRecDepth 100000 in
theorem c_X2_review (l : Launch) (D : va_G) (sz : Nat) (bd : Nat → Nat) (cI cL : ClassId) (th qy lp sp : Int32) (mK uK : Nat) (pr ex dy tk : Nat → Int32) (bi : Nat → Int64) (c : Nat) (sh sr mk su mu co : Nat → Int32) (du : Nat → Int64) (mS : Int32) (j : Nat) (p : Int32) (hj : j < 20) (r1 : inR p 1 1000) : gCi l yX2_review wsX2_review ({ frames := 2, cells := 0, slots := 0, locals := 42 } : Room) D [(cI, .int), (cL, .long)] [.ref (bd 0), .int (nI j), .int p] (wM bd cI cL th qy lp sp (nI mK) (nI uK) pr ex dy tk bi (nI c) sh sr mk su mu co du mS) (wM bd cI cL 0 qy lp sp (nI mK) (nI uK) (rvF pr j 20 p) ex dy tk bi (nI c) sh sr mk su mu co du mS) (pr j) True 0 0 sz := by
  refine gm_i (cc := cX2_review) (maxL := 5) (by decide) rfl (Nat.le_of_ble_eq_true rfl) ?_
  intro pg en s m args below meth cd A ls hx hb hr hml hown hts hlocks hin hA hK hP hD hl
  have hl : lv_has ls 5 [(0, .ref (bd 0)), (1, .int (nI j)), (2, .int p)] := hl
  have hS : va_S A s.heap s.heap [] := va_S.rf
  refine lv_aload_n hx hb dX2_review_0 rfl (lv_at hl 0 rfl) ?_
  refine lv_iload_n hx hb dX2_review_1 rfl (lv_at hl 1 rfl) ?_
  refine gS_i (wc := []) (wr := [(bd 0, .inr (2, [.int th, .int qy, .int lp, .int sp, .int (nI mK), .int (nI uK), .ref (bd 1), .ref (bd 2), .ref (bd 3), .ref (bd 4), .ref (bd 5), .int (nI c), .ref (bd 6), .ref (bd 7), .ref (bd 8), .ref (bd 9), .ref (bd 10), .ref (bd 11), .ref (bd 12), .int mS])), (bd 1, .inl (cI, 20, .inl pr)), (bd 2, .inl (cI, 20, .inl ex)), (bd 3, .inl (cI, 360, .inl dy)), (bd 4, .inl (cI, 20, .inl tk)), (bd 5, .inl (cL, 20, .inr (.inl bi))), (bd 6, .inl (cI, 20, .inl sh)), (bd 7, .inl (cI, 20, .inl sr)), (bd 8, .inl (cI, 20, .inl mk)), (bd 9, .inl (cI, 20, .inl su)), (bd 10, .inl (cI, 20, .inl mu)), (bd 11, .inl (cI, 20, .inl co)), (bd 12, .inl (cL, 20, .inr (.inl du)))]) (w1 := []) (W' := (wM bd cI cL th qy lp sp (nI mK) (nI uK) pr ex dy tk bi (nI c) sh sr mk su mu co du mS)) (As := [.int (nI j)]) (rest := [.ref (bd 0)]) ⟨hx, hb, hml, hown, hts⟩ (c_X2_isYear l D s.heap.size cI cL (nI j)) (va_cwS 1 hts gX2_review_X2_isYear rfl rfl rfl (by decide +kernel) ⟨(Nat.le_of_ble_eq_true rfl), (Nat.le_of_ble_eq_true rfl)⟩) hS hA hK hP hD [0, 1] rfl [] [0, 1, 2, 3, 4, 5, 6, 7, 8, 9, 10, 11, 12] [0, 1, 2, 3, 4, 5, 6, 7, 8, 9, 10, 11, 12] rfl (by decide) rfl (by decide) (by decide) rfl (by decide) rfl hl.1 rfl (Nat.le_of_ble_eq_true rfl) dX2_review_2 ⟨(Nat.le_of_ble_eq_true rfl), (Nat.le_of_ble_eq_true rfl)⟩ (fun H locs _ hP hD hS => ?_)
  refine gj_i (bz_t (inR_nI (n := 19) rfl (by omega) (by decide))) ?_
  refine lv_if_eq (tgt := 23) hx hb dX2_review_5 (by decide) (fun cz => ?_) (fun cz => ?_)
  · exact absurd cz (by decide)
  · refine lv_iload_n hx hb dX2_review_8 rfl (lv_at hl 2 rfl) ?_
    refine lv_iconst (v := 1) hx hb dX2_review_9 (by decide) ?_
    refine lv_sipush (v := 1000) hx hb dX2_review_10 (by decide) ?_
    refine gS_i (wc := []) (wr := [(bd 0, .inr (2, [.int th, .int qy, .int lp, .int sp, .int (nI mK), .int (nI uK), .ref (bd 1), .ref (bd 2), .ref (bd 3), .ref (bd 4), .ref (bd 5), .int (nI c), .ref (bd 6), .ref (bd 7), .ref (bd 8), .ref (bd 9), .ref (bd 10), .ref (bd 11), .ref (bd 12), .int mS])), (bd 1, .inl (cI, 20, .inl pr)), (bd 2, .inl (cI, 20, .inl ex)), (bd 3, .inl (cI, 360, .inl dy)), (bd 4, .inl (cI, 20, .inl tk)), (bd 5, .inl (cL, 20, .inr (.inl bi))), (bd 6, .inl (cI, 20, .inl sh)), (bd 7, .inl (cI, 20, .inl sr)), (bd 8, .inl (cI, 20, .inl mk)), (bd 9, .inl (cI, 20, .inl su)), (bd 10, .inl (cI, 20, .inl mu)), (bd 11, .inl (cI, 20, .inl co)), (bd 12, .inl (cL, 20, .inr (.inl du)))]) (w1 := []) (W' := (wM bd cI cL th qy lp sp (nI mK) (nI uK) pr ex dy tk bi (nI c) sh sr mk su mu co du mS)) (As := [.int p, .int 1, .int 1000]) (rest := [.ref (bd 0)]) ⟨hx, hb, hml, hown, hts⟩ (c_X2_isIn l D H.size cI cL p 1 1000) (va_cwS 3 hts gX2_review_X2_isIn rfl rfl rfl (by decide +kernel) ⟨(Nat.le_of_ble_eq_true rfl), (Nat.le_of_ble_eq_true rfl)⟩) hS hA hK hP hD [0, 1] rfl [] [0, 1, 2, 3, 4, 5, 6, 7, 8, 9, 10, 11, 12] [0, 1, 2, 3, 4, 5, 6, 7, 8, 9, 10, 11, 12] rfl (by decide) rfl (by decide) (by decide) rfl (by decide) rfl hl.1 rfl (Nat.le_of_ble_eq_true rfl) dX2_review_13 ⟨(Nat.le_of_ble_eq_true rfl), (Nat.le_of_ble_eq_true rfl)⟩ (fun H locs _ hP hD hS => ?_)
    refine gj_i (bz_t r1) ?_
    refine lv_if_eq (tgt := 23) hx hb dX2_review_16 (by decide) (fun cz => ?_) (fun cz => ?_)
    · exact absurd cz (by decide)
    · refine lv_iconst (v := 0) hx hb dX2_review_19 (by decide) ?_
      refine lv_goto (tgt := 24) hx hb dX2_review_20 (by decide) ?_
      refine gV_i (wc := (wM bd cI cL th qy lp sp (nI mK) (nI uK) pr ex dy tk bi (nI c) sh sr mk su mu co du mS)) (wr := []) (w1 := (wM bd cI cL 0 qy lp sp (nI mK) (nI uK) pr ex dy tk bi (nI c) sh sr mk su mu co du mS)) (W' := (wM bd cI cL 0 qy lp sp (nI mK) (nI uK) pr ex dy tk bi (nI c) sh sr mk su mu co du mS)) (As := [.int 0]) (rest := []) ⟨hx, hb, hml, hown, hts⟩ (c_X2_holds l D H.size bd cI cL th qy lp sp mK uK pr ex dy tk bi c sh sr mk su mu co du mS 0) (cwV 1 hts gX2_review_X2_holds rfl rfl rfl (by decide +kernel) ⟨(Nat.le_of_ble_eq_true rfl), (Nat.le_of_ble_eq_true rfl)⟩) hS hA hK hP hD [0, 1] rfl [0, 1, 2, 3, 4, 5, 6, 7, 8, 9, 10, 11, 12] [] [0, 1, 2, 3, 4, 5, 6, 7, 8, 9, 10, 11, 12] rfl (by decide) rfl (by decide) (by decide) rfl (by decide) 0 2 rfl rfl rfl rfl hl.1 rfl (Nat.le_of_ble_eq_true rfl) dX2_review_24 ⟨(Nat.le_of_ble_eq_true rfl), (Nat.le_of_ble_eq_true rfl)⟩ (fun H locs _ hP hD hS => ?_)
      refine gj_i (bz_t rfl) ?_
      refine lv_if_ne (tgt := 32) hx hb dX2_review_27 (by decide) (fun cz => ?_) (fun cz => ?_)
      · refine lv_aload_n hx hb dX2_review_32 rfl (lv_at hl 0 rfl) ?_
        refine va_get (D := D) (ci := 2) (C := RX2) (T := TX2) (N := 20) hx hb hts inX2_review_X2 hown hK hP 0 rfl rfl 6 (by decide) (hts _ hX2_review__fieldLink_RX2_26_MakeupGasModel_prices_I_) (fun _ h9 => h9) rfl dX2_review_33 ?_
        refine lv_iload_n hx hb dX2_review_36 rfl (lv_at hl 1 rfl) ?_
        refine ga_iald (j := j) hx hb hK hP 1 0 rfl rfl hj (by decide) dX2_review_37 ?_
        refine lv_istore_n (lv' := [(3, .int (pr j)), (0, .ref (bd 0)), (1, .int (nI j)), (2, .int p)]) hx hb dX2_review_38 rfl hl (by decide) rfl (fun ls hl => ?_)
        refine lv_iload_n hx hb dX2_review_39 rfl (lv_at hl 2 rfl) ?_
        refine lv_istore (lv' := [(4, .int (nI j)), (3, .int (pr j)), (0, .ref (bd 0)), (1, .int (nI j)), (2, .int p)]) hx hb dX2_review_40 hl (by decide) rfl (fun ls hl => ?_)
        have lp_42 : ∀ (n i : Nat), i ≤ 20 → 20 < i + n → j ≤ i → ∀ (H : Heap) (locs : List Loc), va_P D vwCl (wM bd cI cL 0 qy lp sp (nI mK) (nI uK) (rvF pr j i p) ex dy tk bi (nI c) sh sr mk su mu co du mS) H → va_D A (wM bd cI cL 0 qy lp sp (nI mK) (nI uK) (rvF pr j i p) ex dy tk bi (nI c) sh sr mk su mu co du mS) → va_S A s.heap H locs → ∀ (ls : Array Slot), lv_has ls 5 [(0, .ref (bd 0)), (1, .int (nI j)), (2, .int p), (3, .int (pr j)), (4, .int (nI i))] → W pg l en ({ frames := 2, cells := 0, slots := 0, locals := 42 } : Room) s m args below meth cd H locs 0 0 (gEi (pr j) True below D [(cI, .int), (cL, .long)] (wM bd cI cL 0 qy lp sp (nI mK) (nI uK) (rvF pr j 20 p) ex dy tk bi (nI c) sh sr mk su mu co du mS) A args s 0 0) (F0 m 42 ls []) := by
          intro n
          induction n with
          | zero => intro i h1 h2; exact absurd h2 (by omega)
          | succ n ih =>
            intro i hi hin2 hji H locs hP hD hS ls hl
            refine lv_iload hx hb dX2_review_42 (lv_at hl 4 rfl) ?_
            refine lv_bipush (v := 20) hx hb dX2_review_44 (by decide) ?_
            refine lv_icmp_ge (tgt := 63) hx hb dX2_review_46 (by decide) (fun c1 => ?_) (fun c1 => ?_)
            · obtain rfl : i = 20 := Nat.le_antisymm hi (Nat.not_lt.mp fun h => absurd c1 (nI_ge h (by decide)))
              refine lv_iload_n hx hb dX2_review_63 rfl (lv_at hl 3 rfl) ?_
              exact ge_i hx hb hr hlocks rfl hK hP hD hS trivial (Nat.le_of_ble_eq_true rfl) (Nat.le_of_ble_eq_true rfl) dX2_review_64
            · have hi3 : i < 20 := Nat.not_le.mp (fun h => c1 (nI_le h (by omega)))
              refine lv_aload_n hx hb dX2_review_49 rfl (lv_at hl 0 rfl) ?_
              refine va_get (D := D) (ci := 2) (C := RX2) (T := TX2) (N := 20) hx hb hts inX2_review_X2 hown hK hP 0 rfl rfl 6 (by decide) (hts _ hX2_review__fieldLink_RX2_26_MakeupGasModel_prices_I_) (fun _ h9 => h9) rfl dX2_review_50 ?_
              refine lv_iload hx hb dX2_review_53 (lv_at hl 4 rfl) ?_
              refine lv_iload_n hx hb dX2_review_55 rfl (lv_at hl 2 rfl) ?_
              refine ga_iast (j := i) (ws' := (wM bd cI cL 0 qy lp sp (nI mK) (nI uK) (rvF pr j (i + 1) p) ex dy tk bi (nI c) sh sr mk su mu co du mS)) hx hb hK hP hD hS 1 0 rfl rfl hi3 (by decide) dX2_review_56 (by rw [rvF_s pr p hji]; rfl) (fun H locs hP hD hS => ?_)
              refine lv_iinc (v := nI (i + 1)) (lv' := [(4, .int (nI (i + 1))), (0, .ref (bd 0)), (1, .int (nI j)), (2, .int p), (3, .int (pr j))]) hx hb dX2_review_57 hl (k := 4) rfl (gi_1 _) (by decide) rfl (fun ls hl => ?_)
              refine lv_goto (tgt := 42) hx hb dX2_review_60 (by decide) ?_
              exact ih (i + 1) (by omega) (by omega) (by omega) _ _ hP hD hS ls (lv_sub hl [1, 2, 3, 4, 0] rfl)
        rw [← rvF_0 pr j p] at hP hD
        exact lp_42 (20 + 1) j (by omega) (by omega) (Nat.le_refl j) _ _ hP hD hS ls (lv_sub hl [2, 3, 4, 1, 0] rfl)
      · exact absurd cz (by decide)
set_option maxHeartbeats 4000000 in
set_option maxRecDepth 100000 in
theorem c_X2_review_1 (l : Launch) (D : va_G) (sz : Nat) (bd : Nat → Nat) (cI cL : ClassId) (th qy lp sp : Int32) (mK uK : Nat) (pr ex dy tk : Nat → Int32) (bi : Nat → Int64) (c : Nat) (sh sr mk su mu co : Nat → Int32) (du : Nat → Int64) (mS : Int32) (v p : Int32) (hbad : ¬ (inR v 0 19 ∧ inR p 1 1000)) : gCi l yX2_review wsX2_review ({ frames := 2, cells := 0, slots := 0, locals := 42 } : Room) D [(cI, .int), (cL, .long)] [.ref (bd 0), .int v, .int p] (wM bd cI cL th qy lp sp (nI mK) (nI uK) pr ex dy tk bi (nI c) sh sr mk su mu co du mS) (wM bd cI cL 1 qy lp sp (nI mK) (nI uK) pr ex dy tk bi (nI c) sh sr mk su mu co du mS) 0 True 0 0 sz := by
  refine gm_i (cc := cX2_review) (maxL := 5) (by decide) rfl (Nat.le_of_ble_eq_true rfl) ?_
  intro pg en s m args below meth cd A ls hx hb hr hml hown hts hlocks hin hA hK hP hD hl
  have hl : lv_has ls 5 [(0, .ref (bd 0)), (1, .int v), (2, .int p)] := hl
  have hS : va_S A s.heap s.heap [] := va_S.rf
  refine lv_aload_n hx hb dX2_review_0 rfl (lv_at hl 0 rfl) ?_
  have k23 : ∀ (H : Heap) (locs : List Loc), va_P D vwCl (wM bd cI cL th qy lp sp (nI mK) (nI uK) pr ex dy tk bi (nI c) sh sr mk su mu co du mS) H → va_D A (wM bd cI cL th qy lp sp (nI mK) (nI uK) pr ex dy tk bi (nI c) sh sr mk su mu co du mS) → va_S A s.heap H locs → W pg l en ({ frames := 2, cells := 0, slots := 0, locals := 42 } : Room) s m args below meth cd H locs 0 0 (gEi 0 True below D [(cI, .int), (cL, .long)] (wM bd cI cL 1 qy lp sp (nI mK) (nI uK) pr ex dy tk bi (nI c) sh sr mk su mu co du mS) A args s 0 0) (F0 m 23 ls [.ref (bd 0)]) := by
    intro H locs hP hD hS
    refine lv_iconst (v := 1) hx hb dX2_review_23 (by decide) ?_
    refine gV_i (wc := (wM bd cI cL th qy lp sp (nI mK) (nI uK) pr ex dy tk bi (nI c) sh sr mk su mu co du mS)) (wr := []) (w1 := (wM bd cI cL 1 qy lp sp (nI mK) (nI uK) pr ex dy tk bi (nI c) sh sr mk su mu co du mS)) (W' := (wM bd cI cL 1 qy lp sp (nI mK) (nI uK) pr ex dy tk bi (nI c) sh sr mk su mu co du mS)) (As := [.int 1]) (rest := []) ⟨hx, hb, hml, hown, hts⟩ (c_X2_holds l D H.size bd cI cL th qy lp sp mK uK pr ex dy tk bi c sh sr mk su mu co du mS 1) (cwV 1 hts gX2_review_X2_holds rfl rfl rfl (by decide +kernel) ⟨(Nat.le_of_ble_eq_true rfl), (Nat.le_of_ble_eq_true rfl)⟩) hS hA hK hP hD [0, 1] rfl [0, 1, 2, 3, 4, 5, 6, 7, 8, 9, 10, 11, 12] [] [0, 1, 2, 3, 4, 5, 6, 7, 8, 9, 10, 11, 12] rfl (by decide) rfl (by decide) (by decide) rfl (by decide) 0 2 rfl rfl rfl rfl hl.1 rfl (Nat.le_of_ble_eq_true rfl) dX2_review_24 ⟨(Nat.le_of_ble_eq_true rfl), (Nat.le_of_ble_eq_true rfl)⟩ (fun H locs _ hP hD hS => ?_)
    refine gj_i (bz_f (by decide)) ?_
    refine lv_if_ne (tgt := 32) hx hb dX2_review_27 (by decide) (fun cz => ?_) (fun cz => ?_)
    · exact absurd cz (by decide)
    · refine lv_iconst (v := 0) hx hb dX2_review_30 (by decide) ?_
      exact ge_i hx hb hr hlocks rfl hK hP hD hS trivial (Nat.le_of_ble_eq_true rfl) (Nat.le_of_ble_eq_true rfl) dX2_review_31
  refine lv_iload_n hx hb dX2_review_1 rfl (lv_at hl 1 rfl) ?_
  refine gS_i (wc := []) (wr := [(bd 0, .inr (2, [.int th, .int qy, .int lp, .int sp, .int (nI mK), .int (nI uK), .ref (bd 1), .ref (bd 2), .ref (bd 3), .ref (bd 4), .ref (bd 5), .int (nI c), .ref (bd 6), .ref (bd 7), .ref (bd 8), .ref (bd 9), .ref (bd 10), .ref (bd 11), .ref (bd 12), .int mS])), (bd 1, .inl (cI, 20, .inl pr)), (bd 2, .inl (cI, 20, .inl ex)), (bd 3, .inl (cI, 360, .inl dy)), (bd 4, .inl (cI, 20, .inl tk)), (bd 5, .inl (cL, 20, .inr (.inl bi))), (bd 6, .inl (cI, 20, .inl sh)), (bd 7, .inl (cI, 20, .inl sr)), (bd 8, .inl (cI, 20, .inl mk)), (bd 9, .inl (cI, 20, .inl su)), (bd 10, .inl (cI, 20, .inl mu)), (bd 11, .inl (cI, 20, .inl co)), (bd 12, .inl (cL, 20, .inr (.inl du)))]) (w1 := []) (W' := (wM bd cI cL th qy lp sp (nI mK) (nI uK) pr ex dy tk bi (nI c) sh sr mk su mu co du mS)) (As := [.int v]) (rest := [.ref (bd 0)]) ⟨hx, hb, hml, hown, hts⟩ (c_X2_isYear l D s.heap.size cI cL v) (va_cwS 1 hts gX2_review_X2_isYear rfl rfl rfl (by decide +kernel) ⟨(Nat.le_of_ble_eq_true rfl), (Nat.le_of_ble_eq_true rfl)⟩) hS hA hK hP hD [0, 1] rfl [] [0, 1, 2, 3, 4, 5, 6, 7, 8, 9, 10, 11, 12] [0, 1, 2, 3, 4, 5, 6, 7, 8, 9, 10, 11, 12] rfl (by decide) rfl (by decide) (by decide) rfl (by decide) rfl hl.1 rfl (Nat.le_of_ble_eq_true rfl) dX2_review_2 ⟨(Nat.le_of_ble_eq_true rfl), (Nat.le_of_ble_eq_true rfl)⟩ (fun H locs _ hP hD hS => ?_)
  by_cases q0 : inR v 0 19
  · refine gj_i (bz_t q0) ?_
    refine lv_if_eq (tgt := 23) hx hb dX2_review_5 (by decide) (fun cz => ?_) (fun cz => ?_)
    · exact absurd cz (by decide)
    · refine lv_iload_n hx hb dX2_review_8 rfl (lv_at hl 2 rfl) ?_
      refine lv_iconst (v := 1) hx hb dX2_review_9 (by decide) ?_
      refine lv_sipush (v := 1000) hx hb dX2_review_10 (by decide) ?_
      refine gS_i (wc := []) (wr := [(bd 0, .inr (2, [.int th, .int qy, .int lp, .int sp, .int (nI mK), .int (nI uK), .ref (bd 1), .ref (bd 2), .ref (bd 3), .ref (bd 4), .ref (bd 5), .int (nI c), .ref (bd 6), .ref (bd 7), .ref (bd 8), .ref (bd 9), .ref (bd 10), .ref (bd 11), .ref (bd 12), .int mS])), (bd 1, .inl (cI, 20, .inl pr)), (bd 2, .inl (cI, 20, .inl ex)), (bd 3, .inl (cI, 360, .inl dy)), (bd 4, .inl (cI, 20, .inl tk)), (bd 5, .inl (cL, 20, .inr (.inl bi))), (bd 6, .inl (cI, 20, .inl sh)), (bd 7, .inl (cI, 20, .inl sr)), (bd 8, .inl (cI, 20, .inl mk)), (bd 9, .inl (cI, 20, .inl su)), (bd 10, .inl (cI, 20, .inl mu)), (bd 11, .inl (cI, 20, .inl co)), (bd 12, .inl (cL, 20, .inr (.inl du)))]) (w1 := []) (W' := (wM bd cI cL th qy lp sp (nI mK) (nI uK) pr ex dy tk bi (nI c) sh sr mk su mu co du mS)) (As := [.int p, .int 1, .int 1000]) (rest := [.ref (bd 0)]) ⟨hx, hb, hml, hown, hts⟩ (c_X2_isIn l D H.size cI cL p 1 1000) (va_cwS 3 hts gX2_review_X2_isIn rfl rfl rfl (by decide +kernel) ⟨(Nat.le_of_ble_eq_true rfl), (Nat.le_of_ble_eq_true rfl)⟩) hS hA hK hP hD [0, 1] rfl [] [0, 1, 2, 3, 4, 5, 6, 7, 8, 9, 10, 11, 12] [0, 1, 2, 3, 4, 5, 6, 7, 8, 9, 10, 11, 12] rfl (by decide) rfl (by decide) (by decide) rfl (by decide) rfl hl.1 rfl (Nat.le_of_ble_eq_true rfl) dX2_review_13 ⟨(Nat.le_of_ble_eq_true rfl), (Nat.le_of_ble_eq_true rfl)⟩ (fun H locs _ hP hD hS => ?_)
      by_cases q1 : inR p 1 1000
      · refine gj_i (bz_t q1) ?_
        refine lv_if_eq (tgt := 23) hx hb dX2_review_16 (by decide) (fun cz => ?_) (fun cz => ?_)
        · exact absurd cz (by decide)
        · exact absurd ⟨q0, q1⟩ hbad
      · refine gj_i (bz_f q1) ?_
        refine lv_if_eq (tgt := 23) hx hb dX2_review_16 (by decide) (fun cz => ?_) (fun cz => ?_)
        · exact k23 _ _ hP hD hS
        · exact absurd cz (by decide)
  · refine gj_i (bz_f q0) ?_
    refine lv_if_eq (tgt := 23) hx hb dX2_review_5 (by decide) (fun cz => ?_) (fun cz => ?_)
    · exact k23 _ _ hP hD hS
    · exact absurd cz (by decide)
theorem inX2_excuse_X2 : ∀ q ∈ wsX20, q ∈ wsX2_excuse := by decide +kernel
theorem hX2_excuse__fieldLink_RX2_30_MakeupGasModel_excused_I_ : Cond.fieldLink RX2 30 "MakeupGasModel" "excused" "[I" ∈ wsX2_excuse := by decide +kernel
set_option maxHeartbeats 4000000 in
set_option maxRecDepth 100000 in
theorem c_X2_excuse (l : Launch) (D : va_G) (sz : Nat) (bd : Nat → Nat) (cI cL : ClassId) (th qy lp sp : Int32) (mK uK : Nat) (pr ex dy tk : Nat → Int32) (bi : Nat → Int64) (c : Nat) (sh sr mk su mu co : Nat → Int32) (du : Nat → Int64) (mS : Int32) (j : Nat) (p : Int32) (hj : j < 20) (r1 : inR p 0 360) : gCi l yX2_excuse wsX2_excuse ({ frames := 2, cells := 0, slots := 0, locals := 42 } : Room) D [(cI, .int), (cL, .long)] [.ref (bd 0), .int (nI j), .int p] (wM bd cI cL th qy lp sp (nI mK) (nI uK) pr ex dy tk bi (nI c) sh sr mk su mu co du mS) (wM bd cI cL 0 qy lp sp (nI mK) (nI uK) pr (upd ex j p) dy tk bi (nI c) sh sr mk su mu co du mS) (ex j) True 0 0 sz := by
  refine gm_i (cc := cX2_excuse) (maxL := 4) (by decide) rfl (Nat.le_of_ble_eq_true rfl) ?_
  intro pg en s m args below meth cd A ls hx hb hr hml hown hts hlocks hin hA hK hP hD hl
  have hl : lv_has ls 4 [(0, .ref (bd 0)), (1, .int (nI j)), (2, .int p)] := hl
  have hS : va_S A s.heap s.heap [] := va_S.rf
  refine lv_aload_n hx hb dX2_excuse_0 rfl (lv_at hl 0 rfl) ?_
  refine lv_iload_n hx hb dX2_excuse_1 rfl (lv_at hl 1 rfl) ?_
  refine gS_i (wc := []) (wr := [(bd 0, .inr (2, [.int th, .int qy, .int lp, .int sp, .int (nI mK), .int (nI uK), .ref (bd 1), .ref (bd 2), .ref (bd 3), .ref (bd 4), .ref (bd 5), .int (nI c), .ref (bd 6), .ref (bd 7), .ref (bd 8), .ref (bd 9), .ref (bd 10), .ref (bd 11), .ref (bd 12), .int mS])), (bd 1, .inl (cI, 20, .inl pr)), (bd 2, .inl (cI, 20, .inl ex)), (bd 3, .inl (cI, 360, .inl dy)), (bd 4, .inl (cI, 20, .inl tk)), (bd 5, .inl (cL, 20, .inr (.inl bi))), (bd 6, .inl (cI, 20, .inl sh)), (bd 7, .inl (cI, 20, .inl sr)), (bd 8, .inl (cI, 20, .inl mk)), (bd 9, .inl (cI, 20, .inl su)), (bd 10, .inl (cI, 20, .inl mu)), (bd 11, .inl (cI, 20, .inl co)), (bd 12, .inl (cL, 20, .inr (.inl du)))]) (w1 := []) (W' := (wM bd cI cL th qy lp sp (nI mK) (nI uK) pr ex dy tk bi (nI c) sh sr mk su mu co du mS)) (As := [.int (nI j)]) (rest := [.ref (bd 0)]) ⟨hx, hb, hml, hown, hts⟩ (c_X2_isYear l D s.heap.size cI cL (nI j)) (va_cwS 1 hts gX2_excuse_X2_isYear rfl rfl rfl (by decide +kernel) ⟨(Nat.le_of_ble_eq_true rfl), (Nat.le_of_ble_eq_true rfl)⟩) hS hA hK hP hD [0, 1] rfl [] [0, 1, 2, 3, 4, 5, 6, 7, 8, 9, 10, 11, 12] [0, 1, 2, 3, 4, 5, 6, 7, 8, 9, 10, 11, 12] rfl (by decide) rfl (by decide) (by decide) rfl (by decide) rfl hl.1 rfl (Nat.le_of_ble_eq_true rfl) dX2_excuse_2 ⟨(Nat.le_of_ble_eq_true rfl), (Nat.le_of_ble_eq_true rfl)⟩ (fun H locs _ hP hD hS => ?_)
  refine gj_i (bz_t (inR_nI (n := 19) rfl (by omega) (by decide))) ?_
  refine lv_if_eq (tgt := 23) hx hb dX2_excuse_5 (by decide) (fun cz => ?_) (fun cz => ?_)
  · exact absurd cz (by decide)
  · refine lv_iload_n hx hb dX2_excuse_8 rfl (lv_at hl 2 rfl) ?_
    refine lv_iconst (v := 0) hx hb dX2_excuse_9 (by decide) ?_
    refine lv_sipush (v := 360) hx hb dX2_excuse_10 (by decide) ?_
    refine gS_i (wc := []) (wr := [(bd 0, .inr (2, [.int th, .int qy, .int lp, .int sp, .int (nI mK), .int (nI uK), .ref (bd 1), .ref (bd 2), .ref (bd 3), .ref (bd 4), .ref (bd 5), .int (nI c), .ref (bd 6), .ref (bd 7), .ref (bd 8), .ref (bd 9), .ref (bd 10), .ref (bd 11), .ref (bd 12), .int mS])), (bd 1, .inl (cI, 20, .inl pr)), (bd 2, .inl (cI, 20, .inl ex)), (bd 3, .inl (cI, 360, .inl dy)), (bd 4, .inl (cI, 20, .inl tk)), (bd 5, .inl (cL, 20, .inr (.inl bi))), (bd 6, .inl (cI, 20, .inl sh)), (bd 7, .inl (cI, 20, .inl sr)), (bd 8, .inl (cI, 20, .inl mk)), (bd 9, .inl (cI, 20, .inl su)), (bd 10, .inl (cI, 20, .inl mu)), (bd 11, .inl (cI, 20, .inl co)), (bd 12, .inl (cL, 20, .inr (.inl du)))]) (w1 := []) (W' := (wM bd cI cL th qy lp sp (nI mK) (nI uK) pr ex dy tk bi (nI c) sh sr mk su mu co du mS)) (As := [.int p, .int 0, .int 360]) (rest := [.ref (bd 0)]) ⟨hx, hb, hml, hown, hts⟩ (c_X2_isIn l D H.size cI cL p 0 360) (va_cwS 3 hts gX2_excuse_X2_isIn rfl rfl rfl (by decide +kernel) ⟨(Nat.le_of_ble_eq_true rfl), (Nat.le_of_ble_eq_true rfl)⟩) hS hA hK hP hD [0, 1] rfl [] [0, 1, 2, 3, 4, 5, 6, 7, 8, 9, 10, 11, 12] [0, 1, 2, 3, 4, 5, 6, 7, 8, 9, 10, 11, 12] rfl (by decide) rfl (by decide) (by decide) rfl (by decide) rfl hl.1 rfl (Nat.le_of_ble_eq_true rfl) dX2_excuse_13 ⟨(Nat.le_of_ble_eq_true rfl), (Nat.le_of_ble_eq_true rfl)⟩ (fun H locs _ hP hD hS => ?_)
    refine gj_i (bz_t r1) ?_
    refine lv_if_eq (tgt := 23) hx hb dX2_excuse_16 (by decide) (fun cz => ?_) (fun cz => ?_)
    · exact absurd cz (by decide)
    · refine lv_iconst (v := 0) hx hb dX2_excuse_19 (by decide) ?_
      refine lv_goto (tgt := 24) hx hb dX2_excuse_20 (by decide) ?_
      refine gV_i (wc := (wM bd cI cL th qy lp sp (nI mK) (nI uK) pr ex dy tk bi (nI c) sh sr mk su mu co du mS)) (wr := []) (w1 := (wM bd cI cL 0 qy lp sp (nI mK) (nI uK) pr ex dy tk bi (nI c) sh sr mk su mu co du mS)) (W' := (wM bd cI cL 0 qy lp sp (nI mK) (nI uK) pr ex dy tk bi (nI c) sh sr mk su mu co du mS)) (As := [.int 0]) (rest := []) ⟨hx, hb, hml, hown, hts⟩ (c_X2_holds l D H.size bd cI cL th qy lp sp mK uK pr ex dy tk bi c sh sr mk su mu co du mS 0) (cwV 1 hts gX2_excuse_X2_holds rfl rfl rfl (by decide +kernel) ⟨(Nat.le_of_ble_eq_true rfl), (Nat.le_of_ble_eq_true rfl)⟩) hS hA hK hP hD [0, 1] rfl [0, 1, 2, 3, 4, 5, 6, 7, 8, 9, 10, 11, 12] [] [0, 1, 2, 3, 4, 5, 6, 7, 8, 9, 10, 11, 12] rfl (by decide) rfl (by decide) (by decide) rfl (by decide) 0 2 rfl rfl rfl rfl hl.1 rfl (Nat.le_of_ble_eq_true rfl) dX2_excuse_24 ⟨(Nat.le_of_ble_eq_true rfl), (Nat.le_of_ble_eq_true rfl)⟩ (fun H locs _ hP hD hS => ?_)
      refine gj_i (bz_t rfl) ?_
      refine lv_if_ne (tgt := 32) hx hb dX2_excuse_27 (by decide) (fun cz => ?_) (fun cz => ?_)
      · refine lv_aload_n hx hb dX2_excuse_32 rfl (lv_at hl 0 rfl) ?_
        refine va_get (D := D) (ci := 2) (C := RX2) (T := TX2) (N := 20) hx hb hts inX2_excuse_X2 hown hK hP 0 rfl rfl 7 (by decide) (hts _ hX2_excuse__fieldLink_RX2_30_MakeupGasModel_excused_I_) (fun _ h9 => h9) rfl dX2_excuse_33 ?_
        refine lv_iload_n hx hb dX2_excuse_36 rfl (lv_at hl 1 rfl) ?_
        refine ga_iald (j := j) hx hb hK hP 2 0 rfl rfl hj (by decide) dX2_excuse_37 ?_
        refine lv_istore_n (lv' := [(3, .int (ex j)), (0, .ref (bd 0)), (1, .int (nI j)), (2, .int p)]) hx hb dX2_excuse_38 rfl hl (by decide) rfl (fun ls hl => ?_)
        refine lv_aload_n hx hb dX2_excuse_39 rfl (lv_at hl 1 rfl) ?_
        refine va_get (D := D) (ci := 2) (C := RX2) (T := TX2) (N := 20) hx hb hts inX2_excuse_X2 hown hK hP 0 rfl rfl 7 (by decide) (hts _ hX2_excuse__fieldLink_RX2_30_MakeupGasModel_excused_I_) (fun _ h9 => h9) rfl dX2_excuse_40 ?_
        refine lv_iload_n hx hb dX2_excuse_43 rfl (lv_at hl 2 rfl) ?_
        refine lv_iload_n hx hb dX2_excuse_44 rfl (lv_at hl 3 rfl) ?_
        refine ga_iast (j := j) (ws' := (wM bd cI cL 0 qy lp sp (nI mK) (nI uK) pr (upd ex j p) dy tk bi (nI c) sh sr mk su mu co du mS)) hx hb hK hP hD hS 2 0 rfl rfl hj (by decide) dX2_excuse_45 rfl (fun H locs hP hD hS => ?_)
        refine lv_iload_n hx hb dX2_excuse_46 rfl (lv_at hl 0 rfl) ?_
        exact ge_i hx hb hr hlocks rfl hK hP hD hS trivial (Nat.le_of_ble_eq_true rfl) (Nat.le_of_ble_eq_true rfl) dX2_excuse_47
      · exact absurd cz (by decide)
set_option maxHeartbeats 4000000 in
set_option maxRecDepth 100000 in
theorem c_X2_excuse_1 (l : Launch) (D : va_G) (sz : Nat) (bd : Nat → Nat) (cI cL : ClassId) (th qy lp sp : Int32) (mK uK : Nat) (pr ex dy tk : Nat → Int32) (bi : Nat → Int64) (c : Nat) (sh sr mk su mu co : Nat → Int32) (du : Nat → Int64) (mS : Int32) (v p : Int32) (hbad : ¬ (inR v 0 19 ∧ inR p 0 360)) : gCi l yX2_excuse wsX2_excuse ({ frames := 2, cells := 0, slots := 0, locals := 42 } : Room) D [(cI, .int), (cL, .long)] [.ref (bd 0), .int v, .int p] (wM bd cI cL th qy lp sp (nI mK) (nI uK) pr ex dy tk bi (nI c) sh sr mk su mu co du mS) (wM bd cI cL 1 qy lp sp (nI mK) (nI uK) pr ex dy tk bi (nI c) sh sr mk su mu co du mS) 0 True 0 0 sz := by
  refine gm_i (cc := cX2_excuse) (maxL := 4) (by decide) rfl (Nat.le_of_ble_eq_true rfl) ?_
  intro pg en s m args below meth cd A ls hx hb hr hml hown hts hlocks hin hA hK hP hD hl
  have hl : lv_has ls 4 [(0, .ref (bd 0)), (1, .int v), (2, .int p)] := hl
  have hS : va_S A s.heap s.heap [] := va_S.rf
  refine lv_aload_n hx hb dX2_excuse_0 rfl (lv_at hl 0 rfl) ?_
  have k23 : ∀ (H : Heap) (locs : List Loc), va_P D vwCl (wM bd cI cL th qy lp sp (nI mK) (nI uK) pr ex dy tk bi (nI c) sh sr mk su mu co du mS) H → va_D A (wM bd cI cL th qy lp sp (nI mK) (nI uK) pr ex dy tk bi (nI c) sh sr mk su mu co du mS) → va_S A s.heap H locs → W pg l en ({ frames := 2, cells := 0, slots := 0, locals := 42 } : Room) s m args below meth cd H locs 0 0 (gEi 0 True below D [(cI, .int), (cL, .long)] (wM bd cI cL 1 qy lp sp (nI mK) (nI uK) pr ex dy tk bi (nI c) sh sr mk su mu co du mS) A args s 0 0) (F0 m 23 ls [.ref (bd 0)]) := by
    intro H locs hP hD hS
    refine lv_iconst (v := 1) hx hb dX2_excuse_23 (by decide) ?_
    refine gV_i (wc := (wM bd cI cL th qy lp sp (nI mK) (nI uK) pr ex dy tk bi (nI c) sh sr mk su mu co du mS)) (wr := []) (w1 := (wM bd cI cL 1 qy lp sp (nI mK) (nI uK) pr ex dy tk bi (nI c) sh sr mk su mu co du mS)) (W' := (wM bd cI cL 1 qy lp sp (nI mK) (nI uK) pr ex dy tk bi (nI c) sh sr mk su mu co du mS)) (As := [.int 1]) (rest := []) ⟨hx, hb, hml, hown, hts⟩ (c_X2_holds l D H.size bd cI cL th qy lp sp mK uK pr ex dy tk bi c sh sr mk su mu co du mS 1) (cwV 1 hts gX2_excuse_X2_holds rfl rfl rfl (by decide +kernel) ⟨(Nat.le_of_ble_eq_true rfl), (Nat.le_of_ble_eq_true rfl)⟩) hS hA hK hP hD [0, 1] rfl [0, 1, 2, 3, 4, 5, 6, 7, 8, 9, 10, 11, 12] [] [0, 1, 2, 3, 4, 5, 6, 7, 8, 9, 10, 11, 12] rfl (by decide) rfl (by decide) (by decide) rfl (by decide) 0 2 rfl rfl rfl rfl hl.1 rfl (Nat.le_of_ble_eq_true rfl) dX2_excuse_24 ⟨(Nat.le_of_ble_eq_true rfl), (Nat.le_of_ble_eq_true rfl)⟩ (fun H locs _ hP hD hS => ?_)
    refine gj_i (bz_f (by decide)) ?_
    refine lv_if_ne (tgt := 32) hx hb dX2_excuse_27 (by decide) (fun cz => ?_) (fun cz => ?_)
    · exact absurd cz (by decide)
    · refine lv_iconst (v := 0) hx hb dX2_excuse_30 (by decide) ?_
      exact ge_i hx hb hr hlocks rfl hK hP hD hS trivial (Nat.le_of_ble_eq_true rfl) (Nat.le_of_ble_eq_true rfl) dX2_excuse_31
  refine lv_iload_n hx hb dX2_excuse_1 rfl (lv_at hl 1 rfl) ?_
  refine gS_i (wc := []) (wr := [(bd 0, .inr (2, [.int th, .int qy, .int lp, .int sp, .int (nI mK), .int (nI uK), .ref (bd 1), .ref (bd 2), .ref (bd 3), .ref (bd 4), .ref (bd 5), .int (nI c), .ref (bd 6), .ref (bd 7), .ref (bd 8), .ref (bd 9), .ref (bd 10), .ref (bd 11), .ref (bd 12), .int mS])), (bd 1, .inl (cI, 20, .inl pr)), (bd 2, .inl (cI, 20, .inl ex)), (bd 3, .inl (cI, 360, .inl dy)), (bd 4, .inl (cI, 20, .inl tk)), (bd 5, .inl (cL, 20, .inr (.inl bi))), (bd 6, .inl (cI, 20, .inl sh)), (bd 7, .inl (cI, 20, .inl sr)), (bd 8, .inl (cI, 20, .inl mk)), (bd 9, .inl (cI, 20, .inl su)), (bd 10, .inl (cI, 20, .inl mu)), (bd 11, .inl (cI, 20, .inl co)), (bd 12, .inl (cL, 20, .inr (.inl du)))]) (w1 := []) (W' := (wM bd cI cL th qy lp sp (nI mK) (nI uK) pr ex dy tk bi (nI c) sh sr mk su mu co du mS)) (As := [.int v]) (rest := [.ref (bd 0)]) ⟨hx, hb, hml, hown, hts⟩ (c_X2_isYear l D s.heap.size cI cL v) (va_cwS 1 hts gX2_excuse_X2_isYear rfl rfl rfl (by decide +kernel) ⟨(Nat.le_of_ble_eq_true rfl), (Nat.le_of_ble_eq_true rfl)⟩) hS hA hK hP hD [0, 1] rfl [] [0, 1, 2, 3, 4, 5, 6, 7, 8, 9, 10, 11, 12] [0, 1, 2, 3, 4, 5, 6, 7, 8, 9, 10, 11, 12] rfl (by decide) rfl (by decide) (by decide) rfl (by decide) rfl hl.1 rfl (Nat.le_of_ble_eq_true rfl) dX2_excuse_2 ⟨(Nat.le_of_ble_eq_true rfl), (Nat.le_of_ble_eq_true rfl)⟩ (fun H locs _ hP hD hS => ?_)
  by_cases q0 : inR v 0 19
  · refine gj_i (bz_t q0) ?_
    refine lv_if_eq (tgt := 23) hx hb dX2_excuse_5 (by decide) (fun cz => ?_) (fun cz => ?_)
    · exact absurd cz (by decide)
    · refine lv_iload_n hx hb dX2_excuse_8 rfl (lv_at hl 2 rfl) ?_
      refine lv_iconst (v := 0) hx hb dX2_excuse_9 (by decide) ?_
      refine lv_sipush (v := 360) hx hb dX2_excuse_10 (by decide) ?_
      refine gS_i (wc := []) (wr := [(bd 0, .inr (2, [.int th, .int qy, .int lp, .int sp, .int (nI mK), .int (nI uK), .ref (bd 1), .ref (bd 2), .ref (bd 3), .ref (bd 4), .ref (bd 5), .int (nI c), .ref (bd 6), .ref (bd 7), .ref (bd 8), .ref (bd 9), .ref (bd 10), .ref (bd 11), .ref (bd 12), .int mS])), (bd 1, .inl (cI, 20, .inl pr)), (bd 2, .inl (cI, 20, .inl ex)), (bd 3, .inl (cI, 360, .inl dy)), (bd 4, .inl (cI, 20, .inl tk)), (bd 5, .inl (cL, 20, .inr (.inl bi))), (bd 6, .inl (cI, 20, .inl sh)), (bd 7, .inl (cI, 20, .inl sr)), (bd 8, .inl (cI, 20, .inl mk)), (bd 9, .inl (cI, 20, .inl su)), (bd 10, .inl (cI, 20, .inl mu)), (bd 11, .inl (cI, 20, .inl co)), (bd 12, .inl (cL, 20, .inr (.inl du)))]) (w1 := []) (W' := (wM bd cI cL th qy lp sp (nI mK) (nI uK) pr ex dy tk bi (nI c) sh sr mk su mu co du mS)) (As := [.int p, .int 0, .int 360]) (rest := [.ref (bd 0)]) ⟨hx, hb, hml, hown, hts⟩ (c_X2_isIn l D H.size cI cL p 0 360) (va_cwS 3 hts gX2_excuse_X2_isIn rfl rfl rfl (by decide +kernel) ⟨(Nat.le_of_ble_eq_true rfl), (Nat.le_of_ble_eq_true rfl)⟩) hS hA hK hP hD [0, 1] rfl [] [0, 1, 2, 3, 4, 5, 6, 7, 8, 9, 10, 11, 12] [0, 1, 2, 3, 4, 5, 6, 7, 8, 9, 10, 11, 12] rfl (by decide) rfl (by decide) (by decide) rfl (by decide) rfl hl.1 rfl (Nat.le_of_ble_eq_true rfl) dX2_excuse_13 ⟨(Nat.le_of_ble_eq_true rfl), (Nat.le_of_ble_eq_true rfl)⟩ (fun H locs _ hP hD hS => ?_)
      by_cases q1 : inR p 0 360
      · refine gj_i (bz_t q1) ?_
        refine lv_if_eq (tgt := 23) hx hb dX2_excuse_16 (by decide) (fun cz => ?_) (fun cz => ?_)
        · exact absurd cz (by decide)
        · exact absurd ⟨q0, q1⟩ hbad
      · refine gj_i (bz_f q1) ?_
        refine lv_if_eq (tgt := 23) hx hb dX2_excuse_16 (by decide) (fun cz => ?_) (fun cz => ?_)
        · exact k23 _ _ hP hD hS
        · exact absurd cz (by decide)
  · refine gj_i (bz_f q0) ?_
    refine lv_if_eq (tgt := 23) hx hb dX2_excuse_5 (by decide) (fun cz => ?_) (fun cz => ?_)
    · exact k23 _ _ hP hD hS
    · exact absurd cz (by decide)
set_option maxHeartbeats 4000000 in
set_option maxRecDepth 100000 in
theorem c_X2_isRange (l : Launch) (D : va_G) (sz : Nat) (cI cL : ClassId) (v w : Int32)  : gCi l yX2_isRange wsX2_isRange ({ frames := 0, cells := 0, slots := 0, locals := 0 } : Room) D [(cI, .int), (cL, .long)] [.int v, .int w] [] [] (bz (¬ v < 0 ∧ ¬ w < v ∧ ¬ 360 ≤ w)) True 0 0 sz := by
  refine gm_i (cc := cX2_isRange) (maxL := 2) (by decide) rfl (Nat.le_of_ble_eq_true rfl) ?_
  intro pg en s m args below meth cd A ls hx hb hr hml hown hts hlocks hin hA hK hP hD hl
  have hl : lv_has ls 2 [(0, .int v), (1, .int w)] := hl
  have hS : va_S A s.heap s.heap [] := va_S.rf
  refine lv_iload_n hx hb dX2_isRange_0 rfl (lv_at hl 0 rfl) ?_
  refine lv_if_lt (tgt := 20) hx hb dX2_isRange_1 (by decide) (fun c1 => ?_) (fun c1 => ?_)
  · refine lv_iconst (v := 0) hx hb dX2_isRange_20 (by decide) ?_
    refine gj_i ((bz_f (c := ¬ v < 0 ∧ ¬ w < v ∧ ¬ 360 ≤ w) (fun z => z.1 c1)).symm) ?_
    exact ge_i hx hb hr hlocks (bz_n _) hK hP hD hS trivial (Nat.le_of_ble_eq_true rfl) (Nat.le_of_ble_eq_true rfl) dX2_isRange_21
  · refine lv_iload_n hx hb dX2_isRange_4 rfl (lv_at hl 1 rfl) ?_
    refine lv_iload_n hx hb dX2_isRange_5 rfl (lv_at hl 0 rfl) ?_
    refine lv_icmp_lt (tgt := 20) hx hb dX2_isRange_6 (by decide) (fun c2 => ?_) (fun c2 => ?_)
    · refine lv_iconst (v := 0) hx hb dX2_isRange_20 (by decide) ?_
      refine gj_i ((bz_f (c := ¬ v < 0 ∧ ¬ w < v ∧ ¬ 360 ≤ w) (fun z => z.2.1 c2)).symm) ?_
      exact ge_i hx hb hr hlocks (bz_n _) hK hP hD hS trivial (Nat.le_of_ble_eq_true rfl) (Nat.le_of_ble_eq_true rfl) dX2_isRange_21
    · refine lv_iload_n hx hb dX2_isRange_9 rfl (lv_at hl 1 rfl) ?_
      refine lv_sipush (v := 360) hx hb dX2_isRange_10 (by decide) ?_
      refine lv_icmp_ge (tgt := 20) hx hb dX2_isRange_13 (by decide) (fun c3 => ?_) (fun c3 => ?_)
      · refine lv_iconst (v := 0) hx hb dX2_isRange_20 (by decide) ?_
        refine gj_i ((bz_f (c := ¬ v < 0 ∧ ¬ w < v ∧ ¬ 360 ≤ w) (fun z => z.2.2 c3)).symm) ?_
        exact ge_i hx hb hr hlocks (bz_n _) hK hP hD hS trivial (Nat.le_of_ble_eq_true rfl) (Nat.le_of_ble_eq_true rfl) dX2_isRange_21
      · refine lv_iconst (v := 1) hx hb dX2_isRange_16 (by decide) ?_
        refine lv_goto (tgt := 21) hx hb dX2_isRange_17 (by decide) ?_
        refine gj_i ((bz_t (c := ¬ v < 0 ∧ ¬ w < v ∧ ¬ 360 ≤ w) ⟨c1, c2, c3⟩).symm) ?_
        exact ge_i hx hb hr hlocks (bz_n _) hK hP hD hS trivial (Nat.le_of_ble_eq_true rfl) (Nat.le_of_ble_eq_true rfl) dX2_isRange_21
theorem inX2_isTooMuch_X2 : ∀ q ∈ wsX20, q ∈ wsX2_isTooMuch := by decide +kernel
theorem hX2_isTooMuch__fieldLink_RX2_33_MakeupGasModel_days_I_ : Cond.fieldLink RX2 33 "MakeupGasModel" "days" "[I" ∈ wsX2_isTooMuch := by decide +kernel
set_option maxHeartbeats 4000000 in
set_option maxRecDepth 100000 in
theorem c_X2_isTooMuch (l : Launch) (D : va_G) (sz : Nat) (bd : Nat → Nat) (cI cL : ClassId) (th qy lp sp : Int32) (mK uK : Nat) (pr ex dy tk : Nat → Int32) (bi : Nat → Int64) (c : Nat) (sh sr mk su mu co : Nat → Int32) (du : Nat → Int64) (mS : Int32) (a b : Nat) (q : Int32) (hab : a ≤ b) (hb3 : b < 360) : gCi l yX2_isTooMuch wsX2_isTooMuch ({ frames := 0, cells := 0, slots := 0, locals := 0 } : Room) D [(cI, .int), (cL, .long)] [.ref (bd 0), .int (nI a), .int (nI b), .int q] (wM bd cI cL th qy lp sp (nI mK) (nI uK) pr ex dy tk bi (nI c) sh sr mk su mu co du mS) (wM bd cI cL th qy lp sp (nI mK) (nI uK) pr ex dy tk bi (nI c) sh sr mk su mu co du mS) (tmF dy q a (b + 1 - a)) True 0 0 sz := by
  refine gm_i (cc := cX2_isTooMuch) (maxL := 6) (by decide) rfl (Nat.le_of_ble_eq_true rfl) ?_
  intro pg en s m args below meth cd A ls hx hb hr hml hown hts hlocks hin hA hK hP hD hl
  have hl : lv_has ls 6 [(0, .ref (bd 0)), (1, .int (nI a)), (2, .int (nI b)), (3, .int q)] := hl
  have hS : va_S A s.heap s.heap [] := va_S.rf
  refine lv_iconst (v := 0) hx hb dX2_isTooMuch_0 (by decide) ?_
  refine lv_istore (lv' := [(4, .int 0), (0, .ref (bd 0)), (1, .int (nI a)), (2, .int (nI b)), (3, .int q)]) hx hb dX2_isTooMuch_1 hl (by decide) rfl (fun ls hl => ?_)
  refine lv_iload_n hx hb dX2_isTooMuch_3 rfl (lv_at hl 2 rfl) ?_
  refine lv_istore (lv' := [(5, .int (nI a)), (4, .int 0), (0, .ref (bd 0)), (1, .int (nI a)), (2, .int (nI b)), (3, .int q)]) hx hb dX2_isTooMuch_4 hl (by decide) rfl (fun ls hl => ?_)
  have lp_6 : ∀ (n i : Nat), i ≤ (b + 1) → (b + 1) < i + n → a ≤ i → ∀ (H : Heap) (locs : List Loc), va_P D vwCl (wM bd cI cL th qy lp sp (nI mK) (nI uK) pr ex dy tk bi (nI c) sh sr mk su mu co du mS) H → va_D A (wM bd cI cL th qy lp sp (nI mK) (nI uK) pr ex dy tk bi (nI c) sh sr mk su mu co du mS) → va_S A s.heap H locs → ∀ (ls : Array Slot), lv_has ls 6 [(0, .ref (bd 0)), (1, .int (nI a)), (2, .int (nI b)), (3, .int q), (4, .int (tmF dy q a (i - a))), (5, .int (nI i))] → W pg l en ({ frames := 0, cells := 0, slots := 0, locals := 0 } : Room) s m args below meth cd H locs 0 0 (gEi (tmF dy q a (b + 1 - a)) True below D [(cI, .int), (cL, .long)] (wM bd cI cL th qy lp sp (nI mK) (nI uK) pr ex dy tk bi (nI c) sh sr mk su mu co du mS) A args s 0 0) (F0 m 6 ls []) := by
    intro n
    induction n with
    | zero => intro i h1 h2; exact absurd h2 (by omega)
    | succ n ih =>
      intro i hi hin2 hai H locs hP hD hS ls hl
      refine lv_iload hx hb dX2_isTooMuch_6 (lv_at hl 5 rfl) ?_
      refine lv_iload_n hx hb dX2_isTooMuch_8 rfl (lv_at hl 2 rfl) ?_
      refine lv_icmp_gt (tgt := 45) hx hb dX2_isTooMuch_9 (by decide) (fun c6 => ?_) (fun c6 => ?_)
      · have hbi : ¬ i ≤ b := fun h => absurd c6 (Int32.not_lt.mpr (nI_le h (by omega)))
        obtain rfl : i = b + 1 := by omega
        refine lv_iload hx hb dX2_isTooMuch_45 (lv_at hl 4 rfl) ?_
        exact ge_i hx hb hr hlocks (tmF_n _ _ _ _) hK hP hD hS trivial (Nat.le_of_ble_eq_true rfl) (Nat.le_of_ble_eq_true rfl) dX2_isTooMuch_47
      · have hib : i ≤ b := Nat.not_lt.mp (fun h => c6 (nI_lt h (by omega)))
        have hi3 : i < 360 := by omega
        have ei : i + 1 - a = (i - a) + 1 := by omega
        have ea : a + (i - a) = i := by omega
        refine lv_iload hx hb dX2_isTooMuch_12 (lv_at hl 4 rfl) ?_
        have k37 : W pg l en ({ frames := 0, cells := 0, slots := 0, locals := 0 } : Room) s m args below meth cd H locs 0 0 (gEi (tmF dy q a (b + 1 - a)) True below D [(cI, .int), (cL, .long)] (wM bd cI cL th qy lp sp (nI mK) (nI uK) pr ex dy tk bi (nI c) sh sr mk su mu co du mS) A args s 0 0) (F0 m 37 ls [.int (tmF dy q a (i + 1 - a))]) := by
          refine lv_istore (lv' := [(4, .int (tmF dy q a (i + 1 - a))), (0, .ref (bd 0)), (1, .int (nI a)), (2, .int (nI b)), (3, .int q), (5, .int (nI i))]) hx hb dX2_isTooMuch_37 hl (by decide) rfl (fun ls hl => ?_)
          refine lv_iinc (v := nI (i + 1)) (lv' := [(5, .int (nI (i + 1))), (4, .int (tmF dy q a (i + 1 - a))), (0, .ref (bd 0)), (1, .int (nI a)), (2, .int (nI b)), (3, .int q)]) hx hb dX2_isTooMuch_39 hl (k := 5) rfl (gi_1 _) (by decide) rfl (fun ls hl => ?_)
          refine lv_goto (tgt := 6) hx hb dX2_isTooMuch_42 (by decide) ?_
          exact ih (i + 1) (by omega) (by omega) (by omega) _ _ hP hD hS ls (lv_sub hl [2, 3, 4, 5, 1, 0] rfl)
        refine lv_if_ne (tgt := 32) hx hb dX2_isTooMuch_14 (by decide) (fun c7 => ?_) (fun c7 => ?_)
        · refine lv_iconst (v := 1) hx hb dX2_isTooMuch_32 (by decide) ?_
          refine lv_goto (tgt := 37) hx hb dX2_isTooMuch_33 (by decide) ?_
          exact gj_i (by rw [ei, tmF, if_pos c7]) k37
        · refine lv_aload_n hx hb dX2_isTooMuch_17 rfl (lv_at hl 0 rfl) ?_
          refine va_get (D := D) (ci := 2) (C := RX2) (T := TX2) (N := 20) hx hb hts inX2_isTooMuch_X2 hown hK hP 0 rfl rfl 8 (by decide) (hts _ hX2_isTooMuch__fieldLink_RX2_33_MakeupGasModel_days_I_) (fun _ h9 => h9) rfl dX2_isTooMuch_18 ?_
          refine lv_iload hx hb dX2_isTooMuch_21 (lv_at hl 5 rfl) ?_
          refine ga_iald (j := i) hx hb hK hP 3 0 rfl rfl hi3 (by decide) dX2_isTooMuch_23 ?_
          refine lv_iload_n hx hb dX2_isTooMuch_24 rfl (lv_at hl 3 rfl) ?_
          refine lv_iadd hx hb dX2_isTooMuch_25 ?_
          refine lv_sipush (v := 500) hx hb dX2_isTooMuch_26 (by decide) ?_
          refine lv_icmp_le (tgt := 36) hx hb dX2_isTooMuch_29 (by decide) (fun c8 => ?_) (fun c8 => ?_)
          · refine lv_iconst (v := 0) hx hb dX2_isTooMuch_36 (by decide) ?_
            exact gj_i (by rw [ei, tmF, if_neg (fun z => z c7), ea, if_pos c8]) k37
          · refine lv_iconst (v := 1) hx hb dX2_isTooMuch_32 (by decide) ?_
            refine lv_goto (tgt := 37) hx hb dX2_isTooMuch_33 (by decide) ?_
            exact gj_i (by rw [ei, tmF, if_neg (fun z => z c7), ea, if_neg c8]) k37
  have e0 : a - a = 0 := Nat.sub_self a
  exact lp_6 ((b + 1) + 1) a (by omega) (by omega) (Nat.le_refl a) _ _ hP hD hS ls (by rw [e0]; exact lv_sub hl [2, 3, 4, 5, 1, 0] rfl)
theorem inX2_takes_X2 : ∀ q ∈ wsX20, q ∈ wsX2_takes := by decide +kernel
theorem hX2_takes__fieldLink_RX2_33_MakeupGasModel_days_I_ : Cond.fieldLink RX2 33 "MakeupGasModel" "days" "[I" ∈ wsX2_takes := by decide +kernel
theorem hX2_takes__fieldLink_RX2_36_MakeupGasModel_taken_I_ : Cond.fieldLink RX2 36 "MakeupGasModel" "taken" "[I" ∈ wsX2_takes := by decide +kernel
theorem hX2_takes__fieldLink_RX2_80_MakeupGasModel_closed_I_ : Cond.fieldLink RX2 80 "MakeupGasModel" "closed" "I" ∈ wsX2_takes := by decide +kernel
set_option maxHeartbeats 4000000 in
set_option maxRecDepth 100000 in
theorem c_X2_takes (l : Launch) (D : va_G) (sz : Nat) (bd : Nat → Nat) (cI cL : ClassId) (th qy lp sp : Int32) (mK uK : Nat) (pr ex dy tk : Nat → Int32) (bi : Nat → Int64) (c : Nat) (sh sr mk su mu co : Nat → Int32) (du : Nat → Int64) (mS : Int32) (a b : Nat) (q : Int32) (hab : a ≤ b) (hb3 : b < 360) (hc : c < 20) : gCv l yX2_takes wsX2_takes ({ frames := 0, cells := 0, slots := 0, locals := 0 } : Room) D [(cI, .int), (cL, .long)] [.ref (bd 0), .int (nI a), .int (nI b), .int q] (wM bd cI cL th qy lp sp (nI mK) (nI uK) pr ex dy tk bi (nI c) sh sr mk su mu co du mS) (wM bd cI cL th qy lp sp (nI mK) (nI uK) pr ex (adF dy a (b + 1) q) (upd tk c (itA (tk c) q (b + 1 - a))) bi (nI c) sh sr mk su mu co du mS) True 0 0 sz := by
  refine gm_v (cc := cX2_takes) (maxL := 5) (by decide) rfl (Nat.le_of_ble_eq_true rfl) ?_
  intro pg en s m args below meth cd A ls hx hb hr hml hown hts hlocks hin hA hK hP hD hl
  have hl : lv_has ls 5 [(0, .ref (bd 0)), (1, .int (nI a)), (2, .int (nI b)), (3, .int q)] := hl
  have hS : va_S A s.heap s.heap [] := va_S.rf
  refine lv_iload_n hx hb dX2_takes_0 rfl (lv_at hl 1 rfl) ?_
  refine lv_istore (lv' := [(4, .int (nI a)), (0, .ref (bd 0)), (1, .int (nI a)), (2, .int (nI b)), (3, .int q)]) hx hb dX2_takes_1 hl (by decide) rfl (fun ls hl => ?_)
  have lp_3 : ∀ (n i : Nat), i ≤ (b + 1) → (b + 1) < i + n → a ≤ i → ∀ (H : Heap) (locs : List Loc), va_P D vwCl (wM bd cI cL th qy lp sp (nI mK) (nI uK) pr ex (adF dy a i q) (upd tk c (itA (tk c) q (i - a))) bi (nI c) sh sr mk su mu co du mS) H → va_D A (wM bd cI cL th qy lp sp (nI mK) (nI uK) pr ex (adF dy a i q) (upd tk c (itA (tk c) q (i - a))) bi (nI c) sh sr mk su mu co du mS) → va_S A s.heap H locs → ∀ (ls : Array Slot), lv_has ls 5 [(0, .ref (bd 0)), (1, .int (nI a)), (2, .int (nI b)), (3, .int q), (4, .int (nI i))] → W pg l en ({ frames := 0, cells := 0, slots := 0, locals := 0 } : Room) s m args below meth cd H locs 0 0 (gEv True below D [(cI, .int), (cL, .long)] (wM bd cI cL th qy lp sp (nI mK) (nI uK) pr ex (adF dy a (b + 1) q) (upd tk c (itA (tk c) q (b + 1 - a))) bi (nI c) sh sr mk su mu co du mS) A args s 0 0) (F0 m 3 ls []) := by
    intro n
    induction n with
    | zero => intro i h1 h2; exact absurd h2 (by omega)
    | succ n ih =>
      intro i hi hin2 hai H locs hP hD hS ls hl
      refine lv_iload hx hb dX2_takes_3 (lv_at hl 4 rfl) ?_
      refine lv_iload_n hx hb dX2_takes_5 rfl (lv_at hl 2 rfl) ?_
      refine lv_icmp_gt (tgt := 39) hx hb dX2_takes_6 (by decide) (fun c6 => ?_) (fun c6 => ?_)
      · have hbi : ¬ i ≤ b := fun h => absurd c6 (Int32.not_lt.mpr (nI_le h (by omega)))
        obtain rfl : i = b + 1 := by omega
        exact ge_v hx hb hr hlocks hK hP hD hS trivial (Nat.le_of_ble_eq_true rfl) (Nat.le_of_ble_eq_true rfl) dX2_takes_39
      · have hib : i ≤ b := Nat.not_lt.mp (fun h => c6 (nI_lt h (by omega)))
        have hi3 : i < 360 := by omega
        have ei : i + 1 - a = (i - a) + 1 := by omega
        refine lv_aload_n hx hb dX2_takes_9 rfl (lv_at hl 0 rfl) ?_
        refine va_get (D := D) (ci := 2) (C := RX2) (T := TX2) (N := 20) hx hb hts inX2_takes_X2 hown hK hP 0 rfl rfl 8 (by decide) (hts _ hX2_takes__fieldLink_RX2_33_MakeupGasModel_days_I_) (fun _ h9 => h9) rfl dX2_takes_10 ?_
        refine lv_iload hx hb dX2_takes_13 (lv_at hl 4 rfl) ?_
        refine lv_dup2_11 hx hb dX2_takes_15 rfl rfl ?_
        refine ga_iald (j := i) hx hb hK hP 3 0 rfl rfl hi3 (by decide) dX2_takes_16 ?_
        refine lv_iload_n hx hb dX2_takes_17 rfl (lv_at hl 3 rfl) ?_
        refine lv_iadd hx hb dX2_takes_18 ?_
        refine ga_iast (j := i) (ws' := (wM bd cI cL th qy lp sp (nI mK) (nI uK) pr ex (adF dy a (i + 1) q) (upd tk c (itA (tk c) q (i - a))) bi (nI c) sh sr mk su mu co du mS)) hx hb hK hP hD hS 3 0 rfl rfl hi3 (by decide) dX2_takes_19 (by rw [adF_s dy q hai]; rfl) (fun H locs hP hD hS => ?_)
        refine lv_aload_n hx hb dX2_takes_20 rfl (lv_at hl 0 rfl) ?_
        refine va_get (D := D) (ci := 2) (C := RX2) (T := TX2) (N := 20) hx hb hts inX2_takes_X2 hown hK hP 0 rfl rfl 9 (by decide) (hts _ hX2_takes__fieldLink_RX2_36_MakeupGasModel_taken_I_) (fun _ h9 => h9) rfl dX2_takes_21 ?_
        refine lv_aload_n hx hb dX2_takes_24 rfl (lv_at hl 0 rfl) ?_
        refine va_get (D := D) (ci := 2) (C := RX2) (T := TX2) (N := 20) hx hb hts inX2_takes_X2 hown hK hP 0 rfl rfl 11 (by decide) (hts _ hX2_takes__fieldLink_RX2_80_MakeupGasModel_closed_I_) (fun _ h9 => h9) rfl dX2_takes_25 ?_
        refine lv_dup2_11 hx hb dX2_takes_28 rfl rfl ?_
        refine ga_iald (j := c) hx hb hK hP 4 0 rfl rfl hc (by decide) dX2_takes_29 ?_
        refine lv_iload_n hx hb dX2_takes_30 rfl (lv_at hl 3 rfl) ?_
        refine lv_iadd hx hb dX2_takes_31 ?_
        refine ga_iast (j := c) (ws' := (wM bd cI cL th qy lp sp (nI mK) (nI uK) pr ex (adF dy a (i + 1) q) (upd tk c (itA (tk c) q (i + 1 - a))) bi (nI c) sh sr mk su mu co du mS)) hx hb hK hP hD hS 4 0 rfl rfl hc (by decide) dX2_takes_32 (by rw [ei, itA, itA_u]; rfl) (fun H locs hP hD hS => ?_)
        refine lv_iinc (v := nI (i + 1)) (lv' := [(4, .int (nI (i + 1))), (0, .ref (bd 0)), (1, .int (nI a)), (2, .int (nI b)), (3, .int q)]) hx hb dX2_takes_33 hl (k := 4) rfl (gi_1 _) (by decide) rfl (fun ls hl => ?_)
        refine lv_goto (tgt := 3) hx hb dX2_takes_36 (by decide) ?_
        exact ih (i + 1) (by omega) (by omega) (by omega) _ _ hP hD hS ls (lv_sub hl [1, 2, 3, 4, 0] rfl)
  have e0 : a - a = 0 := Nat.sub_self a
  rw [← adF_0 dy a q, ← upd_self tk c] at hP hD
  have hP : va_P D vwCl (wM bd cI cL th qy lp sp (nI mK) (nI uK) pr ex (adF dy a a q) (upd tk c (itA (tk c) q (a - a))) bi (nI c) sh sr mk su mu co du mS) s.heap := by rw [e0]; exact hP
  have hD : va_D A (wM bd cI cL th qy lp sp (nI mK) (nI uK) pr ex (adF dy a a q) (upd tk c (itA (tk c) q (a - a))) bi (nI c) sh sr mk su mu co du mS) := by rw [e0]; exact hD
  exact lp_3 ((b + 1) + 1) a (by omega) (by omega) (Nat.le_refl a) _ _ hP hD hS ls (lv_sub hl [1, 2, 3, 4, 0] rfl)
theorem inX2_canTake_X2 : ∀ q ∈ wsX20, q ∈ wsX2_canTake := by decide +kernel
theorem hX2_canTake__fieldLink_RX2_80_MakeupGasModel_closed_I_ : Cond.fieldLink RX2 80 "MakeupGasModel" "closed" "I" ∈ wsX2_canTake := by decide +kernel
set_option maxHeartbeats 4000000 in
set_option maxRecDepth 100000 in
theorem c_X2_canTake (l : Launch) (D : va_G) (sz : Nat) (bd : Nat → Nat) (cI cL : ClassId) (th qy lp sp : Int32) (mK uK : Nat) (pr ex dy tk : Nat → Int32) (bi : Nat → Int64) (c : Nat) (sh sr mk su mu co : Nat → Int32) (du : Nat → Int64) (mS : Int32) (a b : Nat) (q : Int32) (hab : a ≤ b) (hb3 : b < 360) (r1 : inR q 1 500) (hc : c < 20) (hroom : ∀ d, a ≤ d → d ≤ b → dy d + q ≤ 500) : gCi l yX2_canTake wsX2_canTake ({ frames := 1, cells := 0, slots := 0, locals := 25 } : Room) D [(cI, .int), (cL, .long)] [.ref (bd 0), .int (nI a), .int (nI b), .int q] (wM bd cI cL th qy lp sp (nI mK) (nI uK) pr ex dy tk bi (nI c) sh sr mk su mu co du mS) (wM bd cI cL 0 qy lp sp (nI mK) (nI uK) pr ex dy tk bi (nI c) sh sr mk su mu co du mS) 1 True 0 0 sz := by
  refine gm_i (cc := cX2_canTake) (maxL := 5) (by decide) rfl (Nat.le_of_ble_eq_true rfl) ?_
  intro pg en s m args below meth cd A ls hx hb hr hml hown hts hlocks hin hA hK hP hD hl
  have hl : lv_has ls 5 [(0, .ref (bd 0)), (1, .int (nI a)), (2, .int (nI b)), (3, .int q)] := hl
  have hS : va_S A s.heap s.heap [] := va_S.rf
  refine lv_iload_n hx hb dX2_canTake_0 rfl (lv_at hl 1 rfl) ?_
  refine lv_iload_n hx hb dX2_canTake_1 rfl (lv_at hl 2 rfl) ?_
  refine gS_i (wc := []) (wr := [(bd 0, .inr (2, [.int th, .int qy, .int lp, .int sp, .int (nI mK), .int (nI uK), .ref (bd 1), .ref (bd 2), .ref (bd 3), .ref (bd 4), .ref (bd 5), .int (nI c), .ref (bd 6), .ref (bd 7), .ref (bd 8), .ref (bd 9), .ref (bd 10), .ref (bd 11), .ref (bd 12), .int mS])), (bd 1, .inl (cI, 20, .inl pr)), (bd 2, .inl (cI, 20, .inl ex)), (bd 3, .inl (cI, 360, .inl dy)), (bd 4, .inl (cI, 20, .inl tk)), (bd 5, .inl (cL, 20, .inr (.inl bi))), (bd 6, .inl (cI, 20, .inl sh)), (bd 7, .inl (cI, 20, .inl sr)), (bd 8, .inl (cI, 20, .inl mk)), (bd 9, .inl (cI, 20, .inl su)), (bd 10, .inl (cI, 20, .inl mu)), (bd 11, .inl (cI, 20, .inl co)), (bd 12, .inl (cL, 20, .inr (.inl du)))]) (w1 := []) (W' := (wM bd cI cL th qy lp sp (nI mK) (nI uK) pr ex dy tk bi (nI c) sh sr mk su mu co du mS)) (As := [.int (nI a), .int (nI b)]) (rest := []) ⟨hx, hb, hml, hown, hts⟩ (c_X2_isRange l D s.heap.size cI cL (nI a) (nI b)) (va_cwS 2 hts gX2_canTake_X2_isRange rfl rfl rfl (by decide +kernel) ⟨(Nat.le_of_ble_eq_true rfl), (Nat.le_of_ble_eq_true rfl)⟩) hS hA hK hP hD [0, 1] rfl [] [0, 1, 2, 3, 4, 5, 6, 7, 8, 9, 10, 11, 12] [0, 1, 2, 3, 4, 5, 6, 7, 8, 9, 10, 11, 12] rfl (by decide) rfl (by decide) (by decide) rfl (by decide) rfl hl.1 rfl (Nat.le_of_ble_eq_true rfl) dX2_canTake_2 ⟨(Nat.le_of_ble_eq_true rfl), (Nat.le_of_ble_eq_true rfl)⟩ (fun H locs _ hP hD hS => ?_)
  refine gj_i (bz_t ⟨nI_pos (by omega), Int32.not_lt.mpr (nI_le hab (by omega)), nI_ge (b := 360) hb3 (by decide)⟩) ?_
  refine lv_if_eq (tgt := 23) hx hb dX2_canTake_5 (by decide) (fun cz => ?_) (fun cz => ?_)
  · exact absurd cz (by decide)
  · refine lv_iload_n hx hb dX2_canTake_8 rfl (lv_at hl 3 rfl) ?_
    refine lv_iconst (v := 1) hx hb dX2_canTake_9 (by decide) ?_
    refine lv_sipush (v := 500) hx hb dX2_canTake_10 (by decide) ?_
    refine gS_i (wc := []) (wr := [(bd 0, .inr (2, [.int th, .int qy, .int lp, .int sp, .int (nI mK), .int (nI uK), .ref (bd 1), .ref (bd 2), .ref (bd 3), .ref (bd 4), .ref (bd 5), .int (nI c), .ref (bd 6), .ref (bd 7), .ref (bd 8), .ref (bd 9), .ref (bd 10), .ref (bd 11), .ref (bd 12), .int mS])), (bd 1, .inl (cI, 20, .inl pr)), (bd 2, .inl (cI, 20, .inl ex)), (bd 3, .inl (cI, 360, .inl dy)), (bd 4, .inl (cI, 20, .inl tk)), (bd 5, .inl (cL, 20, .inr (.inl bi))), (bd 6, .inl (cI, 20, .inl sh)), (bd 7, .inl (cI, 20, .inl sr)), (bd 8, .inl (cI, 20, .inl mk)), (bd 9, .inl (cI, 20, .inl su)), (bd 10, .inl (cI, 20, .inl mu)), (bd 11, .inl (cI, 20, .inl co)), (bd 12, .inl (cL, 20, .inr (.inl du)))]) (w1 := []) (W' := (wM bd cI cL th qy lp sp (nI mK) (nI uK) pr ex dy tk bi (nI c) sh sr mk su mu co du mS)) (As := [.int q, .int 1, .int 500]) (rest := []) ⟨hx, hb, hml, hown, hts⟩ (c_X2_isIn l D H.size cI cL q 1 500) (va_cwS 3 hts gX2_canTake_X2_isIn rfl rfl rfl (by decide +kernel) ⟨(Nat.le_of_ble_eq_true rfl), (Nat.le_of_ble_eq_true rfl)⟩) hS hA hK hP hD [0, 1] rfl [] [0, 1, 2, 3, 4, 5, 6, 7, 8, 9, 10, 11, 12] [0, 1, 2, 3, 4, 5, 6, 7, 8, 9, 10, 11, 12] rfl (by decide) rfl (by decide) (by decide) rfl (by decide) rfl hl.1 rfl (Nat.le_of_ble_eq_true rfl) dX2_canTake_13 ⟨(Nat.le_of_ble_eq_true rfl), (Nat.le_of_ble_eq_true rfl)⟩ (fun H locs _ hP hD hS => ?_)
    refine gj_i (bz_t r1) ?_
    refine lv_if_eq (tgt := 23) hx hb dX2_canTake_16 (by decide) (fun cz => ?_) (fun cz => ?_)
    · exact absurd cz (by decide)
    · refine lv_iconst (v := 1) hx hb dX2_canTake_19 (by decide) ?_
      refine lv_goto (tgt := 24) hx hb dX2_canTake_20 (by decide) ?_
      refine lv_istore (lv' := [(4, .int 1), (0, .ref (bd 0)), (1, .int (nI a)), (2, .int (nI b)), (3, .int q)]) hx hb dX2_canTake_24 hl (by decide) rfl (fun ls hl => ?_)
      refine lv_aload_n hx hb dX2_canTake_26 rfl (lv_at hl 1 rfl) ?_
      refine lv_iload hx hb dX2_canTake_27 (lv_at hl 0 rfl) ?_
      refine lv_if_ne (tgt := 36) hx hb dX2_canTake_29 (by decide) (fun cy => ?_) (fun cy => ?_)
      · refine lv_aload_n hx hb dX2_canTake_36 rfl (lv_at hl 1 rfl) ?_
        refine va_get (D := D) (ci := 2) (C := RX2) (T := TX2) (N := 20) hx hb hts inX2_canTake_X2 hown hK hP 0 rfl rfl 11 (by decide) (hts _ hX2_canTake__fieldLink_RX2_80_MakeupGasModel_closed_I_) (fun _ h9 => h9) rfl dX2_canTake_37 ?_
        refine lv_bipush (v := 20) hx hb dX2_canTake_40 (by decide) ?_
        refine lv_icmp_eq (tgt := 55) hx hb dX2_canTake_42 (by decide) (fun cc => ?_) (fun cc => ?_)
        · exact absurd cc (nI_ne20 hc)
        · refine lv_aload_n hx hb dX2_canTake_45 rfl (lv_at hl 1 rfl) ?_
          refine lv_iload_n hx hb dX2_canTake_46 rfl (lv_at hl 2 rfl) ?_
          refine lv_iload_n hx hb dX2_canTake_47 rfl (lv_at hl 3 rfl) ?_
          refine lv_iload_n hx hb dX2_canTake_48 rfl (lv_at hl 4 rfl) ?_
          refine gV_i (wc := (wM bd cI cL th qy lp sp (nI mK) (nI uK) pr ex dy tk bi (nI c) sh sr mk su mu co du mS)) (wr := []) (w1 := (wM bd cI cL th qy lp sp (nI mK) (nI uK) pr ex dy tk bi (nI c) sh sr mk su mu co du mS)) (W' := (wM bd cI cL th qy lp sp (nI mK) (nI uK) pr ex dy tk bi (nI c) sh sr mk su mu co du mS)) (As := [.int (nI a), .int (nI b), .int q]) (rest := [.ref (bd 0)]) ⟨hx, hb, hml, hown, hts⟩ (c_X2_isTooMuch l D H.size bd cI cL th qy lp sp mK uK pr ex dy tk bi c sh sr mk su mu co du mS a b q hab hb3) (cwV 3 hts gX2_canTake_X2_isTooMuch rfl rfl rfl (by decide +kernel) ⟨(Nat.le_of_ble_eq_true rfl), (Nat.le_of_ble_eq_true rfl)⟩) hS hA hK hP hD [0, 1] rfl [0, 1, 2, 3, 4, 5, 6, 7, 8, 9, 10, 11, 12] [] [0, 1, 2, 3, 4, 5, 6, 7, 8, 9, 10, 11, 12] rfl (by decide) rfl (by decide) (by decide) rfl (by decide) 0 2 rfl rfl rfl rfl hl.1 rfl (Nat.le_of_ble_eq_true rfl) dX2_canTake_49 ⟨(Nat.le_of_ble_eq_true rfl), (Nat.le_of_ble_eq_true rfl)⟩ (fun H locs _ hP hD hS => ?_)
          refine gj_i (tmF_ok (by omega) (fun d h1 h2 => hroom d h1 (by omega))) ?_
          refine lv_if_eq (tgt := 59) hx hb dX2_canTake_52 (by decide) (fun ct => ?_) (fun ct => ?_)
          · refine lv_iconst (v := 0) hx hb dX2_canTake_59 (by decide) ?_
            refine gV_i (wc := (wM bd cI cL th qy lp sp (nI mK) (nI uK) pr ex dy tk bi (nI c) sh sr mk su mu co du mS)) (wr := []) (w1 := (wM bd cI cL 0 qy lp sp (nI mK) (nI uK) pr ex dy tk bi (nI c) sh sr mk su mu co du mS)) (W' := (wM bd cI cL 0 qy lp sp (nI mK) (nI uK) pr ex dy tk bi (nI c) sh sr mk su mu co du mS)) (As := [.int 0]) (rest := []) ⟨hx, hb, hml, hown, hts⟩ (c_X2_holds l D H.size bd cI cL th qy lp sp mK uK pr ex dy tk bi c sh sr mk su mu co du mS 0) (cwV 1 hts gX2_canTake_X2_holds rfl rfl rfl (by decide +kernel) ⟨(Nat.le_of_ble_eq_true rfl), (Nat.le_of_ble_eq_true rfl)⟩) hS hA hK hP hD [0, 1] rfl [0, 1, 2, 3, 4, 5, 6, 7, 8, 9, 10, 11, 12] [] [0, 1, 2, 3, 4, 5, 6, 7, 8, 9, 10, 11, 12] rfl (by decide) rfl (by decide) (by decide) rfl (by decide) 0 2 rfl rfl rfl rfl hl.1 rfl (Nat.le_of_ble_eq_true rfl) dX2_canTake_60 ⟨(Nat.le_of_ble_eq_true rfl), (Nat.le_of_ble_eq_true rfl)⟩ (fun H locs _ hP hD hS => ?_)
            refine gj_i (bz_t rfl) ?_
            exact ge_i hx hb hr hlocks rfl hK hP hD hS trivial (Nat.le_of_ble_eq_true rfl) (Nat.le_of_ble_eq_true rfl) dX2_canTake_63
          · exact absurd rfl ct
      · exact absurd cy (by decide)
set_option maxHeartbeats 4000000 in
set_option maxRecDepth 100000 in
theorem c_X2_canTake_1 (l : Launch) (D : va_G) (sz : Nat) (bd : Nat → Nat) (cI cL : ClassId) (th qy lp sp : Int32) (mK uK : Nat) (pr ex dy tk : Nat → Int32) (bi : Nat → Int64) (c : Nat) (sh sr mk su mu co : Nat → Int32) (du : Nat → Int64) (mS : Int32) (v w q : Int32) (hbad : ¬ ((¬ v < 0 ∧ ¬ w < v ∧ ¬ 360 ≤ w) ∧ inR q 1 500)) : gCi l yX2_canTake wsX2_canTake ({ frames := 1, cells := 0, slots := 0, locals := 25 } : Room) D [(cI, .int), (cL, .long)] [.ref (bd 0), .int v, .int w, .int q] (wM bd cI cL th qy lp sp (nI mK) (nI uK) pr ex dy tk bi (nI c) sh sr mk su mu co du mS) (wM bd cI cL 1 qy lp sp (nI mK) (nI uK) pr ex dy tk bi (nI c) sh sr mk su mu co du mS) 0 True 0 0 sz := by
  refine gm_i (cc := cX2_canTake) (maxL := 5) (by decide) rfl (Nat.le_of_ble_eq_true rfl) ?_
  intro pg en s m args below meth cd A ls hx hb hr hml hown hts hlocks hin hA hK hP hD hl
  have hl : lv_has ls 5 [(0, .ref (bd 0)), (1, .int v), (2, .int w), (3, .int q)] := hl
  have hS : va_S A s.heap s.heap [] := va_S.rf
  have k23 : ∀ (H : Heap) (locs : List Loc), va_P D vwCl (wM bd cI cL th qy lp sp (nI mK) (nI uK) pr ex dy tk bi (nI c) sh sr mk su mu co du mS) H → va_D A (wM bd cI cL th qy lp sp (nI mK) (nI uK) pr ex dy tk bi (nI c) sh sr mk su mu co du mS) → va_S A s.heap H locs → W pg l en ({ frames := 1, cells := 0, slots := 0, locals := 25 } : Room) s m args below meth cd H locs 0 0 (gEi 0 True below D [(cI, .int), (cL, .long)] (wM bd cI cL 1 qy lp sp (nI mK) (nI uK) pr ex dy tk bi (nI c) sh sr mk su mu co du mS) A args s 0 0) (F0 m 23 ls []) := by
    intro H locs hP hD hS
    refine lv_iconst (v := 0) hx hb dX2_canTake_23 (by decide) ?_
    refine lv_istore (lv' := [(4, .int 0), (0, .ref (bd 0)), (1, .int v), (2, .int w), (3, .int q)]) hx hb dX2_canTake_24 hl (by decide) rfl (fun ls hl => ?_)
    refine lv_aload_n hx hb dX2_canTake_26 rfl (lv_at hl 1 rfl) ?_
    refine lv_iload hx hb dX2_canTake_27 (lv_at hl 0 rfl) ?_
    refine lv_if_ne (tgt := 36) hx hb dX2_canTake_29 (by decide) (fun cy => ?_) (fun cy => ?_)
    · exact absurd rfl cy
    · refine lv_iconst (v := 1) hx hb dX2_canTake_32 (by decide) ?_
      refine lv_goto (tgt := 60) hx hb dX2_canTake_33 (by decide) ?_
      refine gV_i (wc := (wM bd cI cL th qy lp sp (nI mK) (nI uK) pr ex dy tk bi (nI c) sh sr mk su mu co du mS)) (wr := []) (w1 := (wM bd cI cL 1 qy lp sp (nI mK) (nI uK) pr ex dy tk bi (nI c) sh sr mk su mu co du mS)) (W' := (wM bd cI cL 1 qy lp sp (nI mK) (nI uK) pr ex dy tk bi (nI c) sh sr mk su mu co du mS)) (As := [.int 1]) (rest := []) ⟨hx, hb, hml, hown, hts⟩ (c_X2_holds l D H.size bd cI cL th qy lp sp mK uK pr ex dy tk bi c sh sr mk su mu co du mS 1) (cwV 1 hts gX2_canTake_X2_holds rfl rfl rfl (by decide +kernel) ⟨(Nat.le_of_ble_eq_true rfl), (Nat.le_of_ble_eq_true rfl)⟩) hS hA hK hP hD [0, 1] rfl [0, 1, 2, 3, 4, 5, 6, 7, 8, 9, 10, 11, 12] [] [0, 1, 2, 3, 4, 5, 6, 7, 8, 9, 10, 11, 12] rfl (by decide) rfl (by decide) (by decide) rfl (by decide) 0 2 rfl rfl rfl rfl hl.1 rfl (Nat.le_of_ble_eq_true rfl) dX2_canTake_60 ⟨(Nat.le_of_ble_eq_true rfl), (Nat.le_of_ble_eq_true rfl)⟩ (fun H locs _ hP hD hS => ?_)
      refine gj_i (bz_f (by decide)) ?_
      exact ge_i hx hb hr hlocks rfl hK hP hD hS trivial (Nat.le_of_ble_eq_true rfl) (Nat.le_of_ble_eq_true rfl) dX2_canTake_63
  refine lv_iload_n hx hb dX2_canTake_0 rfl (lv_at hl 1 rfl) ?_
  refine lv_iload_n hx hb dX2_canTake_1 rfl (lv_at hl 2 rfl) ?_
  refine gS_i (wc := []) (wr := [(bd 0, .inr (2, [.int th, .int qy, .int lp, .int sp, .int (nI mK), .int (nI uK), .ref (bd 1), .ref (bd 2), .ref (bd 3), .ref (bd 4), .ref (bd 5), .int (nI c), .ref (bd 6), .ref (bd 7), .ref (bd 8), .ref (bd 9), .ref (bd 10), .ref (bd 11), .ref (bd 12), .int mS])), (bd 1, .inl (cI, 20, .inl pr)), (bd 2, .inl (cI, 20, .inl ex)), (bd 3, .inl (cI, 360, .inl dy)), (bd 4, .inl (cI, 20, .inl tk)), (bd 5, .inl (cL, 20, .inr (.inl bi))), (bd 6, .inl (cI, 20, .inl sh)), (bd 7, .inl (cI, 20, .inl sr)), (bd 8, .inl (cI, 20, .inl mk)), (bd 9, .inl (cI, 20, .inl su)), (bd 10, .inl (cI, 20, .inl mu)), (bd 11, .inl (cI, 20, .inl co)), (bd 12, .inl (cL, 20, .inr (.inl du)))]) (w1 := []) (W' := (wM bd cI cL th qy lp sp (nI mK) (nI uK) pr ex dy tk bi (nI c) sh sr mk su mu co du mS)) (As := [.int v, .int w]) (rest := []) ⟨hx, hb, hml, hown, hts⟩ (c_X2_isRange l D s.heap.size cI cL v w) (va_cwS 2 hts gX2_canTake_X2_isRange rfl rfl rfl (by decide +kernel) ⟨(Nat.le_of_ble_eq_true rfl), (Nat.le_of_ble_eq_true rfl)⟩) hS hA hK hP hD [0, 1] rfl [] [0, 1, 2, 3, 4, 5, 6, 7, 8, 9, 10, 11, 12] [0, 1, 2, 3, 4, 5, 6, 7, 8, 9, 10, 11, 12] rfl (by decide) rfl (by decide) (by decide) rfl (by decide) rfl hl.1 rfl (Nat.le_of_ble_eq_true rfl) dX2_canTake_2 ⟨(Nat.le_of_ble_eq_true rfl), (Nat.le_of_ble_eq_true rfl)⟩ (fun H locs _ hP hD hS => ?_)
  by_cases q0 : ¬ v < 0 ∧ ¬ w < v ∧ ¬ 360 ≤ w
  · refine gj_i (bz_t q0) ?_
    refine lv_if_eq (tgt := 23) hx hb dX2_canTake_5 (by decide) (fun cz => ?_) (fun cz => ?_)
    · exact absurd cz (by decide)
    · refine lv_iload_n hx hb dX2_canTake_8 rfl (lv_at hl 3 rfl) ?_
      refine lv_iconst (v := 1) hx hb dX2_canTake_9 (by decide) ?_
      refine lv_sipush (v := 500) hx hb dX2_canTake_10 (by decide) ?_
      refine gS_i (wc := []) (wr := [(bd 0, .inr (2, [.int th, .int qy, .int lp, .int sp, .int (nI mK), .int (nI uK), .ref (bd 1), .ref (bd 2), .ref (bd 3), .ref (bd 4), .ref (bd 5), .int (nI c), .ref (bd 6), .ref (bd 7), .ref (bd 8), .ref (bd 9), .ref (bd 10), .ref (bd 11), .ref (bd 12), .int mS])), (bd 1, .inl (cI, 20, .inl pr)), (bd 2, .inl (cI, 20, .inl ex)), (bd 3, .inl (cI, 360, .inl dy)), (bd 4, .inl (cI, 20, .inl tk)), (bd 5, .inl (cL, 20, .inr (.inl bi))), (bd 6, .inl (cI, 20, .inl sh)), (bd 7, .inl (cI, 20, .inl sr)), (bd 8, .inl (cI, 20, .inl mk)), (bd 9, .inl (cI, 20, .inl su)), (bd 10, .inl (cI, 20, .inl mu)), (bd 11, .inl (cI, 20, .inl co)), (bd 12, .inl (cL, 20, .inr (.inl du)))]) (w1 := []) (W' := (wM bd cI cL th qy lp sp (nI mK) (nI uK) pr ex dy tk bi (nI c) sh sr mk su mu co du mS)) (As := [.int q, .int 1, .int 500]) (rest := []) ⟨hx, hb, hml, hown, hts⟩ (c_X2_isIn l D H.size cI cL q 1 500) (va_cwS 3 hts gX2_canTake_X2_isIn rfl rfl rfl (by decide +kernel) ⟨(Nat.le_of_ble_eq_true rfl), (Nat.le_of_ble_eq_true rfl)⟩) hS hA hK hP hD [0, 1] rfl [] [0, 1, 2, 3, 4, 5, 6, 7, 8, 9, 10, 11, 12] [0, 1, 2, 3, 4, 5, 6, 7, 8, 9, 10, 11, 12] rfl (by decide) rfl (by decide) (by decide) rfl (by decide) rfl hl.1 rfl (Nat.le_of_ble_eq_true rfl) dX2_canTake_13 ⟨(Nat.le_of_ble_eq_true rfl), (Nat.le_of_ble_eq_true rfl)⟩ (fun H locs _ hP hD hS => ?_)
      by_cases q1 : inR q 1 500
      · refine gj_i (bz_t q1) ?_
        refine lv_if_eq (tgt := 23) hx hb dX2_canTake_16 (by decide) (fun cz => ?_) (fun cz => ?_)
        · exact absurd cz (by decide)
        · exact absurd ⟨q0, q1⟩ hbad
      · refine gj_i (bz_f q1) ?_
        refine lv_if_eq (tgt := 23) hx hb dX2_canTake_16 (by decide) (fun cz => ?_) (fun cz => ?_)
        · exact k23 _ _ hP hD hS
        · exact absurd cz (by decide)
  · refine gj_i (bz_f q0) ?_
    refine lv_if_eq (tgt := 23) hx hb dX2_canTake_5 (by decide) (fun cz => ?_) (fun cz => ?_)
    · exact k23 _ _ hP hD hS
    · exact absurd cz (by decide)
set_option maxHeartbeats 4000000 in
set_option maxRecDepth 100000 in
theorem c_X2_canTake_2 (l : Launch) (D : va_G) (sz : Nat) (bd : Nat → Nat) (cI cL : ClassId) (th qy lp sp : Int32) (mK uK : Nat) (pr ex dy tk : Nat → Int32) (bi : Nat → Int64) (c : Nat) (sh sr mk su mu co : Nat → Int32) (du : Nat → Int64) (mS : Int32) (a b : Nat) (q : Int32) (hab : a ≤ b) (hb3 : b < 360) (r1 : inR q 1 500) (hc : c ≤ 20) (hbad : ¬ (c < 20 ∧ ∀ d, a ≤ d → d ≤ b → dy d + q ≤ 500)) : gCi l yX2_canTake wsX2_canTake ({ frames := 1, cells := 0, slots := 0, locals := 25 } : Room) D [(cI, .int), (cL, .long)] [.ref (bd 0), .int (nI a), .int (nI b), .int q] (wM bd cI cL th qy lp sp (nI mK) (nI uK) pr ex dy tk bi (nI c) sh sr mk su mu co du mS) (wM bd cI cL 2 qy lp sp (nI mK) (nI uK) pr ex dy tk bi (nI c) sh sr mk su mu co du mS) 0 True 0 0 sz := by
  refine gm_i (cc := cX2_canTake) (maxL := 5) (by decide) rfl (Nat.le_of_ble_eq_true rfl) ?_
  intro pg en s m args below meth cd A ls hx hb hr hml hown hts hlocks hin hA hK hP hD hl
  have hl : lv_has ls 5 [(0, .ref (bd 0)), (1, .int (nI a)), (2, .int (nI b)), (3, .int q)] := hl
  have hS : va_S A s.heap s.heap [] := va_S.rf
  refine lv_iload_n hx hb dX2_canTake_0 rfl (lv_at hl 1 rfl) ?_
  refine lv_iload_n hx hb dX2_canTake_1 rfl (lv_at hl 2 rfl) ?_
  refine gS_i (wc := []) (wr := [(bd 0, .inr (2, [.int th, .int qy, .int lp, .int sp, .int (nI mK), .int (nI uK), .ref (bd 1), .ref (bd 2), .ref (bd 3), .ref (bd 4), .ref (bd 5), .int (nI c), .ref (bd 6), .ref (bd 7), .ref (bd 8), .ref (bd 9), .ref (bd 10), .ref (bd 11), .ref (bd 12), .int mS])), (bd 1, .inl (cI, 20, .inl pr)), (bd 2, .inl (cI, 20, .inl ex)), (bd 3, .inl (cI, 360, .inl dy)), (bd 4, .inl (cI, 20, .inl tk)), (bd 5, .inl (cL, 20, .inr (.inl bi))), (bd 6, .inl (cI, 20, .inl sh)), (bd 7, .inl (cI, 20, .inl sr)), (bd 8, .inl (cI, 20, .inl mk)), (bd 9, .inl (cI, 20, .inl su)), (bd 10, .inl (cI, 20, .inl mu)), (bd 11, .inl (cI, 20, .inl co)), (bd 12, .inl (cL, 20, .inr (.inl du)))]) (w1 := []) (W' := (wM bd cI cL th qy lp sp (nI mK) (nI uK) pr ex dy tk bi (nI c) sh sr mk su mu co du mS)) (As := [.int (nI a), .int (nI b)]) (rest := []) ⟨hx, hb, hml, hown, hts⟩ (c_X2_isRange l D s.heap.size cI cL (nI a) (nI b)) (va_cwS 2 hts gX2_canTake_X2_isRange rfl rfl rfl (by decide +kernel) ⟨(Nat.le_of_ble_eq_true rfl), (Nat.le_of_ble_eq_true rfl)⟩) hS hA hK hP hD [0, 1] rfl [] [0, 1, 2, 3, 4, 5, 6, 7, 8, 9, 10, 11, 12] [0, 1, 2, 3, 4, 5, 6, 7, 8, 9, 10, 11, 12] rfl (by decide) rfl (by decide) (by decide) rfl (by decide) rfl hl.1 rfl (Nat.le_of_ble_eq_true rfl) dX2_canTake_2 ⟨(Nat.le_of_ble_eq_true rfl), (Nat.le_of_ble_eq_true rfl)⟩ (fun H locs _ hP hD hS => ?_)
  refine gj_i (bz_t ⟨nI_pos (by omega), Int32.not_lt.mpr (nI_le hab (by omega)), nI_ge (b := 360) hb3 (by decide)⟩) ?_
  refine lv_if_eq (tgt := 23) hx hb dX2_canTake_5 (by decide) (fun cz => ?_) (fun cz => ?_)
  · exact absurd cz (by decide)
  · refine lv_iload_n hx hb dX2_canTake_8 rfl (lv_at hl 3 rfl) ?_
    refine lv_iconst (v := 1) hx hb dX2_canTake_9 (by decide) ?_
    refine lv_sipush (v := 500) hx hb dX2_canTake_10 (by decide) ?_
    refine gS_i (wc := []) (wr := [(bd 0, .inr (2, [.int th, .int qy, .int lp, .int sp, .int (nI mK), .int (nI uK), .ref (bd 1), .ref (bd 2), .ref (bd 3), .ref (bd 4), .ref (bd 5), .int (nI c), .ref (bd 6), .ref (bd 7), .ref (bd 8), .ref (bd 9), .ref (bd 10), .ref (bd 11), .ref (bd 12), .int mS])), (bd 1, .inl (cI, 20, .inl pr)), (bd 2, .inl (cI, 20, .inl ex)), (bd 3, .inl (cI, 360, .inl dy)), (bd 4, .inl (cI, 20, .inl tk)), (bd 5, .inl (cL, 20, .inr (.inl bi))), (bd 6, .inl (cI, 20, .inl sh)), (bd 7, .inl (cI, 20, .inl sr)), (bd 8, .inl (cI, 20, .inl mk)), (bd 9, .inl (cI, 20, .inl su)), (bd 10, .inl (cI, 20, .inl mu)), (bd 11, .inl (cI, 20, .inl co)), (bd 12, .inl (cL, 20, .inr (.inl du)))]) (w1 := []) (W' := (wM bd cI cL th qy lp sp (nI mK) (nI uK) pr ex dy tk bi (nI c) sh sr mk su mu co du mS)) (As := [.int q, .int 1, .int 500]) (rest := []) ⟨hx, hb, hml, hown, hts⟩ (c_X2_isIn l D H.size cI cL q 1 500) (va_cwS 3 hts gX2_canTake_X2_isIn rfl rfl rfl (by decide +kernel) ⟨(Nat.le_of_ble_eq_true rfl), (Nat.le_of_ble_eq_true rfl)⟩) hS hA hK hP hD [0, 1] rfl [] [0, 1, 2, 3, 4, 5, 6, 7, 8, 9, 10, 11, 12] [0, 1, 2, 3, 4, 5, 6, 7, 8, 9, 10, 11, 12] rfl (by decide) rfl (by decide) (by decide) rfl (by decide) rfl hl.1 rfl (Nat.le_of_ble_eq_true rfl) dX2_canTake_13 ⟨(Nat.le_of_ble_eq_true rfl), (Nat.le_of_ble_eq_true rfl)⟩ (fun H locs _ hP hD hS => ?_)
    refine gj_i (bz_t r1) ?_
    refine lv_if_eq (tgt := 23) hx hb dX2_canTake_16 (by decide) (fun cz => ?_) (fun cz => ?_)
    · exact absurd cz (by decide)
    · refine lv_iconst (v := 1) hx hb dX2_canTake_19 (by decide) ?_
      refine lv_goto (tgt := 24) hx hb dX2_canTake_20 (by decide) ?_
      refine lv_istore (lv' := [(4, .int 1), (0, .ref (bd 0)), (1, .int (nI a)), (2, .int (nI b)), (3, .int q)]) hx hb dX2_canTake_24 hl (by decide) rfl (fun ls hl => ?_)
      refine lv_aload_n hx hb dX2_canTake_26 rfl (lv_at hl 1 rfl) ?_
      refine lv_iload hx hb dX2_canTake_27 (lv_at hl 0 rfl) ?_
      refine lv_if_ne (tgt := 36) hx hb dX2_canTake_29 (by decide) (fun cy => ?_) (fun cy => ?_)
      · refine lv_aload_n hx hb dX2_canTake_36 rfl (lv_at hl 1 rfl) ?_
        refine va_get (D := D) (ci := 2) (C := RX2) (T := TX2) (N := 20) hx hb hts inX2_canTake_X2 hown hK hP 0 rfl rfl 11 (by decide) (hts _ hX2_canTake__fieldLink_RX2_80_MakeupGasModel_closed_I_) (fun _ h9 => h9) rfl dX2_canTake_37 ?_
        refine lv_bipush (v := 20) hx hb dX2_canTake_40 (by decide) ?_
        have k55 : ∀ (H : Heap) (locs : List Loc), va_P D vwCl (wM bd cI cL th qy lp sp (nI mK) (nI uK) pr ex dy tk bi (nI c) sh sr mk su mu co du mS) H → va_D A (wM bd cI cL th qy lp sp (nI mK) (nI uK) pr ex dy tk bi (nI c) sh sr mk su mu co du mS) → va_S A s.heap H locs → W pg l en ({ frames := 1, cells := 0, slots := 0, locals := 25 } : Room) s m args below meth cd H locs 0 0 (gEi 0 True below D [(cI, .int), (cL, .long)] (wM bd cI cL 2 qy lp sp (nI mK) (nI uK) pr ex dy tk bi (nI c) sh sr mk su mu co du mS) A args s 0 0) (F0 m 55 ls [.ref (bd 0)]) := by
          intro H locs hP hD hS
          refine lv_iconst (v := 2) hx hb dX2_canTake_55 (by decide) ?_
          refine lv_goto (tgt := 60) hx hb dX2_canTake_56 (by decide) ?_
          refine gV_i (wc := (wM bd cI cL th qy lp sp (nI mK) (nI uK) pr ex dy tk bi (nI c) sh sr mk su mu co du mS)) (wr := []) (w1 := (wM bd cI cL 2 qy lp sp (nI mK) (nI uK) pr ex dy tk bi (nI c) sh sr mk su mu co du mS)) (W' := (wM bd cI cL 2 qy lp sp (nI mK) (nI uK) pr ex dy tk bi (nI c) sh sr mk su mu co du mS)) (As := [.int 2]) (rest := []) ⟨hx, hb, hml, hown, hts⟩ (c_X2_holds l D H.size bd cI cL th qy lp sp mK uK pr ex dy tk bi c sh sr mk su mu co du mS 2) (cwV 1 hts gX2_canTake_X2_holds rfl rfl rfl (by decide +kernel) ⟨(Nat.le_of_ble_eq_true rfl), (Nat.le_of_ble_eq_true rfl)⟩) hS hA hK hP hD [0, 1] rfl [0, 1, 2, 3, 4, 5, 6, 7, 8, 9, 10, 11, 12] [] [0, 1, 2, 3, 4, 5, 6, 7, 8, 9, 10, 11, 12] rfl (by decide) rfl (by decide) (by decide) rfl (by decide) 0 2 rfl rfl rfl rfl hl.1 rfl (Nat.le_of_ble_eq_true rfl) dX2_canTake_60 ⟨(Nat.le_of_ble_eq_true rfl), (Nat.le_of_ble_eq_true rfl)⟩ (fun H locs _ hP hD hS => ?_)
          refine gj_i (bz_f (by decide)) ?_
          exact ge_i hx hb hr hlocks rfl hK hP hD hS trivial (Nat.le_of_ble_eq_true rfl) (Nat.le_of_ble_eq_true rfl) dX2_canTake_63
        refine lv_icmp_eq (tgt := 55) hx hb dX2_canTake_42 (by decide) (fun cc => ?_) (fun cc => ?_)
        · exact k55 _ _ hP hD hS
        · refine lv_aload_n hx hb dX2_canTake_45 rfl (lv_at hl 1 rfl) ?_
          refine lv_iload_n hx hb dX2_canTake_46 rfl (lv_at hl 2 rfl) ?_
          refine lv_iload_n hx hb dX2_canTake_47 rfl (lv_at hl 3 rfl) ?_
          refine lv_iload_n hx hb dX2_canTake_48 rfl (lv_at hl 4 rfl) ?_
          refine gV_i (wc := (wM bd cI cL th qy lp sp (nI mK) (nI uK) pr ex dy tk bi (nI c) sh sr mk su mu co du mS)) (wr := []) (w1 := (wM bd cI cL th qy lp sp (nI mK) (nI uK) pr ex dy tk bi (nI c) sh sr mk su mu co du mS)) (W' := (wM bd cI cL th qy lp sp (nI mK) (nI uK) pr ex dy tk bi (nI c) sh sr mk su mu co du mS)) (As := [.int (nI a), .int (nI b), .int q]) (rest := [.ref (bd 0)]) ⟨hx, hb, hml, hown, hts⟩ (c_X2_isTooMuch l D H.size bd cI cL th qy lp sp mK uK pr ex dy tk bi c sh sr mk su mu co du mS a b q hab hb3) (cwV 3 hts gX2_canTake_X2_isTooMuch rfl rfl rfl (by decide +kernel) ⟨(Nat.le_of_ble_eq_true rfl), (Nat.le_of_ble_eq_true rfl)⟩) hS hA hK hP hD [0, 1] rfl [0, 1, 2, 3, 4, 5, 6, 7, 8, 9, 10, 11, 12] [] [0, 1, 2, 3, 4, 5, 6, 7, 8, 9, 10, 11, 12] rfl (by decide) rfl (by decide) (by decide) rfl (by decide) 0 2 rfl rfl rfl rfl hl.1 rfl (Nat.le_of_ble_eq_true rfl) dX2_canTake_49 ⟨(Nat.le_of_ble_eq_true rfl), (Nat.le_of_ble_eq_true rfl)⟩ (fun H locs _ hP hD hS => ?_)
          refine gj_i (tmF_bad (by omega) (fun z => hbad ⟨nI_lt20 hc cc, fun d h1 h2 => z d h1 (by omega)⟩)) ?_
          refine lv_if_eq (tgt := 59) hx hb dX2_canTake_52 (by decide) (fun ct => ?_) (fun ct => ?_)
          · exact absurd ct (by decide)
          · exact k55 _ _ hP hD hS
      · exact absurd cy (by decide)
theorem inX2_take_X2 : ∀ q ∈ wsX20, q ∈ wsX2_take := by decide +kernel
theorem hX2_take__fieldLink_RX2_33_MakeupGasModel_days_I_ : Cond.fieldLink RX2 33 "MakeupGasModel" "days" "[I" ∈ wsX2_take := by decide +kernel
set_option maxHeartbeats 4000000 in
set_option maxRecDepth 100000 in
theorem c_X2_take (l : Launch) (D : va_G) (sz : Nat) (bd : Nat → Nat) (cI cL : ClassId) (th qy lp sp : Int32) (mK uK : Nat) (pr ex dy tk : Nat → Int32) (bi : Nat → Int64) (c : Nat) (sh sr mk su mu co : Nat → Int32) (du : Nat → Int64) (mS : Int32) (a : Nat) (q : Int32) (ha : a < 360) (r1 : inR q 1 500) (hc : c < 20) (hroom : ∀ d, a ≤ d → d ≤ a → dy d + q ≤ 500) : gCi l yX2_take wsX2_take ({ frames := 2, cells := 0, slots := 0, locals := 49 } : Room) D [(cI, .int), (cL, .long)] [.ref (bd 0), .int (nI a), .int q] (wM bd cI cL th qy lp sp (nI mK) (nI uK) pr ex dy tk bi (nI c) sh sr mk su mu co du mS) (wM bd cI cL 0 qy lp sp (nI mK) (nI uK) pr ex (adF dy a (a + 1) q) (upd tk c (itA (tk c) q (a + 1 - a))) bi (nI c) sh sr mk su mu co du mS) ((adF dy a (a + 1) q) a) True 0 0 sz := by
  refine gm_i (cc := cX2_take) (maxL := 3) (by decide) rfl (Nat.le_of_ble_eq_true rfl) ?_
  intro pg en s m args below meth cd A ls hx hb hr hml hown hts hlocks hin hA hK hP hD hl
  have hl : lv_has ls 3 [(0, .ref (bd 0)), (1, .int (nI a)), (2, .int q)] := hl
  have hS : va_S A s.heap s.heap [] := va_S.rf
  refine lv_aload_n hx hb dX2_take_0 rfl (lv_at hl 0 rfl) ?_
  refine lv_iload_n hx hb dX2_take_1 rfl (lv_at hl 1 rfl) ?_
  refine lv_iload_n hx hb dX2_take_2 rfl (lv_at hl 1 rfl) ?_
  refine lv_iload_n hx hb dX2_take_3 rfl (lv_at hl 2 rfl) ?_
  refine gV_i (wc := (wM bd cI cL th qy lp sp (nI mK) (nI uK) pr ex dy tk bi (nI c) sh sr mk su mu co du mS)) (wr := []) (w1 := (wM bd cI cL 0 qy lp sp (nI mK) (nI uK) pr ex dy tk bi (nI c) sh sr mk su mu co du mS)) (W' := (wM bd cI cL 0 qy lp sp (nI mK) (nI uK) pr ex dy tk bi (nI c) sh sr mk su mu co du mS)) (As := [.int (nI a), .int (nI a), .int q]) (rest := []) ⟨hx, hb, hml, hown, hts⟩ (c_X2_canTake l D s.heap.size bd cI cL th qy lp sp mK uK pr ex dy tk bi c sh sr mk su mu co du mS a a q (Nat.le_refl a) ha r1 hc hroom) (cwV 3 hts gX2_take_X2_canTake rfl rfl rfl (by decide +kernel) ⟨(Nat.le_of_ble_eq_true rfl), (Nat.le_of_ble_eq_true rfl)⟩) hS hA hK hP hD [0, 1] rfl [0, 1, 2, 3, 4, 5, 6, 7, 8, 9, 10, 11, 12] [] [0, 1, 2, 3, 4, 5, 6, 7, 8, 9, 10, 11, 12] rfl (by decide) rfl (by decide) (by decide) rfl (by decide) 0 2 rfl rfl rfl rfl hl.1 rfl (Nat.le_of_ble_eq_true rfl) dX2_take_4 ⟨(Nat.le_of_ble_eq_true rfl), (Nat.le_of_ble_eq_true rfl)⟩ (fun H locs _ hP hD hS => ?_)
  refine lv_if_ne (tgt := 12) hx hb dX2_take_7 (by decide) (fun cy => ?_) (fun cy => ?_)
  · refine lv_aload_n hx hb dX2_take_12 rfl (lv_at hl 0 rfl) ?_
    refine lv_iload_n hx hb dX2_take_13 rfl (lv_at hl 1 rfl) ?_
    refine lv_iload_n hx hb dX2_take_14 rfl (lv_at hl 1 rfl) ?_
    refine lv_iload_n hx hb dX2_take_15 rfl (lv_at hl 2 rfl) ?_
    refine gV_v (wc := (wM bd cI cL 0 qy lp sp (nI mK) (nI uK) pr ex dy tk bi (nI c) sh sr mk su mu co du mS)) (wr := []) (w1 := (wM bd cI cL 0 qy lp sp (nI mK) (nI uK) pr ex (adF dy a (a + 1) q) (upd tk c (itA (tk c) q (a + 1 - a))) bi (nI c) sh sr mk su mu co du mS)) (W' := (wM bd cI cL 0 qy lp sp (nI mK) (nI uK) pr ex (adF dy a (a + 1) q) (upd tk c (itA (tk c) q (a + 1 - a))) bi (nI c) sh sr mk su mu co du mS)) (As := [.int (nI a), .int (nI a), .int q]) (rest := []) ⟨hx, hb, hml, hown, hts⟩ (c_X2_takes l D H.size bd cI cL 0 qy lp sp mK uK pr ex dy tk bi c sh sr mk su mu co du mS a a q (Nat.le_refl a) ha hc) (cwV 3 hts gX2_take_X2_takes rfl rfl rfl (by decide +kernel) ⟨(Nat.le_of_ble_eq_true rfl), (Nat.le_of_ble_eq_true rfl)⟩) hS hA hK hP hD [0, 1] rfl [0, 1, 2, 3, 4, 5, 6, 7, 8, 9, 10, 11, 12] [] [0, 1, 2, 3, 4, 5, 6, 7, 8, 9, 10, 11, 12] rfl (by decide) rfl (by decide) (by decide) rfl (by decide) 0 2 rfl rfl rfl rfl hl.1 rfl (Nat.le_of_ble_eq_true rfl) dX2_take_16 ⟨(Nat.le_of_ble_eq_true rfl), (Nat.le_of_ble_eq_true rfl)⟩ (fun H locs _ hP hD hS => ?_)
    refine lv_aload_n hx hb dX2_take_19 rfl (lv_at hl 0 rfl) ?_
    refine va_get (D := D) (ci := 2) (C := RX2) (T := TX2) (N := 20) hx hb hts inX2_take_X2 hown hK hP 0 rfl rfl 8 (by decide) (hts _ hX2_take__fieldLink_RX2_33_MakeupGasModel_days_I_) (fun _ h9 => h9) rfl dX2_take_20 ?_
    refine lv_iload_n hx hb dX2_take_23 rfl (lv_at hl 1 rfl) ?_
    refine ga_iald (j := a) hx hb hK hP 3 0 rfl rfl ha (by decide) dX2_take_24 ?_
    exact ge_i hx hb hr hlocks rfl hK hP hD hS trivial (Nat.le_of_ble_eq_true rfl) (Nat.le_of_ble_eq_true rfl) dX2_take_25
  · exact absurd cy (by decide)
set_option maxHeartbeats 4000000 in
set_option maxRecDepth 100000 in
theorem c_X2_take_1 (l : Launch) (D : va_G) (sz : Nat) (bd : Nat → Nat) (cI cL : ClassId) (th qy lp sp : Int32) (mK uK : Nat) (pr ex dy tk : Nat → Int32) (bi : Nat → Int64) (c : Nat) (sh sr mk su mu co : Nat → Int32) (du : Nat → Int64) (mS : Int32) (v q : Int32) (hbad : ¬ ((¬ v < 0 ∧ ¬ v < v ∧ ¬ 360 ≤ v) ∧ inR q 1 500)) : gCi l yX2_take wsX2_take ({ frames := 2, cells := 0, slots := 0, locals := 49 } : Room) D [(cI, .int), (cL, .long)] [.ref (bd 0), .int v, .int q] (wM bd cI cL th qy lp sp (nI mK) (nI uK) pr ex dy tk bi (nI c) sh sr mk su mu co du mS) (wM bd cI cL 1 qy lp sp (nI mK) (nI uK) pr ex dy tk bi (nI c) sh sr mk su mu co du mS) 0 True 0 0 sz := by
  refine gm_i (cc := cX2_take) (maxL := 3) (by decide) rfl (Nat.le_of_ble_eq_true rfl) ?_
  intro pg en s m args below meth cd A ls hx hb hr hml hown hts hlocks hin hA hK hP hD hl
  have hl : lv_has ls 3 [(0, .ref (bd 0)), (1, .int v), (2, .int q)] := hl
  have hS : va_S A s.heap s.heap [] := va_S.rf
  refine lv_aload_n hx hb dX2_take_0 rfl (lv_at hl 0 rfl) ?_
  refine lv_iload_n hx hb dX2_take_1 rfl (lv_at hl 1 rfl) ?_
  refine lv_iload_n hx hb dX2_take_2 rfl (lv_at hl 1 rfl) ?_
  refine lv_iload_n hx hb dX2_take_3 rfl (lv_at hl 2 rfl) ?_
  refine gV_i (wc := (wM bd cI cL th qy lp sp (nI mK) (nI uK) pr ex dy tk bi (nI c) sh sr mk su mu co du mS)) (wr := []) (w1 := (wM bd cI cL 1 qy lp sp (nI mK) (nI uK) pr ex dy tk bi (nI c) sh sr mk su mu co du mS)) (W' := (wM bd cI cL 1 qy lp sp (nI mK) (nI uK) pr ex dy tk bi (nI c) sh sr mk su mu co du mS)) (As := [.int v, .int v, .int q]) (rest := []) ⟨hx, hb, hml, hown, hts⟩ (c_X2_canTake_1 l D s.heap.size bd cI cL th qy lp sp mK uK pr ex dy tk bi c sh sr mk su mu co du mS v v q hbad) (cwV 3 hts gX2_take_X2_canTake rfl rfl rfl (by decide +kernel) ⟨(Nat.le_of_ble_eq_true rfl), (Nat.le_of_ble_eq_true rfl)⟩) hS hA hK hP hD [0, 1] rfl [0, 1, 2, 3, 4, 5, 6, 7, 8, 9, 10, 11, 12] [] [0, 1, 2, 3, 4, 5, 6, 7, 8, 9, 10, 11, 12] rfl (by decide) rfl (by decide) (by decide) rfl (by decide) 0 2 rfl rfl rfl rfl hl.1 rfl (Nat.le_of_ble_eq_true rfl) dX2_take_4 ⟨(Nat.le_of_ble_eq_true rfl), (Nat.le_of_ble_eq_true rfl)⟩ (fun H locs _ hP hD hS => ?_)
  refine lv_if_ne (tgt := 12) hx hb dX2_take_7 (by decide) (fun cy => ?_) (fun cy => ?_)
  · exact absurd rfl cy
  · refine lv_iconst (v := 0) hx hb dX2_take_10 (by decide) ?_
    exact ge_i hx hb hr hlocks rfl hK hP hD hS trivial (Nat.le_of_ble_eq_true rfl) (Nat.le_of_ble_eq_true rfl) dX2_take_11
set_option maxHeartbeats 4000000 in
set_option maxRecDepth 100000 in
theorem c_X2_take_2 (l : Launch) (D : va_G) (sz : Nat) (bd : Nat → Nat) (cI cL : ClassId) (th qy lp sp : Int32) (mK uK : Nat) (pr ex dy tk : Nat → Int32) (bi : Nat → Int64) (c : Nat) (sh sr mk su mu co : Nat → Int32) (du : Nat → Int64) (mS : Int32) (a : Nat) (q : Int32) (ha : a < 360) (r1 : inR q 1 500) (hc : c ≤ 20) (hbad : ¬ (c < 20 ∧ ∀ d, a ≤ d → d ≤ a → dy d + q ≤ 500)) : gCi l yX2_take wsX2_take ({ frames := 2, cells := 0, slots := 0, locals := 49 } : Room) D [(cI, .int), (cL, .long)] [.ref (bd 0), .int (nI a), .int q] (wM bd cI cL th qy lp sp (nI mK) (nI uK) pr ex dy tk bi (nI c) sh sr mk su mu co du mS) (wM bd cI cL 2 qy lp sp (nI mK) (nI uK) pr ex dy tk bi (nI c) sh sr mk su mu co du mS) 0 True 0 0 sz := by
  refine gm_i (cc := cX2_take) (maxL := 3) (by decide) rfl (Nat.le_of_ble_eq_true rfl) ?_
  intro pg en s m args below meth cd A ls hx hb hr hml hown hts hlocks hin hA hK hP hD hl
  have hl : lv_has ls 3 [(0, .ref (bd 0)), (1, .int (nI a)), (2, .int q)] := hl
  have hS : va_S A s.heap s.heap [] := va_S.rf
  refine lv_aload_n hx hb dX2_take_0 rfl (lv_at hl 0 rfl) ?_
  refine lv_iload_n hx hb dX2_take_1 rfl (lv_at hl 1 rfl) ?_
  refine lv_iload_n hx hb dX2_take_2 rfl (lv_at hl 1 rfl) ?_
  refine lv_iload_n hx hb dX2_take_3 rfl (lv_at hl 2 rfl) ?_
  refine gV_i (wc := (wM bd cI cL th qy lp sp (nI mK) (nI uK) pr ex dy tk bi (nI c) sh sr mk su mu co du mS)) (wr := []) (w1 := (wM bd cI cL 2 qy lp sp (nI mK) (nI uK) pr ex dy tk bi (nI c) sh sr mk su mu co du mS)) (W' := (wM bd cI cL 2 qy lp sp (nI mK) (nI uK) pr ex dy tk bi (nI c) sh sr mk su mu co du mS)) (As := [.int (nI a), .int (nI a), .int q]) (rest := []) ⟨hx, hb, hml, hown, hts⟩ (c_X2_canTake_2 l D s.heap.size bd cI cL th qy lp sp mK uK pr ex dy tk bi c sh sr mk su mu co du mS a a q (Nat.le_refl a) ha r1 hc hbad) (cwV 3 hts gX2_take_X2_canTake rfl rfl rfl (by decide +kernel) ⟨(Nat.le_of_ble_eq_true rfl), (Nat.le_of_ble_eq_true rfl)⟩) hS hA hK hP hD [0, 1] rfl [0, 1, 2, 3, 4, 5, 6, 7, 8, 9, 10, 11, 12] [] [0, 1, 2, 3, 4, 5, 6, 7, 8, 9, 10, 11, 12] rfl (by decide) rfl (by decide) (by decide) rfl (by decide) 0 2 rfl rfl rfl rfl hl.1 rfl (Nat.le_of_ble_eq_true rfl) dX2_take_4 ⟨(Nat.le_of_ble_eq_true rfl), (Nat.le_of_ble_eq_true rfl)⟩ (fun H locs _ hP hD hS => ?_)
  refine lv_if_ne (tgt := 12) hx hb dX2_take_7 (by decide) (fun cy => ?_) (fun cy => ?_)
  · exact absurd rfl cy
  · refine lv_iconst (v := 0) hx hb dX2_take_10 (by decide) ?_
    exact ge_i hx hb hr hlocks rfl hK hP hD hS trivial (Nat.le_of_ble_eq_true rfl) (Nat.le_of_ble_eq_true rfl) dX2_take_11
theorem inX2_takeDaily_X2 : ∀ q ∈ wsX20, q ∈ wsX2_takeDaily := by decide +kernel
theorem hX2_takeDaily__fieldLink_RX2_36_MakeupGasModel_taken_I_ : Cond.fieldLink RX2 36 "MakeupGasModel" "taken" "[I" ∈ wsX2_takeDaily := by decide +kernel
theorem hX2_takeDaily__fieldLink_RX2_80_MakeupGasModel_closed_I_ : Cond.fieldLink RX2 80 "MakeupGasModel" "closed" "I" ∈ wsX2_takeDaily := by decide +kernel
set_option maxHeartbeats 4000000 in
set_option maxRecDepth 100000 in
theorem c_X2_takeDaily (l : Launch) (D : va_G) (sz : Nat) (bd : Nat → Nat) (cI cL : ClassId) (th qy lp sp : Int32) (mK uK : Nat) (pr ex dy tk : Nat → Int32) (bi : Nat → Int64) (c : Nat) (sh sr mk su mu co : Nat → Int32) (du : Nat → Int64) (mS : Int32) (a b : Nat) (q : Int32) (hab : a ≤ b) (hb3 : b < 360) (r1 : inR q 1 500) (hc : c < 20) (hroom : ∀ d, a ≤ d → d ≤ b → dy d + q ≤ 500) : gCi l yX2_takeDaily wsX2_takeDaily ({ frames := 2, cells := 0, slots := 0, locals := 49 } : Room) D [(cI, .int), (cL, .long)] [.ref (bd 0), .int (nI a), .int (nI b), .int q] (wM bd cI cL th qy lp sp (nI mK) (nI uK) pr ex dy tk bi (nI c) sh sr mk su mu co du mS) (wM bd cI cL 0 qy lp sp (nI mK) (nI uK) pr ex (adF dy a (b + 1) q) (upd tk c (itA (tk c) q (b + 1 - a))) bi (nI c) sh sr mk su mu co du mS) ((upd tk c (itA (tk c) q (b + 1 - a))) c) True 0 0 sz := by
  refine gm_i (cc := cX2_takeDaily) (maxL := 4) (by decide) rfl (Nat.le_of_ble_eq_true rfl) ?_
  intro pg en s m args below meth cd A ls hx hb hr hml hown hts hlocks hin hA hK hP hD hl
  have hl : lv_has ls 4 [(0, .ref (bd 0)), (1, .int (nI a)), (2, .int (nI b)), (3, .int q)] := hl
  have hS : va_S A s.heap s.heap [] := va_S.rf
  refine lv_aload_n hx hb dX2_takeDaily_0 rfl (lv_at hl 0 rfl) ?_
  refine lv_iload_n hx hb dX2_takeDaily_1 rfl (lv_at hl 1 rfl) ?_
  refine lv_iload_n hx hb dX2_takeDaily_2 rfl (lv_at hl 2 rfl) ?_
  refine lv_iload_n hx hb dX2_takeDaily_3 rfl (lv_at hl 3 rfl) ?_
  refine gV_i (wc := (wM bd cI cL th qy lp sp (nI mK) (nI uK) pr ex dy tk bi (nI c) sh sr mk su mu co du mS)) (wr := []) (w1 := (wM bd cI cL 0 qy lp sp (nI mK) (nI uK) pr ex dy tk bi (nI c) sh sr mk su mu co du mS)) (W' := (wM bd cI cL 0 qy lp sp (nI mK) (nI uK) pr ex dy tk bi (nI c) sh sr mk su mu co du mS)) (As := [.int (nI a), .int (nI b), .int q]) (rest := []) ⟨hx, hb, hml, hown, hts⟩ (c_X2_canTake l D s.heap.size bd cI cL th qy lp sp mK uK pr ex dy tk bi c sh sr mk su mu co du mS a b q hab hb3 r1 hc hroom) (cwV 3 hts gX2_takeDaily_X2_canTake rfl rfl rfl (by decide +kernel) ⟨(Nat.le_of_ble_eq_true rfl), (Nat.le_of_ble_eq_true rfl)⟩) hS hA hK hP hD [0, 1] rfl [0, 1, 2, 3, 4, 5, 6, 7, 8, 9, 10, 11, 12] [] [0, 1, 2, 3, 4, 5, 6, 7, 8, 9, 10, 11, 12] rfl (by decide) rfl (by decide) (by decide) rfl (by decide) 0 2 rfl rfl rfl rfl hl.1 rfl (Nat.le_of_ble_eq_true rfl) dX2_takeDaily_4 ⟨(Nat.le_of_ble_eq_true rfl), (Nat.le_of_ble_eq_true rfl)⟩ (fun H locs _ hP hD hS => ?_)
  refine lv_if_ne (tgt := 12) hx hb dX2_takeDaily_7 (by decide) (fun cy => ?_) (fun cy => ?_)
  · refine lv_aload_n hx hb dX2_takeDaily_12 rfl (lv_at hl 0 rfl) ?_
    refine lv_iload_n hx hb dX2_takeDaily_13 rfl (lv_at hl 1 rfl) ?_
    refine lv_iload_n hx hb dX2_takeDaily_14 rfl (lv_at hl 2 rfl) ?_
    refine lv_iload_n hx hb dX2_takeDaily_15 rfl (lv_at hl 3 rfl) ?_
    refine gV_v (wc := (wM bd cI cL 0 qy lp sp (nI mK) (nI uK) pr ex dy tk bi (nI c) sh sr mk su mu co du mS)) (wr := []) (w1 := (wM bd cI cL 0 qy lp sp (nI mK) (nI uK) pr ex (adF dy a (b + 1) q) (upd tk c (itA (tk c) q (b + 1 - a))) bi (nI c) sh sr mk su mu co du mS)) (W' := (wM bd cI cL 0 qy lp sp (nI mK) (nI uK) pr ex (adF dy a (b + 1) q) (upd tk c (itA (tk c) q (b + 1 - a))) bi (nI c) sh sr mk su mu co du mS)) (As := [.int (nI a), .int (nI b), .int q]) (rest := []) ⟨hx, hb, hml, hown, hts⟩ (c_X2_takes l D H.size bd cI cL 0 qy lp sp mK uK pr ex dy tk bi c sh sr mk su mu co du mS a b q hab hb3 hc) (cwV 3 hts gX2_takeDaily_X2_takes rfl rfl rfl (by decide +kernel) ⟨(Nat.le_of_ble_eq_true rfl), (Nat.le_of_ble_eq_true rfl)⟩) hS hA hK hP hD [0, 1] rfl [0, 1, 2, 3, 4, 5, 6, 7, 8, 9, 10, 11, 12] [] [0, 1, 2, 3, 4, 5, 6, 7, 8, 9, 10, 11, 12] rfl (by decide) rfl (by decide) (by decide) rfl (by decide) 0 2 rfl rfl rfl rfl hl.1 rfl (Nat.le_of_ble_eq_true rfl) dX2_takeDaily_16 ⟨(Nat.le_of_ble_eq_true rfl), (Nat.le_of_ble_eq_true rfl)⟩ (fun H locs _ hP hD hS => ?_)
    refine lv_aload_n hx hb dX2_takeDaily_19 rfl (lv_at hl 0 rfl) ?_
    refine va_get (D := D) (ci := 2) (C := RX2) (T := TX2) (N := 20) hx hb hts inX2_takeDaily_X2 hown hK hP 0 rfl rfl 9 (by decide) (hts _ hX2_takeDaily__fieldLink_RX2_36_MakeupGasModel_taken_I_) (fun _ h9 => h9) rfl dX2_takeDaily_20 ?_
    refine lv_aload_n hx hb dX2_takeDaily_23 rfl (lv_at hl 0 rfl) ?_
    refine va_get (D := D) (ci := 2) (C := RX2) (T := TX2) (N := 20) hx hb hts inX2_takeDaily_X2 hown hK hP 0 rfl rfl 11 (by decide) (hts _ hX2_takeDaily__fieldLink_RX2_80_MakeupGasModel_closed_I_) (fun _ h9 => h9) rfl dX2_takeDaily_24 ?_
    refine ga_iald (j := c) hx hb hK hP 4 0 rfl rfl hc (by decide) dX2_takeDaily_27 ?_
    exact ge_i hx hb hr hlocks rfl hK hP hD hS trivial (Nat.le_of_ble_eq_true rfl) (Nat.le_of_ble_eq_true rfl) dX2_takeDaily_28
  · exact absurd cy (by decide)
set_option maxHeartbeats 4000000 in
set_option maxRecDepth 100000 in
theorem c_X2_takeDaily_1 (l : Launch) (D : va_G) (sz : Nat) (bd : Nat → Nat) (cI cL : ClassId) (th qy lp sp : Int32) (mK uK : Nat) (pr ex dy tk : Nat → Int32) (bi : Nat → Int64) (c : Nat) (sh sr mk su mu co : Nat → Int32) (du : Nat → Int64) (mS : Int32) (v w q : Int32) (hbad : ¬ ((¬ v < 0 ∧ ¬ w < v ∧ ¬ 360 ≤ w) ∧ inR q 1 500)) : gCi l yX2_takeDaily wsX2_takeDaily ({ frames := 2, cells := 0, slots := 0, locals := 49 } : Room) D [(cI, .int), (cL, .long)] [.ref (bd 0), .int v, .int w, .int q] (wM bd cI cL th qy lp sp (nI mK) (nI uK) pr ex dy tk bi (nI c) sh sr mk su mu co du mS) (wM bd cI cL 1 qy lp sp (nI mK) (nI uK) pr ex dy tk bi (nI c) sh sr mk su mu co du mS) 0 True 0 0 sz := by
  refine gm_i (cc := cX2_takeDaily) (maxL := 4) (by decide) rfl (Nat.le_of_ble_eq_true rfl) ?_
  intro pg en s m args below meth cd A ls hx hb hr hml hown hts hlocks hin hA hK hP hD hl
  have hl : lv_has ls 4 [(0, .ref (bd 0)), (1, .int v), (2, .int w), (3, .int q)] := hl
  have hS : va_S A s.heap s.heap [] := va_S.rf
  refine lv_aload_n hx hb dX2_takeDaily_0 rfl (lv_at hl 0 rfl) ?_
  refine lv_iload_n hx hb dX2_takeDaily_1 rfl (lv_at hl 1 rfl) ?_
  refine lv_iload_n hx hb dX2_takeDaily_2 rfl (lv_at hl 2 rfl) ?_
  refine lv_iload_n hx hb dX2_takeDaily_3 rfl (lv_at hl 3 rfl) ?_
  refine gV_i (wc := (wM bd cI cL th qy lp sp (nI mK) (nI uK) pr ex dy tk bi (nI c) sh sr mk su mu co du mS)) (wr := []) (w1 := (wM bd cI cL 1 qy lp sp (nI mK) (nI uK) pr ex dy tk bi (nI c) sh sr mk su mu co du mS)) (W' := (wM bd cI cL 1 qy lp sp (nI mK) (nI uK) pr ex dy tk bi (nI c) sh sr mk su mu co du mS)) (As := [.int v, .int w, .int q]) (rest := []) ⟨hx, hb, hml, hown, hts⟩ (c_X2_canTake_1 l D s.heap.size bd cI cL th qy lp sp mK uK pr ex dy tk bi c sh sr mk su mu co du mS v w q hbad) (cwV 3 hts gX2_takeDaily_X2_canTake rfl rfl rfl (by decide +kernel) ⟨(Nat.le_of_ble_eq_true rfl), (Nat.le_of_ble_eq_true rfl)⟩) hS hA hK hP hD [0, 1] rfl [0, 1, 2, 3, 4, 5, 6, 7, 8, 9, 10, 11, 12] [] [0, 1, 2, 3, 4, 5, 6, 7, 8, 9, 10, 11, 12] rfl (by decide) rfl (by decide) (by decide) rfl (by decide) 0 2 rfl rfl rfl rfl hl.1 rfl (Nat.le_of_ble_eq_true rfl) dX2_takeDaily_4 ⟨(Nat.le_of_ble_eq_true rfl), (Nat.le_of_ble_eq_true rfl)⟩ (fun H locs _ hP hD hS => ?_)
  refine lv_if_ne (tgt := 12) hx hb dX2_takeDaily_7 (by decide) (fun cy => ?_) (fun cy => ?_)
  · exact absurd rfl cy
  · refine lv_iconst (v := 0) hx hb dX2_takeDaily_10 (by decide) ?_
    exact ge_i hx hb hr hlocks rfl hK hP hD hS trivial (Nat.le_of_ble_eq_true rfl) (Nat.le_of_ble_eq_true rfl) dX2_takeDaily_11
set_option maxHeartbeats 4000000 in
set_option maxRecDepth 100000 in
theorem c_X2_takeDaily_2 (l : Launch) (D : va_G) (sz : Nat) (bd : Nat → Nat) (cI cL : ClassId) (th qy lp sp : Int32) (mK uK : Nat) (pr ex dy tk : Nat → Int32) (bi : Nat → Int64) (c : Nat) (sh sr mk su mu co : Nat → Int32) (du : Nat → Int64) (mS : Int32) (a b : Nat) (q : Int32) (hab : a ≤ b) (hb3 : b < 360) (r1 : inR q 1 500) (hc : c ≤ 20) (hbad : ¬ (c < 20 ∧ ∀ d, a ≤ d → d ≤ b → dy d + q ≤ 500)) : gCi l yX2_takeDaily wsX2_takeDaily ({ frames := 2, cells := 0, slots := 0, locals := 49 } : Room) D [(cI, .int), (cL, .long)] [.ref (bd 0), .int (nI a), .int (nI b), .int q] (wM bd cI cL th qy lp sp (nI mK) (nI uK) pr ex dy tk bi (nI c) sh sr mk su mu co du mS) (wM bd cI cL 2 qy lp sp (nI mK) (nI uK) pr ex dy tk bi (nI c) sh sr mk su mu co du mS) 0 True 0 0 sz := by
  refine gm_i (cc := cX2_takeDaily) (maxL := 4) (by decide) rfl (Nat.le_of_ble_eq_true rfl) ?_
  intro pg en s m args below meth cd A ls hx hb hr hml hown hts hlocks hin hA hK hP hD hl
  have hl : lv_has ls 4 [(0, .ref (bd 0)), (1, .int (nI a)), (2, .int (nI b)), (3, .int q)] := hl
  have hS : va_S A s.heap s.heap [] := va_S.rf
  refine lv_aload_n hx hb dX2_takeDaily_0 rfl (lv_at hl 0 rfl) ?_
  refine lv_iload_n hx hb dX2_takeDaily_1 rfl (lv_at hl 1 rfl) ?_
  refine lv_iload_n hx hb dX2_takeDaily_2 rfl (lv_at hl 2 rfl) ?_
  refine lv_iload_n hx hb dX2_takeDaily_3 rfl (lv_at hl 3 rfl) ?_
  refine gV_i (wc := (wM bd cI cL th qy lp sp (nI mK) (nI uK) pr ex dy tk bi (nI c) sh sr mk su mu co du mS)) (wr := []) (w1 := (wM bd cI cL 2 qy lp sp (nI mK) (nI uK) pr ex dy tk bi (nI c) sh sr mk su mu co du mS)) (W' := (wM bd cI cL 2 qy lp sp (nI mK) (nI uK) pr ex dy tk bi (nI c) sh sr mk su mu co du mS)) (As := [.int (nI a), .int (nI b), .int q]) (rest := []) ⟨hx, hb, hml, hown, hts⟩ (c_X2_canTake_2 l D s.heap.size bd cI cL th qy lp sp mK uK pr ex dy tk bi c sh sr mk su mu co du mS a b q hab hb3 r1 hc hbad) (cwV 3 hts gX2_takeDaily_X2_canTake rfl rfl rfl (by decide +kernel) ⟨(Nat.le_of_ble_eq_true rfl), (Nat.le_of_ble_eq_true rfl)⟩) hS hA hK hP hD [0, 1] rfl [0, 1, 2, 3, 4, 5, 6, 7, 8, 9, 10, 11, 12] [] [0, 1, 2, 3, 4, 5, 6, 7, 8, 9, 10, 11, 12] rfl (by decide) rfl (by decide) (by decide) rfl (by decide) 0 2 rfl rfl rfl rfl hl.1 rfl (Nat.le_of_ble_eq_true rfl) dX2_takeDaily_4 ⟨(Nat.le_of_ble_eq_true rfl), (Nat.le_of_ble_eq_true rfl)⟩ (fun H locs _ hP hD hS => ?_)
  refine lv_if_ne (tgt := 12) hx hb dX2_takeDaily_7 (by decide) (fun cy => ?_) (fun cy => ?_)
  · exact absurd rfl cy
  · refine lv_iconst (v := 0) hx hb dX2_takeDaily_10 (by decide) ?_
    exact ge_i hx hb hr hlocks rfl hK hP hD hS trivial (Nat.le_of_ble_eq_true rfl) (Nat.le_of_ble_eq_true rfl) dX2_takeDaily_11
