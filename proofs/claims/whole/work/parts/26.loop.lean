set_option maxHeartbeats 8000000 in
set_option maxRecDepth 100000 in
theorem law_loop {pg : Program} {l : Launch} {en : Env} {s : State} {m : MethodId} {below : List Frame} {meth : Method} {cd : Code} {D : va_G} {b L : Nat} {xs : Nat → Int32} {ad bd : Nat → Nat} {o : Nat} {cI cL : ClassId} (hst : l.stackTraces = false) (hL : L ≤ 3072) (C0 : lw_At pg s m meth cd b L xs) (hT : tz_Z (fun q : Nat => s.heap.size ≤ q) s s.heap) (hK : va_K D vwCl [(cI, .int), (cL, .long)] s) : ∀ (n k : Nat), 6 * k ≤ L → L < 6 * k + n → LG pg l en s m below meth cd D b ad bd o cI cL k := by
  intro n
  induction n with
  | zero => intro k h1 h2; exact absurd h2 (by omega)
  | succ n ih =>
    intro k h1 h2
    unfold LG
    intro qy lp sp pr ex c dy tk mK uK T bi bb th R g hI H locs hP hD hS ls hl
    obtain ⟨hx, hb, hr, hml, hown, hts0, hX, hbl, hlocks, hgv⟩ := id C0
    have hts : ∀ q ∈ wsL_law, q.before #[Value.ref b] s = true := fun q h => hts0 q (wsL_law_in q h)
    have hA : ∀ q : Nat, s.heap.size ≤ q → (fun q : Nat => s.heap.size ≤ q) q := fun _ h => h
    have hbA : ¬ (fun q : Nat => s.heap.size ≤ q) b := Nat.not_le.mpr hbl
    refine lv_iload hx hb dL_law_23 (lv_at hl 4 rfl) ?_
    refine lv_aload_n hx hb dL_law_25 rfl (lv_at hl 0 rfl) ?_
    refine va_slen hx hb hX hbl hbA hS dL_law_26 ?_
    refine lv_bipush (v := 6) hx hb dL_law_27 (by decide) ?_
    refine lv_isub hx hb dL_law_29 ?_
    have h6 : (Int32.ofNat L - 6).toInt = (L : Int) - 6 := pk_sub_toInt (a := L) (b := 6) (by omega) (by omega)
    have h7 : (nI (6 * k)).toInt = ((6 * k : Nat) : Int) := nI_toInt (by omega)
    refine lv_icmp_gt (tgt := 1279) hx hb dL_law_30 (by decide) (fun c1 => ?_) (fun c1 => ?_)
    · refine lv_iconst (v := 1) hx hb dL_law_1279 (by decide) ?_
      refine va_forget (fun q hq => hS.2.2 q hq) ?_
      refine W.widen (k := 601024) (n := 7293034) (by omega) (by omega) ?_
      exact lw_ret hx hb hr hlocks dL_law_1280
    · have hk : 6 * k + 6 ≤ L := by
        have := Int32.le_iff_toInt_le.mp (Int32.not_lt.mp c1)
        omega
      have next : LG pg l en s m below meth cd D b ad bd o cI cL (k + 1) := ih (k + 1) (by omega) (by omega)
      refine lv_aload_n hx hb dL_law_33 rfl (lv_at hl 0 rfl) ?_
      refine lv_iload hx hb dL_law_34 (lv_at hl 4 rfl) ?_
      refine ga_sld (j := 6 * k) (v := xs (6 * k)) hx hb hX hbl hbA hS (by omega) (by omega) rfl dL_law_36 ?_
      refine lv_bipush (v := 31) hx hb dL_law_37 (by decide) ?_
      refine lv_iand hx hb dL_law_39 ?_
      obtain ⟨j, hj, ej⟩ := pk_andE (xs (6 * k)) (m := 31) 5 (by decide)
      refine gj_i ej ?_
      rcases (show j = 0 ∨ j = 1 ∨ j = 2 ∨ j = 3 ∨ j = 4 ∨ j = 5 ∨ j = 6 ∨ j = 7 ∨ j = 8 ∨ j = 9 ∨ j = 10 ∨ j = 11 ∨ j = 12 ∨ j = 13 ∨ j = 14 ∨ j = 15 ∨ j = 16 ∨ j = 17 ∨ j = 18 ∨ j = 19 ∨ j = 20 ∨ 21 ≤ j by omega) with rfl | rfl | rfl | rfl | rfl | rfl | rfl | rfl | rfl | rfl | rfl | rfl | rfl | rfl | rfl | rfl | rfl | rfl | rfl | rfl | rfl | h21
      · refine lv_tableIn (off := 100) (tgt := 140) hx hb dL_law_40 (by decide) (by decide) (by decide +kernel) (by decide) ?_
        exact law_0 hst hL C0 hT hK hk next qy lp sp pr ex c dy tk mK uK T bi bb th R g hI H locs hP hD hS ls hl
      · refine lv_tableIn (off := 184) (tgt := 224) hx hb dL_law_40 (by decide) (by decide) (by decide +kernel) (by decide) ?_
        exact law_1 hst hL C0 hT hK hk next qy lp sp pr ex c dy tk mK uK T bi bb th R g hI H locs hP hD hS ls hl
      · refine lv_tableIn (off := 252) (tgt := 292) hx hb dL_law_40 (by decide) (by decide) (by decide +kernel) (by decide) ?_
        exact law_2 hst hL C0 hT hK hk next qy lp sp pr ex c dy tk mK uK T bi bb th R g hI H locs hP hD hS ls hl
      · refine lv_tableIn (off := 320) (tgt := 360) hx hb dL_law_40 (by decide) (by decide) (by decide +kernel) (by decide) ?_
        exact law_3 hst hL C0 hT hK hk next qy lp sp pr ex c dy tk mK uK T bi bb th R g hI H locs hP hD hS ls hl
      · refine lv_tableIn (off := 388) (tgt := 428) hx hb dL_law_40 (by decide) (by decide) (by decide +kernel) (by decide) ?_
        exact law_4 hst hL C0 hT hK hk next qy lp sp pr ex c dy tk mK uK T bi bb th R g hI H locs hP hD hS ls hl
      · refine lv_tableIn (off := 468) (tgt := 508) hx hb dL_law_40 (by decide) (by decide) (by decide +kernel) (by decide) ?_
        exact law_5 hst hL C0 hT hK hk next qy lp sp pr ex c dy tk mK uK T bi bb th R g hI H locs hP hD hS ls hl
      · refine lv_tableIn (off := 511) (tgt := 551) hx hb dL_law_40 (by decide) (by decide) (by decide +kernel) (by decide) ?_
        exact law_6 hst hL C0 hT hK hk next qy lp sp pr ex c dy tk mK uK T bi bb th R g hI H locs hP hD hS ls hl
      · refine lv_tableIn (off := 524) (tgt := 564) hx hb dL_law_40 (by decide) (by decide) (by decide +kernel) (by decide) ?_
        exact law_7 hst hL C0 hT hK hk next qy lp sp pr ex c dy tk mK uK T bi bb th R g hI H locs hP hD hS ls hl
      · refine lv_tableIn (off := 580) (tgt := 620) hx hb dL_law_40 (by decide) (by decide) (by decide +kernel) (by decide) ?_
        exact law_8 hst hL C0 hT hK hk next qy lp sp pr ex c dy tk mK uK T bi bb th R g hI H locs hP hD hS ls hl
      · refine lv_tableIn (off := 648) (tgt := 688) hx hb dL_law_40 (by decide) (by decide) (by decide +kernel) (by decide) ?_
        exact law_9 hst hL C0 hT hK hk next qy lp sp pr ex c dy tk mK uK T bi bb th R g hI H locs hP hD hS ls hl
      · refine lv_tableIn (off := 704) (tgt := 744) hx hb dL_law_40 (by decide) (by decide) (by decide +kernel) (by decide) ?_
        exact law_10 hst hL C0 hT hK hk next qy lp sp pr ex c dy tk mK uK T bi bb th R g hI H locs hP hD hS ls hl
      · refine lv_tableIn (off := 760) (tgt := 800) hx hb dL_law_40 (by decide) (by decide) (by decide +kernel) (by decide) ?_
        exact law_11 hst hL C0 hT hK hk next qy lp sp pr ex c dy tk mK uK T bi bb th R g hI H locs hP hD hS ls hl
      · refine lv_tableIn (off := 816) (tgt := 856) hx hb dL_law_40 (by decide) (by decide) (by decide +kernel) (by decide) ?_
        exact law_12 hst hL C0 hT hK hk next qy lp sp pr ex c dy tk mK uK T bi bb th R g hI H locs hP hD hS ls hl
      · refine lv_tableIn (off := 872) (tgt := 912) hx hb dL_law_40 (by decide) (by decide) (by decide +kernel) (by decide) ?_
        exact law_13 hst hL C0 hT hK hk next qy lp sp pr ex c dy tk mK uK T bi bb th R g hI H locs hP hD hS ls hl
      · refine lv_tableIn (off := 928) (tgt := 968) hx hb dL_law_40 (by decide) (by decide) (by decide +kernel) (by decide) ?_
        exact law_14 hst hL C0 hT hK hk next qy lp sp pr ex c dy tk mK uK T bi bb th R g hI H locs hP hD hS ls hl
      · refine lv_tableIn (off := 984) (tgt := 1024) hx hb dL_law_40 (by decide) (by decide) (by decide +kernel) (by decide) ?_
        exact law_15 hst hL C0 hT hK hk next qy lp sp pr ex c dy tk mK uK T bi bb th R g hI H locs hP hD hS ls hl
      · refine lv_tableIn (off := 1039) (tgt := 1079) hx hb dL_law_40 (by decide) (by decide) (by decide +kernel) (by decide) ?_
        exact law_16 hst hL C0 hT hK hk next qy lp sp pr ex c dy tk mK uK T bi bb th R g hI H locs hP hD hS ls hl
      · refine lv_tableIn (off := 1094) (tgt := 1134) hx hb dL_law_40 (by decide) (by decide) (by decide +kernel) (by decide) ?_
        exact law_17 hst hL C0 hT hK hk next qy lp sp pr ex c dy tk mK uK T bi bb th R g hI H locs hP hD hS ls hl
      · refine lv_tableIn (off := 1150) (tgt := 1190) hx hb dL_law_40 (by decide) (by decide) (by decide +kernel) (by decide) ?_
        exact law_18 hst hL C0 hT hK hk next qy lp sp pr ex c dy tk mK uK T bi bb th R g hI H locs hP hD hS ls hl
      · refine lv_tableIn (off := 1206) (tgt := 1246) hx hb dL_law_40 (by decide) (by decide) (by decide +kernel) (by decide) ?_
        exact law_19 hst hL C0 hT hK hk next qy lp sp pr ex c dy tk mK uK T bi bb th R g hI H locs hP hD hS ls hl
      · refine lv_tableIn (off := 1219) (tgt := 1259) hx hb dL_law_40 (by decide) (by decide) (by decide +kernel) (by decide) ?_
        exact law_20 hst hL C0 hT hK hk next qy lp sp pr ex c dy tk mK uK T bi bb th R g hI H locs hP hD hS ls hl
      · refine lv_tableOut (tgt := 1273) hx hb dL_law_40 (Or.inr (by rw [nI_toInt (by omega)]; omega)) (by decide) ?_
        refine lv_iinc (v := nI (6 * (k + 1))) (lv' := [(4, .int (nI (6 * (k + 1)))), (0, .ref b), (1, .ref (ad 0)), (2, .ref (bd 0)), (3, .ref o)]) hx hb dL_law_1273 hl (k := 4) rfl (gi_6 k) (by decide) rfl (fun ls hl => ?_)
        refine lv_goto (tgt := 23) hx hb dL_law_1276 (by decide) ?_
        refine W.widen (k := (60 + 6 * (k + 1))) (n := (2000 + 36 * (k + 1))) (by show 60 + 6 * k ≤ _; omega) (by show 2000 + 36 * k ≤ _; omega) ?_
        exact next qy lp sp pr ex c dy tk mK uK T bi bb th R g hI _ _ hP hD hS ls (lv_sub hl [1, 2, 3, 4, 0] rfl)
