set_option maxHeartbeats 8000000 in
set_option maxRecDepth 100000 in
theorem law_loop {pg : Program} {l : Launch} {en : Env} {s : State} {m : MethodId} {below : List Frame} {meth : Method} {cd : Code} {D : va_G} {b L : Nat} {xs : Nat → Int32} {ad : Nat → Nat} {o : Nat} {cI cL : ClassId} {M : Nat} (hst : l.stackTraces = false) (hL : L ≤ 260) (hM : 3 * M ≤ L) (hM8 : M ≤ 80) (C0 : lw_At pg s m meth cd b L xs) (hT : tz_Z (fun q : Nat => s.heap.size ≤ q) s s.heap) (hK : va_K D vwCl [(cI, .int), (cL, .long)] s) : ∀ (n k : Nat), k ≤ M → M < k + n → LG pg l en s m below meth cd D b ad o cI cL M k := by
  intro n
  induction n with
  | zero => intro k h1 h2; exact absurd h2 (by omega)
  | succ n ih =>
    intro k h1 h2
    unfold LG
    intro qy lp sp pr ex c dy tk mK uK T bi bb hI H locs hP hD hS ls hl
    obtain ⟨hx, hb, hr, hml, hown, hts0, hX, hbl, hlocks, hgv⟩ := id C0
    have hown : s.vm.findClass RL = some m.cls := hown
    have hts : ∀ q ∈ wsL_law, q.before #[Value.ref b] s = true := fun q h => hts0 q (wsL_law_in q h)
    have hA : ∀ q : Nat, s.heap.size ≤ q → (fun q : Nat => s.heap.size ≤ q) q := fun _ h => h
    have hbA : ¬ (fun q : Nat => s.heap.size ≤ q) b := Nat.not_le.mpr hbl
    refine lv_iload hx hb dL_law_110 (lv_at hl 5 rfl) ?_
    refine lv_iload hx hb dL_law_112 (lv_at hl 4 rfl) ?_
    refine lv_icmp_ge (tgt := 177) hx hb dL_law_114 (by decide) (fun c1 => ?_) (fun c1 => ?_)
    · refine lv_iload_n hx hb dL_law_177 rfl (lv_at hl 3 rfl) ?_
      refine va_forget (fun q hq => hS.2.2 q hq) ?_
      refine W.widen (k := 600086) (n := 7301442) (by omega) (by omega) ?_
      exact lw_ret hx hb hr hlocks dL_law_178
    · have hk : k < M := Nat.not_le.mp (fun h => c1 (nI_le h (by omega)))
      refine lv_iload_n hx hb dL_law_117 rfl (lv_at hl 3 rfl) ?_
      refine lv_if_eq (tgt := 177) hx hb dL_law_118 (by decide) (fun cb => absurd cb (by decide : ¬ (1 : Int32) = 0)) (fun _ => ?_)
      refine lv_aload_n hx hb dL_law_121 rfl (lv_at hl 1 rfl) ?_
      refine lv_aload_n hx hb dL_law_122 rfl (lv_at hl 2 rfl) ?_
      refine lv_aload_n hx hb dL_law_123 rfl (lv_at hl 0 rfl) ?_
      refine lv_iconst (v := 3) hx hb dL_law_124 (by decide) ?_
      refine lv_iload hx hb dL_law_125 (lv_at hl 5 rfl) ?_
      refine lv_imul hx hb dL_law_127 ?_
      refine gj_i (show 3 * (nI k) = nI (3 * k) from pk_mul 3 k) ?_
      refine gD_call (k := 3 * k) (rest := [.ref o, .ref (ad 0)]) ⟨hx, hb, hml, hown, hts⟩ (c_L_draw l H.size b L xs (3 * k) (by omega) (by omega)) (va_cwS 2 hts gL_law_L_draw rfl rfl rfl (by decide +kernel) ⟨(Nat.le_of_ble_eq_true rfl), (Nat.le_of_ble_eq_true rfl)⟩) hX hbl hS hP rfl hl.1 rfl (Nat.le_of_ble_eq_true rfl) dL_law_128 ⟨by show 60 + 2010 * k + 0 + 0 ≤ 600086; omega, by show 2000 + 12060 * k + 0 + 0 ≤ 7301442; omega⟩ (fun H locs hP hS => ?_)
      obtain ⟨w9, hw99, ew9⟩ := pk_andE (xs (3 * k)) (m := 2147483647) 31 (by decide +kernel)
      refine gj_i ew9 ?_
      refine lv_aload_n hx hb dL_law_131 rfl (lv_at hl 0 rfl) ?_
      refine lv_iconst (v := 3) hx hb dL_law_132 (by decide) ?_
      refine lv_iload hx hb dL_law_133 (lv_at hl 5 rfl) ?_
      refine lv_imul hx hb dL_law_135 ?_
      refine gj_i (show 3 * (nI k) = nI (3 * k) from pk_mul 3 k) ?_
      refine lv_iconst (v := 1) hx hb dL_law_136 (by decide) ?_
      refine lv_iadd hx hb dL_law_137 ?_
      refine gj_i (show (nI (3 * k)) + 1 = nI ((3 * k) + 1) from nI_add (3 * k) 1) ?_
      refine gD_call (k := (3 * k) + 1) (rest := [.int (nI w9), .ref o, .ref (ad 0)]) ⟨hx, hb, hml, hown, hts⟩ (c_L_draw l H.size b L xs ((3 * k) + 1) (by omega) (by omega)) (va_cwS 2 hts gL_law_L_draw rfl rfl rfl (by decide +kernel) ⟨(Nat.le_of_ble_eq_true rfl), (Nat.le_of_ble_eq_true rfl)⟩) hX hbl hS hP rfl hl.1 rfl (Nat.le_of_ble_eq_true rfl) dL_law_138 ⟨by show 60 + 2010 * k + 0 + 0 ≤ 600086; omega, by show 2000 + 12060 * k + 0 + 0 ≤ 7301442; omega⟩ (fun H locs hP hS => ?_)
      obtain ⟨a9, ha99, ea9⟩ := pk_andE (xs ((3 * k) + 1)) (m := 2147483647) 31 (by decide +kernel)
      refine gj_i ea9 ?_
      refine lv_aload_n hx hb dL_law_141 rfl (lv_at hl 0 rfl) ?_
      refine lv_iconst (v := 3) hx hb dL_law_142 (by decide) ?_
      refine lv_iload hx hb dL_law_143 (lv_at hl 5 rfl) ?_
      refine lv_imul hx hb dL_law_145 ?_
      refine gj_i (show 3 * (nI k) = nI (3 * k) from pk_mul 3 k) ?_
      refine lv_iconst (v := 2) hx hb dL_law_146 (by decide) ?_
      refine lv_iadd hx hb dL_law_147 ?_
      refine gj_i (show (nI (3 * k)) + 2 = nI ((3 * k) + 2) from nI_add (3 * k) 2) ?_
      refine gD_call (k := (3 * k) + 2) (rest := [.int (nI a9), .int (nI w9), .ref o, .ref (ad 0)]) ⟨hx, hb, hml, hown, hts⟩ (c_L_draw l H.size b L xs ((3 * k) + 2) (by omega) (by omega)) (va_cwS 2 hts gL_law_L_draw rfl rfl rfl (by decide +kernel) ⟨(Nat.le_of_ble_eq_true rfl), (Nat.le_of_ble_eq_true rfl)⟩) hX hbl hS hP rfl hl.1 rfl (Nat.le_of_ble_eq_true rfl) dL_law_148 ⟨by show 60 + 2010 * k + 0 + 0 ≤ 600086; omega, by show 2000 + 12060 * k + 0 + 0 ≤ 7301442; omega⟩ (fun H locs hP hS => ?_)
      obtain ⟨b9, hb99, eb9⟩ := pk_andE (xs ((3 * k) + 2)) (m := 2147483647) 31 (by decide +kernel)
      refine gj_i eb9 ?_
      refine gHS_s (Wd := ((wG ad cI cL qy lp sp pr ex (nI c) dy tk (rMk (T)) (nI mK) (rMS (T)) (rSu (T)) (nI uK) (rUS (T)) (rSh (T)) (rMu (T)) (rCo (T)) (rSr (T)) (rDu (T)) bi bb) ++ [(o, .inl (cI, 7, .inl (cF qy lp sp (nI mK) (nI uK) (nI c) (tk c))))])) (As := [.ref (ad 0), .ref o, .int (nI w9), .int (nI a9), .int (nI b9)]) (rest := []) ⟨hx, hb, hml, hown, hts⟩ (c_L_step l hst D H.size ad cI cL o qy lp sp pr ex c dy tk mK uK T bi bb w9 a9 b9 hI (by omega) (by omega) (by omega)) (va_cwS 5 hts gL_law_L_step rfl rfl rfl (by decide +kernel) ⟨(Nat.le_of_ble_eq_true rfl), (Nat.le_of_ble_eq_true rfl)⟩) hT hS hA hK hP hD [0, 1] rfl [0, 1, 2, 3, 4, 5, 6, 7, 8, 9, 10, 11, 12, 13, 14, 15] rfl (by decide) rfl hl.1 rfl (Nat.le_of_ble_eq_true rfl) dL_law_151 ⟨by show 60 + 2010 * k + 0 + 760 ≤ 600086; omega, by show 2000 + 12060 * k + 0 + 4560 ≤ 7301442; omega⟩ (fun u H locs hu hP hD hS => ?_)
      obtain ⟨qy, lp, sp, pr, ex, c, dy, tk, mK, uK, T, bi, bb, hI, rfl⟩ := hu
      have hP : va_P D vwCl ((wG ad cI cL qy lp sp pr ex (nI c) dy tk (rMk (T)) (nI mK) (rMS (T)) (rSu (T)) (nI uK) (rUS (T)) (rSh (T)) (rMu (T)) (rCo (T)) (rSr (T)) (rDu (T)) bi bb) ++ [(o, .inl (cI, 7, .inl (cF qy lp sp (nI mK) (nI uK) (nI c) (tk c))))]) H := hP
      have hD : va_D (fun q : Nat => s.heap.size ≤ q) ((wG ad cI cL qy lp sp pr ex (nI c) dy tk (rMk (T)) (nI mK) (rMS (T)) (rSu (T)) (nI uK) (rUS (T)) (rSh (T)) (rMu (T)) (rCo (T)) (rSr (T)) (rDu (T)) bi bb) ++ [(o, .inl (cI, 7, .inl (cF qy lp sp (nI mK) (nI uK) (nI c) (tk c))))]) := hD
      refine lv_if_eq (tgt := 169) hx hb dL_law_154 (by decide) (fun cb => absurd cb (by decide : ¬ (1 : Int32) = 0)) (fun _ => ?_)
      refine lv_aload_n hx hb dL_law_157 rfl (lv_at hl 1 rfl) ?_
      refine lv_aload_n hx hb dL_law_158 rfl (lv_at hl 2 rfl) ?_
      refine gHS_i (wc := ((wG ad cI cL qy lp sp pr ex (nI c) dy tk (rMk (T)) (nI mK) (rMS (T)) (rSu (T)) (nI uK) (rUS (T)) (rSh (T)) (rMu (T)) (rCo (T)) (rSr (T)) (rDu (T)) bi bb) ++ [(o, .inl (cI, 7, .inl (cF qy lp sp (nI mK) (nI uK) (nI c) (tk c))))])) (wr := []) (w1 := ((wG ad cI cL qy lp sp pr ex (nI c) dy tk (rMk (T)) (nI mK) (rMS (T)) (rSu (T)) (nI uK) (rUS (T)) (rSh (T)) (rMu (T)) (rCo (T)) (rSr (T)) (rDu (T)) bi bb) ++ [(o, .inl (cI, 7, .inl (cF qy lp sp (nI mK) (nI uK) (nI c) (tk c))))])) (W' := ((wG ad cI cL qy lp sp pr ex (nI c) dy tk (rMk (T)) (nI mK) (rMS (T)) (rSu (T)) (nI uK) (rUS (T)) (rSh (T)) (rMu (T)) (rCo (T)) (rSr (T)) (rDu (T)) bi bb) ++ [(o, .inl (cI, 7, .inl (cF qy lp sp (nI mK) (nI uK) (nI c) (tk c))))])) (As := [.ref (ad 0), .ref o]) (rest := []) ⟨hx, hb, hml, hown, hts⟩ (c_L_areYears l hst D H.size ad cI cL o qy lp sp pr ex c dy tk mK uK T bi bb  hI) (va_cwS 2 hts gL_law_L_areYears rfl rfl rfl (by decide +kernel) ⟨(Nat.le_of_ble_eq_true rfl), (Nat.le_of_ble_eq_true rfl)⟩) hT hS hA hK hP hD [0, 1] rfl [0, 1, 2, 3, 4, 5, 6, 7, 8, 9, 10, 11, 12, 13, 14, 15] [] [0, 1, 2, 3, 4, 5, 6, 7, 8, 9, 10, 11, 12, 13, 14, 15] rfl (by decide) rfl (by decide) (by decide) rfl (by decide) rfl hl.1 rfl (Nat.le_of_ble_eq_true rfl) dL_law_159 ⟨by show 60 + 2010 * k + 760 + 1250 ≤ 600086; omega, by show 2000 + 12060 * k + 4560 + 7500 ≤ 7301442; omega⟩ (fun H locs _ hP hD hS => ?_)
      refine lv_if_eq (tgt := 169) hx hb dL_law_162 (by decide) (fun cb => absurd cb (by decide : ¬ (1 : Int32) = 0)) (fun _ => ?_)
      refine lv_iconst (v := 1) hx hb dL_law_165 (by decide) ?_
      refine lv_goto (tgt := 170) hx hb dL_law_166 (by decide) ?_
      refine lv_istore_n (lv' := [(3, .int 1), (0, .ref b), (1, .ref (ad 0)), (2, .ref o), (4, .int (nI M)), (5, .int (nI k))]) hx hb dL_law_170 rfl hl (by decide) rfl (fun ls hl => ?_)
      refine lv_iinc (v := nI (k + 1)) (lv' := [(5, .int (nI (k + 1))), (3, .int 1), (0, .ref b), (1, .ref (ad 0)), (2, .ref o), (4, .int (nI M))]) hx hb dL_law_171 hl (k := 5) rfl (gi_1 _) (by decide) rfl (fun ls hl => ?_)
      refine lv_goto (tgt := 110) hx hb dL_law_174 (by decide) ?_
      refine W.widen (k := (60 + 2010 * (k + 1))) (n := (2000 + 12060 * (k + 1))) (by show 60 + 2010 * k + 2010 ≤ _; omega) (by show 2000 + 12060 * k + 12060 ≤ _; omega) ?_
      exact ih (k + 1) (by omega) (by omega) qy lp sp pr ex c dy tk mK uK T bi bb hI _ _ hP hD hS ls (lv_sub hl [2, 3, 4, 1, 5, 0] rfl)
