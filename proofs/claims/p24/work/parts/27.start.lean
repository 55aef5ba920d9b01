theorem hL_law__constant_RL_102_36000_ : Cond.constant RL 102 (36000) ∈ wsL_law := by decide +kernel
theorem st_w1 : Cond.laysStatic Bundle.tN "UNASSIGNED_STACK" Bundle.steD ∈ lw_tbl := by decide +kernel
theorem st_w2 : Cond.initialized Bundle.tN ∈ lw_tbl := by decide +kernel
theorem st_w3 : Cond.laysStatic Bundle.tN "SUPPRESSED_SENTINEL" Bundle.listD ∈ lw_tbl := by decide +kernel
theorem st_c1 : Cond.castable IAE IAE ∈ lw_tbl := by decide +kernel
theorem st_c2 : Cond.castable ISE ISE ∈ lw_tbl := by decide +kernel
theorem st_g1 : Cond.isRef (.static Bundle.tN "UNASSIGNED_STACK" Bundle.steD) ∈ flatC (Jvm.Cond.and given_1 narrow_1) := by decide +kernel
theorem st_g2 : Cond.isRef (.static Bundle.tN "SUPPRESSED_SENTINEL" Bundle.listD) ∈ flatC (Jvm.Cond.and given_1 narrow_1) := by decide +kernel
theorem st_d : ∀ x ∈ tz_dn, Cond.declares x ∈ lw_tbl := by decide +kernel
theorem st_s : ∀ q ∈ tz_str, Cond.stringRef RX1 q.1 q.2 ∈ lw_tbl := by decide +kernel
theorem st_e : ∀ q ∈ tz_str, Cond.exactly (Term.string RX1 q.1) "java/lang/String" ∈ flatC (Jvm.Cond.and given_1 narrow_1) := by decide +kernel
theorem st_i0 : Cond.instantiable RX0 3 ∈ lw_tbl := by decide +kernel
theorem st_i1 : Cond.instantiable RX1 17 ∈ lw_tbl := by decide +kernel
theorem st_n1 : Cond.classLink RL 11 RX1 ∈ lw_tbl := by decide +kernel
theorem st_j1 : Cond.initialized RX1 ∈ lw_tbl := by decide +kernel
theorem st_m1 : Cond.methodLink RL 101 yX1_init ∈ lw_tbl := by decide +kernel
theorem st_k1 : Cond.instanceMethod yX1_init ∈ lw_tbl := by decide +kernel
theorem st_a1 : Cond.arrayClass .int ∈ lw_tbl := by decide +kernel
theorem st_a2 : Cond.arrayClass .long ∈ lw_tbl := by decide +kernel
set_option maxHeartbeats 8000000 in
set_option maxRecDepth 100000 in
theorem whole_start {p : Program} {e : Env} {s : State} {m : MethodId} {below : List Frame} {meth : Method} {c : Code} (l : Launch) (hflags : l.flags = flags0) {b L : Nat} {xs : Nat → Int32} (hL : L ≤ 260) (C0 : lw_At p s m meth c b L xs) : W p l e room_1 s m #[Value.ref b] below meth c s.heap [] 0 0 (lw_Z below #[Value.ref b] s) (entryFrame m ([Value.ref b] : List Value).toArray 6) := by
  have hst : l.stackTraces = false := by unfold Launch.stackTraces; rw [hflags]; decide +kernel
  obtain ⟨hx, hb, hr, hml, hown, hts0, hX, hbl, hlocks, hgv⟩ := id C0
  have hown : s.vm.findClass RL = some m.cls := hown
  have hts : ∀ q ∈ wsL_law, q.before #[Value.ref b] s = true := fun q h => hts0 q (wsL_law_in q h)
  have hA : ∀ q : Nat, s.heap.size ≤ q → (fun q : Nat => s.heap.size ≤ q) q := fun _ h => h
  have hbA : ¬ (fun q : Nat => s.heap.size ≤ q) b := Nat.not_le.mpr hbl
  have hgs := flat_of_before _ hgv
  have hT : tz_Z (fun q : Nat => s.heap.size ≤ q) s s.heap := by
    have hn : ∀ a : Nat, a < s.heap.size → ¬ (fun q : Nat => s.heap.size ≤ q) a := fun a h => Nat.not_le.mpr h
    refine ⟨vx_Zqof (hts0 _ st_w1) (hts0 _ st_w2) (hgs _ st_g1) hn, vx_Zqof (hts0 _ st_w3) (hts0 _ st_w2) (hgs _ st_g2) hn, va_Nw.of rfl (hts0 _ st_c1), va_Nw.of rfl (hts0 _ st_c2), fun q hq => ?_, fun x hx => va_Nw.of rfl (hts0 _ (st_d x hx)), trivial⟩
    have h1 := hts0 _ (st_s q hq)
    obtain ⟨a, c, cA, kA, q1, -⟩ := Cond.exactly_spec (args := #[Value.ref b]) (first := s) (o := none) (s := s) (idx := []) (t := Term.string RX1 q.1) (cls := "java/lang/String") (hgs _ (st_e q hq))
    exact ⟨a, vk_R.of h1 q1⟩
  obtain ⟨c0, iS0, hKn0⟩ := u_known (C := RX0) (T := TX0) (N := 3) (n := 3) hts0 inX0 (hts0 _ st_i0)
  obtain ⟨c1, iS1, hKn1⟩ := u_known (C := RX1) (T := TX1) (N := 17) (n := 17) hts0 inX1 (hts0 _ st_i1)
  obtain ⟨dC, dI, hKc⟩ : ∃ (dC : Nat → ClassId) (dI : Nat → Nat → Nat), ∀ (k : Nat) (q : vw_C), vwCl[k]? = some q → u_Kn s q.1 q.2.1 q.2.2 (dC k) (dI k) := by
    refine ⟨fun k => if k = 0 then c0 else c1, fun k => if k = 0 then iS0 else iS1, ?_⟩
    intro k q hq
    match k, hq with
    | 0, hq => cases hq; exact hKn0
    | 1, hq => cases hq; exact hKn1
    | k + 2, hq => simp [vwCl] at hq
  obtain ⟨D, hDe⟩ : ∃ D : va_G, D = (dC, dI) := ⟨_, rfl⟩
  obtain ⟨cI, cL, hK⟩ := gK_of (D := D) (hts0 _ st_a1) (hts0 _ st_a2) (by rw [hDe]; exact ⟨hKc, fun k q h => by simp at h⟩)
  have hS : va_S (fun q : Nat => s.heap.size ≤ q) s.heap s.heap [] := va_S.rf
  have hP : va_P D vwCl [] s.heap := fun k q h => by simp at h
  have hD : va_D (fun q : Nat => s.heap.size ≤ q) [] := ⟨fun i j p q h => by simp at h, fun k q h => by simp at h⟩
  have hl := lv_entry ([.ref b]) (n := 6) (Nat.le_of_ble_eq_true rfl)
  rw [lg_entry_eq]
  generalize (lg_sl ([.ref b]) ++ List.replicate (6 - (lg_sl ([.ref b])).length) Slot.unset).toArray = ls at hl ⊢
  have hl : lv_has ls 6 [(0, .ref b)] := hl
  refine va_new (D := D) (ci := 1) (fs := [.int 0, .int 0, .int 0, .null, .null, .int 0, .null, .null, .null, .null, .null, .null, .null, .null, .null, .null, .long 0]) (C := RX1) (T := TX1) (N := 17) hx hb hts0 inX1 tyX1 tyX1_ok hown (hts0 _ st_n1) (hts0 _ st_i1) (hts0 _ st_j1) hK hP hD hS hA rfl (fun j hj => by rcases (show j = 0 ∨ j = 1 ∨ j = 2 ∨ j = 3 ∨ j = 4 ∨ j = 5 ∨ j = 6 ∨ j = 7 ∨ j = 8 ∨ j = 9 ∨ j = 10 ∨ j = 11 ∨ j = 12 ∨ j = 13 ∨ j = 14 ∨ j = 15 ∨ j = 16 by omega) with rfl | rfl | rfl | rfl | rfl | rfl | rfl | rfl | rfl | rfl | rfl | rfl | rfl | rfl | rfl | rfl | rfl <;> rfl) (Nat.le_of_ble_eq_true rfl) (Nat.le_of_ble_eq_true rfl) dL_law_0 (fun q1 H hP hD hS => ?_)
  have hP : va_P D vwCl [(q1, .inr (1, [.int 0, .int 0, .int 0, .null, .null, .int 0, .null, .null, .null, .null, .null, .null, .null, .null, .null, .null, .long 0]))] H := hP
  have hD : va_D (fun q : Nat => s.heap.size ≤ q) [(q1, .inr (1, [.int 0, .int 0, .int 0, .null, .null, .int 0, .null, .null, .null, .null, .null, .null, .null, .null, .null, .null, .long 0]))] := hD
  refine lv_dup hx hb dL_law_3 rfl ?_
  refine gI_s (S := Nat → Nat) (w1 := fun ad : Nat → Nat => wG ad cI cL 36000 80 100 (fun _ => 100) (fun _ => 0) (nI 0) (fun _ => 0) (fun _ => 0) (fun _ => 0) (nI 3) 0 (fun _ => 0) (nI 2) 0 (fun _ => 0) (fun _ => 0) (fun _ => 0) (fun _ => 0) (fun _ => 0) (fun _ => 0) 0) (wc := [(q1, .inr (1, [.int 0, .int 0, .int 0, .null, .null, .int 0, .null, .null, .null, .null, .null, .null, .null, .null, .null, .null, .long 0]))]) (wr := []) (W' := fun ad : Nat → Nat => wG ad cI cL 36000 80 100 (fun _ => 100) (fun _ => 0) (nI 0) (fun _ => 0) (fun _ => 0) (fun _ => 0) (nI 3) 0 (fun _ => 0) (nI 2) 0 (fun _ => 0) (fun _ => 0) (fun _ => 0) (fun _ => 0) (fun _ => 0) (fun _ => 0) 0) (As := []) (rest := [.ref q1]) ⟨hx, hb, hml, hown, hts⟩ (c_X1_init l D H.size q1 cI cL) (cwI 0 hts ggL_law_X1_init rfl rfl rfl (hts0 _ st_j1) (hts0 _ st_m1) (hts0 _ st_k1) rfl (by decide +kernel) ⟨(Nat.le_of_ble_eq_true rfl), (Nat.le_of_ble_eq_true rfl)⟩) hS hA hK hP hD [0, 1] rfl [0] [] [0, 1, 2, 3, 4, 5, 6, 7, 8, 9, 10, 11, 12, 13, 14] rfl (by decide) rfl (by decide) (by decide) (fun _ => rfl) (by decide) rfl hl.1 rfl (Nat.le_of_ble_eq_true rfl) dL_law_4 ⟨(Nat.le_of_ble_eq_true rfl), (Nat.le_of_ble_eq_true rfl)⟩ (fun ad H locs had hP9 hD9 hS9 => ?_)
  have had : ad 0 = q1 := had
  subst had
  have hP := hP9
  have hD := hD9
  have hS := hS9
  have hP : va_P D vwCl (wG ad cI cL 36000 80 100 (fun _ => 100) (fun _ => 0) (nI 0) (fun _ => 0) (fun _ => 0) (fun _ => 0) (nI 3) 0 (fun _ => 0) (nI 2) 0 (fun _ => 0) (fun _ => 0) (fun _ => 0) (fun _ => 0) (fun _ => 0) (fun _ => 0) 0) H := hP
  have hD : va_D (fun q : Nat => s.heap.size ≤ q) (wG ad cI cL 36000 80 100 (fun _ => 100) (fun _ => 0) (nI 0) (fun _ => 0) (fun _ => 0) (fun _ => 0) (nI 3) 0 (fun _ => 0) (nI 2) 0 (fun _ => 0) (fun _ => 0) (fun _ => 0) (fun _ => 0) (fun _ => 0) (fun _ => 0) 0) := hD
  refine lv_astore_n (lv' := [(1, .ref (ad 0)), (0, .ref b)]) hx hb dL_law_7 rfl hl (by decide) rfl (fun ls hl => ?_)
  refine lv_bipush (v := 7) hx hb dL_law_8 (by decide) ?_
  refine gn_I (N' := 7) hx hb (hts0 _ st_a1) hK hP hD hS hA (by decide) (by decide) (Nat.le_of_ble_eq_true rfl) (Nat.le_of_ble_eq_true rfl) (Nat.le_of_ble_eq_true rfl) dL_law_10 (fun o H hP hD hS => ?_)
  refine lv_astore_n (lv' := [(2, .ref o), (1, .ref (ad 0)), (0, .ref b)]) hx hb dL_law_12 rfl hl (by decide) rfl (fun ls hl => ?_)
  have hP : va_P D vwCl ((wG ad cI cL 36000 80 100 (fun _ => 100) (fun _ => 0) (nI 0) (fun _ => 0) (fun _ => 0) (fun _ => 0) (nI 3) 0 (fun _ => 0) (nI 2) 0 (fun _ => 0) (fun _ => 0) (fun _ => 0) (fun _ => 0) (fun _ => 0) (fun _ => 0) 0) ++ [(o, .inl (cI, 7, .inl (cF 0 0 0 0 0 0 0)))]) H := by rw [← cF_z]; exact hP
  have hD : va_D (fun q : Nat => s.heap.size ≤ q) ((wG ad cI cL 36000 80 100 (fun _ => 100) (fun _ => 0) (nI 0) (fun _ => 0) (fun _ => 0) (fun _ => 0) (nI 3) 0 (fun _ => 0) (nI 2) 0 (fun _ => 0) (fun _ => 0) (fun _ => 0) (fun _ => 0) (fun _ => 0) (fun _ => 0) 0) ++ [(o, .inl (cI, 7, .inl (cF 0 0 0 0 0 0 0)))]) := by rw [← cF_z]; exact hD
  refine lv_aload_n hx hb dL_law_13 rfl (lv_at hl 0 rfl) ?_
  refine lv_iconst (v := 0) hx hb dL_law_14 (by decide) ?_
  refine lv_ldc (v := 36000) hx hb hown (hts _ hL_law__constant_RL_102_36000_) dL_law_15 ?_
  refine ga_iast (j := 0) (ws' := ((wG ad cI cL 36000 80 100 (fun _ => 100) (fun _ => 0) (nI 0) (fun _ => 0) (fun _ => 0) (fun _ => 0) (nI 3) 0 (fun _ => 0) (nI 2) 0 (fun _ => 0) (fun _ => 0) (fun _ => 0) (fun _ => 0) (fun _ => 0) (fun _ => 0) 0) ++ [(o, .inl (cI, 7, .inl (cF 36000 0 0 0 0 0 0)))])) hx hb hK hP hD hS 15 0 rfl rfl (by decide) (by decide) dL_law_17 (by rw [cF_u0]; rfl) (fun H locs hP hD hS => ?_)
  refine lv_aload_n hx hb dL_law_18 rfl (lv_at hl 0 rfl) ?_
  refine lv_iconst (v := 1) hx hb dL_law_19 (by decide) ?_
  refine lv_bipush (v := 80) hx hb dL_law_20 (by decide) ?_
  refine ga_iast (j := 1) (ws' := ((wG ad cI cL 36000 80 100 (fun _ => 100) (fun _ => 0) (nI 0) (fun _ => 0) (fun _ => 0) (fun _ => 0) (nI 3) 0 (fun _ => 0) (nI 2) 0 (fun _ => 0) (fun _ => 0) (fun _ => 0) (fun _ => 0) (fun _ => 0) (fun _ => 0) 0) ++ [(o, .inl (cI, 7, .inl (cF 36000 80 0 0 0 0 0)))])) hx hb hK hP hD hS 15 0 rfl rfl (by decide) (by decide) dL_law_22 (by rw [cF_u1]; rfl) (fun H locs hP hD hS => ?_)
  refine lv_aload_n hx hb dL_law_23 rfl (lv_at hl 0 rfl) ?_
  refine lv_iconst (v := 2) hx hb dL_law_24 (by decide) ?_
  refine lv_bipush (v := 100) hx hb dL_law_25 (by decide) ?_
  refine ga_iast (j := 2) (ws' := ((wG ad cI cL 36000 80 100 (fun _ => 100) (fun _ => 0) (nI 0) (fun _ => 0) (fun _ => 0) (fun _ => 0) (nI 3) 0 (fun _ => 0) (nI 2) 0 (fun _ => 0) (fun _ => 0) (fun _ => 0) (fun _ => 0) (fun _ => 0) (fun _ => 0) 0) ++ [(o, .inl (cI, 7, .inl (cF 36000 80 100 0 0 0 0)))])) hx hb hK hP hD hS 15 0 rfl rfl (by decide) (by decide) dL_law_27 (by rw [cF_u2]; rfl) (fun H locs hP hD hS => ?_)
  refine lv_aload_n hx hb dL_law_28 rfl (lv_at hl 0 rfl) ?_
  refine lv_iconst (v := 3) hx hb dL_law_29 (by decide) ?_
  refine lv_iconst (v := 3) hx hb dL_law_30 (by decide) ?_
  refine ga_iast (j := 3) (ws' := ((wG ad cI cL 36000 80 100 (fun _ => 100) (fun _ => 0) (nI 0) (fun _ => 0) (fun _ => 0) (fun _ => 0) (nI 3) 0 (fun _ => 0) (nI 2) 0 (fun _ => 0) (fun _ => 0) (fun _ => 0) (fun _ => 0) (fun _ => 0) (fun _ => 0) 0) ++ [(o, .inl (cI, 7, .inl (cF 36000 80 100 3 0 0 0)))])) hx hb hK hP hD hS 15 0 rfl rfl (by decide) (by decide) dL_law_31 (by rw [cF_u3]; rfl) (fun H locs hP hD hS => ?_)
  refine lv_aload_n hx hb dL_law_32 rfl (lv_at hl 0 rfl) ?_
  refine lv_iconst (v := 4) hx hb dL_law_33 (by decide) ?_
  refine lv_iconst (v := 2) hx hb dL_law_34 (by decide) ?_
  refine ga_iast (j := 4) (ws' := ((wG ad cI cL 36000 80 100 (fun _ => 100) (fun _ => 0) (nI 0) (fun _ => 0) (fun _ => 0) (fun _ => 0) (nI 3) 0 (fun _ => 0) (nI 2) 0 (fun _ => 0) (fun _ => 0) (fun _ => 0) (fun _ => 0) (fun _ => 0) (fun _ => 0) 0) ++ [(o, .inl (cI, 7, .inl (cF 36000 80 100 3 2 0 0)))])) hx hb hK hP hD hS 15 0 rfl rfl (by decide) (by decide) dL_law_35 (by rw [cF_u4]; rfl) (fun H locs hP hD hS => ?_)
  have hP : va_P D vwCl ((wG ad cI cL 36000 80 100 (fun _ => 100) (fun _ => 0) (nI 0) (fun _ => 0) (fun _ => 0) (fun _ => 0) (nI 3) 0 (fun _ => 0) (nI 2) 0 (fun _ => 0) (fun _ => 0) (fun _ => 0) (fun _ => 0) (fun _ => 0) (fun _ => 0) 0) ++ [(o, .inl (cI, 7, .inl (cF 36000 80 100 (nI 3) (nI 2) (nI 0) ((fun _ => 0) 0))))]) H := hP
  have hD : va_D (fun q : Nat => s.heap.size ≤ q) ((wG ad cI cL 36000 80 100 (fun _ => 100) (fun _ => 0) (nI 0) (fun _ => 0) (fun _ => 0) (fun _ => 0) (nI 3) 0 (fun _ => 0) (nI 2) 0 (fun _ => 0) (fun _ => 0) (fun _ => 0) (fun _ => 0) (fun _ => 0) (fun _ => 0) 0) ++ [(o, .inl (cI, 7, .inl (cF 36000 80 100 (nI 3) (nI 2) (nI 0) ((fun _ => 0) 0))))]) := hD
  refine lv_aload_n hx hb dL_law_36 rfl (lv_at hl 1 rfl) ?_
  refine gV_i (wc := (wG ad cI cL 36000 80 100 (fun _ => 100) (fun _ => 0) (nI 0) (fun _ => 0) (fun _ => 0) (fun _ => 0) (nI 3) 0 (fun _ => 0) (nI 2) 0 (fun _ => 0) (fun _ => 0) (fun _ => 0) (fun _ => 0) (fun _ => 0) (fun _ => 0) 0)) (wr := [(o, .inl (cI, 7, .inl (cF 36000 80 100 (nI 3) (nI 2) (nI 0) ((fun _ => 0) 0))))]) (w1 := (wG ad cI cL 36000 80 100 (fun _ => 100) (fun _ => 0) (nI 0) (fun _ => 0) (fun _ => 0) (fun _ => 0) (nI 3) 0 (fun _ => 0) (nI 2) 0 (fun _ => 0) (fun _ => 0) (fun _ => 0) (fun _ => 0) (fun _ => 0) (fun _ => 0) 0)) (W' := ((wG ad cI cL 36000 80 100 (fun _ => 100) (fun _ => 0) (nI 0) (fun _ => 0) (fun _ => 0) (fun _ => 0) (nI 3) 0 (fun _ => 0) (nI 2) 0 (fun _ => 0) (fun _ => 0) (fun _ => 0) (fun _ => 0) (fun _ => 0) (fun _ => 0) 0) ++ [(o, .inl (cI, 7, .inl (cF 36000 80 100 (nI 3) (nI 2) (nI 0) ((fun _ => 0) 0))))])) (As := []) (rest := []) ⟨hx, hb, hml, hown, hts⟩ (c_X1_closed l D H.size ad cI cL 36000 80 100 (fun _ => 100) (fun _ => 0) 0 (fun _ => 0) (fun _ => 0) (fun _ => 0) 3 0 (fun _ => 0) 2 0 (fun _ => 0) (fun _ => 0) (fun _ => 0) (fun _ => 0) (fun _ => 0) (fun _ => 0) 0  ) (cwV 0 hts gL_law_X1_closed rfl rfl rfl (by decide +kernel) ⟨(Nat.le_of_ble_eq_true rfl), (Nat.le_of_ble_eq_true rfl)⟩) hS hA hK hP hD [0, 1] rfl [0, 1, 2, 3, 4, 5, 6, 7, 8, 9, 10, 11, 12, 13, 14] [15] [1, 2, 3, 4, 5, 6, 7, 8, 9, 10, 11, 12, 13, 14, 15, 0] rfl (by decide) rfl (by decide) (by decide) rfl (by decide) 0 1 rfl rfl rfl rfl hl.1 rfl (Nat.le_of_ble_eq_true rfl) dL_law_37 ⟨(Nat.le_of_ble_eq_true rfl), (Nat.le_of_ble_eq_true rfl)⟩ (fun H locs _ hP hD hS => ?_)
  refine lv_if_ne (tgt := 85) hx hb dL_law_40 (by decide) (fun cb => absurd nI_0 cb) (fun _ => ?_)
  refine lv_aload_n hx hb dL_law_43 rfl (lv_at hl 1 rfl) ?_
  refine gV_l (wc := (wG ad cI cL 36000 80 100 (fun _ => 100) (fun _ => 0) (nI 0) (fun _ => 0) (fun _ => 0) (fun _ => 0) (nI 3) 0 (fun _ => 0) (nI 2) 0 (fun _ => 0) (fun _ => 0) (fun _ => 0) (fun _ => 0) (fun _ => 0) (fun _ => 0) 0)) (wr := [(o, .inl (cI, 7, .inl (cF 36000 80 100 (nI 3) (nI 2) (nI 0) ((fun _ => 0) 0))))]) (w1 := (wG ad cI cL 36000 80 100 (fun _ => 100) (fun _ => 0) (nI 0) (fun _ => 0) (fun _ => 0) (fun _ => 0) (nI 3) 0 (fun _ => 0) (nI 2) 0 (fun _ => 0) (fun _ => 0) (fun _ => 0) (fun _ => 0) (fun _ => 0) (fun _ => 0) 0)) (W' := ((wG ad cI cL 36000 80 100 (fun _ => 100) (fun _ => 0) (nI 0) (fun _ => 0) (fun _ => 0) (fun _ => 0) (nI 3) 0 (fun _ => 0) (nI 2) 0 (fun _ => 0) (fun _ => 0) (fun _ => 0) (fun _ => 0) (fun _ => 0) (fun _ => 0) 0) ++ [(o, .inl (cI, 7, .inl (cF 36000 80 100 (nI 3) (nI 2) (nI 0) ((fun _ => 0) 0))))])) (As := []) (rest := []) ⟨hx, hb, hml, hown, hts⟩ (c_X1_open l D H.size ad cI cL 36000 80 100 (fun _ => 100) (fun _ => 0) 0 (fun _ => 0) (fun _ => 0) (fun _ => 0) 3 0 (fun _ => 0) 2 0 (fun _ => 0) (fun _ => 0) (fun _ => 0) (fun _ => 0) (fun _ => 0) (fun _ => 0) 0  (by decide)) (cwV 0 hts gL_law_X1_open rfl rfl rfl (by decide +kernel) ⟨(Nat.le_of_ble_eq_true rfl), (Nat.le_of_ble_eq_true rfl)⟩) hS hA hK hP hD [0, 1] rfl [0, 1, 2, 3, 4, 5, 6, 7, 8, 9, 10, 11, 12, 13, 14] [15] [1, 2, 3, 4, 5, 6, 7, 8, 9, 10, 11, 12, 13, 14, 15, 0] rfl (by decide) rfl (by decide) (by decide) rfl (by decide) 0 1 rfl rfl rfl rfl hl.1 rfl (Nat.le_of_ble_eq_true rfl) dL_law_44 ⟨(Nat.le_of_ble_eq_true rfl), (Nat.le_of_ble_eq_true rfl)⟩ (fun H locs _ hP hD hS => ?_)
  refine lv_lconst (v := 0) hx hb dL_law_47 (by decide) ?_
  refine W.lcmp hx hb dL_law_48 ?_
  refine lv_if_ne (tgt := 85) hx hb dL_law_49 (by decide) (fun cb => absurd (by decide) cb) (fun _ => ?_)
  refine lv_aload_n hx hb dL_law_52 rfl (lv_at hl 1 rfl) ?_
  refine gV_i (wc := (wG ad cI cL 36000 80 100 (fun _ => 100) (fun _ => 0) (nI 0) (fun _ => 0) (fun _ => 0) (fun _ => 0) (nI 3) 0 (fun _ => 0) (nI 2) 0 (fun _ => 0) (fun _ => 0) (fun _ => 0) (fun _ => 0) (fun _ => 0) (fun _ => 0) 0)) (wr := [(o, .inl (cI, 7, .inl (cF 36000 80 100 (nI 3) (nI 2) (nI 0) ((fun _ => 0) 0))))]) (w1 := (wG ad cI cL 36000 80 100 (fun _ => 100) (fun _ => 0) (nI 0) (fun _ => 0) (fun _ => 0) (fun _ => 0) (nI 3) 0 (fun _ => 0) (nI 2) 0 (fun _ => 0) (fun _ => 0) (fun _ => 0) (fun _ => 0) (fun _ => 0) (fun _ => 0) 0)) (W' := ((wG ad cI cL 36000 80 100 (fun _ => 100) (fun _ => 0) (nI 0) (fun _ => 0) (fun _ => 0) (fun _ => 0) (nI 3) 0 (fun _ => 0) (nI 2) 0 (fun _ => 0) (fun _ => 0) (fun _ => 0) (fun _ => 0) (fun _ => 0) (fun _ => 0) 0) ++ [(o, .inl (cI, 7, .inl (cF 36000 80 100 (nI 3) (nI 2) (nI 0) ((fun _ => 0) 0))))])) (As := []) (rest := []) ⟨hx, hb, hml, hown, hts⟩ (c_X1_lapsed l D H.size ad cI cL 36000 80 100 (fun _ => 100) (fun _ => 0) 0 (fun _ => 0) (fun _ => 0) (fun _ => 0) 3 0 (fun _ => 0) 2 0 (fun _ => 0) (fun _ => 0) (fun _ => 0) (fun _ => 0) (fun _ => 0) (fun _ => 0) 0  ) (cwV 0 hts gL_law_X1_lapsed rfl rfl rfl (by decide +kernel) ⟨(Nat.le_of_ble_eq_true rfl), (Nat.le_of_ble_eq_true rfl)⟩) hS hA hK hP hD [0, 1] rfl [0, 1, 2, 3, 4, 5, 6, 7, 8, 9, 10, 11, 12, 13, 14] [15] [1, 2, 3, 4, 5, 6, 7, 8, 9, 10, 11, 12, 13, 14, 15, 0] rfl (by decide) rfl (by decide) (by decide) rfl (by decide) 0 1 rfl rfl rfl rfl hl.1 rfl (Nat.le_of_ble_eq_true rfl) dL_law_53 ⟨(Nat.le_of_ble_eq_true rfl), (Nat.le_of_ble_eq_true rfl)⟩ (fun H locs _ hP hD hS => ?_)
  refine lv_if_ne (tgt := 85) hx hb dL_law_56 (by decide) (fun cb => absurd rfl cb) (fun _ => ?_)
  refine lv_aload_n hx hb dL_law_59 rfl (lv_at hl 1 rfl) ?_
  refine lv_bipush (v := 19) hx hb dL_law_60 (by decide) ?_
  refine ghV_i (wc := (wG ad cI cL 36000 80 100 (fun _ => 100) (fun _ => 0) (nI 0) (fun _ => 0) (fun _ => 0) (fun _ => 0) (nI 3) 0 (fun _ => 0) (nI 2) 0 (fun _ => 0) (fun _ => 0) (fun _ => 0) (fun _ => 0) (fun _ => 0) (fun _ => 0) 0)) (wr := [(o, .inl (cI, 7, .inl (cF 36000 80 100 (nI 3) (nI 2) (nI 0) ((fun _ => 0) 0))))]) (w1 := (wG ad cI cL 36000 80 100 (fun _ => 100) (fun _ => 0) (nI 0) (fun _ => 0) (fun _ => 0) (fun _ => 0) (nI 3) 0 (fun _ => 0) (nI 2) 0 (fun _ => 0) (fun _ => 0) (fun _ => 0) (fun _ => 0) (fun _ => 0) (fun _ => 0) 0)) (W' := ((wG ad cI cL 36000 80 100 (fun _ => 100) (fun _ => 0) (nI 0) (fun _ => 0) (fun _ => 0) (fun _ => 0) (nI 3) 0 (fun _ => 0) (nI 2) 0 (fun _ => 0) (fun _ => 0) (fun _ => 0) (fun _ => 0) (fun _ => 0) (fun _ => 0) 0) ++ [(o, .inl (cI, 7, .inl (cF 36000 80 100 (nI 3) (nI 2) (nI 0) ((fun _ => 0) 0))))])) (As := [.int 19]) (rest := []) ⟨hx, hb, hml, hown, hts⟩ (c_X1_least l hst D H.size ad cI cL 36000 80 100 (fun _ => 100) (fun _ => 0) 0 (fun _ => 0) (fun _ => 0) (fun _ => 0) 3 0 (fun _ => 0) 2 0 (fun _ => 0) (fun _ => 0) (fun _ => 0) (fun _ => 0) (fun _ => 0) (fun _ => 0) 0 19 (by decide)) (cwV 1 hts gL_law_X1_least rfl rfl rfl (by decide +kernel) ⟨(Nat.le_of_ble_eq_true rfl), (Nat.le_of_ble_eq_true rfl)⟩) hT hS hA hK hP hD [0, 1] rfl [0, 1, 2, 3, 4, 5, 6, 7, 8, 9, 10, 11, 12, 13, 14] [15] [1, 2, 3, 4, 5, 6, 7, 8, 9, 10, 11, 12, 13, 14, 15, 0] rfl (by decide) rfl (by decide) (by decide) rfl (by decide) 0 1 rfl rfl rfl rfl hl.1 rfl (Nat.le_of_ble_eq_true rfl) dL_law_62 ⟨(Nat.le_of_ble_eq_true rfl), (Nat.le_of_ble_eq_true rfl)⟩ [1, 2, 3, 4, 5, 6, 7, 8, 9, 10, 11, 12, 13, 14, 15, 0] rfl (by decide) (fun _ _ _ _ _ hE => hE.elim) (fun H locs _ hP hD hS => ?_)
  refine lv_sipush (v := 28800) hx hb dL_law_65 (by decide) ?_
  refine lv_icmp_ne (tgt := 85) hx hb dL_law_68 (by decide) (fun cb => absurd (by decide +kernel) cb) (fun _ => ?_)
  refine lv_aload_n hx hb dL_law_71 rfl (lv_at hl 1 rfl) ?_
  refine lv_iconst (v := 0) hx hb dL_law_72 (by decide) ?_
  refine ghV_i (wc := (wG ad cI cL 36000 80 100 (fun _ => 100) (fun _ => 0) (nI 0) (fun _ => 0) (fun _ => 0) (fun _ => 0) (nI 3) 0 (fun _ => 0) (nI 2) 0 (fun _ => 0) (fun _ => 0) (fun _ => 0) (fun _ => 0) (fun _ => 0) (fun _ => 0) 0)) (wr := [(o, .inl (cI, 7, .inl (cF 36000 80 100 (nI 3) (nI 2) (nI 0) ((fun _ => 0) 0))))]) (w1 := (wG ad cI cL 36000 80 100 (fun _ => 100) (fun _ => 0) (nI 0) (fun _ => 0) (fun _ => 0) (fun _ => 0) (nI 3) 0 (fun _ => 0) (nI 2) 0 (fun _ => 0) (fun _ => 0) (fun _ => 0) (fun _ => 0) (fun _ => 0) (fun _ => 0) 0)) (W' := ((wG ad cI cL 36000 80 100 (fun _ => 100) (fun _ => 0) (nI 0) (fun _ => 0) (fun _ => 0) (fun _ => 0) (nI 3) 0 (fun _ => 0) (nI 2) 0 (fun _ => 0) (fun _ => 0) (fun _ => 0) (fun _ => 0) (fun _ => 0) (fun _ => 0) 0) ++ [(o, .inl (cI, 7, .inl (cF 36000 80 100 (nI 3) (nI 2) (nI 0) ((fun _ => 0) 0))))])) (As := [.int 0]) (rest := []) ⟨hx, hb, hml, hown, hts⟩ (c_X1_price l hst D H.size ad cI cL 36000 80 100 (fun _ => 100) (fun _ => 0) 0 (fun _ => 0) (fun _ => 0) (fun _ => 0) 3 0 (fun _ => 0) 2 0 (fun _ => 0) (fun _ => 0) (fun _ => 0) (fun _ => 0) (fun _ => 0) (fun _ => 0) 0 0 (by decide)) (cwV 1 hts gL_law_X1_price rfl rfl rfl (by decide +kernel) ⟨(Nat.le_of_ble_eq_true rfl), (Nat.le_of_ble_eq_true rfl)⟩) hT hS hA hK hP hD [0, 1] rfl [0, 1, 2, 3, 4, 5, 6, 7, 8, 9, 10, 11, 12, 13, 14] [15] [1, 2, 3, 4, 5, 6, 7, 8, 9, 10, 11, 12, 13, 14, 15, 0] rfl (by decide) rfl (by decide) (by decide) rfl (by decide) 0 1 rfl rfl rfl rfl hl.1 rfl (Nat.le_of_ble_eq_true rfl) dL_law_73 ⟨(Nat.le_of_ble_eq_true rfl), (Nat.le_of_ble_eq_true rfl)⟩ [1, 2, 3, 4, 5, 6, 7, 8, 9, 10, 11, 12, 13, 14, 15, 0] rfl (by decide) (fun _ _ _ _ _ hE => hE.elim) (fun H locs _ hP hD hS => ?_)
  refine lv_bipush (v := 100) hx hb dL_law_76 (by decide) ?_
  refine lv_icmp_ne (tgt := 85) hx hb dL_law_78 (by decide) (fun cb => absurd rfl cb) (fun _ => ?_)
  refine lv_iconst (v := 1) hx hb dL_law_81 (by decide) ?_
  refine lv_goto (tgt := 86) hx hb dL_law_82 (by decide) ?_
  refine lv_istore_n (lv' := [(3, .int 1), (2, .ref o), (1, .ref (ad 0)), (0, .ref b)]) hx hb dL_law_86 rfl hl (by decide) rfl (fun ls hl => ?_)
  have tail : ∀ (M : Nat), 3 * M ≤ L → M ≤ 80 → ∀ (ls : Array Slot), lv_has ls 6 [(0, .ref b), (1, .ref (ad 0)), (2, .ref o), (3, .int 1), (4, .int (nI M))] → W p l e room_1 s m #[Value.ref b] below meth c H locs 18 622 (lw_Z below #[Value.ref b] s) (F0 m 107 ls []) := by
    intro M hM hM8 ls hl
    refine lv_iconst (v := 0) hx hb dL_law_107 (by decide) ?_
    refine lv_istore (lv' := [(5, .int 0), (0, .ref b), (1, .ref (ad 0)), (2, .ref o), (3, .int 1), (4, .int (nI M))]) hx hb dL_law_108 hl (by decide) rfl (fun ls hl => ?_)
    refine W.widen (k := (60 + 2010 * 0)) (n := (2000 + 12060 * 0)) (by omega) (by omega) ?_
    exact law_loop hst hL hM hM8 C0 hT hK (M + 1) 0 (by omega) (by omega) 36000 80 100 (fun _ => 100) (fun _ => 0) 0 (fun _ => 0) (fun _ => 0) 3 2 (st0 (fun _ => 0) (fun _ => 0) (fun _ => 0) (fun _ => 0) (fun _ => 0)) (fun _ => 0) 0 INV_0 _ _ hP hD hS ls (lv_sub hl [1, 2, 3, 4, 5, 0] rfl)
  refine lv_aload_n hx hb dL_law_87 rfl (lv_at hl 3 rfl) ?_
  refine va_slen hx hb hX hbl hbA hS dL_law_88 ?_
  refine gj_i (show Int32.ofNat L = nI L from rfl) ?_
  refine lv_iconst (v := 3) hx hb dL_law_89 (by decide) ?_
  refine lv_idiv hx hb dL_law_90 (by decide) ?_
  refine gj_i (show (nI L) / 3 = nI (L / 3) from pk_div (a := L) (d := 3) (by omega) (by decide) (by decide)) ?_
  refine lv_bipush (v := 80) hx hb dL_law_91 (by decide) ?_
  refine lv_icmp_le (tgt := 101) hx hb dL_law_93 (by decide) (fun ct => ?_) (fun ct => ?_)
  · have h80 : L / 3 ≤ 80 := (nI_leI (a := L / 3) (b := 80) (by omega) (by decide)).mp ct
    refine lv_aload_n hx hb dL_law_101 rfl (lv_at hl 3 rfl) ?_
    refine va_slen hx hb hX hbl hbA hS dL_law_102 ?_
    refine gj_i (show Int32.ofNat L = nI L from rfl) ?_
    refine lv_iconst (v := 3) hx hb dL_law_103 (by decide) ?_
    refine lv_idiv hx hb dL_law_104 (by decide) ?_
    refine gj_i (show (nI L) / 3 = nI (L / 3) from pk_div (a := L) (d := 3) (by omega) (by decide) (by decide)) ?_
    refine lv_istore (lv' := [(4, .int (nI (L / 3))), (3, .int 1), (2, .ref o), (1, .ref (ad 0)), (0, .ref b)]) hx hb dL_law_105 hl (by decide) rfl (fun ls hl => ?_)
    exact tail (L / 3) (by omega) h80 ls (lv_sub hl [4, 3, 2, 1, 0] rfl)
  · have h80 : ¬ L / 3 ≤ 80 := fun h => ct (nI_le (a := L / 3) (b := 80) h (by decide))
    refine lv_bipush (v := 80) hx hb dL_law_96 (by decide) ?_
    refine lv_goto (tgt := 105) hx hb dL_law_98 (by decide) ?_
    refine lv_istore (lv' := [(4, .int 80), (3, .int 1), (2, .ref o), (1, .ref (ad 0)), (0, .ref b)]) hx hb dL_law_105 hl (by decide) rfl (fun ls hl => ?_)
    exact tail 80 (by omega) (by decide) ls (lv_sub hl [4, 3, 2, 1, 0] rfl)
