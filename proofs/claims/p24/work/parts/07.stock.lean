set_option maxHeartbeats 4000000 in
set_option maxRecDepth 100000 in
theorem c_J7_fill_53178 (l : Launch) (D : va_G) (sz : Nat) (a n : Nat) (cI cL : ClassId) (f : Nat → Int32) (v : Int32) (hn : n < 2 ^ 31) : gCv l yJ7_fill_53178 wsJ7_fill_53178 ({ frames := 0, cells := 0, slots := 0, locals := 0 } : Room) D [(cI, .int), (cL, .long)] [.ref a, .int v] [(a, .inl (cI, n, .inl f))] [(a, .inl (cI, n, .inl (fun _ => v)))] True 0 0 sz := by
  refine gm_v (cc := cJ7_fill_53178) (maxL := 4) (by decide) rfl (Nat.le_of_ble_eq_true rfl) ?_
  intro pg en s m args below meth cd A ls hx hb hr hml hown hts hlocks hin hA hK hP hD hl
  have hl : lv_has ls 4 [(0, .ref a), (1, .int v)] := hl
  have hS : va_S A s.heap s.heap [] := va_S.rf
  refine lv_iconst (v := 0) hx hb dJ7_fill_53178_0 (by decide) ?_
  refine lv_istore_n (lv' := [(2, .int 0), (0, .ref a), (1, .int v)]) hx hb dJ7_fill_53178_1 rfl hl (by decide) rfl (fun ls hl => ?_)
  refine lv_aload_n hx hb dJ7_fill_53178_2 rfl (lv_at hl 1 rfl) ?_
  refine va_alen (v := nI n) hx hb hK hP 0 0 rfl rfl rfl dJ7_fill_53178_3 ?_
  refine lv_istore_n (lv' := [(3, .int (nI n)), (2, .int 0), (0, .ref a), (1, .int v)]) hx hb dJ7_fill_53178_4 rfl hl (by decide) rfl (fun ls hl => ?_)
  have lp : ∀ (k i : Nat), i ≤ n → n < i + k → ∀ (H : Heap) (locs : List Loc), va_P D vwCl [(a, .inl (cI, n, .inl (flf f v i)))] H → va_D A [(a, .inl (cI, n, .inl (flf f v i)))] → va_S A s.heap H locs → ∀ (ls : Array Slot), lv_has ls 4 [(0, .ref a), (1, .int v), (2, .int (nI i)), (3, .int (nI n))] → W pg l en ({ frames := 0, cells := 0, slots := 0, locals := 0 } : Room) s m args below meth cd H locs 0 0 (gEv True below D [(cI, .int), (cL, .long)] [(a, .inl (cI, n, .inl (fun _ => v)))] A args s 0 0) (F0 m 5 ls []) := by
    intro k
    induction k with
    | zero => intro i h1 h2; exact absurd h2 (by omega)
    | succ k ih =>
      intro i hi hin2 H locs hP hD hS ls hl
      refine lv_iload_n hx hb dJ7_fill_53178_5 rfl (lv_at hl 2 rfl) ?_
      refine lv_iload_n hx hb dJ7_fill_53178_6 rfl (lv_at hl 3 rfl) ?_
      refine lv_icmp_ge (tgt := 20) hx hb dJ7_fill_53178_7 (by decide) (fun c7 => ?_) (fun c7 => ?_)
      · have hni : ¬ i < n := fun h => absurd c7 (nI_ge h hn)
        have hP : va_P D vwCl [(a, .inl (cI, n, .inl (fun _ => v)))] H := gw_I hP 0 rfl (fun j hj => if_pos (by omega)) rfl
        have hD : va_D A [(a, .inl (cI, n, .inl (fun _ => v)))] := gw_D hD 0 rfl rfl
        exact ge_v hx hb hr hlocks hK hP hD hS trivial (Nat.le_of_ble_eq_true rfl) (Nat.le_of_ble_eq_true rfl) dJ7_fill_53178_20
      · have hlt : i < n := Nat.not_le.mp (fun h => c7 (nI_le h (by omega)))
        refine lv_aload_n hx hb dJ7_fill_53178_10 rfl (lv_at hl 0 rfl) ?_
        refine lv_iload_n hx hb dJ7_fill_53178_11 rfl (lv_at hl 2 rfl) ?_
        refine lv_iload_n hx hb dJ7_fill_53178_12 rfl (lv_at hl 1 rfl) ?_
        refine ga_iast (ws' := [(a, .inl (cI, n, .inl (flf f v (i + 1))))]) hx hb hK hP hD hS 0 0 rfl rfl hlt hn dJ7_fill_53178_13 (by rw [flf_s]; rfl) (fun H locs hP hD hS => ?_)
        refine lv_iinc (v := nI (i + 1)) (lv' := [(2, .int (nI (i + 1))), (0, .ref a), (1, .int v), (3, .int (nI n))]) hx hb dJ7_fill_53178_14 hl (k := 2) rfl (gi_1 _) (by decide) rfl (fun ls hl => ?_)
        refine lv_goto (tgt := 5) hx hb dJ7_fill_53178_17 (by decide) ?_
        exact ih (i + 1) (by omega) (by omega) _ _ hP hD hS ls (lv_sub hl [1, 2, 0, 3] rfl)
  exact lp (n + 1) 0 (by omega) (by omega) _ _ hP hD hS ls (lv_sub hl [2, 3, 1, 0] rfl)
theorem inX0_keepFor_X0 : ∀ q ∈ wsX00, q ∈ wsX0_keepFor := by decide +kernel
theorem hX0_keepFor__fieldLink_RX0_15_MakeupGas_Stock_yearsKept_I_ : Cond.fieldLink RX0 15 "MakeupGas$Stock" "yearsKept" "I" ∈ wsX0_keepFor := by decide +kernel
set_option maxHeartbeats 4000000 in
set_option maxRecDepth 100000 in
theorem c_X0_keepFor (l : Launch) (D : va_G) (sz : Nat) (q r : Nat) (cI cL : ClassId) (f : Nat → Int32) (k z : Int32) (y : Int32)  : gCv l yX0_keepFor wsX0_keepFor ({ frames := 0, cells := 0, slots := 0, locals := 0 } : Room) D [(cI, .int), (cL, .long)] [.ref q, .int y] (wK q r cI f k z) (wK q r cI f y z) True 0 0 sz := by
  refine gm_v (cc := cX0_keepFor) (maxL := 2) (by decide) rfl (Nat.le_of_ble_eq_true rfl) ?_
  intro pg en s m args below meth cd A ls hx hb hr hml hown hts hlocks hin hA hK hP hD hl
  have hl : lv_has ls 2 [(0, .ref q), (1, .int y)] := hl
  have hS : va_S A s.heap s.heap [] := va_S.rf
  refine lv_aload_n hx hb dX0_keepFor_0 rfl (lv_at hl 0 rfl) ?_
  refine lv_iload_n hx hb dX0_keepFor_1 rfl (lv_at hl 1 rfl) ?_
  refine va_put (D := D) (ci := 0) (v := .int y) (ty := .int) (C := RX0) (T := TX0) (N := 3) hx hb hts inX0_keepFor_X0 tyX0 tyX0_ok nmX0 hown hK hP hD hS 0 rfl rfl 1 (by decide) (hts _ hX0_keepFor__fieldLink_RX0_15_MakeupGas_Stock_yearsKept_I_) (fun _ h9 => h9) (by decide +kernel) (by decide +kernel) rfl rfl (Nat.le_of_ble_eq_true rfl) dX0_keepFor_2 (fun H locs hP hD hS => ?_)
  have hP : va_P D vwCl (wK q r cI f y z) H := hP
  have hD : va_D A (wK q r cI f y z) := hD
  exact ge_v hx hb hr hlocks hK hP hD hS trivial (Nat.le_of_ble_eq_true rfl) (Nat.le_of_ble_eq_true rfl) dX0_keepFor_5
theorem inX0_empty_X0 : ∀ q ∈ wsX00, q ∈ wsX0_empty := by decide +kernel
theorem hX0_empty__fieldLink_RX0_9_MakeupGas_Stock_left_I_ : Cond.fieldLink RX0 9 "MakeupGas$Stock" "left" "[I" ∈ wsX0_empty := by decide +kernel
theorem hX0_empty__fieldLink_RX0_25_MakeupGas_Stock_lapsedSum_I_ : Cond.fieldLink RX0 25 "MakeupGas$Stock" "lapsedSum" "I" ∈ wsX0_empty := by decide +kernel
set_option maxHeartbeats 4000000 in
set_option maxRecDepth 100000 in
theorem c_X0_empty (l : Launch) (D : va_G) (sz : Nat) (q r : Nat) (cI cL : ClassId) (f : Nat → Int32) (k z : Int32)  : gCv l yX0_empty wsX0_empty ({ frames := 1, cells := 0, slots := 0, locals := 23 } : Room) D [(cI, .int), (cL, .long)] [.ref q] (wK q r cI f k z) (wK q r cI (fun _ => 0) k 0) True 0 0 sz := by
  refine gm_v (cc := cX0_empty) (maxL := 1) (by decide) rfl (Nat.le_of_ble_eq_true rfl) ?_
  intro pg en s m args below meth cd A ls hx hb hr hml hown hts hlocks hin hA hK hP hD hl
  have hl : lv_has ls 1 [(0, .ref q)] := hl
  have hS : va_S A s.heap s.heap [] := va_S.rf
  refine lv_aload_n hx hb dX0_empty_0 rfl (lv_at hl 0 rfl) ?_
  refine va_get (D := D) (ci := 0) (C := RX0) (T := TX0) (N := 3) hx hb hts inX0_empty_X0 hown hK hP 0 rfl rfl 0 (by decide) (hts _ hX0_empty__fieldLink_RX0_9_MakeupGas_Stock_left_I_) (fun _ h9 => h9) rfl dX0_empty_1 ?_
  refine lv_iconst (v := 0) hx hb dX0_empty_4 (by decide) ?_
  refine gS_v (wc := [(r, .inl (cI, 20, .inl f))]) (wr := [(q, .inr (0, [.ref r, .int k, .int z]))]) (w1 := [(r, .inl (cI, 20, .inl (fun _ => 0)))]) (W' := (wK q r cI (fun _ => 0) k z)) (As := [.ref r, .int 0]) (rest := []) ⟨hx, hb, hml, hown, hts⟩ (c_J7_fill_53178 l D s.heap.size r 20 cI cL f 0 (by decide)) (va_cwS 2 hts gX0_empty_J7_fill_53178 rfl rfl rfl (by decide +kernel) ⟨(Nat.le_of_ble_eq_true rfl), (Nat.le_of_ble_eq_true rfl)⟩) hS hA hK hP hD [0, 1] rfl [1] [0] [0, 1] rfl (by decide) rfl (by decide) (by decide) rfl (by decide) rfl hl.1 rfl (Nat.le_of_ble_eq_true rfl) dX0_empty_5 ⟨(Nat.le_of_ble_eq_true rfl), (Nat.le_of_ble_eq_true rfl)⟩ (fun H locs _ hP hD hS => ?_)
  refine lv_aload_n hx hb dX0_empty_8 rfl (lv_at hl 0 rfl) ?_
  refine lv_iconst (v := 0) hx hb dX0_empty_9 (by decide) ?_
  refine va_put (D := D) (ci := 0) (v := .int 0) (ty := .int) (C := RX0) (T := TX0) (N := 3) hx hb hts inX0_empty_X0 tyX0 tyX0_ok nmX0 hown hK hP hD hS 0 rfl rfl 2 (by decide) (hts _ hX0_empty__fieldLink_RX0_25_MakeupGas_Stock_lapsedSum_I_) (fun _ h9 => h9) (by decide +kernel) (by decide +kernel) rfl rfl (Nat.le_of_ble_eq_true rfl) dX0_empty_10 (fun H locs hP hD hS => ?_)
  have hP : va_P D vwCl (wK q r cI (fun _ => 0) k 0) H := hP
  have hD : va_D A (wK q r cI (fun _ => 0) k 0) := hD
  exact ge_v hx hb hr hlocks hK hP hD hS trivial (Nat.le_of_ble_eq_true rfl) (Nat.le_of_ble_eq_true rfl) dX0_empty_13
theorem inX0_put_X0 : ∀ q ∈ wsX00, q ∈ wsX0_put := by decide +kernel
theorem hX0_put__fieldLink_RX0_9_MakeupGas_Stock_left_I_ : Cond.fieldLink RX0 9 "MakeupGas$Stock" "left" "[I" ∈ wsX0_put := by decide +kernel
set_option maxHeartbeats 4000000 in
set_option maxRecDepth 100000 in
theorem c_X0_put (l : Launch) (D : va_G) (sz : Nat) (q r : Nat) (cI cL : ClassId) (f : Nat → Int32) (k z : Int32) (o : Nat) (v : Int32) (ho : o < 20) : gCv l yX0_put wsX0_put ({ frames := 0, cells := 0, slots := 0, locals := 0 } : Room) D [(cI, .int), (cL, .long)] [.ref q, .int (nI o), .int v] (wK q r cI f k z) (wK q r cI (upd f o v) k z) True 0 0 sz := by
  refine gm_v (cc := cX0_put) (maxL := 3) (by decide) rfl (Nat.le_of_ble_eq_true rfl) ?_
  intro pg en s m args below meth cd A ls hx hb hr hml hown hts hlocks hin hA hK hP hD hl
  have hl : lv_has ls 3 [(0, .ref q), (1, .int (nI o)), (2, .int v)] := hl
  have hS : va_S A s.heap s.heap [] := va_S.rf
  refine lv_aload_n hx hb dX0_put_0 rfl (lv_at hl 0 rfl) ?_
  refine va_get (D := D) (ci := 0) (C := RX0) (T := TX0) (N := 3) hx hb hts inX0_put_X0 hown hK hP 0 rfl rfl 0 (by decide) (hts _ hX0_put__fieldLink_RX0_9_MakeupGas_Stock_left_I_) (fun _ h9 => h9) rfl dX0_put_1 ?_
  refine lv_iload_n hx hb dX0_put_4 rfl (lv_at hl 1 rfl) ?_
  refine lv_iload_n hx hb dX0_put_5 rfl (lv_at hl 2 rfl) ?_
  refine ga_iast (j := o) (ws' := (wK q r cI (upd f o v) k z)) hx hb hK hP hD hS 1 0 rfl rfl ho (by decide) dX0_put_6 rfl (fun H locs hP hD hS => ?_)
  exact ge_v hx hb hr hlocks hK hP hD hS trivial (Nat.le_of_ble_eq_true rfl) (Nat.le_of_ble_eq_true rfl) dX0_put_7
theorem inX0_leftFrom_X0 : ∀ q ∈ wsX00, q ∈ wsX0_leftFrom := by decide +kernel
theorem hX0_leftFrom__fieldLink_RX0_9_MakeupGas_Stock_left_I_ : Cond.fieldLink RX0 9 "MakeupGas$Stock" "left" "[I" ∈ wsX0_leftFrom := by decide +kernel
set_option maxHeartbeats 4000000 in
set_option maxRecDepth 100000 in
theorem c_X0_leftFrom (l : Launch) (D : va_G) (sz : Nat) (q r : Nat) (cI cL : ClassId) (f : Nat → Int32) (k z : Int32) (o : Nat) (ho : o < 20) : gCi l yX0_leftFrom wsX0_leftFrom ({ frames := 0, cells := 0, slots := 0, locals := 0 } : Room) D [(cI, .int), (cL, .long)] [.ref q, .int (nI o)] (wK q r cI f k z) (wK q r cI f k z) (f o) True 0 0 sz := by
  refine gm_i (cc := cX0_leftFrom) (maxL := 2) (by decide) rfl (Nat.le_of_ble_eq_true rfl) ?_
  intro pg en s m args below meth cd A ls hx hb hr hml hown hts hlocks hin hA hK hP hD hl
  have hl : lv_has ls 2 [(0, .ref q), (1, .int (nI o))] := hl
  have hS : va_S A s.heap s.heap [] := va_S.rf
  refine lv_aload_n hx hb dX0_leftFrom_0 rfl (lv_at hl 0 rfl) ?_
  refine va_get (D := D) (ci := 0) (C := RX0) (T := TX0) (N := 3) hx hb hts inX0_leftFrom_X0 hown hK hP 0 rfl rfl 0 (by decide) (hts _ hX0_leftFrom__fieldLink_RX0_9_MakeupGas_Stock_left_I_) (fun _ h9 => h9) rfl dX0_leftFrom_1 ?_
  refine lv_iload_n hx hb dX0_leftFrom_4 rfl (lv_at hl 1 rfl) ?_
  refine ga_iald (j := o) hx hb hK hP 1 0 rfl rfl ho (by decide) dX0_leftFrom_5 ?_
  exact ge_i hx hb hr hlocks rfl hK hP hD hS trivial (Nat.le_of_ble_eq_true rfl) (Nat.le_of_ble_eq_true rfl) dX0_leftFrom_6
theorem inX0_lapsedInAll_X0 : ∀ q ∈ wsX00, q ∈ wsX0_lapsedInAll := by decide +kernel
theorem hX0_lapsedInAll__fieldLink_RX0_25_MakeupGas_Stock_lapsedSum_I_ : Cond.fieldLink RX0 25 "MakeupGas$Stock" "lapsedSum" "I" ∈ wsX0_lapsedInAll := by decide +kernel
set_option maxHeartbeats 4000000 in
set_option maxRecDepth 100000 in
theorem c_X0_lapsedInAll (l : Launch) (D : va_G) (sz : Nat) (q r : Nat) (cI cL : ClassId) (f : Nat → Int32) (k z : Int32)  : gCi l yX0_lapsedInAll wsX0_lapsedInAll ({ frames := 0, cells := 0, slots := 0, locals := 0 } : Room) D [(cI, .int), (cL, .long)] [.ref q] (wK q r cI f k z) (wK q r cI f k z) z True 0 0 sz := by
  refine gm_i (cc := cX0_lapsedInAll) (maxL := 1) (by decide) rfl (Nat.le_of_ble_eq_true rfl) ?_
  intro pg en s m args below meth cd A ls hx hb hr hml hown hts hlocks hin hA hK hP hD hl
  have hl : lv_has ls 1 [(0, .ref q)] := hl
  have hS : va_S A s.heap s.heap [] := va_S.rf
  refine lv_aload_n hx hb dX0_lapsedInAll_0 rfl (lv_at hl 0 rfl) ?_
  refine va_get (D := D) (ci := 0) (C := RX0) (T := TX0) (N := 3) hx hb hts inX0_lapsedInAll_X0 hown hK hP 0 rfl rfl 2 (by decide) (hts _ hX0_lapsedInAll__fieldLink_RX0_25_MakeupGas_Stock_lapsedSum_I_) (fun _ h9 => h9) rfl dX0_lapsedInAll_1 ?_
  exact ge_i hx hb hr hlocks rfl hK hP hD hS trivial (Nat.le_of_ble_eq_true rfl) (Nat.le_of_ble_eq_true rfl) dX0_lapsedInAll_4
theorem inX0_drawFrom_X0 : ∀ q ∈ wsX00, q ∈ wsX0_drawFrom := by decide +kernel
theorem hX0_drawFrom__fieldLink_RX0_9_MakeupGas_Stock_left_I_ : Cond.fieldLink RX0 9 "MakeupGas$Stock" "left" "[I" ∈ wsX0_drawFrom := by decide +kernel
theorem hX0_drawFrom__methodLink_RX0_28_Lib_Math_min_name : Cond.methodLink RX0 28 Lib.Math.min.name ∈ wsX0_drawFrom := by decide +kernel
theorem hX0_drawFrom__static_Lib_Math_min_name : Cond.static Lib.Math.min.name ∈ wsX0_drawFrom := by decide +kernel
theorem hX0_drawFrom__initialized_java_lang_Math_ : Cond.initialized "java/lang/Math" ∈ wsX0_drawFrom := by decide +kernel
theorem hX0_drawFrom__code_Lib_Math_min_name_Lib_Math_min_code_2_some_int_ : Cond.code Lib.Math.min.name Lib.Math.min.code 2 (some .int) ∈ wsX0_drawFrom := by decide +kernel
set_option maxHeartbeats 4000000 in
set_option maxRecDepth 100000 in
theorem c_X0_drawFrom (l : Launch) (D : va_G) (sz : Nat) (q r : Nat) (cI cL : ClassId) (f : Nat → Int32) (k z : Int32) (o : Nat) (v : Int32) (ho : o < 20) : gCi l yX0_drawFrom wsX0_drawFrom ({ frames := 1, cells := 0, slots := 0, locals := 21 } : Room) D [(cI, .int), (cL, .long)] [.ref q, .int (nI o), .int v] (wK q r cI f k z) (wK q r cI (upd f o (f o - mnI v (f o))) k z) (mnI v (f o)) True 0 0 sz := by
  refine gm_i (cc := cX0_drawFrom) (maxL := 4) (by decide) rfl (Nat.le_of_ble_eq_true rfl) ?_
  intro pg en s m args below meth cd A ls hx hb hr hml hown hts hlocks hin hA hK hP hD hl
  have hl : lv_has ls 4 [(0, .ref q), (1, .int (nI o)), (2, .int v)] := hl
  have hS : va_S A s.heap s.heap [] := va_S.rf
  refine lv_iload_n hx hb dX0_drawFrom_0 rfl (lv_at hl 2 rfl) ?_
  refine lv_aload_n hx hb dX0_drawFrom_1 rfl (lv_at hl 0 rfl) ?_
  refine va_get (D := D) (ci := 0) (C := RX0) (T := TX0) (N := 3) hx hb hts inX0_drawFrom_X0 hown hK hP 0 rfl rfl 0 (by decide) (hts _ hX0_drawFrom__fieldLink_RX0_9_MakeupGas_Stock_left_I_) (fun _ h9 => h9) rfl dX0_drawFrom_2 ?_
  refine lv_iload_n hx hb dX0_drawFrom_5 rfl (lv_at hl 1 rfl) ?_
  refine ga_iald (j := o) hx hb hK hP 1 0 rfl rfl ho (by decide) dX0_drawFrom_6 ?_
  refine va_mmin hx hb (by rw [hml]; exact hl.1.symm) hown (hts _ hX0_drawFrom__methodLink_RX0_28_Lib_Math_min_name) (hts _ hX0_drawFrom__static_Lib_Math_min_name) (hts _ hX0_drawFrom__initialized_java_lang_Math_) (hts _ hX0_drawFrom__code_Lib_Math_min_name_Lib_Math_min_code_2_some_int_) (Nat.le_of_ble_eq_true rfl) (Nat.le_of_ble_eq_true rfl) (Nat.le_of_ble_eq_true rfl) (Nat.le_of_ble_eq_true rfl) dX0_drawFrom_7 ?_
  refine lv_istore_n (lv' := [(3, .int (mnI v (f o))), (0, .ref q), (1, .int (nI o)), (2, .int v)]) hx hb dX0_drawFrom_10 rfl hl (by decide) rfl (fun ls hl => ?_)
  refine lv_aload_n hx hb dX0_drawFrom_11 rfl (lv_at hl 1 rfl) ?_
  refine va_get (D := D) (ci := 0) (C := RX0) (T := TX0) (N := 3) hx hb hts inX0_drawFrom_X0 hown hK hP 0 rfl rfl 0 (by decide) (hts _ hX0_drawFrom__fieldLink_RX0_9_MakeupGas_Stock_left_I_) (fun _ h9 => h9) rfl dX0_drawFrom_12 ?_
  refine lv_iload_n hx hb dX0_drawFrom_15 rfl (lv_at hl 2 rfl) ?_
  refine lv_dup2_11 hx hb dX0_drawFrom_16 rfl rfl ?_
  refine ga_iald (j := o) hx hb hK hP 1 0 rfl rfl ho (by decide) dX0_drawFrom_17 ?_
  refine lv_iload_n hx hb dX0_drawFrom_18 rfl (lv_at hl 0 rfl) ?_
  refine lv_isub hx hb dX0_drawFrom_19 ?_
  refine ga_iast (j := o) (ws' := (wK q r cI (upd f o ((f o) - (mnI v (f o)))) k z)) hx hb hK hP hD hS 1 0 rfl rfl ho (by decide) dX0_drawFrom_20 rfl (fun H locs hP hD hS => ?_)
  refine lv_iload_n hx hb dX0_drawFrom_21 rfl (lv_at hl 0 rfl) ?_
  exact ge_i hx hb hr hlocks rfl hK hP hD hS trivial (Nat.le_of_ble_eq_true rfl) (Nat.le_of_ble_eq_true rfl) dX0_drawFrom_22
theorem inX0_lapseBefore_X0 : ∀ q ∈ wsX00, q ∈ wsX0_lapseBefore := by decide +kernel
theorem hX0_lapseBefore__fieldLink_RX0_15_MakeupGas_Stock_yearsKept_I_ : Cond.fieldLink RX0 15 "MakeupGas$Stock" "yearsKept" "I" ∈ wsX0_lapseBefore := by decide +kernel
theorem hX0_lapseBefore__fieldLink_RX0_25_MakeupGas_Stock_lapsedSum_I_ : Cond.fieldLink RX0 25 "MakeupGas$Stock" "lapsedSum" "I" ∈ wsX0_lapseBefore := by decide +kernel
theorem hX0_lapseBefore__fieldLink_RX0_9_MakeupGas_Stock_left_I_ : Cond.fieldLink RX0 9 "MakeupGas$Stock" "left" "[I" ∈ wsX0_lapseBefore := by decide +kernel
set_option maxHeartbeats 4000000 in
set_option maxRecDepth 100000 in
theorem c_X0_lapseBefore (l : Launch) (D : va_G) (sz : Nat) (q r : Nat) (cI cL : ClassId) (f : Nat → Int32) (kk : Nat) (z : Int32) (y : Nat) (hy : y < 20) (hk : kk < 20) : gCv l yX0_lapseBefore wsX0_lapseBefore ({ frames := 0, cells := 0, slots := 0, locals := 0 } : Room) D [(cI, .int), (cL, .long)] [.ref q, .int (nI y)] (wK q r cI f (nI kk) z) (wK q r cI (lpF f kk y) (nI kk) (lpZ f z kk y)) True 0 0 sz := by
  refine gm_v (cc := cX0_lapseBefore) (maxL := 3) (by decide) rfl (Nat.le_of_ble_eq_true rfl) ?_
  intro pg en s m args below meth cd A ls hx hb hr hml hown hts hlocks hin hA hK hP hD hl
  have hl : lv_has ls 3 [(0, .ref q), (1, .int (nI y))] := hl
  have hS : va_S A s.heap s.heap [] := va_S.rf
  refine lv_iload_n hx hb dX0_lapseBefore_0 rfl (lv_at hl 1 rfl) ?_
  refine lv_aload_n hx hb dX0_lapseBefore_1 rfl (lv_at hl 0 rfl) ?_
  refine va_get (D := D) (ci := 0) (C := RX0) (T := TX0) (N := 3) hx hb hts inX0_lapseBefore_X0 hown hK hP 0 rfl rfl 1 (by decide) (hts _ hX0_lapseBefore__fieldLink_RX0_15_MakeupGas_Stock_yearsKept_I_) (fun _ h9 => h9) rfl dX0_lapseBefore_2 ?_
  refine lv_isub hx hb dX0_lapseBefore_5 ?_
  refine lv_iconst (v := 1) hx hb dX0_lapseBefore_6 (by decide) ?_
  refine lv_isub hx hb dX0_lapseBefore_7 ?_
  rcases Nat.lt_or_ge y (kk + 1) with hlt | hge
  · refine lv_topi (fun x ex => ?_)
    refine lv_istore_n (lv' := [(2, .int x), (0, .ref q), (1, .int (nI y))]) hx hb dX0_lapseBefore_8 rfl hl (by decide) rfl (fun ls hl => ?_)
    refine lv_iload_n hx hb dX0_lapseBefore_9 rfl (lv_at hl 0 rfl) ?_
    refine lv_if_lt (tgt := 41) hx hb dX0_lapseBefore_10 (by decide) (fun c10 => ?_) (fun c10 => ?_)
    · have hP : va_P D vwCl (wK q r cI (lpF f kk y) (nI kk) (lpZ f z kk y)) s.heap := by rw [lpF, lpZ, if_neg (by omega), if_neg (by omega)]; exact hP
      have hD : va_D A (wK q r cI (lpF f kk y) (nI kk) (lpZ f z kk y)) := by rw [lpF, lpZ, if_neg (by omega), if_neg (by omega)]; exact hD
      exact ge_v hx hb hr hlocks hK hP hD hS trivial (Nat.le_of_ble_eq_true rfl) (Nat.le_of_ble_eq_true rfl) dX0_lapseBefore_41
    · exact absurd (by rw [ex]; exact lp_neg y hy kk hk hlt) c10
  · refine gj_i (lp_pos y hy kk hk hge) ?_
    have ho : y - kk - 1 < 20 := by omega
    refine lv_istore_n (lv' := [(2, .int (nI (y - kk - 1))), (0, .ref q), (1, .int (nI y))]) hx hb dX0_lapseBefore_8 rfl hl (by decide) rfl (fun ls hl => ?_)
    refine lv_iload_n hx hb dX0_lapseBefore_9 rfl (lv_at hl 0 rfl) ?_
    refine lv_if_lt (tgt := 41) hx hb dX0_lapseBefore_10 (by decide) (fun c10 => ?_) (fun c10 => ?_)
    · exact absurd c10 (nI_pos (by omega))
    · refine lv_iload_n hx hb dX0_lapseBefore_13 rfl (lv_at hl 0 rfl) ?_
      refine lv_bipush (v := 20) hx hb dX0_lapseBefore_14 (by decide) ?_
      refine lv_icmp_ge (tgt := 41) hx hb dX0_lapseBefore_16 (by decide) (fun c16 => ?_) (fun c16 => ?_)
      · exact absurd c16 (nI_ge ho (by decide))
      · refine lv_aload_n hx hb dX0_lapseBefore_19 rfl (lv_at hl 1 rfl) ?_
        refine lv_dup hx hb dX0_lapseBefore_20 rfl ?_
        refine va_get (D := D) (ci := 0) (C := RX0) (T := TX0) (N := 3) hx hb hts inX0_lapseBefore_X0 hown hK hP 0 rfl rfl 2 (by decide) (hts _ hX0_lapseBefore__fieldLink_RX0_25_MakeupGas_Stock_lapsedSum_I_) (fun _ h9 => h9) rfl dX0_lapseBefore_21 ?_
        refine lv_aload_n hx hb dX0_lapseBefore_24 rfl (lv_at hl 1 rfl) ?_
        refine va_get (D := D) (ci := 0) (C := RX0) (T := TX0) (N := 3) hx hb hts inX0_lapseBefore_X0 hown hK hP 0 rfl rfl 0 (by decide) (hts _ hX0_lapseBefore__fieldLink_RX0_9_MakeupGas_Stock_left_I_) (fun _ h9 => h9) rfl dX0_lapseBefore_25 ?_
        refine lv_iload_n hx hb dX0_lapseBefore_28 rfl (lv_at hl 0 rfl) ?_
        refine ga_iald (j := y - kk - 1) hx hb hK hP 1 0 rfl rfl ho (by decide) dX0_lapseBefore_29 ?_
        refine lv_iadd hx hb dX0_lapseBefore_30 ?_
        refine va_put (D := D) (ci := 0) (v := .int (z + (f (y - kk - 1)))) (ty := .int) (C := RX0) (T := TX0) (N := 3) hx hb hts inX0_lapseBefore_X0 tyX0 tyX0_ok nmX0 hown hK hP hD hS 0 rfl rfl 2 (by decide) (hts _ hX0_lapseBefore__fieldLink_RX0_25_MakeupGas_Stock_lapsedSum_I_) (fun _ h9 => h9) (by decide +kernel) (by decide +kernel) rfl rfl (Nat.le_of_ble_eq_true rfl) dX0_lapseBefore_31 (fun H locs hP hD hS => ?_)
        have hP : va_P D vwCl (wK q r cI f (nI kk) (z + (f (y - kk - 1)))) H := hP
        have hD : va_D A (wK q r cI f (nI kk) (z + (f (y - kk - 1)))) := hD
        refine lv_aload_n hx hb dX0_lapseBefore_34 rfl (lv_at hl 1 rfl) ?_
        refine va_get (D := D) (ci := 0) (C := RX0) (T := TX0) (N := 3) hx hb hts inX0_lapseBefore_X0 hown hK hP 0 rfl rfl 0 (by decide) (hts _ hX0_lapseBefore__fieldLink_RX0_9_MakeupGas_Stock_left_I_) (fun _ h9 => h9) rfl dX0_lapseBefore_35 ?_
        refine lv_iload_n hx hb dX0_lapseBefore_38 rfl (lv_at hl 0 rfl) ?_
        refine lv_iconst (v := 0) hx hb dX0_lapseBefore_39 (by decide) ?_
        refine ga_iast (j := y - kk - 1) (ws' := (wK q r cI (upd f (y - kk - 1) 0) (nI kk) (z + (f (y - kk - 1))))) hx hb hK hP hD hS 1 0 rfl rfl ho (by decide) dX0_lapseBefore_40 rfl (fun H locs hP hD hS => ?_)
        have hP : va_P D vwCl (wK q r cI (lpF f kk y) (nI kk) (lpZ f z kk y)) H := by rw [lpF, lpZ, if_pos hge, if_pos hge]; exact hP
        have hD : va_D A (wK q r cI (lpF f kk y) (nI kk) (lpZ f z kk y)) := by rw [lpF, lpZ, if_pos hge, if_pos hge]; exact hD
        exact ge_v hx hb hr hlocks hK hP hD hS trivial (Nat.le_of_ble_eq_true rfl) (Nat.le_of_ble_eq_true rfl) dX0_lapseBefore_41
