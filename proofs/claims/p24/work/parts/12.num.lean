/-! numbers -/
theorem fb_rng (x : Int32) : -2147483648 ≤ x.toInt ∧ x.toInt < 2147483648 := by
  have h1 := Int32.le_toInt x
  have h2 := Int32.toInt_lt x
  omega
theorem fb_bmod {z : Int} (h1 : -2147483648 ≤ z) (h2 : z < 2147483648) : z.bmod (2 ^ 32) = z := by
  rw [Int.bmod_eq_of_le (by omega) (by omega)]
theorem fb_addI {x y : Int32} (h1 : -2147483648 ≤ x.toInt + y.toInt) (h2 : x.toInt + y.toInt < 2147483648) : (x + y).toInt = x.toInt + y.toInt := by
  rw [Int32.toInt_add, fb_bmod h1 h2]
theorem fb_subI {x y : Int32} (h1 : -2147483648 ≤ x.toInt - y.toInt) (h2 : x.toInt - y.toInt < 2147483648) : (x - y).toInt = x.toInt - y.toInt := by
  rw [Int32.toInt_sub, fb_bmod h1 h2]
theorem fb_rngL (x : Int64) : -9223372036854775808 ≤ x.toInt ∧ x.toInt < 9223372036854775808 := by
  have h1 := Int64.le_toInt x
  have h2 := Int64.toInt_lt x
  omega
theorem fb_bmodL {z : Int} (h1 : -9223372036854775808 ≤ z) (h2 : z < 9223372036854775808) : z.bmod (2 ^ 64) = z := by
  rw [Int.bmod_eq_of_le (by omega) (by omega)]
theorem fb_mulL {x y : Int64} (h1 : -9223372036854775808 ≤ x.toInt * y.toInt) (h2 : x.toInt * y.toInt < 9223372036854775808) : (x * y).toInt = x.toInt * y.toInt := by
  rw [Int64.toInt_mul, fb_bmodL h1 h2]
theorem ux_s {f : Nat → Int32} {k : Nat} {x : Int32} : upd f k x k = x := pk_us
theorem ux_n {f : Nat → Int32} {k j : Nat} {x : Int32} (h : j ≠ k) : upd f k x j = f j := pk_un h
theorem ul_s {f : Nat → Int64} {k : Nat} {x : Int64} : vp_updL f k x k = x := pk_uLs
theorem ul_n {f : Nat → Int64} {k j : Nat} {x : Int64} (h : j ≠ k) : vp_updL f k x j = f j := pk_uLn h
theorem i32_eq {a b : Int32} (h : a.toInt = b.toInt) : a = b := Int32.toInt_inj.1 h
theorem mn_int (x y : Int32) : (mnI x y).toInt = min x.toInt y.toInt := by
  unfold mnI
  by_cases h : y < x
  · rw [if_pos h]
    have := Int32.lt_iff_toInt_lt.mp h
    omega
  · rw [if_neg h]
    have := Int32.le_iff_toInt_le.mp (Int32.not_lt.mp h)
    omega
/-- what a year's least quantity is -/
theorem lqf_val {qy lp : Int32} {ex : Nat → Int32} {y : Nat} (h1 : 0 ≤ qy.toInt) (h2 : qy.toInt ≤ 100000) (h3 : 0 ≤ lp.toInt) (h4 : lp.toInt ≤ 100) (h5 : 0 ≤ (ex y).toInt) (h6 : (ex y).toInt ≤ 360) : (lqf qy lp ex y).toInt = qy.toInt * lp.toInt * (360 - (ex y).toInt) / 36000 ∧ 0 ≤ (lqf qy lp ex y).toInt ∧ (lqf qy lp ex y).toInt ≤ 100000 := by
  have e0 : (360 : Int32).toInt = 360 := by decide
  have a1 : (360 - ex y).toInt = 360 - (ex y).toInt := by rw [fb_subI (by omega) (by omega), e0]
  have b1 : 0 ≤ qy.toInt * lp.toInt := Int.mul_nonneg h1 h3
  have b2 : qy.toInt * lp.toInt ≤ 100000 * 100 := Int.mul_le_mul h2 h4 h3 (by decide)
  have a2 : (qy.toInt64 * lp.toInt64).toInt = qy.toInt * lp.toInt := by
    rw [fb_mulL] <;> rw [Int32.toInt_toInt64, Int32.toInt_toInt64] <;> omega
  generalize hP : qy.toInt * lp.toInt = P at *
  generalize hE : 360 - (ex y).toInt = E at *
  have b3 : 0 ≤ P * E := Int.mul_nonneg b1 (by omega)
  have b4 : P * E ≤ 100000 * 100 * 360 := Int.mul_le_mul b2 (by omega) (by omega) (by decide)
  have a3 : (qy.toInt64 * lp.toInt64 * (360 - ex y).toInt64).toInt = P * E := by
    rw [fb_mulL] <;> rw [Int32.toInt_toInt64, a1, a2] <;> omega
  have e1 : (36000 : Int64).toInt = 36000 := by decide
  have a4 : (lqf qy lp ex y).toInt = P * E / 36000 := by
    unfold lqf
    rw [Int64.toInt_toInt32, Int64.toInt_div, a3, e1, Int.tdiv_eq_ediv_of_nonneg b3]
    have c1 : 0 ≤ P * E / 36000 := Int.ediv_nonneg b3 (by decide)
    have c2 : P * E / 36000 ≤ 100000 := by omega
    rw [fb_bmodL (by omega) (by omega), fb_bmod (by omega) (by omega)]
  refine ⟨a4, ?_, ?_⟩ <;> rw [a4] <;> omega
/-- drawing: what is drawn, what is left -/
theorem dw_ok {f : Nat → Int32} {w : Int32} (hf : ∀ j, 0 ≤ (f j).toInt) (hw : 0 ≤ w.toInt) : ∀ n, 0 ≤ (dw f w n).2.toInt ∧ (dw f w n).2.toInt ≤ w.toInt ∧ (∀ j, 0 ≤ ((dw f w n).1 j).toInt ∧ ((dw f w n).1 j).toInt ≤ (f j).toInt) ∧ ∀ j, n ≤ j → (dw f w n).1 j = f j
  | 0 => ⟨by rw [dw_0]; show 0 ≤ (0 : Int32).toInt; decide, by rw [dw_0]; exact hw, fun j => ⟨hf j, Int.le_refl _⟩, fun j _ => rfl⟩
  | n + 1 => by
    obtain ⟨h1, h2, h3, h4⟩ := dw_ok hf hw n
    have hx := h3 n
    have hr := fb_rng w
    have hs : (w - (dw f w n).2).toInt = w.toInt - (dw f w n).2.toInt := fb_subI (by omega) (by omega)
    have hm := mn_int (w - (dw f w n).2) ((dw f w n).1 n)
    have hrx := fb_rng ((dw f w n).1 n)
    have ha : ((dw f w n).2 + mnI (w - (dw f w n).2) ((dw f w n).1 n)).toInt = (dw f w n).2.toInt + (mnI (w - (dw f w n).2) ((dw f w n).1 n)).toInt := fb_addI (by omega) (by omega)
    have hb : ((dw f w n).1 n - mnI (w - (dw f w n).2) ((dw f w n).1 n)).toInt = ((dw f w n).1 n).toInt - (mnI (w - (dw f w n).2) ((dw f w n).1 n)).toInt := fb_subI (by omega) (by omega)
    refine ⟨?_, ?_, fun j => ?_, fun j hj => ?_⟩
    · rw [dw_2, ha]; omega
    · rw [dw_2, ha]; omega
    · rw [dw_1]
      by_cases e : j = n
      · subst e; rw [ux_s, hb]; omega
      · rw [ux_n e]; exact h3 j
    · rw [dw_1, ux_n (by omega)]; exact h4 j (by omega)
theorem dw_hi (f : Nat → Int32) (w : Int32) : ∀ n {j : Nat}, n ≤ j → (dw f w n).1 j = f j
  | 0, _, _ => rfl
  | n + 1, j, h => by rw [dw_1, ux_n (by omega)]; exact dw_hi f w n (by omega)
/-- what lapses: one place, or all that are old enough -/
theorem lpF_z {f : Nat → Int32} {k y : Nat} (hz : ∀ j, j + k + 1 < y → f j = 0) : ∀ j, j + k < y → lpF f k y j = 0 := by
  intro j hj
  unfold lpF
  rw [if_pos (by omega)]
  by_cases e : j = y - k - 1
  · subst e; exact ux_s
  · rw [ux_n e]; exact hz j (by omega)
theorem lpF_o {f : Nat → Int32} {k y j : Nat} (h : ¬ j + k < y) : lpF f k y j = f j := by
  unfold lpF
  by_cases e : k + 1 ≤ y
  · rw [if_pos e, ux_n (by omega)]
  · rw [if_neg e]
theorem lpF_e (f : Nat → Int32) (k y j : Nat) : lpF f k y j = f j ∨ lpF f k y j = 0 := by
  unfold lpF
  by_cases e : k + 1 ≤ y
  · rw [if_pos e]
    by_cases q : j = y - k - 1
    · subst q; exact Or.inr ux_s
    · exact Or.inl (ux_n q)
  · rw [if_neg e]; exact Or.inl rfl
def sD (f : Nat → Int32) : Nat → Int
  | 0 => 0
  | n + 1 => sD f n + (f n).toInt
theorem sD_rng {f : Nat → Int32} (h : ∀ d, 0 ≤ (f d).toInt ∧ (f d).toInt ≤ 500) : ∀ n, 0 ≤ sD f n ∧ sD f n ≤ 500 * (n : Int)
  | 0 => ⟨Int.le_refl _, Int.le_refl _⟩
  | n + 1 => by
    have h1 := sD_rng h n
    have h2 := h n
    show 0 ≤ sD f n + (f n).toInt ∧ sD f n + (f n).toInt ≤ 500 * ((n + 1 : Nat) : Int)
    omega
theorem sD_cg {f g : Nat → Int32} : ∀ n, (∀ j, j < n → f j = g j) → sD f n = sD g n
  | 0, _ => rfl
  | n + 1, h => by rw [sD, sD, sD_cg n (fun j hj => h j (by omega)), h n (by omega)]
theorem sD_upd {f : Nat → Int32} {i : Nat} {x : Int32} : ∀ n, i < n → sD (upd f i x) n = sD f n + (x.toInt - (f i).toInt)
  | 0, h => absurd h (by omega)
  | n + 1, h => by
    rw [sD, sD]
    by_cases e : i = n
    · subst e
      rw [ux_s, sD_cg i (g := f) (fun j hj => ux_n (by omega))]; omega
    · rw [ux_n (fun z => e z.symm), sD_upd n (by omega)]; omega
theorem mx_int (x y : Int32) : (mxI x y).toInt = max x.toInt y.toInt := by
  unfold mxI
  by_cases h : x < y
  · rw [if_pos h]
    have := Int32.lt_iff_toInt_lt.mp h
    omega
  · rw [if_neg h]
    have := Int32.le_iff_toInt_le.mp (Int32.not_lt.mp h)
    omega
theorem fb_addL {x y : Int64} (h1 : -9223372036854775808 ≤ x.toInt + y.toInt) (h2 : x.toInt + y.toInt < 9223372036854775808) : (x + y).toInt = x.toInt + y.toInt := by
  rw [Int64.toInt_add, fb_bmodL h1 h2]
theorem fb_mulI {x y : Int32} (h1 : -2147483648 ≤ x.toInt * y.toInt) (h2 : x.toInt * y.toInt < 2147483648) : (x * y).toInt = x.toInt * y.toInt := by
  rw [Int32.toInt_mul, fb_bmod h1 h2]
/-- a product of two int amounts, as long -/
theorem fb_ml {x y : Int32} (h1 : -9223372036854775808 ≤ x.toInt * y.toInt) (h2 : x.toInt * y.toInt < 9223372036854775808) : (x.toInt64 * y.toInt64).toInt = x.toInt * y.toInt := by
  rw [fb_mulL] <;> rw [Int32.toInt_toInt64, Int32.toInt_toInt64] <;> assumption
theorem mul_rng {a b A B : Int} (h1 : 0 ≤ a) (h2 : a ≤ A) (h3 : 0 ≤ b) (h4 : b ≤ B) : 0 ≤ a * b ∧ a * b ≤ A * B := ⟨Int.mul_nonneg h1 h3, Int.mul_le_mul h2 h4 h3 (Int.le_trans h1 h2)⟩
/-- what a year's shortfall price is -/
theorem spf_val {pr : Nat → Int32} {sp : Int32} {y : Nat} (h1 : 1 ≤ (pr y).toInt) (h2 : (pr y).toInt ≤ 1000) (h3 : 0 ≤ sp.toInt) (h4 : sp.toInt ≤ 100) : 0 ≤ (spf pr sp y).toInt ∧ (spf pr sp y).toInt ≤ 1000 := by
  have e1 : (100 : Int32).toInt = 100 := by decide
  have b := mul_rng (a := (pr y).toInt) (b := sp.toInt) (A := 1000) (B := 100) (by omega) h2 h3 h4
  have a1 : (pr y * sp).toInt = (pr y).toInt * sp.toInt := fb_mulI (by omega) (by omega)
  generalize hP : (pr y).toInt * sp.toInt = P at *
  have a4 : (spf pr sp y).toInt = P / 100 := by
    unfold spf
    rw [Int32.toInt_div, a1, e1, Int.tdiv_eq_ediv_of_nonneg b.1]
    rw [fb_bmod (by omega) (by omega)]
  rw [a4]
  omega
theorem sD_b {f : Nat → Int32} : ∀ n, (∀ j, j < n → 0 ≤ (f j).toInt ∧ (f j).toInt ≤ 180000) → 0 ≤ sD f n ∧ sD f n ≤ 180000 * (n : Int)
  | 0, _ => ⟨Int.le_refl _, Int.le_refl _⟩
  | n + 1, h => by
    have h1 := sD_b n (fun j hj => h j (by omega))
    have h2 := h n (by omega)
    show 0 ≤ sD f n + (f n).toInt ∧ sD f n + (f n).toInt ≤ 180000 * ((n + 1 : Nat) : Int)
    omega
/-- what is drawn and what is left make up what there was -/
theorem dw_sum {f : Nat → Int32} {w : Int32} (hf : ∀ j, 0 ≤ (f j).toInt) (hw : 0 ≤ w.toInt) : ∀ n N, n ≤ N → sD (dw f w n).1 N + (dw f w n).2.toInt = sD f N
  | 0, N, _ => by
    have z0 : (0 : Int32).toInt = 0 := by decide
    rw [dw_0]
    show sD f N + (0 : Int32).toInt = sD f N
    omega
  | n + 1, N, hN => by
    obtain ⟨h1, h2, h3, h4⟩ := dw_ok hf hw n
    have ih := dw_sum hf hw n N (by omega)
    have hx := h3 n
    have hr := fb_rng w
    have hs : (w - (dw f w n).2).toInt = w.toInt - (dw f w n).2.toInt := fb_subI (by omega) (by omega)
    have hm := mn_int (w - (dw f w n).2) ((dw f w n).1 n)
    have hrx := fb_rng ((dw f w n).1 n)
    have ha : ((dw f w n).2 + mnI (w - (dw f w n).2) ((dw f w n).1 n)).toInt = (dw f w n).2.toInt + (mnI (w - (dw f w n).2) ((dw f w n).1 n)).toInt := fb_addI (by omega) (by omega)
    have hb : ((dw f w n).1 n - mnI (w - (dw f w n).2) ((dw f w n).1 n)).toInt = ((dw f w n).1 n).toInt - (mnI (w - (dw f w n).2) ((dw f w n).1 n)).toInt := fb_subI (by omega) (by omega)
    rw [dw_1, dw_2, sD_upd N (by omega), ha, hb]
    omega
/-- what make-up gas adds is at most its year's price for each -/
theorem dwa_b {f : Nat → Int32} {w : Int32} {pr : Nat → Int32} {sp : Int32} {y : Nat} (hf : ∀ j, 0 ≤ (f j).toInt ∧ (f j).toInt ≤ 100000) (hw : 0 ≤ w.toInt ∧ w.toInt ≤ 180000) (hp : ∀ j, 1 ≤ (pr j).toInt ∧ (pr j).toInt ≤ 1000) (hs : 0 ≤ sp.toInt ∧ sp.toInt ≤ 100) : ∀ n, 0 ≤ (dwa f w pr sp y n).toInt ∧ (dwa f w pr sp y n).toInt ≤ (dw f w n).2.toInt * (pr y).toInt
  | 0 => by
    have z0 : (0 : Int32).toInt = 0 := by decide
    have z1 : (0 : Int64).toInt = 0 := by decide
    rw [dw_0]
    show 0 ≤ (0 : Int64).toInt ∧ (0 : Int64).toInt ≤ (0 : Int32).toInt * (pr y).toInt
    rw [z0, z1, Int.zero_mul]
    exact ⟨Int.le_refl _, Int.le_refl _⟩
  | n + 1 => by
    have ih := dwa_b hf hw hp hs n (y := y)
    obtain ⟨h1, h2, h3, h4⟩ := dw_ok (f := f) (w := w) (fun j => (hf j).1) hw.1 n
    have hx := h3 n
    have hfn := hf n
    have hsub : (w - (dw f w n).2).toInt = w.toInt - (dw f w n).2.toInt := fb_subI (by omega) (by omega)
    have hm := mn_int (w - (dw f w n).2) ((dw f w n).1 n)
    have ha : ((dw f w n).2 + mnI (w - (dw f w n).2) ((dw f w n).1 n)).toInt = (dw f w n).2.toInt + (mnI (w - (dw f w n).2) ((dw f w n).1 n)).toInt := fb_addI (by omega) (by omega)
    obtain ⟨v1, v2⟩ := spf_val (y := n) (hp n).1 (hp n).2 hs.1 hs.2
    have hpy := hp y
    have hd : (pr y - spf pr sp n).toInt = (pr y).toInt - (spf pr sp n).toInt := fb_subI (by omega) (by omega)
    have hxm := mx_int 0 (pr y - spf pr sp n)
    have z0 : (0 : Int32).toInt = 0 := by decide
    have m0 : 0 ≤ (mnI (w - (dw f w n).2) ((dw f w n).1 n)).toInt := by omega
    have m1 : (mnI (w - (dw f w n).2) ((dw f w n).1 n)).toInt ≤ 180000 := by omega
    have m2 : (dw f w n).2.toInt + (mnI (w - (dw f w n).2) ((dw f w n).1 n)).toInt ≤ 180000 := by omega
    rw [dw_2, ha, dwa_1]
    generalize mnI (w - (dw f w n).2) ((dw f w n).1 n) = M at *
    have x0 : 0 ≤ (mxI 0 (pr y - spf pr sp n)).toInt := by omega
    have x1 : (mxI 0 (pr y - spf pr sp n)).toInt ≤ (pr y).toInt := by omega
    generalize mxI 0 (pr y - spf pr sp n) = X at *
    have p1 : 0 ≤ M.toInt * X.toInt := Int.mul_nonneg m0 x0
    have p2 : M.toInt * X.toInt ≤ M.toInt * (pr y).toInt := Int.mul_le_mul_of_nonneg_left x1 m0
    have p3 : M.toInt * (pr y).toInt ≤ 180000 * 1000 := Int.mul_le_mul m1 hpy.2 (by omega) (by decide)
    have p4 : (dw f w n).2.toInt * (pr y).toInt ≤ 180000 * 1000 := Int.mul_le_mul (by omega) hpy.2 (by omega) (by decide)
    have e1 : (M.toInt64 * X.toInt64).toInt = M.toInt * X.toInt := fb_ml (by omega) (by omega)
    have e2 : (dwa f w pr sp y n + M.toInt64 * X.toInt64).toInt = (dwa f w pr sp y n).toInt + M.toInt * X.toInt := by
      rw [fb_addL] <;> rw [e1] <;> omega
    rw [e2, Int.add_mul]
    omega
theorem lap_sum {f : Nat → Int32} {z : Int32} {k n : Nat} (hf : ∀ j, 0 ≤ (f j).toInt ∧ (f j).toInt ≤ 180000) (hz : 0 ≤ z.toInt ∧ z.toInt ≤ 4000000) : sD (lpF f k n) n + (lpZ f z k n).toInt = sD f n + z.toInt ∧ 0 ≤ (lpZ f z k n).toInt := by
  unfold lpF lpZ
  have z0 : (0 : Int32).toInt = 0 := by decide
  by_cases e : k + 1 ≤ n
  · rw [if_pos e, if_pos e]
    have h1 := hf (n - k - 1)
    have h2 : (z + f (n - k - 1)).toInt = z.toInt + (f (n - k - 1)).toInt := fb_addI (by omega) (by omega)
    rw [sD_upd n (by omega), h2]
    omega
  · rw [if_neg e, if_neg e]
    omega
