/-! the numbers: the class's way and the reference's way come to the same -/
theorem fb_rng (x : Int32) : -2147483648 ≤ x.toInt ∧ x.toInt < 2147483648 := by
  have h1 := Int32.le_toInt x
  have h2 := Int32.toInt_lt x
  omega
theorem fb_bmod {z : Int} (h1 : -2147483648 ≤ z) (h2 : z < 2147483648) : z.bmod (2 ^ 32) = z := by
  rw [Int.bmod_eq_of_le (by omega) (by omega)]
theorem fb_addI {x y : Int32} (h1 : -2147483648 ≤ x.toInt + y.toInt) (h2 : x.toInt + y.toInt < 2147483648) : (x + y).toInt = x.toInt + y.toInt := by
  rw [Int32.toInt_add, fb_bmod h1 h2]
theorem fb_subI {x y : Int32} (h1 : -2147483648 ≤ x.toInt - y.toInt) (h2 : x.toInt - y.toInt < 2147483648) : (x - y).toInt = x.toInt - y.toInt := by
  rw [Int32.toInt_sub, fb_bmod h1 h2]
theorem fb_rngL (x : Int64) : -9223372036854775808 ≤ x.toInt ∧ x.toInt < 9223372036854775808 := by
  have h1 := Int64.le_toInt x
  have h2 := Int64.toInt_lt x
  omega
theorem fb_bmodL {z : Int} (h1 : -9223372036854775808 ≤ z) (h2 : z < 9223372036854775808) : z.bmod (2 ^ 64) = z := by
  rw [Int.bmod_eq_of_le (by omega) (by omega)]
theorem fb_mulL {x y : Int64} (h1 : -9223372036854775808 ≤ x.toInt * y.toInt) (h2 : x.toInt * y.toInt < 9223372036854775808) : (x * y).toInt = x.toInt * y.toInt := by
  rw [Int64.toInt_mul, fb_bmodL h1 h2]
theorem ux_s {f : Nat → Int32} {k : Nat} {x : Int32} : upd f k x k = x := pk_us
theorem ux_n {f : Nat → Int32} {k j : Nat} {x : Int32} (h : j ≠ k) : upd f k x j = f j := pk_un h
theorem ul_s {f : Nat → Int64} {k : Nat} {x : Int64} : vp_updL f k x k = x := pk_uLs
theorem ul_n {f : Nat → Int64} {k j : Nat} {x : Int64} (h : j ≠ k) : vp_updL f k x j = f j := pk_uLn h
theorem i32_eq {a b : Int32} (h : a.toInt = b.toInt) : a = b := Int32.toInt_inj.1 h
theorem mn_int (x y : Int32) : (mnI x y).toInt = min x.toInt y.toInt := by
  unfold mnI
  by_cases h : y < x
  · rw [if_pos h]
    have := Int32.lt_iff_toInt_lt.mp h
    omega
  · rw [if_neg h]
    have := Int32.le_iff_toInt_le.mp (Int32.not_lt.mp h)
    omega
/-- what a year's least quantity is -/
theorem lqf_val {qy lp : Int32} {ex : Nat → Int32} {y : Nat} (h1 : 0 ≤ qy.toInt) (h2 : qy.toInt ≤ 100000) (h3 : 0 ≤ lp.toInt) (h4 : lp.toInt ≤ 100) (h5 : 0 ≤ (ex y).toInt) (h6 : (ex y).toInt ≤ 360) : (lqf qy lp ex y).toInt = qy.toInt * lp.toInt * (360 - (ex y).toInt) / 36000 ∧ 0 ≤ (lqf qy lp ex y).toInt ∧ (lqf qy lp ex y).toInt ≤ 100000 := by
  have e0 : (360 : Int32).toInt = 360 := by decide
  have a1 : (360 - ex y).toInt = 360 - (ex y).toInt := by rw [fb_subI (by omega) (by omega), e0]
  have b1 : 0 ≤ qy.toInt * lp.toInt := Int.mul_nonneg h1 h3
  have b2 : qy.toInt * lp.toInt ≤ 100000 * 100 := Int.mul_le_mul h2 h4 h3 (by decide)
  have a2 : (qy.toInt64 * lp.toInt64).toInt = qy.toInt * lp.toInt := by
    rw [fb_mulL] <;> rw [Int32.toInt_toInt64, Int32.toInt_toInt64] <;> omega
  generalize hP : qy.toInt * lp.toInt = P at *
  generalize hE : 360 - (ex y).toInt = E at *
  have b3 : 0 ≤ P * E := Int.mul_nonneg b1 (by omega)
  have b4 : P * E ≤ 100000 * 100 * 360 := Int.mul_le_mul b2 (by omega) (by omega) (by decide)
  have a3 : (qy.toInt64 * lp.toInt64 * (360 - ex y).toInt64).toInt = P * E := by
    rw [fb_mulL] <;> rw [Int32.toInt_toInt64, a1, a2] <;> omega
  have e1 : (36000 : Int64).toInt = 36000 := by decide
  have a4 : (lqf qy lp ex y).toInt = P * E / 36000 := by
    unfold lqf
    rw [Int64.toInt_toInt32, Int64.toInt_div, a3, e1, Int.tdiv_eq_ediv_of_nonneg b3]
    have c1 : 0 ≤ P * E / 36000 := Int.ediv_nonneg b3 (by decide)
    have c2 : P * E / 36000 ≤ 100000 := by omega
    rw [fb_bmodL (by omega) (by omega), fb_bmod (by omega) (by omega)]
  refine ⟨a4, ?_, ?_⟩ <;> rw [a4] <;> omega
/-- drawing: what is drawn, what is left -/
theorem dw_ok {f : Nat → Int32} {w : Int32} (hf : ∀ j, 0 ≤ (f j).toInt) (hw : 0 ≤ w.toInt) : ∀ n, 0 ≤ (dw f w n).2.toInt ∧ (dw f w n).2.toInt ≤ w.toInt ∧ (∀ j, 0 ≤ ((dw f w n).1 j).toInt ∧ ((dw f w n).1 j).toInt ≤ (f j).toInt) ∧ ∀ j, n ≤ j → (dw f w n).1 j = f j
  | 0 => ⟨by rw [dw_0]; show 0 ≤ (0 : Int32).toInt; decide, by rw [dw_0]; exact hw, fun j => ⟨hf j, Int.le_refl _⟩, fun j _ => rfl⟩
  | n + 1 => by
    obtain ⟨h1, h2, h3, h4⟩ := dw_ok hf hw n
    have hx := h3 n
    have hr := fb_rng w
    have hs : (w - (dw f w n).2).toInt = w.toInt - (dw f w n).2.toInt := fb_subI (by omega) (by omega)
    have hm := mn_int (w - (dw f w n).2) ((dw f w n).1 n)
    have hrx := fb_rng ((dw f w n).1 n)
    have ha : ((dw f w n).2 + mnI (w - (dw f w n).2) ((dw f w n).1 n)).toInt = (dw f w n).2.toInt + (mnI (w - (dw f w n).2) ((dw f w n).1 n)).toInt := fb_addI (by omega) (by omega)
    have hb : ((dw f w n).1 n - mnI (w - (dw f w n).2) ((dw f w n).1 n)).toInt = ((dw f w n).1 n).toInt - (mnI (w - (dw f w n).2) ((dw f w n).1 n)).toInt := fb_subI (by omega) (by omega)
    refine ⟨?_, ?_, fun j => ?_, fun j hj => ?_⟩
    · rw [dw_2, ha]; omega
    · rw [dw_2, ha]; omega
    · rw [dw_1]
      by_cases e : j = n
      · subst e; rw [ux_s, hb]; omega
      · rw [ux_n e]; exact h3 j
    · rw [dw_1, ux_n (by omega)]; exact h4 j (by omega)
theorem dw_hi (f : Nat → Int32) (w : Int32) : ∀ n {j : Nat}, n ≤ j → (dw f w n).1 j = f j
  | 0, _, _ => rfl
  | n + 1, j, h => by rw [dw_1, ux_n (by omega)]; exact dw_hi f w n (by omega)
/-- drawing looks at the first places alone -/
theorem dw_cg {f g : Nat → Int32} {w : Int32} : ∀ n, (∀ j, j < n → f j = g j) → (dw f w n).2 = (dw g w n).2 ∧ ∀ j, j < n → (dw f w n).1 j = (dw g w n).1 j
  | 0, _ => ⟨rfl, fun j h => absurd h (by omega)⟩
  | n + 1, h => by
    obtain ⟨h1, h2⟩ := dw_cg (w := w) n (fun j hj => h j (by omega))
    have e : (dw f w n).1 n = (dw g w n).1 n := by rw [dw_hi f w n (Nat.le_refl n), dw_hi g w n (Nat.le_refl n)]; exact h n (by omega)
    refine ⟨by rw [dw_2, dw_2, h1, e], fun j hj => ?_⟩
    rw [dw_1, dw_1]
    by_cases q : j = n
    · subst q; rw [ux_s, ux_s, h1, e]
    · rw [ux_n q, ux_n q]; exact h2 j (by omega)
theorem dwa_cg {f g : Nat → Int32} {w : Int32} {pr : Nat → Int32} {sp : Int32} {y : Nat} : ∀ n, (∀ j, j < n → f j = g j) → dwa f w pr sp y n = dwa g w pr sp y n
  | 0, _ => rfl
  | n + 1, h => by
    obtain ⟨h1, -⟩ := dw_cg (w := w) n (fun j hj => h j (by omega))
    have e : (dw f w n).1 n = (dw g w n).1 n := by rw [dw_hi f w n (Nat.le_refl n), dw_hi g w n (Nat.le_refl n)]; exact h n (by omega)
    rw [dwa_1, dwa_1, dwa_cg n (fun j hj => h j (by omega)), h1, e]
/-- what lapses: one place, or all that are old enough -/
theorem lpF_z {f : Nat → Int32} {k y : Nat} (hz : ∀ j, j + k + 1 < y → f j = 0) : ∀ j, j + k < y → lpF f k y j = 0 := by
  intro j hj
  unfold lpF
  rw [if_pos (by omega)]
  by_cases e : j = y - k - 1
  · subst e; exact ux_s
  · rw [ux_n e]; exact hz j (by omega)
theorem lpF_o {f : Nat → Int32} {k y j : Nat} (h : ¬ j + k < y) : lpF f k y j = f j := by
  unfold lpF
  by_cases e : k + 1 ≤ y
  · rw [if_pos e, ux_n (by omega)]
  · rw [if_neg e]
theorem lpF_e (f : Nat → Int32) (k y j : Nat) : lpF f k y j = f j ∨ lpF f k y j = 0 := by
  unfold lpF
  by_cases e : k + 1 ≤ y
  · rw [if_pos e]
    by_cases q : j = y - k - 1
    · subst q; exact Or.inr ux_s
    · exact Or.inl (ux_n q)
  · rw [if_neg e]; exact Or.inl rfl
theorem lsF_at {f : Nat → Int32} {k y : Nat} : ∀ n j, lsF f k y n j = if j < n ∧ j + k < y then 0 else f j
  | 0, j => by rw [if_neg (by omega)]; rfl
  | n + 1, j => by
    by_cases h : n + k < y
    · rw [lsF_t h]
      by_cases e : j = n
      · subst e; rw [ux_s, if_pos (by omega)]
      · rw [ux_n e, lsF_at n j]
        by_cases q : j < n ∧ j + k < y
        · rw [if_pos q, if_pos (by omega)]
        · rw [if_neg q, if_neg (by omega)]
    · rw [lsF_f h, lsF_at n j]
      by_cases q : j < n ∧ j + k < y
      · rw [if_pos q, if_pos (by omega)]
      · rw [if_neg q, if_neg (by omega)]
theorem lap_rel {f g : Nat → Int32} {k y : Nat} (hfg : ∀ j, j < y → f j = g j) (hz : ∀ j, j + k + 1 < y → f j = 0) : ∀ j, j < y → lpF f k y j = lsF (upd g y 0) k y y j := by
  intro j hj
  rw [lsF_at]
  by_cases h : j + k < y
  · rw [if_pos ⟨hj, h⟩]; exact lpF_z hz j h
  · rw [if_neg (fun z => h z.2), lpF_o h, ux_n (by omega)]; exact hfg j hj
theorem lsZ_v {f : Nat → Int32} {z : Int32} {k y : Nat} (hz : ∀ j, j + k + 1 < y → f j = 0) : ∀ n, lsZ f z k y n = if k + 1 ≤ y ∧ y - k - 1 < n then z + f (y - k - 1) else z
  | 0 => by rw [if_neg (by omega)]; rfl
  | n + 1 => by
    have e : lsF f k y n n = f n := by rw [lsF_at, if_neg (by omega)]
    by_cases h : n + k < y
    · rw [lsZ_t h, e, lsZ_v hz n]
      by_cases q : n = y - k - 1
      · rw [if_neg (by omega), if_pos (by omega), q]
      · rw [if_neg (by omega), if_neg (by omega), hz n (by omega)]; exact Int32.add_zero z
    · rw [lsZ_f h, lsZ_v hz n]
      by_cases q : k + 1 ≤ y ∧ y - k - 1 < n
      · rw [if_pos q, if_pos (by omega)]
      · rw [if_neg q, if_neg (by omega)]
theorem lap_relZ {f g : Nat → Int32} {z : Int32} {k y : Nat} (hfg : ∀ j, j < y → f j = g j) (hz : ∀ j, j + k + 1 < y → f j = 0) : lpZ f z k y = lsZ (upd g y 0) z k y y := by
  rw [lsZ_v (fun j hj => by rw [ux_n (by omega), ← hfg j (by omega)]; exact hz j hj)]
  unfold lpZ
  by_cases h : k + 1 ≤ y
  · rw [if_pos h, if_pos ⟨h, by omega⟩, ux_n (by omega), hfg _ (by omega)]
  · rw [if_neg h, if_neg (fun q => h q.1)]
