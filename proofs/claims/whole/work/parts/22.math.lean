/-! the closed years: both ways keep step -/
/-- what the class's rows are before the year n -/
def mCI (mK uK n : Nat) (t : TR) : Prop :=
  (∀ j, 0 ≤ (rMk t j).toInt ∧ (rMk t j).toInt ≤ 100000) ∧ (∀ j, 0 ≤ (rSu t j).toInt ∧ (rSu t j).toInt ≤ 180000) ∧
  (∀ j, n ≤ j → rMk t j = 0 ∧ rSu t j = 0) ∧ (∀ j, j + mK + 1 < n → rMk t j = 0) ∧ (∀ j, j + uK + 1 < n → rSu t j = 0)
def mRE (n : Nat) (t : TR) (r : TM) : Prop :=
  (∀ j, j < n → rMk t j = nMk r j ∧ rSu t j = nSu r j ∧ rSh t j = nSh r j ∧ rMu t j = nMu r j ∧ rCo t j = nCo r j ∧ rSr t j = nSr r j ∧ rDu t j = nDu r j) ∧ rMS t = nMS r
/-- the ranges that the argument tests give -/
def mRG (qy lp : Int32) (ex tk : Nat → Int32) : Prop :=
  (0 ≤ qy.toInt ∧ qy.toInt ≤ 100000) ∧ (0 ≤ lp.toInt ∧ lp.toInt ≤ 100) ∧ (∀ j, 0 ≤ (ex j).toInt ∧ (ex j).toInt ≤ 360) ∧ ∀ j, 0 ≤ (tk j).toInt ∧ (tk j).toInt ≤ 180000
theorem CI_0 {mK uK : Nat} {sh mu co sr : Nat → Int32} {du : Nat → Int64} : mCI mK uK 0 (st0 sh mu co sr du) :=
  ⟨fun _ => (by decide : 0 ≤ (0 : Int32).toInt ∧ (0 : Int32).toInt ≤ 100000), fun _ => (by decide : 0 ≤ (0 : Int32).toInt ∧ (0 : Int32).toInt ≤ 180000), fun _ _ => ⟨rfl, rfl⟩, fun j h => absurd h (by omega), fun j h => absurd h (by omega)⟩
theorem mRE_0 {sh mu co sr mk su sh2 mu2 co2 sr2 : Nat → Int32} {du du2 : Nat → Int64} : mRE 0 (st0 sh mu co sr du) (rt0 mk su sh2 mu2 co2 sr2 du2) :=
  ⟨fun j h => absurd h (by omega), rfl⟩
/-- behind what lapses before the year n -/
theorem CI_L {mK uK n : Nat} {t : TR} (h : mCI mK uK n t) : (∀ j, 0 ≤ (rMk (stL mK uK n t) j).toInt ∧ (rMk (stL mK uK n t) j).toInt ≤ 100000) ∧ (∀ j, 0 ≤ (rSu (stL mK uK n t) j).toInt ∧ (rSu (stL mK uK n t) j).toInt ≤ 180000) ∧
    (∀ j, n ≤ j → rMk (stL mK uK n t) j = 0 ∧ rSu (stL mK uK n t) j = 0) ∧ (∀ j, j + mK < n → rMk (stL mK uK n t) j = 0) ∧ (∀ j, j + uK < n → rSu (stL mK uK n t) j = 0) := by
  obtain ⟨h1, h2, h3, h4, h5⟩ := h
  have z0 : (0 : Int32).toInt = 0 := by decide
  refine ⟨fun j => ?_, fun j => ?_, fun j hj => ⟨?_, ?_⟩, fun j hj => ?_, fun j hj => ?_⟩
  · show 0 ≤ (lpF (rMk t) mK n j).toInt ∧ (lpF (rMk t) mK n j).toInt ≤ 100000
    rcases lpF_e (rMk t) mK n j with e | e <;> rw [e]
    · exact h1 j
    · omega
  · show 0 ≤ (lpF (rSu t) uK n j).toInt ∧ (lpF (rSu t) uK n j).toInt ≤ 180000
    rcases lpF_e (rSu t) uK n j with e | e <;> rw [e]
    · exact h2 j
    · omega
  · show lpF (rMk t) mK n j = 0
    rcases lpF_e (rMk t) mK n j with e | e <;> rw [e]
    exact (h3 j hj).1
  · show lpF (rSu t) uK n j = 0
    rcases lpF_e (rSu t) uK n j with e | e <;> rw [e]
    exact (h3 j hj).2
  · exact lpF_z h4 j hj
  · exact lpF_z h5 j hj
theorem mRE_L {mK uK n : Nat} {t : TR} {r : TM} (h : mCI mK uK n t) (hr : mRE n t r) : mRE n (stL mK uK n t) (rtL mK uK n r) ∧ nMk (rtL mK uK n r) n = 0 ∧ nSu (rtL mK uK n r) n = 0 ∧ nSh (rtL mK uK n r) n = 0 ∧ nMu (rtL mK uK n r) n = 0 ∧ nCo (rtL mK uK n r) n = 0 ∧ nSr (rtL mK uK n r) n = 0 := by
  obtain ⟨h1, h2, h3, h4, h5⟩ := h
  obtain ⟨q, qS⟩ := hr
  refine ⟨⟨fun j hj => ?_, ?_⟩, ?_, ?_, ux_s, ux_s, ux_s, ux_s⟩
  · obtain ⟨a1, a2, a3, a4, a5, a6, a7⟩ := q j hj
    refine ⟨lap_rel (fun i hi => (q i hi).1) h4 j hj, lap_rel (fun i hi => (q i hi).2.1) h5 j hj, ?_, ?_, ?_, ?_, a7⟩
    · show rSh t j = upd (nSh r) n 0 j; rw [ux_n (by omega)]; exact a3
    · show rMu t j = upd (nMu r) n 0 j; rw [ux_n (by omega)]; exact a4
    · show rCo t j = upd (nCo r) n 0 j; rw [ux_n (by omega)]; exact a5
    · show rSr t j = upd (nSr r) n 0 j; rw [ux_n (by omega)]; exact a6
  · show lpZ (rMk t) (rMS t) mK n = lsZ (upd (nMk r) n 0) (nMS r) mK n n
    rw [← qS]; exact lap_relZ (fun i hi => (q i hi).1) h4
  · show lsF (upd (nMk r) n 0) mK n n n = 0
    rw [lsF_at, if_neg (by omega), ux_s]
  · show lsF (upd (nSu r) n 0) uK n n n = 0
    rw [lsF_at, if_neg (by omega), ux_s]
theorem mx_rn {o qy : Int32} (h1 : 0 ≤ o.toInt) (h2 : 0 ≤ qy.toInt) : mxI 0 (o - qy) = if qy < o then o - qy else 0 := by
  have r1 := fb_rng o
  have r2 := fb_rng qy
  have hs : (o - qy).toInt = o.toInt - qy.toInt := fb_subI (by omega) (by omega)
  have z0 : (0 : Int32).toInt = 0 := by decide
  unfold mxI
  by_cases h : qy < o
  · have := Int32.lt_iff_toInt_lt.mp h
    rw [if_pos h, if_pos (Int32.lt_iff_toInt_lt.mpr (by omega))]
  · have := Int32.le_iff_toInt_le.mp (Int32.not_lt.mp h)
    rw [if_neg h, if_neg (Int32.not_lt.mpr (Int32.le_iff_toInt_le.mpr (by omega)))]
theorem st_step {qy lp sp : Int32} {pr ex tk : Nat → Int32} {mK uK n : Nat} {t : TR} {r : TM} (hg : mRG qy lp ex tk) (hm1 : 1 ≤ mK) (hu1 : 1 ≤ uK) (h : mCI mK uK n t) (hr : mRE n t r) : mCI mK uK (n + 1) (stp qy lp sp pr ex tk mK uK n t) ∧ mRE (n + 1) (stp qy lp sp pr ex tk mK uK n t) (rtp qy lp sp pr ex tk mK uK n r) := by
  obtain ⟨g1, g2, g3, g4⟩ := hg
  obtain ⟨c1, c2, c3, c4, c5⟩ := CI_L h
  obtain ⟨⟨q, qS⟩, z1, z2, z3, z4, z5, z6⟩ := mRE_L h hr
  obtain ⟨lv, l0, l1⟩ := lqf_val (qy := qy) (lp := lp) (ex := ex) (y := n) g1.1 g1.2 g2.1 g2.2 (g3 n).1 (g3 n).2
  have k0 := g4 n
  have z0 : (0 : Int32).toInt = 0 := by decide
  unfold stp rtp
  by_cases hc : tk n < lqf qy lp ex n
  · rw [if_pos hc, if_pos hc]
    generalize stL mK uK n t = T at *
    generalize rtL mK uK n r = R at *
    have hlt := Int32.lt_iff_toInt_lt.mp hc
    have hgap : (gpG qy lp ex tk n).toInt = (lqf qy lp ex n).toInt - (tk n).toInt := fb_subI (by omega) (by omega)
    obtain ⟨d1, d2, d3, d4⟩ := dw_ok (f := rSu T) (w := gpG qy lp ex tk n) (fun j => (c2 j).1) (by omega) n
    have hC : (gpC qy lp ex tk (rSu T) n).toInt = (dw (rSu T) (gpG qy lp ex tk n) n).2.toInt := rfl
    have hM : (gpM qy lp ex tk (rSu T) n).toInt = (gpG qy lp ex tk n).toInt - (gpC qy lp ex tk (rSu T) n).toInt := fb_subI (by omega) (by omega)
    obtain ⟨e1, e2⟩ := dw_cg (f := rSu T) (g := nSu R) (w := gpG qy lp ex tk n) n (fun j hj => (q j hj).2.1)
    have eC : gpC qy lp ex tk (rSu T) n = gpC qy lp ex tk (nSu R) n := e1
    have eM : gpM qy lp ex tk (rSu T) n = gpM qy lp ex tk (nSu R) n := by unfold gpM; rw [eC]
    have eD : gpD qy lp sp pr ex tk (rSu T) n = gpD qy lp sp pr ex tk (nSu R) n := by unfold gpD; rw [eM]
    refine ⟨⟨fun j => ?_, fun j => ?_, fun j hj => ⟨?_, ?_⟩, fun j hj => ?_, fun j hj => ?_⟩, fun j hj => ?_, qS⟩
    · show 0 ≤ (upd (rMk T) n (gpM qy lp ex tk (rSu T) n) j).toInt ∧ (upd (rMk T) n (gpM qy lp ex tk (rSu T) n) j).toInt ≤ 100000
      by_cases e : j = n
      · subst e; rw [ux_s]; omega
      · rw [ux_n e]; exact c1 j
    · show 0 ≤ ((dw (rSu T) (gpG qy lp ex tk n) n).1 j).toInt ∧ ((dw (rSu T) (gpG qy lp ex tk n) n).1 j).toInt ≤ 180000
      have := d3 j; have := c2 j; omega
    · show upd (rMk T) n (gpM qy lp ex tk (rSu T) n) j = 0
      rw [ux_n (by omega)]; exact (c3 j (by omega)).1
    · show (dw (rSu T) (gpG qy lp ex tk n) n).1 j = 0
      rw [d4 j (by omega)]; exact (c3 j (by omega)).2
    · show upd (rMk T) n (gpM qy lp ex tk (rSu T) n) j = 0
      rw [ux_n (by omega)]; exact c4 j (by omega)
    · show (dw (rSu T) (gpG qy lp ex tk n) n).1 j = 0
      have h7 := d3 j
      rw [c5 j (by omega)] at h7
      exact i32_eq (by omega)
    · show upd (rMk T) n (gpM qy lp ex tk (rSu T) n) j = upd (nMk R) n (gpM qy lp ex tk (nSu R) n) j ∧ (dw (rSu T) (gpG qy lp ex tk n) n).1 j = (dw (nSu R) (gpG qy lp ex tk n) n).1 j ∧ upd (rSh T) n (gpM qy lp ex tk (rSu T) n) j = upd (nSh R) n (gpM qy lp ex tk (nSu R) n) j ∧ upd (rMu T) n 0 j = nMu R j ∧ upd (rCo T) n (gpC qy lp ex tk (rSu T) n) j = upd (nCo R) n (gpC qy lp ex tk (nSu R) n) j ∧ upd (rSr T) n 0 j = nSr R j ∧ vp_updL (rDu T) n (gpD qy lp sp pr ex tk (rSu T) n) j = vp_updL (nDu R) n (gpD qy lp sp pr ex tk (nSu R) n) j
      rw [← eM, ← eC, ← eD]
      by_cases e : j = n
      · subst e
        simp only [ux_s, ul_s, z4, z6, true_and, and_true]
        rw [d4 _ (Nat.le_refl _), dw_hi (nSu R) _ _ (Nat.le_refl _), (c3 _ (Nat.le_refl _)).2, z2]
      · obtain ⟨a1, a2, a3, a4, a5, a6, a7⟩ := q j (by omega)
        simp only [ux_n e, ul_n e]
        exact ⟨a1, e2 j (by omega), a3, a4, a5, a6, a7⟩
  · rw [if_neg hc, if_neg hc]
    generalize stL mK uK n t = T at *
    generalize rtL mK uK n r = R at *
    have hge := Int32.le_iff_toInt_le.mp (Int32.not_lt.mp hc)
    have hab : (enA qy lp ex tk n).toInt = (tk n).toInt - (lqf qy lp ex n).toInt := fb_subI (by omega) (by omega)
    obtain ⟨d1, d2, d3, d4⟩ := dw_ok (f := rMk T) (w := enA qy lp ex tk n) (fun j => (c1 j).1) (by omega) n
    have hM : (enM qy lp ex tk (rMk T) n).toInt = (dw (rMk T) (enA qy lp ex tk n) n).2.toInt := rfl
    have hO : (enO qy lp ex tk (rMk T) n).toInt = (tk n).toInt - (enM qy lp ex tk (rMk T) n).toInt := fb_subI (by omega) (by omega)
    obtain ⟨e1, e2⟩ := dw_cg (f := rMk T) (g := nMk R) (w := enA qy lp ex tk n) n (fun j hj => (q j hj).1)
    have eM : enM qy lp ex tk (rMk T) n = enM qy lp ex tk (nMk R) n := e1
    have eO : enO qy lp ex tk (rMk T) n = enO qy lp ex tk (nMk R) n := by unfold enO; rw [eM]
    have eS : enS qy lp ex tk (rMk T) n = rnS qy lp ex tk (nMk R) n := by unfold enS rnS; rw [← eO]; exact mx_rn (by omega) g1.1
    have eD : enD qy lp sp pr ex tk (rMk T) n = enD qy lp sp pr ex tk (nMk R) n := by unfold enD; rw [eO, dwa_cg n (fun j hj => (q j hj).1)]
    have hS : 0 ≤ (enS qy lp ex tk (rMk T) n).toInt ∧ (enS qy lp ex tk (rMk T) n).toInt ≤ 180000 := by
      rw [eS]; unfold rnS; rw [← eO]
      by_cases w : qy < enO qy lp ex tk (rMk T) n
      · have := Int32.lt_iff_toInt_lt.mp w
        rw [if_pos w, fb_subI (by omega) (by omega)]; omega
      · rw [if_neg w]; omega
    refine ⟨⟨fun j => ?_, fun j => ?_, fun j hj => ⟨?_, ?_⟩, fun j hj => ?_, fun j hj => ?_⟩, fun j hj => ?_, qS⟩
    · show 0 ≤ ((dw (rMk T) (enA qy lp ex tk n) n).1 j).toInt ∧ ((dw (rMk T) (enA qy lp ex tk n) n).1 j).toInt ≤ 100000
      have := d3 j; have := c1 j; omega
    · show 0 ≤ (upd (rSu T) n (enS qy lp ex tk (rMk T) n) j).toInt ∧ (upd (rSu T) n (enS qy lp ex tk (rMk T) n) j).toInt ≤ 180000
      by_cases e : j = n
      · subst e; rw [ux_s]; exact hS
      · rw [ux_n e]; exact c2 j
    · show (dw (rMk T) (enA qy lp ex tk n) n).1 j = 0
      rw [d4 j (by omega)]; exact (c3 j (by omega)).1
    · show upd (rSu T) n (enS qy lp ex tk (rMk T) n) j = 0
      rw [ux_n (by omega)]; exact (c3 j (by omega)).2
    · show (dw (rMk T) (enA qy lp ex tk n) n).1 j = 0
      have h7 := d3 j
      rw [c4 j (by omega)] at h7
      exact i32_eq (by omega)
    · show upd (rSu T) n (enS qy lp ex tk (rMk T) n) j = 0
      rw [ux_n (by omega)]; exact c5 j (by omega)
    · show (dw (rMk T) (enA qy lp ex tk n) n).1 j = (dw (nMk R) (enA qy lp ex tk n) n).1 j ∧ upd (rSu T) n (enS qy lp ex tk (rMk T) n) j = upd (nSu R) n (rnS qy lp ex tk (nMk R) n) j ∧ upd (rSh T) n 0 j = nSh R j ∧ upd (rMu T) n (enM qy lp ex tk (rMk T) n) j = upd (nMu R) n (enM qy lp ex tk (nMk R) n) j ∧ upd (rCo T) n 0 j = nCo R j ∧ upd (rSr T) n (enS qy lp ex tk (rMk T) n) j = upd (nSr R) n (rnS qy lp ex tk (nMk R) n) j ∧ vp_updL (rDu T) n (enD qy lp sp pr ex tk (rMk T) n) j = vp_updL (nDu R) n (enD qy lp sp pr ex tk (nMk R) n) j
      rw [← eM, ← eS, ← eD]
      by_cases e : j = n
      · subst e
        simp only [ux_s, ul_s, z3, z5, true_and, and_true]
        rw [d4 _ (Nat.le_refl _), dw_hi (nMk R) _ _ (Nat.le_refl _), (c3 _ (Nat.le_refl _)).1, z1]
      · obtain ⟨a1, a2, a3, a4, a5, a6, a7⟩ := q j (by omega)
        simp only [ux_n e, ul_n e]
        exact ⟨e2 j (by omega), a2, a3, a4, a5, a6, a7⟩
theorem st_all {qy lp sp : Int32} {pr ex tk : Nat → Int32} {mK uK : Nat} {sh mu co sr mk su sh2 mu2 co2 sr2 : Nat → Int32} {du du2 : Nat → Int64} (hg : mRG qy lp ex tk) (hm1 : 1 ≤ mK) (hu1 : 1 ≤ uK) : ∀ n, mCI mK uK n (stC qy lp sp pr ex tk mK uK (st0 sh mu co sr du) n) ∧ mRE n (stC qy lp sp pr ex tk mK uK (st0 sh mu co sr du) n) (rtC qy lp sp pr ex tk mK uK (rt0 mk su sh2 mu2 co2 sr2 du2) n)
  | 0 => ⟨CI_0, mRE_0⟩
  | n + 1 => by
    obtain ⟨h1, h2⟩ := st_all (sp := sp) (pr := pr) (sh := sh) (mu := mu) (co := co) (sr := sr) (du := du) (mk := mk) (su := su) (sh2 := sh2) (mu2 := mu2) (co2 := co2) (sr2 := sr2) (du2 := du2) hg hm1 hu1 n
    exact st_step hg hm1 hu1 h1 h2
/-- what is taken in a year that isn't closed changes nothing -/
theorem stp_tk {qy lp sp : Int32} {pr ex tk tk2 : Nat → Int32} {mK uK y : Nat} {t : TR} (h : tk2 y = tk y) : stp qy lp sp pr ex tk2 mK uK y t = stp qy lp sp pr ex tk mK uK y t := by
  simp only [stp, stG, stE, gpD, gpM, gpC, gpG, enD, enS, enO, enM, enA, h]
theorem stC_tk {qy lp sp : Int32} {pr ex tk tk2 : Nat → Int32} {mK uK : Nat} {t : TR} : ∀ n, (∀ j, j < n → tk2 j = tk j) → stC qy lp sp pr ex tk2 mK uK t n = stC qy lp sp pr ex tk mK uK t n
  | 0, _ => rfl
  | n + 1, h => by
    show stp qy lp sp pr ex tk2 mK uK n _ = stp qy lp sp pr ex tk mK uK n _
    rw [stC_tk n (fun j hj => h j (by omega)), stp_tk (h n (by omega))]
/-- sums of amounts -/
theorem smL_cg {f g : Nat → Int64} : ∀ n, (∀ j, j < n → f j = g j) → smL f n = smL g n
  | 0, _ => rfl
  | n + 1, h => by rw [smL, smL, smL_cg n (fun j hj => h j (by omega)), h n (by omega)]
theorem smL_sub (f g : Nat → Int64) : ∀ n, smL (fun j => f j - g j) n = smL f n - smL g n
  | 0 => by rw [smL, smL, smL]; decide
  | n + 1 => by rw [smL, smL, smL, smL_sub f g n]; grind
theorem itA_mul (x q : Int32) : ∀ n, itA x q n = x + q * nI n
  | 0 => by rw [itA, nI_0]; grind
  | n + 1 => by rw [itA, itA_mul x q n, nI_succ]; grind
theorem tk_eq {x q : Int32} {a b : Nat} (h : a ≤ b) : x + q * (nI b - nI a + 1) = itA x q (b + 1 - a) := by
  rw [itA_mul, show nI b - nI a + 1 = nI (b + 1 - a) by rw [pk_sub h, nI_1, show b - a + 1 = b + 1 - a by omega]]
