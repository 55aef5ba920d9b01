/-! the closed years -/
/-- what the class's rows are before the year n -/
def mCI (mK uK n : Nat) (t : TR) : Prop :=
  (∀ j, 0 ≤ (rMk t j).toInt ∧ (rMk t j).toInt ≤ 100000) ∧ (∀ j, 0 ≤ (rSu t j).toInt ∧ (rSu t j).toInt ≤ 180000) ∧
  (∀ j, n ≤ j → rMk t j = 0 ∧ rSu t j = 0) ∧ (∀ j, j + mK + 1 < n → rMk t j = 0) ∧ (∀ j, j + uK + 1 < n → rSu t j = 0)
/-- the ranges that the argument tests give -/
def mRG (qy lp : Int32) (ex tk : Nat → Int32) : Prop :=
  (0 ≤ qy.toInt ∧ qy.toInt ≤ 100000) ∧ (0 ≤ lp.toInt ∧ lp.toInt ≤ 100) ∧ (∀ j, 0 ≤ (ex j).toInt ∧ (ex j).toInt ≤ 360) ∧ ∀ j, 0 ≤ (tk j).toInt ∧ (tk j).toInt ≤ 180000
theorem CI_0 {mK uK : Nat} {sh mu co sr : Nat → Int32} {du : Nat → Int64} : mCI mK uK 0 (st0 sh mu co sr du) :=
  ⟨fun _ => (by decide : 0 ≤ (0 : Int32).toInt ∧ (0 : Int32).toInt ≤ 100000), fun _ => (by decide : 0 ≤ (0 : Int32).toInt ∧ (0 : Int32).toInt ≤ 180000), fun _ _ => ⟨rfl, rfl⟩, fun j h => absurd h (by omega), fun j h => absurd h (by omega)⟩
/-- behind what lapses before the year n -/
theorem CI_L {mK uK n : Nat} {t : TR} (h : mCI mK uK n t) : (∀ j, 0 ≤ (rMk (stL mK uK n t) j).toInt ∧ (rMk (stL mK uK n t) j).toInt ≤ 100000) ∧ (∀ j, 0 ≤ (rSu (stL mK uK n t) j).toInt ∧ (rSu (stL mK uK n t) j).toInt ≤ 180000) ∧
    (∀ j, n ≤ j → rMk (stL mK uK n t) j = 0 ∧ rSu (stL mK uK n t) j = 0) ∧ (∀ j, j + mK < n → rMk (stL mK uK n t) j = 0) ∧ (∀ j, j + uK < n → rSu (stL mK uK n t) j = 0) := by
  obtain ⟨h1, h2, h3, h4, h5⟩ := h
  have z0 : (0 : Int32).toInt = 0 := by decide
  refine ⟨fun j => ?_, fun j => ?_, fun j hj => ⟨?_, ?_⟩, fun j hj => ?_, fun j hj => ?_⟩
  · show 0 ≤ (lpF (rMk t) mK n j).toInt ∧ (lpF (rMk t) mK n j).toInt ≤ 100000
    rcases lpF_e (rMk t) mK n j with e | e <;> rw [e]
    · exact h1 j
    · omega
  · show 0 ≤ (lpF (rSu t) uK n j).toInt ∧ (lpF (rSu t) uK n j).toInt ≤ 180000
    rcases lpF_e (rSu t) uK n j with e | e <;> rw [e]
    · exact h2 j
    · omega
  · show lpF (rMk t) mK n j = 0
    rcases lpF_e (rMk t) mK n j with e | e <;> rw [e]
    exact (h3 j hj).1
  · show lpF (rSu t) uK n j = 0
    rcases lpF_e (rSu t) uK n j with e | e <;> rw [e]
    exact (h3 j hj).2
  · exact lpF_z h4 j hj
  · exact lpF_z h5 j hj
/-- prices, and the share of them that is paid for a shortfall -/
def mPR (sp : Int32) (pr : Nat → Int32) : Prop := (0 ≤ sp.toInt ∧ sp.toInt ≤ 100) ∧ ∀ j, 1 ≤ (pr j).toInt ∧ (pr j).toInt ≤ 1000
/-- what holds of a closed year -/
def yOK (qy lp sp : Int32) (pr ex tk : Nat → Int32) (t : TR) (j : Nat) : Prop :=
  (0 ≤ (rMk t j).toInt ∧ (rMk t j).toInt ≤ (rSh t j).toInt ∧ (rSh t j).toInt ≤ 100000 ∧ 0 ≤ (rSu t j).toInt ∧ (rSu t j).toInt ≤ (rSr t j).toInt ∧ (rSr t j).toInt ≤ 180000 ∧ 0 ≤ (rMu t j).toInt ∧ (rMu t j).toInt ≤ 180000 ∧ 0 ≤ (rCo t j).toInt ∧ (rCo t j).toInt ≤ 100000) ∧
  (tk j < lqf qy lp ex j → (rCo t j).toInt + (rSh t j).toInt = (lqf qy lp ex j).toInt - (tk j).toInt ∧ rMu t j = 0 ∧ rSr t j = 0 ∧ rDu t j = (tk j).toInt64 * (pr j).toInt64 + (rSh t j).toInt64 * (spf pr sp j).toInt64) ∧
  (¬ tk j < lqf qy lp ex j → rCo t j = 0 ∧ rSh t j = 0 ∧ (rMu t j).toInt ≤ (tk j).toInt - (lqf qy lp ex j).toInt ∧ (rSr t j).toInt = max 0 ((tk j).toInt - (rMu t j).toInt - qy.toInt) ∧ ((tk j).toInt - (rMu t j).toInt) * (pr j).toInt ≤ (rDu t j).toInt ∧ (rDu t j).toInt ≤ (tk j).toInt * (pr j).toInt)
/-- what came is used, left or lapsed -/
def ySM (n : Nat) (t : TR) : Prop := sD (rSh t) n = sD (rMu t) n + sD (rMk t) n + (rMS t).toInt ∧ 0 ≤ (rMS t).toInt ∧ sD (rSr t) n = sD (rCo t) n + sD (rSu t) n + (rUS t).toInt ∧ 0 ≤ (rUS t).toInt
section YS
variable {qy lp sp : Int32} {pr ex tk : Nat → Int32} {mK uK n : Nat} {t : TR}
theorem ySM_b (hn : n ≤ 20) (hy : ∀ j, j < n → yOK qy lp sp pr ex tk t j) (hs : ySM n t) : (rMS t).toInt ≤ 4000000 ∧ (rUS t).toInt ≤ 4000000 ∧ sD (rSh t) n ≤ 4000000 ∧ sD (rSr t) n ≤ 4000000 := by
  obtain ⟨h1, h2, h3, h4⟩ := hs
  have a1 := sD_b (f := rSh t) n (fun j hj => by have := (hy j hj).1; omega)
  have a2 := sD_b (f := rMu t) n (fun j hj => by have := (hy j hj).1; omega)
  have a3 := sD_b (f := rMk t) n (fun j hj => by have := (hy j hj).1; omega)
  have a4 := sD_b (f := rSr t) n (fun j hj => by have := (hy j hj).1; omega)
  have a5 := sD_b (f := rCo t) n (fun j hj => by have := (hy j hj).1; omega)
  have a6 := sD_b (f := rSu t) n (fun j hj => by have := (hy j hj).1; omega)
  omega
theorem y_lapA {j : Nat} (hy : yOK qy lp sp pr ex tk t j) : yOK qy lp sp pr ex tk (stL mK uK n t) j := by
  obtain ⟨⟨h1, h2, h3, h4, h5, h6⟩, hG, hE⟩ := hy
  have z0 : (0 : Int32).toInt = 0 := by decide
  refine ⟨?_, hG, hE⟩
  show 0 ≤ (lpF (rMk t) mK n j).toInt ∧ (lpF (rMk t) mK n j).toInt ≤ (rSh t j).toInt ∧ (rSh t j).toInt ≤ 100000 ∧ 0 ≤ (lpF (rSu t) uK n j).toInt ∧ (lpF (rSu t) uK n j).toInt ≤ (rSr t j).toInt ∧ (rSr t j).toInt ≤ 180000 ∧ 0 ≤ (rMu t j).toInt ∧ (rMu t j).toInt ≤ 180000 ∧ 0 ≤ (rCo t j).toInt ∧ (rCo t j).toInt ≤ 100000
  rcases lpF_e (rMk t) mK n j with e | e <;> rcases lpF_e (rSu t) uK n j with e2 | e2 <;> rw [e, e2] <;> omega
theorem y_lapS (hn : n ≤ 20) (h : mCI mK uK n t) (hy : ∀ j, j < n → yOK qy lp sp pr ex tk t j) (hs : ySM n t) : ySM n (stL mK uK n t) := by
  have hb := ySM_b hn hy hs
  obtain ⟨h1, h2, h3, h4⟩ := hs
  obtain ⟨c1, c2, -⟩ := h
  have a1 := lap_sum (f := rMk t) (z := rMS t) (k := mK) (n := n) (fun j => by have := c1 j; omega) (by omega)
  have a2 := lap_sum (f := rSu t) (z := rUS t) (k := uK) (n := n) c2 (by omega)
  show sD (rSh t) n = sD (rMu t) n + sD (lpF (rMk t) mK n) n + (lpZ (rMk t) (rMS t) mK n).toInt ∧ 0 ≤ (lpZ (rMk t) (rMS t) mK n).toInt ∧ sD (rSr t) n = sD (rCo t) n + sD (lpF (rSu t) uK n) n + (lpZ (rSu t) (rUS t) uK n).toInt ∧ 0 ≤ (lpZ (rSu t) (rUS t) uK n).toInt
  omega
theorem sD_ux {f : Nat → Int32} {x : Int32} : sD (upd f n x) (n + 1) = sD f n + x.toInt := by
  rw [sD, ux_s, sD_cg n (g := f) (fun j hj => ux_n (by omega))]
theorem y_step (hn : n < 20) (hg : mRG qy lp ex tk) (hp : mPR sp pr) (h : mCI mK uK n t) (hy : ∀ j, j < n → yOK qy lp sp pr ex tk t j) (hs : ySM n t) : mCI mK uK (n + 1) (stp qy lp sp pr ex tk mK uK n t) ∧ (∀ j, j < n + 1 → yOK qy lp sp pr ex tk (stp qy lp sp pr ex tk mK uK n t) j) ∧ ySM (n + 1) (stp qy lp sp pr ex tk mK uK n t) := by
  obtain ⟨g1, g2, g3, g4⟩ := hg
  obtain ⟨p1, p2⟩ := hp
  have hyL : ∀ j, j < n → yOK qy lp sp pr ex tk (stL mK uK n t) j := fun j hj => y_lapA (hy j hj)
  have hsL := y_lapS (Nat.le_of_lt hn) h hy hs
  obtain ⟨c1, c2, c3, c4, c5⟩ := CI_L h
  obtain ⟨lv, l0, l1⟩ := lqf_val (qy := qy) (lp := lp) (ex := ex) (y := n) g1.1 g1.2 g2.1 g2.2 (g3 n).1 (g3 n).2
  have k0 := g4 n
  have z0 : (0 : Int32).toInt = 0 := by decide
  unfold stp
  by_cases hc : tk n < lqf qy lp ex n
  · rw [if_pos hc]
    generalize stL mK uK n t = T at *
    have hlt := Int32.lt_iff_toInt_lt.mp hc
    have hgap : (gpG qy lp ex tk n).toInt = (lqf qy lp ex n).toInt - (tk n).toInt := fb_subI (by omega) (by omega)
    obtain ⟨d1, d2, d3, d4⟩ := dw_ok (f := rSu T) (w := gpG qy lp ex tk n) (fun j => (c2 j).1) (by omega) n
    have ds := dw_sum (f := rSu T) (w := gpG qy lp ex tk n) (fun j => (c2 j).1) (by omega) n n (Nat.le_refl n)
    have hC : (gpC qy lp ex tk (rSu T) n).toInt = (dw (rSu T) (gpG qy lp ex tk n) n).2.toInt := rfl
    have hM : (gpM qy lp ex tk (rSu T) n).toInt = (gpG qy lp ex tk n).toInt - (gpC qy lp ex tk (rSu T) n).toInt := fb_subI (by omega) (by omega)
    have hDu : gpD qy lp sp pr ex tk (rSu T) n = (tk n).toInt64 * (pr n).toInt64 + (gpM qy lp ex tk (rSu T) n).toInt64 * (spf pr sp n).toInt64 := rfl
    obtain ⟨U, hU⟩ : ∃ U, U = stG qy lp sp pr ex tk n T := ⟨_, rfl⟩
    rw [← hU]
    have uMk : rMk U = upd (rMk T) n (gpM qy lp ex tk (rSu T) n) := by rw [hU]; rfl
    have uMS : rMS U = rMS T := by rw [hU]; rfl
    have uSu : rSu U = (dw (rSu T) (gpG qy lp ex tk n) n).1 := by rw [hU]; rfl
    have uUS : rUS U = rUS T := by rw [hU]; rfl
    have uSh : rSh U = upd (rSh T) n (gpM qy lp ex tk (rSu T) n) := by rw [hU]; rfl
    have uMu : rMu U = upd (rMu T) n 0 := by rw [hU]; rfl
    have uCo : rCo U = upd (rCo T) n (gpC qy lp ex tk (rSu T) n) := by rw [hU]; rfl
    have uSr : rSr U = upd (rSr T) n 0 := by rw [hU]; rfl
    have uDu : rDu U = vp_updL (rDu T) n (gpD qy lp sp pr ex tk (rSu T) n) := by rw [hU]; rfl
    clear hU
    generalize gpM qy lp ex tk (rSu T) n = M at *
    generalize gpC qy lp ex tk (rSu T) n = C at *
    generalize gpD qy lp sp pr ex tk (rSu T) n = Du at *
    generalize gpG qy lp ex tk n = G at *
    have dn : (dw (rSu T) G n).1 n = 0 := by rw [d4 n (Nat.le_refl n)]; exact (c3 n (Nat.le_refl n)).2
    refine ⟨⟨fun j => ?_, fun j => ?_, fun j hj => ⟨?_, ?_⟩, fun j hj => ?_, fun j hj => ?_⟩, fun j hj => ?_, ?_⟩
    · rw [uMk]
      by_cases e : j = n
      · subst e; rw [ux_s]; omega
      · rw [ux_n e]; exact c1 j
    · rw [uSu]
      have := d3 j; have := c2 j; omega
    · rw [uMk, ux_n (by omega)]; exact (c3 j (by omega)).1
    · rw [uSu, d4 j (by omega)]; exact (c3 j (by omega)).2
    · rw [uMk, ux_n (by omega)]; exact c4 j (by omega)
    · rw [uSu]
      have h7 := d3 j
      rw [c5 j (by omega)] at h7
      exact i32_eq (by omega)
    · unfold yOK
      rw [uMk, uSu, uSh, uMu, uCo, uSr, uDu]
      by_cases e : j = n
      · subst e
        rw [ux_s, ux_s, ux_s, ux_s, ux_s, ul_s, dn]
        exact ⟨by omega, fun _ => ⟨by omega, rfl, rfl, hDu⟩, fun z => absurd hc z⟩
      · obtain ⟨q1, q2, q3⟩ := hyL j (by omega)
        rw [ux_n e, ux_n e, ux_n e, ux_n e, ux_n e, ul_n e]
        have := d3 j
        exact ⟨by omega, q2, q3⟩
    · unfold ySM at hsL ⊢
      rw [uMk, uSu, uSh, uMu, uCo, uSr, uMS, uUS, sD_ux, sD_ux, sD_ux, sD_ux, sD_ux, sD, dn]
      omega
  · rw [if_neg hc]
    generalize stL mK uK n t = T at *
    have hge := Int32.le_iff_toInt_le.mp (Int32.not_lt.mp hc)
    have hab : (enA qy lp ex tk n).toInt = (tk n).toInt - (lqf qy lp ex n).toInt := fb_subI (by omega) (by omega)
    obtain ⟨d1, d2, d3, d4⟩ := dw_ok (f := rMk T) (w := enA qy lp ex tk n) (fun j => (c1 j).1) (by omega) n
    have ds := dw_sum (f := rMk T) (w := enA qy lp ex tk n) (fun j => (c1 j).1) (by omega) n n (Nat.le_refl n)
    have da := dwa_b (f := rMk T) (w := enA qy lp ex tk n) (pr := pr) (sp := sp) (y := n) c1 (by omega) p2 p1 n
    have hM : (enM qy lp ex tk (rMk T) n).toInt = (dw (rMk T) (enA qy lp ex tk n) n).2.toInt := rfl
    have hO : (enO qy lp ex tk (rMk T) n).toInt = (tk n).toInt - (enM qy lp ex tk (rMk T) n).toInt := fb_subI (by omega) (by omega)
    have hoq : (enO qy lp ex tk (rMk T) n - qy).toInt = (enO qy lp ex tk (rMk T) n).toInt - qy.toInt := fb_subI (by omega) (by omega)
    have hS : (enS qy lp ex tk (rMk T) n).toInt = max 0 ((enO qy lp ex tk (rMk T) n).toInt - qy.toInt) := by
      show (mxI 0 (enO qy lp ex tk (rMk T) n - qy)).toInt = _
      rw [mx_int, hoq, z0]
    have hpn := p2 n
    have m1 := mul_rng (a := (enO qy lp ex tk (rMk T) n).toInt) (b := (pr n).toInt) (A := 180000) (B := 1000) (by omega) (by omega) (by omega) hpn.2
    have m2 := mul_rng (a := (dw (rMk T) (enA qy lp ex tk n) n).2.toInt) (b := (pr n).toInt) (A := 180000) (B := 1000) d1 (by omega) (by omega) hpn.2
    have e1 : ((enO qy lp ex tk (rMk T) n).toInt64 * (pr n).toInt64).toInt = (enO qy lp ex tk (rMk T) n).toInt * (pr n).toInt := fb_ml (by omega) (by omega)
    have hDu : (enD qy lp sp pr ex tk (rMk T) n).toInt = (enO qy lp ex tk (rMk T) n).toInt * (pr n).toInt + (dwa (rMk T) (enA qy lp ex tk n) pr sp n n).toInt := by
      show ((enO qy lp ex tk (rMk T) n).toInt64 * (pr n).toInt64 + dwa (rMk T) (enA qy lp ex tk n) pr sp n n).toInt = _
      rw [fb_addL] <;> rw [e1] <;> omega
    have hDl : ((tk n).toInt - (enM qy lp ex tk (rMk T) n).toInt) * (pr n).toInt ≤ (enD qy lp sp pr ex tk (rMk T) n).toInt := by rw [hDu, ← hO]; omega
    have hDh : (enD qy lp sp pr ex tk (rMk T) n).toInt ≤ (tk n).toInt * (pr n).toInt := by
      have e2 : (tk n).toInt * (pr n).toInt = (enO qy lp ex tk (rMk T) n).toInt * (pr n).toInt + (dw (rMk T) (enA qy lp ex tk n) n).2.toInt * (pr n).toInt := by
        rw [← Int.add_mul, hO, hM]; congr 1; omega
      rw [hDu, e2]; omega
    obtain ⟨U, hU⟩ : ∃ U, U = stE qy lp sp pr ex tk n T := ⟨_, rfl⟩
    rw [← hU]
    have uMk : rMk U = (dw (rMk T) (enA qy lp ex tk n) n).1 := by rw [hU]; rfl
    have uMS : rMS U = rMS T := by rw [hU]; rfl
    have uSu : rSu U = upd (rSu T) n (enS qy lp ex tk (rMk T) n) := by rw [hU]; rfl
    have uUS : rUS U = rUS T := by rw [hU]; rfl
    have uSh : rSh U = upd (rSh T) n 0 := by rw [hU]; rfl
    have uMu : rMu U = upd (rMu T) n (enM qy lp ex tk (rMk T) n) := by rw [hU]; rfl
    have uCo : rCo U = upd (rCo T) n 0 := by rw [hU]; rfl
    have uSr : rSr U = upd (rSr T) n (enS qy lp ex tk (rMk T) n) := by rw [hU]; rfl
    have uDu : rDu U = vp_updL (rDu T) n (enD qy lp sp pr ex tk (rMk T) n) := by rw [hU]; rfl
    clear hU
    generalize enM qy lp ex tk (rMk T) n = M at *
    generalize enS qy lp ex tk (rMk T) n = X at *
    generalize enD qy lp sp pr ex tk (rMk T) n = Du at *
    generalize enA qy lp ex tk n = G at *
    have dn : (dw (rMk T) G n).1 n = 0 := by rw [d4 n (Nat.le_refl n)]; exact (c3 n (Nat.le_refl n)).1
    refine ⟨⟨fun j => ?_, fun j => ?_, fun j hj => ⟨?_, ?_⟩, fun j hj => ?_, fun j hj => ?_⟩, fun j hj => ?_, ?_⟩
    · rw [uMk]
      have := d3 j; have := c1 j; omega
    · rw [uSu]
      by_cases e : j = n
      · subst e; rw [ux_s]; omega
      · rw [ux_n e]; exact c2 j
    · rw [uMk, d4 j (by omega)]; exact (c3 j (by omega)).1
    · rw [uSu, ux_n (by omega)]; exact (c3 j (by omega)).2
    · rw [uMk]
      have h7 := d3 j
      rw [c4 j (by omega)] at h7
      exact i32_eq (by omega)
    · rw [uSu, ux_n (by omega)]; exact c5 j (by omega)
    · unfold yOK
      rw [uMk, uSu, uSh, uMu, uCo, uSr, uDu]
      by_cases e : j = n
      · subst e
        rw [ux_s, ux_s, ux_s, ux_s, ux_s, ul_s, dn]
        exact ⟨by omega, fun z => absurd z hc, fun _ => ⟨rfl, rfl, by omega, by omega, hDl, hDh⟩⟩
      · obtain ⟨q1, q2, q3⟩ := hyL j (by omega)
        rw [ux_n e, ux_n e, ux_n e, ux_n e, ux_n e, ul_n e]
        have := d3 j
        exact ⟨by omega, q2, q3⟩
    · unfold ySM at hsL ⊢
      rw [uMk, uSu, uSh, uMu, uCo, uSr, uMS, uUS, sD_ux, sD_ux, sD_ux, sD_ux, sD_ux, sD, dn]
      omega
end YS
theorem y_all {qy lp sp : Int32} {pr ex tk : Nat → Int32} {mK uK : Nat} {sh mu co sr : Nat → Int32} {du : Nat → Int64} (hg : mRG qy lp ex tk) (hp : mPR sp pr) : ∀ n, n ≤ 20 → mCI mK uK n (stC qy lp sp pr ex tk mK uK (st0 sh mu co sr du) n) ∧ (∀ j, j < n → yOK qy lp sp pr ex tk (stC qy lp sp pr ex tk mK uK (st0 sh mu co sr du) n) j) ∧ ySM n (stC qy lp sp pr ex tk mK uK (st0 sh mu co sr du) n)
  | 0, _ => ⟨CI_0, fun j h => absurd h (by omega), by
      have z0 : (0 : Int32).toInt = 0 := by decide
      show (0 : Int) = 0 + 0 + (0 : Int32).toInt ∧ 0 ≤ (0 : Int32).toInt ∧ (0 : Int) = 0 + 0 + (0 : Int32).toInt ∧ 0 ≤ (0 : Int32).toInt
      omega⟩
  | n + 1, hn => by
    obtain ⟨h1, h2, h3⟩ := y_all (sp := sp) (pr := pr) (sh := sh) (mu := mu) (co := co) (sr := sr) (du := du) (mK := mK) (uK := uK) hg hp n (by omega)
    exact y_step (by omega) hg hp h1 h2 h3
/-- the closed years don't look at the rows that they write -/
theorem stp_rows {qy lp sp : Int32} {pr ex tk : Nat → Int32} {mK uK n : Nat} {t u : TR} (h1 : rMk t = rMk u) (h3 : rSu t = rSu u) (h5 : ∀ j, j < n → rDu t j = rDu u j) : rMk (stp qy lp sp pr ex tk mK uK n t) = rMk (stp qy lp sp pr ex tk mK uK n u) ∧ rSu (stp qy lp sp pr ex tk mK uK n t) = rSu (stp qy lp sp pr ex tk mK uK n u) ∧ ∀ j, j < n + 1 → rDu (stp qy lp sp pr ex tk mK uK n t) j = rDu (stp qy lp sp pr ex tk mK uK n u) j := by
  have a1 : rMk (stL mK uK n t) = rMk (stL mK uK n u) := by show lpF (rMk t) mK n = lpF (rMk u) mK n; rw [h1]
  have a3 : rSu (stL mK uK n t) = rSu (stL mK uK n u) := by show lpF (rSu t) uK n = lpF (rSu u) uK n; rw [h3]
  have a5 : ∀ j, j < n → rDu (stL mK uK n t) j = rDu (stL mK uK n u) j := h5
  unfold stp
  by_cases hc : tk n < lqf qy lp ex n
  · rw [if_pos hc, if_pos hc]
    generalize stL mK uK n t = T at *
    generalize stL mK uK n u = V at *
    refine ⟨?_, ?_, fun j hj => ?_⟩
    · show upd (rMk T) n (gpM qy lp ex tk (rSu T) n) = upd (rMk V) n (gpM qy lp ex tk (rSu V) n); rw [a1, a3]
    · show (dw (rSu T) (gpG qy lp ex tk n) n).1 = (dw (rSu V) (gpG qy lp ex tk n) n).1; rw [a3]
    · show vp_updL (rDu T) n (gpD qy lp sp pr ex tk (rSu T) n) j = vp_updL (rDu V) n (gpD qy lp sp pr ex tk (rSu V) n) j
      rw [a3]
      by_cases e : j = n
      · subst e; rw [ul_s, ul_s]
      · rw [ul_n e, ul_n e]; exact a5 j (by omega)
  · rw [if_neg hc, if_neg hc]
    generalize stL mK uK n t = T at *
    generalize stL mK uK n u = V at *
    refine ⟨?_, ?_, fun j hj => ?_⟩
    · show (dw (rMk T) (enA qy lp ex tk n) n).1 = (dw (rMk V) (enA qy lp ex tk n) n).1; rw [a1]
    · show upd (rSu T) n (enS qy lp ex tk (rMk T) n) = upd (rSu V) n (enS qy lp ex tk (rMk V) n); rw [a1, a3]
    · show vp_updL (rDu T) n (enD qy lp sp pr ex tk (rMk T) n) j = vp_updL (rDu V) n (enD qy lp sp pr ex tk (rMk V) n) j
      rw [a1]
      by_cases e : j = n
      · subst e; rw [ul_s, ul_s]
      · rw [ul_n e, ul_n e]; exact a5 j (by omega)
theorem stC_rows {qy lp sp : Int32} {pr ex tk : Nat → Int32} {mK uK : Nat} {sh mu co sr sh2 mu2 co2 sr2 : Nat → Int32} {du du2 : Nat → Int64} : ∀ n, rMk (stC qy lp sp pr ex tk mK uK (st0 sh mu co sr du) n) = rMk (stC qy lp sp pr ex tk mK uK (st0 sh2 mu2 co2 sr2 du2) n) ∧ rSu (stC qy lp sp pr ex tk mK uK (st0 sh mu co sr du) n) = rSu (stC qy lp sp pr ex tk mK uK (st0 sh2 mu2 co2 sr2 du2) n) ∧ ∀ j, j < n → rDu (stC qy lp sp pr ex tk mK uK (st0 sh mu co sr du) n) j = rDu (stC qy lp sp pr ex tk mK uK (st0 sh2 mu2 co2 sr2 du2) n) j
  | 0 => ⟨rfl, rfl, fun j h => absurd h (by omega)⟩
  | n + 1 => by
    obtain ⟨h1, h3, h5⟩ := stC_rows (qy := qy) (lp := lp) (sp := sp) (pr := pr) (ex := ex) (tk := tk) (mK := mK) (uK := uK) (sh := sh) (mu := mu) (co := co) (sr := sr) (sh2 := sh2) (mu2 := mu2) (co2 := co2) (sr2 := sr2) (du := du) (du2 := du2) n
    exact stp_rows h1 h3 h5
/-- what is taken in a year that isn't closed changes nothing -/
theorem stp_tk {qy lp sp : Int32} {pr ex tk tk2 : Nat → Int32} {mK uK y : Nat} {t : TR} (h : tk2 y = tk y) : stp qy lp sp pr ex tk2 mK uK y t = stp qy lp sp pr ex tk mK uK y t := by
  simp only [stp, stG, stE, gpD, gpM, gpC, gpG, enD, enS, enO, enM, enA, h]
theorem stC_tk {qy lp sp : Int32} {pr ex tk tk2 : Nat → Int32} {mK uK : Nat} {t : TR} : ∀ n, (∀ j, j < n → tk2 j = tk j) → stC qy lp sp pr ex tk2 mK uK t n = stC qy lp sp pr ex tk mK uK t n
  | 0, _ => rfl
  | n + 1, h => by
    show stp qy lp sp pr ex tk2 mK uK n _ = stp qy lp sp pr ex tk mK uK n _
    rw [stC_tk n (fun j hj => h j (by omega)), stp_tk (h n (by omega))]
/-- sums of amounts -/
theorem smL_cg {f g : Nat → Int64} : ∀ n, (∀ j, j < n → f j = g j) → smL f n = smL g n
  | 0, _ => rfl
  | n + 1, h => by rw [smL, smL, smL_cg n (fun j hj => h j (by omega)), h n (by omega)]
theorem stp_du {qy lp sp : Int32} {pr ex tk : Nat → Int32} {mK uK n j : Nat} {t : TR} (h : j < n) : rDu (stp qy lp sp pr ex tk mK uK n t) j = rDu t j := by
  unfold stp
  by_cases hc : tk n < lqf qy lp ex n
  · rw [if_pos hc]
    show vp_updL (rDu t) n _ j = rDu t j
    exact ul_n (by omega)
  · rw [if_neg hc]
    show vp_updL (rDu t) n _ j = rDu t j
    exact ul_n (by omega)
