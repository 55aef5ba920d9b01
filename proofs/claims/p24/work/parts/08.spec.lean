/-! the class's own numbers -/
abbrev inR (v lo hi : Int32) : Prop := ¬ v < lo ∧ v ≤ hi
/-- the least quantity of the year y -/
def lqf (qy lp : Int32) (ex : Nat → Int32) (y : Nat) : Int32 := ((qy.toInt64 * lp.toInt64 * (360 - ex y).toInt64) / 36000).toInt32
/-- the shortfall price of the year y -/
def spf (pr : Nat → Int32) (sp : Int32) (y : Nat) : Int32 := pr y * sp / 100
/-- w drawn from the first n places of a row: what is left, what was drawn -/
def dw (f : Nat → Int32) (w : Int32) : Nat → (Nat → Int32) × Int32
  | 0 => (f, 0)
  | n + 1 => (upd (dw f w n).1 n ((dw f w n).1 n - mnI (w - (dw f w n).2) ((dw f w n).1 n)), (dw f w n).2 + mnI (w - (dw f w n).2) ((dw f w n).1 n))
theorem dw_0 (f : Nat → Int32) (w : Int32) : dw f w 0 = (f, 0) := rfl
theorem dw_1 (f : Nat → Int32) (w : Int32) (n : Nat) : (dw f w (n + 1)).1 = upd (dw f w n).1 n ((dw f w n).1 n - mnI (w - (dw f w n).2) ((dw f w n).1 n)) := rfl
theorem dw_2 (f : Nat → Int32) (w : Int32) (n : Nat) : (dw f w (n + 1)).2 = (dw f w n).2 + mnI (w - (dw f w n).2) ((dw f w n).1 n) := rfl
/-- what make-up gas adds to what is paid, out of the first n places -/
def dwa (f : Nat → Int32) (w : Int32) (pr : Nat → Int32) (sp : Int32) (y : Nat) : Nat → Int64
  | 0 => 0
  | n + 1 => dwa f w pr sp y n + (mnI (w - (dw f w n).2) ((dw f w n).1 n)).toInt64 * (mxI 0 (pr y - spf pr sp n)).toInt64
theorem dwa_1 (f : Nat → Int32) (w : Int32) (pr : Nat → Int32) (sp : Int32) (y n : Nat) : dwa f w pr sp y (n + 1) = dwa f w pr sp y n + (mnI (w - (dw f w n).2) ((dw f w n).1 n)).toInt64 * (mxI 0 (pr y - spf pr sp n)).toInt64 := rfl
/-- a year with a gap: the gap, what surplus covers, the shortfall, what is due -/
def gpG (qy lp : Int32) (ex tk : Nat → Int32) (y : Nat) : Int32 := lqf qy lp ex y - tk y
def gpC (qy lp : Int32) (ex tk su : Nat → Int32) (y : Nat) : Int32 := (dw su (gpG qy lp ex tk y) y).2
def gpM (qy lp : Int32) (ex tk su : Nat → Int32) (y : Nat) : Int32 := gpG qy lp ex tk y - gpC qy lp ex tk su y
def gpD (qy lp sp : Int32) (pr ex tk su : Nat → Int32) (y : Nat) : Int64 := (tk y).toInt64 * (pr y).toInt64 + (gpM qy lp ex tk su y).toInt64 * (spf pr sp y).toInt64
/-- a year with enough: above the least, make-up gas, the ordinary rest, surplus, what is due -/
def enA (qy lp : Int32) (ex tk : Nat → Int32) (y : Nat) : Int32 := tk y - lqf qy lp ex y
def enM (qy lp : Int32) (ex tk mk : Nat → Int32) (y : Nat) : Int32 := (dw mk (enA qy lp ex tk y) y).2
def enO (qy lp : Int32) (ex tk mk : Nat → Int32) (y : Nat) : Int32 := tk y - enM qy lp ex tk mk y
def enS (qy lp : Int32) (ex tk mk : Nat → Int32) (y : Nat) : Int32 := mxI 0 (enO qy lp ex tk mk y - qy)
def enD (qy lp sp : Int32) (pr ex tk mk : Nat → Int32) (y : Nat) : Int64 := (enO qy lp ex tk mk y).toInt64 * (pr y).toInt64 + dwa mk (enA qy lp ex tk y) pr sp y y
/-- what is found of the closed years: mk, mS, su, uS, sh, mu, co, sr, du -/
abbrev TR : Type := (Nat → Int32) × Int32 × (Nat → Int32) × Int32 × (Nat → Int32) × (Nat → Int32) × (Nat → Int32) × (Nat → Int32) × (Nat → Int64)
abbrev rMk (t : TR) : Nat → Int32 := t.1
abbrev rMS (t : TR) : Int32 := t.2.1
abbrev rSu (t : TR) : Nat → Int32 := t.2.2.1
abbrev rUS (t : TR) : Int32 := t.2.2.2.1
abbrev rSh (t : TR) : Nat → Int32 := t.2.2.2.2.1
abbrev rMu (t : TR) : Nat → Int32 := t.2.2.2.2.2.1
abbrev rCo (t : TR) : Nat → Int32 := t.2.2.2.2.2.2.1
abbrev rSr (t : TR) : Nat → Int32 := t.2.2.2.2.2.2.2.1
abbrev rDu (t : TR) : Nat → Int64 := t.2.2.2.2.2.2.2.2
def stG (qy lp sp : Int32) (pr ex tk : Nat → Int32) (y : Nat) (t : TR) : TR :=
  (upd (rMk t) y (gpM qy lp ex tk (rSu t) y), rMS t, (dw (rSu t) (gpG qy lp ex tk y) y).1, rUS t, upd (rSh t) y (gpM qy lp ex tk (rSu t) y), upd (rMu t) y 0, upd (rCo t) y (gpC qy lp ex tk (rSu t) y), upd (rSr t) y 0, vp_updL (rDu t) y (gpD qy lp sp pr ex tk (rSu t) y))
def stE (qy lp sp : Int32) (pr ex tk : Nat → Int32) (y : Nat) (t : TR) : TR :=
  ((dw (rMk t) (enA qy lp ex tk y) y).1, rMS t, upd (rSu t) y (enS qy lp ex tk (rMk t) y), rUS t, upd (rSh t) y 0, upd (rMu t) y (enM qy lp ex tk (rMk t) y), upd (rCo t) y 0, upd (rSr t) y (enS qy lp ex tk (rMk t) y), vp_updL (rDu t) y (enD qy lp sp pr ex tk (rMk t) y))
def stL (mK uK y : Nat) (t : TR) : TR := (lpF (rMk t) mK y, lpZ (rMk t) (rMS t) mK y, lpF (rSu t) uK y, lpZ (rSu t) (rUS t) uK y, rSh t, rMu t, rCo t, rSr t, rDu t)
def stp (qy lp sp : Int32) (pr ex tk : Nat → Int32) (mK uK y : Nat) (t : TR) : TR := if tk y < lqf qy lp ex y then stG qy lp sp pr ex tk y (stL mK uK y t) else stE qy lp sp pr ex tk y (stL mK uK y t)
def stC (qy lp sp : Int32) (pr ex tk : Nat → Int32) (mK uK : Nat) (t : TR) : Nat → TR
  | 0 => t
  | n + 1 => stp qy lp sp pr ex tk mK uK n (stC qy lp sp pr ex tk mK uK t n)
/-- the rows before the first year -/
abbrev st0 (sh mu co sr : Nat → Int32) (du : Nat → Int64) : TR := (fun _ => 0, 0, fun _ => 0, 0, sh, mu, co, sr, du)
def smL (f : Nat → Int64) : Nat → Int64
  | 0 => 0
  | n + 1 => smL f n + f n
def smI (f : Nat → Int32) (a : Nat) : Nat → Int32
  | 0 => 0
  | n + 1 => smI f a n + f (a + n)
/-- q more on the days from a on, below i -/
def adF (f : Nat → Int32) (a i : Nat) (q : Int32) : Nat → Int32 := fun j => if a ≤ j ∧ j < i then f j + q else f j
theorem adF_0 (f : Nat → Int32) (a : Nat) (q : Int32) : adF f a a q = f := by
  funext j; unfold adF; rw [if_neg (by omega)]
theorem adF_at (f : Nat → Int32) (a i : Nat) (q : Int32) : adF f a i q i = f i := by
  unfold adF; rw [if_neg (by omega)]
theorem adF_s (f : Nat → Int32) {a i : Nat} (q : Int32) (h : a ≤ i) : upd (adF f a i q) i (adF f a i q i + q) = adF f a (i + 1) q := by
  funext j
  rw [adF_at]
  unfold upd adF
  by_cases e : j = i
  · subst e; rw [if_pos rfl, if_pos (by omega)]
  · rw [if_neg e]
    by_cases h2 : a ≤ j ∧ j < i
    · rw [if_pos h2, if_pos (by omega)]
    · rw [if_neg h2, if_neg (by omega)]
/-- the price v from the year y on, below i -/
def rvF (f : Nat → Int32) (y i : Nat) (v : Int32) : Nat → Int32 := fun j => if y ≤ j ∧ j < i then v else f j
theorem rvF_0 (f : Nat → Int32) (y : Nat) (v : Int32) : rvF f y y v = f := by
  funext j; unfold rvF; rw [if_neg (by omega)]
theorem rvF_s (f : Nat → Int32) {y i : Nat} (v : Int32) (h : y ≤ i) : upd (rvF f y i v) i v = rvF f y (i + 1) v := by
  funext j
  unfold upd rvF
  by_cases e : j = i
  · subst e; rw [if_pos rfl, if_pos (by omega)]
  · rw [if_neg e]
    by_cases h2 : y ≤ j ∧ j < i
    · rw [if_pos h2, if_pos (by omega)]
    · rw [if_neg h2, if_neg (by omega)]
theorem inR_nat {y hi : Int32} {n : Nat} (hn : hi.toInt = n) (h : inR y 0 hi) : ∃ j : Nat, j ≤ n ∧ y = nI j := nI_of2 hn h.1 h.2
theorem inR_nI {j : Nat} {hi : Int32} {n : Nat} (hn : hi = nI n) (h : j ≤ n) (hs : n < 2 ^ 31) : inR (nI j) 0 hi := ⟨nI_pos (by omega), by rw [hn]; exact nI_le h hs⟩
