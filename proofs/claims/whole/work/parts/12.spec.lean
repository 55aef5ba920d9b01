/-! the reference's own numbers -/
def bz (c : Prop) [Decidable c] : Int32 := if c then 1 else 0
theorem bz_n (c : Prop) [Decidable c] : narrow .boolean (.int (bz c)) = .int (bz c) := by unfold bz; split <;> rfl
theorem bz_t {c : Prop} [Decidable c] (h : c) : bz c = 1 := if_pos h
theorem bz_f {c : Prop} [Decidable c] (h : ¬ c) : bz c = 0 := if_neg h
theorem i32_ss (a b c : Int32) : a - b - c = a - (b + c) := by grind
theorem i32_sss (a b : Int32) : a - (a - b) = b := by grind
theorem i32_s0 (a : Int32) : a - 0 = a := by grind
theorem mn_if1 {x y : Int32} (h : ¬ x ≤ y) : y = mnI x y := by unfold mnI; rw [if_pos (Int32.not_le.mp h)]
theorem mn_if2 {x y : Int32} (h : x ≤ y) : x = mnI x y := by unfold mnI; rw [if_neg (Int32.not_lt.mpr h)]
theorem mx_if1 {d : Int32} {t : Int64} (h : ¬ d ≤ 0) : t * d.toInt64 = t * (mxI 0 d).toInt64 := by unfold mxI; rw [if_pos (Int32.not_le.mp h)]
theorem mx_if2 {d : Int32} {t : Int64} (h : d ≤ 0) : (0 : Int64) = t * (mxI 0 d).toInt64 := by
  unfold mxI; rw [if_neg (Int32.not_lt.mpr h)]
  show (0 : Int64) = t * 0
  grind
/-- make-up gas and surplus that lapse, n years gone through -/
def lsF (f : Nat → Int32) (k y : Nat) : Nat → (Nat → Int32)
  | 0 => f
  | n + 1 => if n + k < y then upd (lsF f k y n) n 0 else lsF f k y n
def lsZ (f : Nat → Int32) (z : Int32) (k y : Nat) : Nat → Int32
  | 0 => z
  | n + 1 => if n + k < y then lsZ f z k y n + lsF f k y n n else lsZ f z k y n
theorem lsF_t {f : Nat → Int32} {k y n : Nat} (h : n + k < y) : lsF f k y (n + 1) = upd (lsF f k y n) n 0 := if_pos h
theorem lsF_f {f : Nat → Int32} {k y n : Nat} (h : ¬ n + k < y) : lsF f k y (n + 1) = lsF f k y n := if_neg h
theorem lsZ_t {f : Nat → Int32} {z : Int32} {k y n : Nat} (h : n + k < y) : lsZ f z k y (n + 1) = lsZ f z k y n + lsF f k y n n := if_pos h
theorem lsZ_f {f : Nat → Int32} {z : Int32} {k y n : Nat} (h : ¬ n + k < y) : lsZ f z k y (n + 1) = lsZ f z k y n := if_neg h
/-- a year with enough, the reference's way: surplus, what is due -/
def rnS (qy lp : Int32) (ex tk mk : Nat → Int32) (y : Nat) : Int32 := if qy < enO qy lp ex tk mk y then enO qy lp ex tk mk y - qy else 0
/-- mk, mS, su, sh, mu, co, sr, du -/
abbrev TM : Type := (Nat → Int32) × Int32 × (Nat → Int32) × (Nat → Int32) × (Nat → Int32) × (Nat → Int32) × (Nat → Int32) × (Nat → Int64)
abbrev nMk (t : TM) : Nat → Int32 := t.1
abbrev nMS (t : TM) : Int32 := t.2.1
abbrev nSu (t : TM) : Nat → Int32 := t.2.2.1
abbrev nSh (t : TM) : Nat → Int32 := t.2.2.2.1
abbrev nMu (t : TM) : Nat → Int32 := t.2.2.2.2.1
abbrev nCo (t : TM) : Nat → Int32 := t.2.2.2.2.2.1
abbrev nSr (t : TM) : Nat → Int32 := t.2.2.2.2.2.2.1
abbrev nDu (t : TM) : Nat → Int64 := t.2.2.2.2.2.2.2
/-- the year's rows emptied, then what lapses -/
def rtL (mK uK y : Nat) (t : TM) : TM := (lsF (upd (nMk t) y 0) mK y y, lsZ (upd (nMk t) y 0) (nMS t) mK y y, lsF (upd (nSu t) y 0) uK y y, upd (nSh t) y 0, upd (nMu t) y 0, upd (nCo t) y 0, upd (nSr t) y 0, nDu t)
def rtG (qy lp sp : Int32) (pr ex tk : Nat → Int32) (y : Nat) (t : TM) : TM :=
  (upd (nMk t) y (gpM qy lp ex tk (nSu t) y), nMS t, (dw (nSu t) (gpG qy lp ex tk y) y).1, upd (nSh t) y (gpM qy lp ex tk (nSu t) y), nMu t, upd (nCo t) y (gpC qy lp ex tk (nSu t) y), nSr t, vp_updL (nDu t) y (gpD qy lp sp pr ex tk (nSu t) y))
def rtE (qy lp sp : Int32) (pr ex tk : Nat → Int32) (y : Nat) (t : TM) : TM :=
  ((dw (nMk t) (enA qy lp ex tk y) y).1, nMS t, upd (nSu t) y (rnS qy lp ex tk (nMk t) y), nSh t, upd (nMu t) y (enM qy lp ex tk (nMk t) y), nCo t, upd (nSr t) y (rnS qy lp ex tk (nMk t) y), vp_updL (nDu t) y (enD qy lp sp pr ex tk (nMk t) y))
def rtp (qy lp sp : Int32) (pr ex tk : Nat → Int32) (mK uK y : Nat) (t : TM) : TM := if tk y < lqf qy lp ex y then rtG qy lp sp pr ex tk y (rtL mK uK y t) else rtE qy lp sp pr ex tk y (rtL mK uK y t)
def rtC (qy lp sp : Int32) (pr ex tk : Nat → Int32) (mK uK : Nat) (t : TM) : Nat → TM
  | 0 => t
  | n + 1 => rtp qy lp sp pr ex tk mK uK n (rtC qy lp sp pr ex tk mK uK t n)
abbrev rt0 (mk su sh mu co sr : Nat → Int32) (du : Nat → Int64) : TM := (mk, 0, su, sh, mu, co, sr, du)
/-- q added n times -/
def itA (x q : Int32) : Nat → Int32
  | 0 => x
  | n + 1 => itA x q n + q
theorem itA_u (tk : Nat → Int32) (c : Nat) (x y : Int32) : upd (upd tk c x) c (upd tk c x c + y) = upd tk c (x + y) := by
  funext j
  unfold upd
  by_cases h : j = c
  · simp [h]
  · simp [h]
theorem upd_self (tk : Nat → Int32) (c : Nat) : upd tk c (tk c) = tk := by
  funext j
  unfold upd
  by_cases h : j = c
  · simp [h]
  · simp [h]
/-- whether some of n days from a on would have too much: 1 or 0 -/
def tmF (dy : Nat → Int32) (q : Int32) (a : Nat) : Nat → Int32
  | 0 => 0
  | n + 1 => if ¬ tmF dy q a n = 0 then 1 else if dy (a + n) + q ≤ 500 then 0 else 1
theorem tmF_n (dy : Nat → Int32) (q : Int32) (a n : Nat) : narrow .boolean (.int (tmF dy q a n)) = .int (tmF dy q a n) := by
  cases n with
  | zero => unfold tmF; rfl
  | succ n => unfold tmF; split <;> (try split) <;> rfl
theorem tmF_01 (dy : Nat → Int32) (q : Int32) (a n : Nat) : tmF dy q a n = 0 ∨ tmF dy q a n = 1 := by
  cases n with
  | zero => exact Or.inl rfl
  | succ n => unfold tmF; split <;> (try split) <;> simp
theorem tmF_z (dy : Nat → Int32) (q : Int32) (a : Nat) : ∀ n, tmF dy q a n = 0 ↔ ∀ d, a ≤ d → d < a + n → dy d + q ≤ 500
  | 0 => ⟨fun _ d h1 h2 => absurd h2 (by omega), fun _ => rfl⟩
  | n + 1 => by
    have ih := tmF_z dy q a n
    unfold tmF
    constructor
    · intro h d h1 h2
      by_cases h0 : tmF dy q a n = 0
      · rw [if_neg (fun z => z h0)] at h
        by_cases h3 : dy (a + n) + q ≤ 500
        · rcases Nat.lt_or_ge d (a + n) with h4 | h4
          · exact ih.mp h0 d h1 h4
          · rw [show d = a + n by omega]; exact h3
        · rw [if_neg h3] at h; exact absurd h (by decide)
      · rw [if_pos h0] at h; exact absurd h (by decide)
    · intro h
      rw [if_neg (fun z => z (ih.mpr fun d h1 h2 => h d h1 (by omega))), if_pos (h (a + n) (by omega) (by omega))]
theorem tmF_ok {dy : Nat → Int32} {q : Int32} {a b : Nat} (hab : a ≤ b + 1) (h : ∀ d, a ≤ d → d < b + 1 → dy d + q ≤ 500) : tmF dy q a (b + 1 - a) = 0 := (tmF_z dy q a _).mpr fun d h1 h2 => h d h1 (by omega)
theorem tmF_bad {dy : Nat → Int32} {q : Int32} {a b : Nat} (hab : a ≤ b + 1) (h : ¬ ∀ d, a ≤ d → d < b + 1 → dy d + q ≤ 500) : tmF dy q a (b + 1 - a) = 1 := (tmF_01 dy q a _).elim (fun z => absurd (fun d h1 h2 => (tmF_z dy q a _).mp z d h1 (by omega)) h) id
theorem nI_ne20 {c : Nat} (h : c < 20) : ¬ nI c = 20 := fun z => absurd ((nI_eq (a := c) (b := 20) (by omega) (by decide)).mp z) (by omega)
theorem nI_lt20 {c : Nat} (h : c ≤ 20) (n : ¬ nI c = 20) : c < 20 := Nat.lt_of_le_of_ne h fun z => n (by rw [z]; rfl)
