/-! what holds between two steps of the law -/
/-- q added n times -/
def itA (x q : Int32) : Nat → Int32
  | 0 => x
  | n + 1 => itA x q n + q
theorem itA_mul (x q : Int32) : ∀ n, itA x q n = x + q * nI n
  | 0 => by rw [itA, nI_0]; grind
  | n + 1 => by rw [itA, itA_mul x q n, nI_succ]; grind
theorem tk_eq {x q : Int32} {a b : Nat} (h : a ≤ b) : x + q * (nI b - nI a + 1) = itA x q (b + 1 - a) := by
  rw [itA_mul, show nI b - nI a + 1 = nI (b + 1 - a) by rw [pk_sub h, nI_1, show b - a + 1 = b + 1 - a by omega]]
theorem i32_le {x : Int32} {n : Int} {k : Int32} (hk : k.toInt = n) : x ≤ k ↔ x.toInt ≤ n := by rw [Int32.le_iff_toInt_le, hk]
theorem inR_int {v lo hi : Int32} (h : inR v lo hi) : lo.toInt ≤ v.toInt ∧ v.toInt ≤ hi.toInt := ⟨Int32.le_iff_toInt_le.mp (Int32.not_lt.mp h.1), Int32.le_iff_toInt_le.mp h.2⟩
/-- what is taken, day by day and in the year that goes on -/
def mTK (c : Nat) (dy tk : Nat → Int32) : Prop := (∀ d, 0 ≤ (dy d).toInt ∧ (dy d).toInt ≤ 500) ∧ (tk c).toInt = sD dy 360 ∧ ∀ j, c < j → tk j = 0
theorem ad_room {x q : Int32} (hx : 0 ≤ x.toInt ∧ x.toInt ≤ 500) (hq : 1 ≤ q.toInt ∧ q.toInt ≤ 500) : (x + q).toInt = x.toInt + q.toInt := fb_addI (by omega) (by omega)
theorem adF_rng {dy : Nat → Int32} {q : Int32} {a i : Nat} (h : ∀ d, 0 ≤ (dy d).toInt ∧ (dy d).toInt ≤ 500) (hq : 1 ≤ q.toInt ∧ q.toInt ≤ 500) (room : ∀ d, a ≤ d → d < i → dy d + q ≤ 500) : ∀ d, 0 ≤ (adF dy a i q d).toInt ∧ (adF dy a i q d).toInt ≤ 500 := by
  intro d
  have e5 : (500 : Int32).toInt = 500 := by decide
  unfold adF
  by_cases e : a ≤ d ∧ d < i
  · rw [if_pos e]
    have h1 := (i32_le e5).mp (room d e.1 e.2)
    have h2 := ad_room (h d) hq
    have h3 := h d
    omega
  · rw [if_neg e]; exact h d
theorem itA_sD {dy : Nat → Int32} {x q : Int32} {a : Nat} (h : ∀ d, 0 ≤ (dy d).toInt ∧ (dy d).toInt ≤ 500) (hq : 1 ≤ q.toInt ∧ q.toInt ≤ 500) (hx : x.toInt = sD dy 360) : ∀ m, a + m ≤ 360 → (∀ d, a ≤ d → d < a + m → dy d + q ≤ 500) → (itA x q m).toInt = sD (adF dy a (a + m) q) 360
  | 0, _, _ => by
    show x.toInt = sD (adF dy a a q) 360
    rw [adF_0, hx]
  | m + 1, hm, room => by
    have ih := itA_sD h hq hx m (by omega) (fun d h1 h2 => room d h1 (by omega))
    have hr := sD_rng (adF_rng h hq (a := a) (i := a + m) (fun d h1 h2 => room d h1 (by omega))) 360
    have hs : (itA x q m + q).toInt = (itA x q m).toInt + q.toInt := fb_addI (by omega) (by omega)
    show (itA x q m + q).toInt = sD (adF dy a (a + m + 1) q) 360
    rw [hs, ih, ← adF_s dy (a := a) (i := a + m) q (by omega), sD_upd 360 (by omega), adF_at, ad_room (h (a + m)) hq]
    omega
theorem mTK_take {c : Nat} {dy tk : Nat → Int32} {q : Int32} {a b : Nat} (h : mTK c dy tk) (hab : a ≤ b) (hb : b < 360) (r1 : inR q 1 500) (room : ∀ d, a ≤ d → d ≤ b → dy d + q ≤ 500) : mTK c (adF dy a (b + 1) q) (upd tk c (tk c + q * (nI b - nI a + 1))) ∧ 0 ≤ (tk c + q * (nI b - nI a + 1)).toInt ∧ (tk c + q * (nI b - nI a + 1)).toInt ≤ 180000 := by
  obtain ⟨h1, h2, h3⟩ := h
  have hq : 1 ≤ q.toInt ∧ q.toInt ≤ 500 := inR_int r1
  have hr := adF_rng h1 hq (a := a) (i := b + 1) (fun d z1 z2 => room d z1 (by omega))
  have hs := sD_rng hr 360
  have e := itA_sD (a := a) h1 hq h2 (b + 1 - a) (by omega) (fun d z1 z2 => room d z1 (by omega))
  rw [show a + (b + 1 - a) = b + 1 by omega, ← tk_eq hab] at e
  refine ⟨⟨hr, by rw [ux_s]; exact e, fun j hj => by rw [ux_n (by omega)]; exact h3 j hj⟩, by omega, by omega⟩
def INV (qy lp sp : Int32) (pr ex : Nat → Int32) (c : Nat) (dy tk : Nat → Int32) (mK uK : Nat) (T : TR) (bi : Nat → Int64) (bb : Int64) : Prop :=
  c ≤ 20 ∧ (1 ≤ mK ∧ mK ≤ 5) ∧ (1 ≤ uK ∧ uK ≤ 5) ∧ mRG qy lp ex tk ∧ mPR sp pr ∧ mTK c dy tk ∧ bb = smL bi c ∧ (c = 20 → ∀ d, dy d = 0) ∧ ∃ (sh mu co sr : Nat → Int32) (du : Nat → Int64), T = stC qy lp sp pr ex tk mK uK (st0 sh mu co sr du) c
section INVS
variable {qy lp sp : Int32} {pr ex : Nat → Int32} {c : Nat} {dy tk : Nat → Int32} {mK uK : Nat} {T : TR} {bi : Nat → Int64} {bb : Int64}
theorem INV_y (h : INV qy lp sp pr ex c dy tk mK uK T bi bb) : mCI mK uK c T ∧ (∀ j, j < c → yOK qy lp sp pr ex tk T j) ∧ ySM c T := by
  obtain ⟨h1, h2, h3, h4, hp, h5, h6, h7, sh, mu, co, sr, du, rfl⟩ := h
  exact y_all h4 hp c h1
theorem INV_take {a b : Nat} {q : Int32} (h : INV qy lp sp pr ex c dy tk mK uK T bi bb) (hc : c < 20) (hab : a ≤ b) (hb : b < 360) (r1 : inR q 1 500) (room : ∀ d, a ≤ d → d ≤ b → dy d + q ≤ 500) : INV qy lp sp pr ex c (adF dy a (b + 1) q) (upd tk c (tk c + q * (nI b - nI a + 1))) mK uK T bi bb := by
  obtain ⟨h1, h2, h3, ⟨g1, g2, g3, g4⟩, hp, h5, h6, h7, sh, mu, co, sr, du, e⟩ := h
  obtain ⟨k1, k2, k3⟩ := mTK_take h5 hab hb r1 room
  refine ⟨h1, h2, h3, ⟨g1, g2, g3, fun j => ?_⟩, hp, k1, h6, fun z => absurd hc (by omega), sh, mu, co, sr, du, ?_⟩
  · by_cases z : j = c
    · subst z; rw [ux_s]; exact ⟨k2, k3⟩
    · rw [ux_n z]; exact g4 j
  · rw [e]; exact (stC_tk c (fun j hj => ux_n (by omega))).symm
theorem INV_set {p0 p1 p2 : Int32} {a3 a4 : Nat} (h : INV qy lp sp pr ex c dy tk mK uK T bi bb) (r0 : inR p0 1 100000) (r1 : inR p1 0 100) (r2 : inR p2 0 100) (h3 : 1 ≤ a3 ∧ a3 ≤ 5) (h4 : 1 ≤ a4 ∧ a4 ≤ 5) (hc : c = 0) : INV p0 p1 p2 pr ex c dy tk a3 a4 T bi bb := by
  obtain ⟨k1, k2, k3, ⟨g1, g2, g3, g4⟩, ⟨hp1, hp2⟩, k5, k6, k7, sh, mu, co, sr, du, e⟩ := h
  subst hc
  have q0 : (1 : Int32).toInt ≤ p0.toInt ∧ p0.toInt ≤ (100000 : Int32).toInt := inR_int r0
  have q1 : (0 : Int32).toInt ≤ p1.toInt ∧ p1.toInt ≤ (100 : Int32).toInt := inR_int r1
  have q2 : (0 : Int32).toInt ≤ p2.toInt ∧ p2.toInt ≤ (100 : Int32).toInt := inR_int r2
  have v1 : (1 : Int32).toInt = 1 := by decide
  have v2 : (100000 : Int32).toInt = 100000 := by decide
  have v3 : (0 : Int32).toInt = 0 := by decide
  have v4 : (100 : Int32).toInt = 100 := by decide
  exact ⟨k1, h3, h4, ⟨by omega, by omega, g3, g4⟩, ⟨by omega, hp2⟩, k5, k6, k7, sh, mu, co, sr, du, e⟩
theorem INV_review {j : Nat} {p : Int32} (h : INV qy lp sp pr ex c dy tk mK uK T bi bb) (r : inR p 1 1000) : INV qy lp sp (rvF pr j 20 p) ex c dy tk mK uK (stC qy lp sp (rvF pr j 20 p) ex tk mK uK (st0 (rSh T) (rMu T) (rCo T) (rSr T) (rDu T)) c) bi bb := by
  obtain ⟨h1, h2, h3, h4, ⟨hp1, hp2⟩, h5, h6, h7, -⟩ := h
  have q : (1 : Int32).toInt ≤ p.toInt ∧ p.toInt ≤ (1000 : Int32).toInt := inR_int r
  have v1 : (1 : Int32).toInt = 1 := by decide
  have v2 : (1000 : Int32).toInt = 1000 := by decide
  refine ⟨h1, h2, h3, h4, ⟨hp1, fun i => ?_⟩, h5, h6, h7, _, _, _, _, _, rfl⟩
  unfold rvF
  by_cases z : j ≤ i ∧ i < 20
  · rw [if_pos z]; omega
  · rw [if_neg z]; exact hp2 i
theorem INV_excuse {j : Nat} {p : Int32} (h : INV qy lp sp pr ex c dy tk mK uK T bi bb) (r : inR p 0 360) : INV qy lp sp pr (upd ex j p) c dy tk mK uK (stC qy lp sp pr (upd ex j p) tk mK uK (st0 (rSh T) (rMu T) (rCo T) (rSr T) (rDu T)) c) bi bb := by
  obtain ⟨h1, h2, h3, ⟨g1, g2, g3, g4⟩, hp, h5, h6, h7, -⟩ := h
  have q : (0 : Int32).toInt ≤ p.toInt ∧ p.toInt ≤ (360 : Int32).toInt := inR_int r
  have v3 : (0 : Int32).toInt = 0 := by decide
  have v4 : (360 : Int32).toInt = 360 := by decide
  refine ⟨h1, h2, h3, ⟨g1, g2, fun i => ?_, g4⟩, hp, h5, h6, h7, _, _, _, _, _, rfl⟩
  by_cases z : i = j
  · subst z; rw [ux_s]; omega
  · rw [ux_n z]; exact g3 i
theorem INV_close (h : INV qy lp sp pr ex c dy tk mK uK T bi bb) (hc : c < 20) (x : Int64) : INV qy lp sp pr ex (c + 1) (fun _ => 0) tk mK uK (stC qy lp sp pr ex tk mK uK (st0 (rSh T) (rMu T) (rCo T) (rSr T) (rDu T)) (c + 1)) (vp_updL bi c x) (bb + x) := by
  obtain ⟨h1, h2, h3, h4, hp, ⟨k1, k2, k3⟩, h6, h7, -⟩ := h
  have z0 : (0 : Int32).toInt = 0 := by decide
  have e0 : sD (fun _ => 0) 360 = 0 := by decide +kernel
  refine ⟨by omega, h2, h3, h4, hp, ⟨fun d => (by decide : 0 ≤ (0 : Int32).toInt ∧ (0 : Int32).toInt ≤ 500), by rw [k3 (c + 1) (by omega), e0, z0], fun j hj => k3 j (by omega)⟩, ?_, fun _ _ => rfl, _, _, _, _, _, rfl⟩
  rw [smL, ul_s, smL_cg c (g := bi) (fun j hj => ul_n (by omega)), h6]
theorem INV_0 : INV 36000 80 100 (fun _ => 100) (fun _ => 0) 0 (fun _ => 0) (fun _ => 0) 3 2 (st0 (fun _ => 0) (fun _ => 0) (fun _ => 0) (fun _ => 0) (fun _ => 0)) (fun _ => 0) 0 := by
  have e0 : sD (fun _ => 0) 360 = 0 := by decide +kernel
  have z0 : (0 : Int32).toInt = 0 := by decide
  refine ⟨by omega, by omega, by omega, ⟨by decide, by decide, fun _ => (by decide : 0 ≤ (0 : Int32).toInt ∧ (0 : Int32).toInt ≤ 360), fun _ => (by decide : 0 ≤ (0 : Int32).toInt ∧ (0 : Int32).toInt ≤ 180000)⟩, ⟨by decide, fun _ => (by decide : 1 ≤ (100 : Int32).toInt ∧ (100 : Int32).toInt ≤ 1000)⟩, ⟨fun d => (by decide : 0 ≤ (0 : Int32).toInt ∧ (0 : Int32).toInt ≤ 500), by rw [e0, z0], fun _ _ => rfl⟩, rfl, fun _ _ => rfl, _, _, _, _, _, rfl⟩
/-- c[6] in a year that hasn't begun -/
theorem INV_tk1 (h : INV qy lp sp pr ex c dy tk mK uK T bi bb) (hc : c < 20) : tk (c + 1) = 0 := by
  obtain ⟨-, -, -, -, -, ⟨-, -, k3⟩, -⟩ := h
  exact k3 (c + 1) (by omega)
theorem INV_un (h : INV qy lp sp pr ex c dy tk mK uK T bi bb) (h1 : ¬ 0 < nI c) (h2 : tk c ≤ 0) : c = 0 ∧ ¬ 0 < nI c ∧ tk 0 ≤ 0 := by
  have hc : c = 0 := by
    rcases Nat.eq_zero_or_pos c with z | z
    · exact z
    · exact absurd (nI_lt (a := 0) z (by have := h.1; omega)) h1
  exact ⟨hc, h1, by rw [← hc]; exact h2⟩
/-- the least quantity after set -/
theorem INV_lq (h : INV qy lp sp pr ex c dy tk mK uK T bi bb) (y : Nat) : ¬ lqf qy lp ex y < 0 ∧ ¬ (qy.toInt64 * lp.toInt64 / 100).toInt32 < lqf qy lp ex y := by
  obtain ⟨-, -, -, ⟨g1, g2, g3, g4⟩, -⟩ := h
  obtain ⟨lv, l0, l1⟩ := lqf_val (qy := qy) (lp := lp) (ex := ex) (y := y) g1.1 g1.2 g2.1 g2.2 (g3 y).1 (g3 y).2
  have z0 : (0 : Int32).toInt = 0 := by decide
  have e1 : (100 : Int64).toInt = 100 := by decide
  have b := mul_rng g1.1 g1.2 g2.1 g2.2
  have a2 : (qy.toInt64 * lp.toInt64).toInt = qy.toInt * lp.toInt := fb_ml (by omega) (by omega)
  have h5 := g3 y
  generalize hP : qy.toInt * lp.toInt = P at *
  have b3 : P * (360 - (ex y).toInt) ≤ P * 360 := Int.mul_le_mul_of_nonneg_left (by omega) b.1
  have a4 : (qy.toInt64 * lp.toInt64 / 100).toInt32.toInt = P / 100 := by
    rw [Int64.toInt_toInt32, Int64.toInt_div, a2, e1, Int.tdiv_eq_ediv_of_nonneg b.1]
    rw [fb_bmodL (by omega) (by omega), fb_bmod (by omega) (by omega)]
  generalize P * (360 - (ex y).toInt) = E at *
  refine ⟨fun z => ?_, fun z => ?_⟩
  · have := Int32.lt_iff_toInt_lt.mp z; omega
  · have := Int32.lt_iff_toInt_lt.mp z; rw [a4, lv] at this; omega
/-- a closed year, as the law looks at it -/
theorem INV_isY {j : Nat} (h : INV qy lp sp pr ex c dy tk mK uK T bi bb) (hj : j < c) : ¬ rMk T j < 0 ∧ ¬ rSh T j < rMk T j ∧ ¬ rSu T j < 0 ∧ ¬ rSr T j < rSu T j ∧
    (¬ lqf qy lp ex j - tk j ≤ 0 → ¬ rCo T j < 0 ∧ rCo T j + rSh T j = lqf qy lp ex j - tk j ∧ rMu T j = 0 ∧ rSr T j = 0 ∧ lg_cmp (rDu T j) ((tk j).toInt64 * (pr j).toInt64 + (rSh T j).toInt64 * (pr j * sp / 100).toInt64) = 0) ∧
    (lqf qy lp ex j - tk j ≤ 0 → rCo T j = 0 ∧ rSh T j = 0 ∧ ¬ rMu T j < 0 ∧ ¬ -(lqf qy lp ex j - tk j) < rMu T j ∧ (tk j - rMu T j ≤ qy → rSr T j = 0) ∧ (¬ tk j - rMu T j ≤ qy → rSr T j = tk j - rMu T j - qy) ∧ ¬ lg_cmp (rDu T j) ((tk j - rMu T j).toInt64 * (pr j).toInt64) < 0 ∧ ¬ 0 < lg_cmp (rDu T j) ((tk j).toInt64 * (pr j).toInt64)) := by
  obtain ⟨-, hy, -⟩ := INV_y h
  obtain ⟨⟨f1, f2, f3, f4, f5, f6, f7, f8, f9, f10⟩, hG, hE⟩ := hy j hj
  obtain ⟨-, -, -, ⟨g1, g2, g3, g4⟩, ⟨p1, p2⟩, -⟩ := h
  obtain ⟨lv, l0, l1⟩ := lqf_val (qy := qy) (lp := lp) (ex := ex) (y := j) g1.1 g1.2 g2.1 g2.2 (g3 j).1 (g3 j).2
  have k0 := g4 j
  have z0 : (0 : Int32).toInt = 0 := by decide
  have hgap : (lqf qy lp ex j - tk j).toInt = (lqf qy lp ex j).toInt - (tk j).toInt := fb_subI (by omega) (by omega)
  have lt0 : ∀ {x : Int32}, 0 ≤ x.toInt → ¬ x < 0 := fun {x} q z => by have := Int32.lt_iff_toInt_lt.mp z; omega
  have ltx : ∀ {x y : Int32}, x.toInt ≤ y.toInt → ¬ y < x := fun {x y} q z => by have := Int32.lt_iff_toInt_lt.mp z; omega
  refine ⟨lt0 f1, ltx f2, lt0 f4, ltx f5, fun z => ?_, fun z => ?_⟩
  · have hlt : tk j < lqf qy lp ex j := Int32.lt_iff_toInt_lt.mpr (by
      have := Int32.lt_iff_toInt_lt.mp (Int32.not_le.mp z); omega)
    obtain ⟨a1, a2, a3, a4⟩ := hG hlt
    refine ⟨lt0 f9, i32_eq ?_, a2, a3, (lg_cmp_eq _ _).mpr a4⟩
    rw [hgap, fb_addI (by omega) (by omega)]; exact a1
  · have hge : ¬ tk j < lqf qy lp ex j := fun q => by
      have h1 := Int32.lt_iff_toInt_lt.mp q
      have h2 := Int32.le_iff_toInt_le.mp z
      omega
    obtain ⟨a1, a2, a3, a4, a5, a6⟩ := hE hge
    have h9 := Int32.le_iff_toInt_le.mp (Int32.not_lt.mp hge)
    have hneg : (-(lqf qy lp ex j - tk j)).toInt = -((lqf qy lp ex j).toInt - (tk j).toInt) := by
      rw [Int32.toInt_neg, hgap, fb_bmod (by omega) (by omega)]
    have hr : (tk j - rMu T j).toInt = (tk j).toInt - (rMu T j).toInt := fb_subI (by omega) (by omega)
    have hrq : (tk j - rMu T j - qy).toInt = (tk j).toInt - (rMu T j).toInt - qy.toInt := by rw [fb_subI (by omega) (by omega), hr]
    have hpj := p2 j
    have m1 := mul_rng (a := (tk j).toInt - (rMu T j).toInt) (b := (pr j).toInt) (A := 180000) (B := 1000) (by omega) (by omega) (by omega) hpj.2
    have m2 := mul_rng (a := (tk j).toInt) (b := (pr j).toInt) (A := 180000) (B := 1000) (by omega) (by omega) (by omega) hpj.2
    have e1 : ((tk j - rMu T j).toInt64 * (pr j).toInt64).toInt = ((tk j).toInt - (rMu T j).toInt) * (pr j).toInt := by
      rw [fb_ml] <;> rw [hr] <;> omega
    have e2 : ((tk j).toInt64 * (pr j).toInt64).toInt = (tk j).toInt * (pr j).toInt := fb_ml (by omega) (by omega)
    refine ⟨a1, a2, lt0 f7, ltx (by rw [hneg]; omega), fun q => i32_eq ?_, fun q => i32_eq ?_, fun q => ?_, fun q => ?_⟩
    · have := Int32.le_iff_toInt_le.mp q
      rw [a4, z0]; omega
    · have := Int32.lt_iff_toInt_lt.mp (Int32.not_le.mp q)
      rw [a4, hrq]; omega
    · have := Int64.lt_iff_toInt_lt.mp ((lg_cmp_lt _ _).mp q)
      rw [e1] at this; omega
    · have := Int64.lt_iff_toInt_lt.mp ((lg_cmp_gt _ _).mp q)
      rw [e2] at this; omega
/-- what is left of a year is nothing when its years are over -/
theorem c1_lt {c j k : Nat} (hc : c ≤ 20) (hj : j < c) (hk : k ≤ 5) (h : ¬ nI c - 1 ≤ nI (j + k)) : j + k + 1 < c := by
  have e : nI c - 1 = nI (c - 1) := pk_sub (b := 1) (by omega)
  rw [e] at h
  rcases Nat.lt_or_ge (j + k + 1) c with z | z
  · exact z
  · exact absurd (nI_le (a := c - 1) (b := j + k) (by omega) (by omega)) h
theorem INV_mk0 {j : Nat} (h : INV qy lp sp pr ex c dy tk mK uK T bi bb) (hj : j < c) (hz : ¬ nI c - 1 ≤ nI (j + mK)) : rMk T j = 0 := by
  obtain ⟨⟨-, -, -, c4, -⟩, -⟩ := INV_y h
  exact c4 j (c1_lt h.1 hj h.2.1.2 hz)
theorem INV_su0 {j : Nat} (h : INV qy lp sp pr ex c dy tk mK uK T bi bb) (hj : j < c) (hz : ¬ nI c - 1 ≤ nI (j + uK)) : rSu T j = 0 := by
  obtain ⟨⟨-, -, -, -, c5⟩, -⟩ := INV_y h
  exact c5 j (c1_lt h.1 hj h.2.2.1.2 hz)
/-- sums as the law makes them -/
def sW (f : Nat → Int32) : Nat → Int32
  | 0 => 0
  | n + 1 => sW f n + f n
theorem sW_add (f g : Nat → Int32) : ∀ n, sW (fun j => f j + g j) n = sW f n + sW g n
  | 0 => by rw [sW, sW, sW]; decide
  | n + 1 => by rw [sW, sW, sW, sW_add f g n]; grind
theorem sW_sD {f : Nat → Int32} : ∀ n, n ≤ 20 → (∀ j, j < n → 0 ≤ (f j).toInt ∧ (f j).toInt ≤ 180000) → (sW f n).toInt = sD f n
  | 0, _, _ => by show (0 : Int32).toInt = 0; decide
  | n + 1, hn, h => by
    have ih := sW_sD n (by omega) (fun j hj => h j (by omega))
    have hb := sD_b n (fun j hj => h j (by omega))
    have h2 := h n (by omega)
    show (sW f n + f n).toInt = sD f n + (f n).toInt
    rw [fb_addI (by omega) (by omega), ih]
theorem INV_sums (h : INV qy lp sp pr ex c dy tk mK uK T bi bb) : sW (rSh T) c = sW (fun j => rMu T j + rMk T j) c + rMS T ∧ ¬ rMS T < 0 ∧ ¬ sW (rSr T) c < sW (fun j => rCo T j + rSu T j) c ∧ lg_cmp (smL (rDu T) c - bb) (smL (rDu T) c - smL bi c) = 0 := by
  obtain ⟨-, hy, hs⟩ := INV_y h
  have hb := ySM_b h.1 hy hs
  obtain ⟨s1, s2, s3, s4⟩ := hs
  have hc := h.1
  have a1 := sW_sD (f := rSh T) c hc (fun j hj => by have := (hy j hj).1; omega)
  have a2 := sW_sD (f := rMu T) c hc (fun j hj => by have := (hy j hj).1; omega)
  have a3 := sW_sD (f := rMk T) c hc (fun j hj => by have := (hy j hj).1; omega)
  have a4 := sW_sD (f := rSr T) c hc (fun j hj => by have := (hy j hj).1; omega)
  have a5 := sW_sD (f := rCo T) c hc (fun j hj => by have := (hy j hj).1; omega)
  have a6 := sW_sD (f := rSu T) c hc (fun j hj => by have := (hy j hj).1; omega)
  have b2 := sD_b (f := rMu T) c (fun j hj => by have := (hy j hj).1; omega)
  have b3 := sD_b (f := rMk T) c (fun j hj => by have := (hy j hj).1; omega)
  have b5 := sD_b (f := rCo T) c (fun j hj => by have := (hy j hj).1; omega)
  have b6 := sD_b (f := rSu T) c (fun j hj => by have := (hy j hj).1; omega)
  have z0 : (0 : Int32).toInt = 0 := by decide
  have e1 : (sW (rMu T) c + sW (rMk T) c).toInt = sD (rMu T) c + sD (rMk T) c := by rw [fb_addI (by omega) (by omega), a2, a3]
  have e2 : (sW (rCo T) c + sW (rSu T) c).toInt = sD (rCo T) c + sD (rSu T) c := by rw [fb_addI (by omega) (by omega), a5, a6]
  refine ⟨i32_eq ?_, fun z => ?_, fun z => ?_, ?_⟩
  · rw [sW_add, fb_addI (by omega) (by omega), e1, a1]; exact s1
  · have := Int32.lt_iff_toInt_lt.mp z; omega
  · have := Int32.lt_iff_toInt_lt.mp z
    rw [sW_add, e2, a4] at this; omega
  · rw [h.2.2.2.2.2.2.1]; exact (lg_cmp_eq _ _).mpr rfl
/-- sums over days -/
theorem smI_app (f : Nat → Int32) (a m : Nat) : ∀ n, smI f a (m + n) = smI f a m + smI f (a + m) n
  | 0 => by rw [Nat.add_zero, smI]; grind
  | n + 1 => by
    rw [← Nat.add_assoc, smI, smI, smI_app f a m n, Nat.add_assoc a m n]; grind
theorem smI_1 (f : Nat → Int32) (d : Nat) : smI f d (d + 1 - d) = f d := by
  rw [show d + 1 - d = 0 + 1 by omega, smI, smI, Nat.add_zero]; grind
theorem smI_sD {f : Nat → Int32} (h : ∀ d, 0 ≤ (f d).toInt ∧ (f d).toInt ≤ 500) : ∀ n, n ≤ 360 → (smI f 0 n).toInt = sD f n
  | 0, _ => by show (0 : Int32).toInt = 0; decide
  | n + 1, hn => by
    have ih := smI_sD h n (by omega)
    have hb := sD_rng h n
    have h2 := h n
    show (smI f 0 n + f (0 + n)).toInt = sD f n + (f n).toInt
    rw [Nat.zero_add, fb_addI (by omega) (by omega), ih]
theorem smI_0 (a : Nat) : ∀ n, smI (fun _ => 0) a n = 0
  | 0 => rfl
  | n + 1 => by rw [smI, smI_0 a n]; decide
theorem smI_cg {f g : Nat → Int32} {a : Nat} : ∀ n, (∀ d, f d = g d) → smI f a n = smI g a n
  | 0, _ => rfl
  | n + 1, h => by rw [smI, smI, smI_cg n h, h]
theorem smI_ad (f : Nat → Int32) (a k : Nat) (q : Int32) : ∀ n, n ≤ k → smI (adF f a (a + k) q) a n = smI f a n + nI n * q
  | 0, _ => by rw [smI, smI, nI_0]; grind
  | n + 1, h => by
    rw [smI, smI, smI_ad f a k q n (by omega), show adF f a (a + k) q (a + n) = f (a + n) + q from if_pos (by omega), nI_succ]; grind
theorem INV_all (h : INV qy lp sp pr ex c dy tk mK uK T bi bb) : smI dy 0 (359 + 1 - 0) = tk c := by
  obtain ⟨-, -, -, -, -, ⟨k1, k2, -⟩, -⟩ := h
  show smI dy 0 360 = tk c
  exact i32_eq (by rw [smI_sD k1 360 (Nat.le_refl _), k2])
theorem INV_two (h : INV qy lp sp pr ex c dy tk mK uK T bi bb) {y : Nat} (hy : y < 20) : smI dy 0 (y + 1 - 0) + smI dy (y + 1) (359 + 1 - (y + 1)) = tk c := by
  rw [← INV_all h]
  have e := smI_app dy 0 (y + 1) (359 - y)
  rw [Nat.zero_add, show y + 1 + (359 - y) = 359 + 1 - 0 by omega] at e
  rw [e, show 359 + 1 - (y + 1) = 359 - y by omega, Nat.sub_zero]
theorem INV_dy0 (h : INV qy lp sp pr ex c dy tk mK uK T bi bb) (hc : c = 20) (a n : Nat) : smI dy a n = 0 := by
  rw [smI_cg n (g := fun _ => 0) (h.2.2.2.2.2.2.2.1 hc)]; exact smI_0 a n
theorem tk_after (dy : Nat → Int32) {a b : Nat} (q : Int32) (hab : a ≤ b) : smI (adF dy a (b + 1) q) a (b + 1 - a) = smI dy a (b + 1 - a) + (nI b - nI a + 1) * q := by
  have e := smI_ad dy a (b + 1 - a) q (b + 1 - a) (Nat.le_refl _)
  rw [show a + (b + 1 - a) = b + 1 by omega] at e
  rw [e, show nI b - nI a + 1 = nI (b + 1 - a) by rw [pk_sub hab, nI_1, show b - a + 1 = b + 1 - a by omega]]
theorem tk_one (dy : Nat → Int32) (a : Nat) (q : Int32) : adF dy a (a + 1) q a = smI dy a (a + 1 - a) + q := by
  rw [smI_1]; exact if_pos (by omega)
/-- what a closing bills -/
theorem INV_bill (h : INV qy lp sp pr ex c dy tk mK uK T bi bb) : smL (rDu (stC qy lp sp pr ex tk mK uK (st0 (rSh T) (rMu T) (rCo T) (rSr T) (rDu T)) (c + 1))) (c + 1) = smL (rDu T) c + rDu (stC qy lp sp pr ex tk mK uK (st0 (rSh T) (rMu T) (rCo T) (rSr T) (rDu T)) (c + 1)) c := by
  rw [smL]
  congr 1
  obtain ⟨-, -, -, -, -, -, -, -, sh, mu, co, sr, du, e⟩ := h
  generalize rSh T = s1
  generalize rMu T = s2
  generalize rCo T = s3
  generalize rSr T = s4
  refine smL_cg c (fun j hj => ?_)
  have hr := (stC_rows (qy := qy) (lp := lp) (sp := sp) (pr := pr) (ex := ex) (tk := tk) (mK := mK) (uK := uK) (sh := s1) (mu := s2) (co := s3) (sr := s4) (sh2 := sh) (mu2 := mu) (co2 := co) (sr2 := sr) (du := rDu T) (du2 := du) c).2.2 j hj
  rw [← e] at hr
  rw [← hr]
  exact stp_du hj
theorem open_0 (x bb : Int64) : lg_cmp (x - (bb + (x - bb))) 0 = 0 := (lg_cmp_eq _ _).mpr (by grind)
theorem bill_2 {x bb y z : Int64} (h : x = y + z) : lg_cmp (x - bb) (y - bb + z) = 0 := (lg_cmp_eq _ _).mpr (by rw [h]; grind)
theorem lgz {x y : Int64} (h : x = y) : lg_cmp x y = 0 := (lg_cmp_eq x y).mpr h
end INVS
theorem inR_n {n lo hi : Nat} (h1 : lo ≤ n) (h2 : n ≤ hi) (h3 : hi < 2 ^ 31) : inR (nI n) (nI lo) (nI hi) := ⟨Int32.not_lt.mpr (nI_le h1 (by omega)), nI_le h2 h3⟩
theorem nI_20 {c : Nat} (hc : c ≤ 20) (h : nI c = 20) : c = 20 := (nI_eq (a := c) (b := 20) (by omega) (by decide)).mp h
theorem nI_n20 {c : Nat} (hc : c ≤ 20) (h : ¬ nI c = 20) : c < 20 := Nat.lt_of_le_of_ne hc fun z => h (by rw [z]; rfl)
theorem vl_uu {f : Nat → Int64} {k : Nat} {x y : Int64} : vp_updL (vp_updL f k x) k y = vp_updL f k y := by
  funext j
  by_cases h : j = k
  · subst h; rw [ul_s, ul_s]
  · rw [ul_n h, ul_n h, ul_n h]
