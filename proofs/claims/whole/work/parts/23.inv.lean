/-! the law: what holds at its loop's head -/
def sD (f : Nat → Int32) : Nat → Int
  | 0 => 0
  | n + 1 => sD f n + (f n).toInt
theorem sD_rng {f : Nat → Int32} (h : ∀ d, 0 ≤ (f d).toInt ∧ (f d).toInt ≤ 500) : ∀ n, 0 ≤ sD f n ∧ sD f n ≤ 500 * (n : Int)
  | 0 => ⟨Int.le_refl _, Int.le_refl _⟩
  | n + 1 => by
    have h1 := sD_rng h n
    have h2 := h n
    show 0 ≤ sD f n + (f n).toInt ∧ sD f n + (f n).toInt ≤ 500 * ((n + 1 : Nat) : Int)
    omega
theorem sD_cg {f g : Nat → Int32} : ∀ n, (∀ j, j < n → f j = g j) → sD f n = sD g n
  | 0, _ => rfl
  | n + 1, h => by rw [sD, sD, sD_cg n (fun j hj => h j (by omega)), h n (by omega)]
theorem sD_upd {f : Nat → Int32} {i : Nat} {x : Int32} : ∀ n, i < n → sD (upd f i x) n = sD f n + (x.toInt - (f i).toInt)
  | 0, h => absurd h (by omega)
  | n + 1, h => by
    rw [sD, sD]
    by_cases e : i = n
    · subst e
      rw [ux_s, sD_cg i (g := f) (fun j hj => ux_n (by omega))]; omega
    · rw [ux_n (fun z => e z.symm), sD_upd n (by omega)]; omega
theorem i32_le {x : Int32} {n : Int} {k : Int32} (hk : k.toInt = n) : x ≤ k ↔ x.toInt ≤ n := by rw [Int32.le_iff_toInt_le, hk]
theorem inR_int {v lo hi : Int32} (h : inR v lo hi) : lo.toInt ≤ v.toInt ∧ v.toInt ≤ hi.toInt := ⟨Int32.le_iff_toInt_le.mp (Int32.not_lt.mp h.1), Int32.le_iff_toInt_le.mp h.2⟩
/-- what is taken, day by day and in the year that goes on -/
def mTK (c : Nat) (dy tk : Nat → Int32) : Prop := (∀ d, 0 ≤ (dy d).toInt ∧ (dy d).toInt ≤ 500) ∧ (tk c).toInt = sD dy 360 ∧ ∀ j, c < j → tk j = 0
theorem ad_room {x q : Int32} (hx : 0 ≤ x.toInt ∧ x.toInt ≤ 500) (hq : 1 ≤ q.toInt ∧ q.toInt ≤ 500) : (x + q).toInt = x.toInt + q.toInt := fb_addI (by omega) (by omega)
theorem adF_rng {dy : Nat → Int32} {q : Int32} {a i : Nat} (h : ∀ d, 0 ≤ (dy d).toInt ∧ (dy d).toInt ≤ 500) (hq : 1 ≤ q.toInt ∧ q.toInt ≤ 500) (room : ∀ d, a ≤ d → d < i → dy d + q ≤ 500) : ∀ d, 0 ≤ (adF dy a i q d).toInt ∧ (adF dy a i q d).toInt ≤ 500 := by
  intro d
  have e5 : (500 : Int32).toInt = 500 := by decide
  unfold adF
  by_cases e : a ≤ d ∧ d < i
  · rw [if_pos e]
    have h1 := (i32_le e5).mp (room d e.1 e.2)
    have h2 := ad_room (h d) hq
    have h3 := h d
    omega
  · rw [if_neg e]; exact h d
theorem itA_sD {dy : Nat → Int32} {x q : Int32} {a : Nat} (h : ∀ d, 0 ≤ (dy d).toInt ∧ (dy d).toInt ≤ 500) (hq : 1 ≤ q.toInt ∧ q.toInt ≤ 500) (hx : x.toInt = sD dy 360) : ∀ m, a + m ≤ 360 → (∀ d, a ≤ d → d < a + m → dy d + q ≤ 500) → (itA x q m).toInt = sD (adF dy a (a + m) q) 360
  | 0, _, _ => by
    show x.toInt = sD (adF dy a a q) 360
    rw [adF_0, hx]
  | m + 1, hm, room => by
    have ih := itA_sD h hq hx m (by omega) (fun d h1 h2 => room d h1 (by omega))
    have hr := sD_rng (adF_rng h hq (a := a) (i := a + m) (fun d h1 h2 => room d h1 (by omega))) 360
    have hs : (itA x q m + q).toInt = (itA x q m).toInt + q.toInt := fb_addI (by omega) (by omega)
    show (itA x q m + q).toInt = sD (adF dy a (a + m + 1) q) 360
    rw [hs, ih, ← adF_s dy (a := a) (i := a + m) q (by omega), sD_upd 360 (by omega), adF_at, ad_room (h (a + m)) hq]
    omega
theorem mTK_take {c : Nat} {dy tk : Nat → Int32} {q : Int32} {a b : Nat} (h : mTK c dy tk) (hab : a ≤ b) (hb : b < 360) (r1 : inR q 1 500) (room : ∀ d, a ≤ d → d ≤ b → dy d + q ≤ 500) : mTK c (adF dy a (b + 1) q) (upd tk c (tk c + q * (nI b - nI a + 1))) ∧ 0 ≤ (tk c + q * (nI b - nI a + 1)).toInt ∧ (tk c + q * (nI b - nI a + 1)).toInt ≤ 180000 := by
  obtain ⟨h1, h2, h3⟩ := h
  have hq : 1 ≤ q.toInt ∧ q.toInt ≤ 500 := inR_int r1
  have hr := adF_rng h1 hq (a := a) (i := b + 1) (fun d z1 z2 => room d z1 (by omega))
  have hs := sD_rng hr 360
  have e := itA_sD (a := a) h1 hq h2 (b + 1 - a) (by omega) (fun d z1 z2 => room d z1 (by omega))
  rw [show a + (b + 1 - a) = b + 1 by omega, ← tk_eq hab] at e
  refine ⟨⟨hr, by rw [ux_s]; exact e, fun j hj => by rw [ux_n (by omega)]; exact h3 j hj⟩, by omega, by omega⟩
def INV (qy lp sp : Int32) (pr ex : Nat → Int32) (c : Nat) (dy tk : Nat → Int32) (mK uK : Nat) (T : TR) (bi : Nat → Int64) (bb : Int64) : Prop :=
  c ≤ 20 ∧ (1 ≤ mK ∧ mK ≤ 5) ∧ (1 ≤ uK ∧ uK ≤ 5) ∧ mRG qy lp ex tk ∧ mTK c dy tk ∧ bb = smL bi c ∧ ∃ (sh mu co sr : Nat → Int32) (du : Nat → Int64), T = stC qy lp sp pr ex tk mK uK (st0 sh mu co sr du) c
section INVS
variable {qy lp sp : Int32} {pr ex : Nat → Int32} {c : Nat} {dy tk : Nat → Int32} {mK uK : Nat} {T : TR} {bi : Nat → Int64} {bb : Int64}
theorem INV_re (h : INV qy lp sp pr ex c dy tk mK uK T bi bb) (R : TM) : mRE c T (rtC qy lp sp pr ex tk mK uK (rt0 (nMk R) (nSu R) (nSh R) (nMu R) (nCo R) (nSr R) (nDu R)) c) := by
  obtain ⟨-, h2, h3, h4, -, -, sh, mu, co, sr, du, rfl⟩ := h
  exact (st_all h4 h2.1 h3.1 c).2
theorem INV_take {a b : Nat} {q : Int32} (h : INV qy lp sp pr ex c dy tk mK uK T bi bb) (hab : a ≤ b) (hb : b < 360) (r1 : inR q 1 500) (room : ∀ d, a ≤ d → d ≤ b → dy d + q ≤ 500) : INV qy lp sp pr ex c (adF dy a (b + 1) q) (upd tk c (tk c + q * (nI b - nI a + 1))) mK uK T bi bb := by
  obtain ⟨h1, h2, h3, ⟨g1, g2, g3, g4⟩, h5, h6, sh, mu, co, sr, du, e⟩ := h
  obtain ⟨k1, k2, k3⟩ := mTK_take h5 hab hb r1 room
  refine ⟨h1, h2, h3, ⟨g1, g2, g3, fun j => ?_⟩, k1, h6, sh, mu, co, sr, du, ?_⟩
  · by_cases z : j = c
    · subst z; rw [ux_s]; exact ⟨k2, k3⟩
    · rw [ux_n z]; exact g4 j
  · rw [e]; exact (stC_tk c (fun j hj => ux_n (by omega))).symm
theorem INV_set {p0 p1 p2 : Int32} {a3 a4 : Nat} (h : INV qy lp sp pr ex c dy tk mK uK T bi bb) (r0 : inR p0 1 100000) (r1 : inR p1 0 100) (h3 : 1 ≤ a3 ∧ a3 ≤ 5) (h4 : 1 ≤ a4 ∧ a4 ≤ 5) (hu : ¬ 0 < nI c ∧ tk 0 ≤ 0) : INV p0 p1 p2 pr ex c dy tk a3 a4 T bi bb := by
  obtain ⟨k1, k2, k3, ⟨g1, g2, g3, g4⟩, k5, k6, sh, mu, co, sr, du, e⟩ := h
  have hc : c = 0 := by
    rcases Nat.eq_zero_or_pos c with z | z
    · exact z
    · exact absurd (nI_lt (a := 0) z (by omega)) hu.1
  subst hc
  have q0 : (1 : Int32).toInt ≤ p0.toInt ∧ p0.toInt ≤ (100000 : Int32).toInt := inR_int r0
  have q1 : (0 : Int32).toInt ≤ p1.toInt ∧ p1.toInt ≤ (100 : Int32).toInt := inR_int r1
  have v1 : (1 : Int32).toInt = 1 := by decide
  have v2 : (100000 : Int32).toInt = 100000 := by decide
  have v3 : (0 : Int32).toInt = 0 := by decide
  have v4 : (100 : Int32).toInt = 100 := by decide
  exact ⟨k1, h3, h4, ⟨by omega, by omega, g3, g4⟩, k5, k6, sh, mu, co, sr, du, e⟩
theorem INV_review {pr2 : Nat → Int32} (h : INV qy lp sp pr ex c dy tk mK uK T bi bb) : INV qy lp sp pr2 ex c dy tk mK uK (stC qy lp sp pr2 ex tk mK uK (st0 (rSh T) (rMu T) (rCo T) (rSr T) (rDu T)) c) bi bb := by
  obtain ⟨h1, h2, h3, h4, h5, h6, -⟩ := h
  exact ⟨h1, h2, h3, h4, h5, h6, _, _, _, _, _, rfl⟩
theorem INV_excuse {j : Nat} {p : Int32} (h : INV qy lp sp pr ex c dy tk mK uK T bi bb) (r : inR p 0 360) : INV qy lp sp pr (upd ex j p) c dy tk mK uK (stC qy lp sp pr (upd ex j p) tk mK uK (st0 (rSh T) (rMu T) (rCo T) (rSr T) (rDu T)) c) bi bb := by
  obtain ⟨h1, h2, h3, ⟨g1, g2, g3, g4⟩, h5, h6, -⟩ := h
  have q : (0 : Int32).toInt ≤ p.toInt ∧ p.toInt ≤ (360 : Int32).toInt := inR_int r
  have v3 : (0 : Int32).toInt = 0 := by decide
  have v4 : (360 : Int32).toInt = 360 := by decide
  refine ⟨h1, h2, h3, ⟨g1, g2, fun i => ?_, g4⟩, h5, h6, _, _, _, _, _, rfl⟩
  by_cases z : i = j
  · subst z; rw [ux_s]; omega
  · rw [ux_n z]; exact g3 i
theorem INV_close (h : INV qy lp sp pr ex c dy tk mK uK T bi bb) (hc : c < 20) (x : Int64) : INV qy lp sp pr ex (c + 1) (fun _ => 0) tk mK uK (stC qy lp sp pr ex tk mK uK (st0 (rSh T) (rMu T) (rCo T) (rSr T) (rDu T)) (c + 1)) (vp_updL bi c x) (bb + x) := by
  obtain ⟨h1, h2, h3, h4, ⟨k1, k2, k3⟩, h6, -⟩ := h
  have z0 : (0 : Int32).toInt = 0 := by decide
  have e0 : sD (fun _ => 0) 360 = 0 := by decide +kernel
  refine ⟨by omega, h2, h3, h4, ⟨fun d => (by decide : 0 ≤ (0 : Int32).toInt ∧ (0 : Int32).toInt ≤ 500), by rw [k3 (c + 1) (by omega), e0, z0], fun j hj => k3 j (by omega)⟩, ?_, _, _, _, _, _, rfl⟩
  rw [smL, ul_s, smL_cg c (g := bi) (fun j hj => ul_n (by omega)), h6]
theorem bill_eq (h : INV qy lp sp pr ex c dy tk mK uK T bi bb) (hc : c < 20) (R : TM) : smL (rDu (stC qy lp sp pr ex tk mK uK (st0 (rSh T) (rMu T) (rCo T) (rSr T) (rDu T)) (c + 1))) (c + 1) - bb = smL (fun j => nDu (rtC qy lp sp pr ex tk mK uK (rt0 (nMk R) (nSu R) (nSh R) (nMu R) (nCo R) (nSr R) (nDu R)) (c + 1)) j - vp_updL bi c 0 j) (c + 1) := by
  obtain ⟨h1, h2, h3, h4, h5, h6, -⟩ := h
  have e := (st_all (sp := sp) (pr := pr) (sh := rSh T) (mu := rMu T) (co := rCo T) (sr := rSr T) (du := rDu T) (mk := nMk R) (su := nSu R) (sh2 := nSh R) (mu2 := nMu R) (co2 := nCo R) (sr2 := nSr R) (du2 := nDu R) h4 h2.1 h3.1 (c + 1)).2.1
  rw [smL_sub, smL_cg (c + 1) (fun j hj => (e j hj).2.2.2.2.2.2), smL.eq_2 (vp_updL bi c 0), ul_s, smL_cg c (f := vp_updL bi c 0) (g := bi) (fun j hj => ul_n (by omega)), h6]
  grind
theorem open_eq (h : INV qy lp sp pr ex c dy tk mK uK T bi bb) (R : TM) : smL (rDu T) c - bb = smL (fun j => nDu (rtC qy lp sp pr ex tk mK uK (rt0 (nMk R) (nSu R) (nSh R) (nMu R) (nCo R) (nSr R) (nDu R)) c) j - bi j) c := by
  have e := (INV_re h R).1
  obtain ⟨h1, h2, h3, h4, h5, h6, -⟩ := h
  rw [smL_sub, smL_cg c (fun j hj => (e j hj).2.2.2.2.2.2), h6]
theorem INV_0 : INV 36000 80 100 (fun _ => 100) (fun _ => 0) 0 (fun _ => 0) (fun _ => 0) 3 2 (st0 (fun _ => 0) (fun _ => 0) (fun _ => 0) (fun _ => 0) (fun _ => 0)) (fun _ => 0) 0 := by
  have e0 : sD (fun _ => 0) 360 = 0 := by decide +kernel
  have z0 : (0 : Int32).toInt = 0 := by decide
  refine ⟨by omega, by omega, by omega, ⟨by decide, by decide, fun _ => (by decide : 0 ≤ (0 : Int32).toInt ∧ (0 : Int32).toInt ≤ 360), fun _ => (by decide : 0 ≤ (0 : Int32).toInt ∧ (0 : Int32).toInt ≤ 180000)⟩, ⟨fun d => (by decide : 0 ≤ (0 : Int32).toInt ∧ (0 : Int32).toInt ≤ 500), by rw [e0, z0], fun _ _ => rfl⟩, rfl, _, _, _, _, _, rfl⟩
end INVS
theorem vl_uu {f : Nat → Int64} {k : Nat} {x y : Int64} : vp_updL (vp_updL f k x) k y = vp_updL f k y := by
  funext j
  by_cases h : j = k
  · subst h; rw [ul_s, ul_s]
  · rw [ul_n h, ul_n h, ul_n h]
theorem lgz {x y : Int64} (h : x = y) : lg_cmp x y = 0 := (lg_cmp_eq x y).mpr h
theorem inR_15 {y : Int32} (h : inR y 1 5) : ∃ a : Nat, (1 ≤ a ∧ a ≤ 5) ∧ y = nI a := by
  have v1 : (1 : Int32).toInt = 1 := by decide
  obtain ⟨a, ha, e⟩ := nI_of2 (M := 5) (n := 5) (by decide) (fun z => by have := Int32.lt_iff_toInt_lt.mp z; have h2 := inR_int h; have z0 : (0 : Int32).toInt = 0 := (by decide); omega) h.2
  refine ⟨a, ⟨?_, ha⟩, e⟩
  have h2 := inR_int h
  rw [e, nI_toInt (by omega)] at h2
  omega
theorem gi_6 (k : Nat) : nI (6 * k) + Int32.ofInt 6 = nI (6 * (k + 1)) := nI_add (6 * k) 6
theorem rng_of {v w : Int32} (h : inR v 0 359 ∧ inR w v 359) : ∃ a b : Nat, a ≤ b ∧ b < 360 ∧ v = nI a ∧ w = nI b := by
  obtain ⟨a, ha, rfl⟩ := inR_nat (n := 359) (by decide) h.1
  obtain ⟨b, hb, rfl⟩ := nI_of2 (M := 359) (n := 359) (by decide) (fun z => h.2.1 (Int32.lt_of_lt_of_le z (nI_pos' (by omega)))) h.2.2
  exact ⟨a, b, Nat.le_of_not_lt fun z => h.2.1 (nI_lt z (by omega)), by omega, rfl, rfl⟩
theorem rng_no {v w : Int32} (h : ¬ (inR v 0 359 ∧ inR w v 359)) : ¬ (¬ v < 0 ∧ ¬ w < v ∧ ¬ 360 ≤ w) := fun z => h (by
  have e0 : (0 : Int32).toInt = 0 := by decide
  have e9 : (359 : Int32).toInt = 359 := by decide
  have e6 : (360 : Int32).toInt = 360 := by decide
  have h1 := Int32.le_iff_toInt_le.mp (Int32.not_lt.mp z.1)
  have h2 := Int32.le_iff_toInt_le.mp (Int32.not_lt.mp z.2.1)
  have h3 := Int32.lt_iff_toInt_lt.mp (Int32.not_le.mp z.2.2)
  exact ⟨⟨z.1, Int32.le_iff_toInt_le.mpr (by omega)⟩, z.2.1, Int32.le_iff_toInt_le.mpr (by omega)⟩)
theorem ga_sld {p : Program} {l : Launch} {e : Env} {R : Room} {s : State} {m : MethodId} {args : Array Value} {below : List Frame} {meth : Method} {c : Code} {H : Heap} {locs : List Loc} {cells slots : Nat} {Q : State → Prop} {cc : ByteArray} {pc : Nat} {ls : Array Slot} {rest : List Value} {A : Nat → Prop} {H0 : Heap} (hexec : p.tables.exec = Jvm.exec) (hb : c.code = cc) {b L : Nat} {xs : Nat → Int32} (hX : va_X b L xs s H0) (hbl : b < H0.size) (hbA : ¬ A b) (hS : va_S A H0 H locs) {j : Nat} (hj : j < L) (hL : L < 2 ^ 31) {v : Int32} (hv : xs j = v) (hdg : decode cc pc = .ok (.iaload, 1))
    (kk : W p l e R s m args below meth c H locs cells slots Q (F0 m (pc + 1) ls (.int v :: rest))) : W p l e R s m args below meth c H locs cells slots Q (F0 m pc ls (.int (nI j) :: .ref b :: rest)) :=
  va_sld hexec hb hX hbl hbA hS (vp_in_nI hj hL) hdg (by rw [nI_clamp (Nat.lt_trans hj hL), hv]; exact kk)
