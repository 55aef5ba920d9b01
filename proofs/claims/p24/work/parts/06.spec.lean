/-! numbers and worlds in my own words -/
/-- the lesser, the greater of two -/
def mnI (x y : Int32) : Int32 := if y < x then y else x
def mxI (x y : Int32) : Int32 := if x < y then y else x
theorem arrV_cg {cI : ClassId} {n : Nat} {f g : Nat → Value} (h : ∀ j, j < n → f j = g j) : arrV cI n f = arrV cI n g := by
  have e : (fun j : Fin n => f j.val) = (fun j : Fin n => g j.val) := funext fun j => h _ j.isLt
  simp only [arrV, e]
theorem gw_I {D : va_G} {cl : List vw_C} {ws ws' : va_W} {H : Heap} (hP : va_P D cl ws H) (k : Nat) {a : Nat} {cA : ClassId} {n : Nat} {f g : Nat → Int32} (hk : ws[k]? = some (a, .inl (cA, n, .inl f))) (h : ∀ j, j < n → f j = g j) (e : ws.set k (a, .inl (cA, n, .inl g)) = ws') : va_P D cl ws' H := by
  subst e
  intro i q hq
  by_cases hi : i = k
  · subst hi
    have hlt : i < ws.length := (List.getElem?_eq_some_iff.mp hk).1
    rw [List.getElem?_set] at hq
    simp only [if_true, hlt] at hq
    cases hq
    have h1 : H[a]? = some (vp_cell cA (n, .inl f)) := hP i _ hk
    show H[a]? = some (vp_cell cA (n, .inl g))
    rw [h1]
    show some (arrV cA n (fun j => .int (f j))) = some (arrV cA n (fun j => .int (g j)))
    rw [arrV_cg (fun j hj => by rw [h j hj])]
  · rw [List.getElem?_set] at hq
    simp only [if_neg (fun z : k = i => hi z.symm)] at hq
    exact hP i q hq
theorem gw_L {D : va_G} {cl : List vw_C} {ws ws' : va_W} {H : Heap} (hP : va_P D cl ws H) (k : Nat) {a : Nat} {cA : ClassId} {n : Nat} {f g : Nat → Int64} (hk : ws[k]? = some (a, .inl (cA, n, .inr (.inl f)))) (h : ∀ j, j < n → f j = g j) (e : ws.set k (a, .inl (cA, n, .inr (.inl g))) = ws') : va_P D cl ws' H := by
  subst e
  intro i q hq
  by_cases hi : i = k
  · subst hi
    have hlt : i < ws.length := (List.getElem?_eq_some_iff.mp hk).1
    rw [List.getElem?_set] at hq
    simp only [if_true, hlt] at hq
    cases hq
    have h1 : H[a]? = some (vp_cell cA (n, .inr (.inl f))) := hP i _ hk
    show H[a]? = some (vp_cell cA (n, .inr (.inl g)))
    rw [h1]
    show some (arrV cA n (fun j => .long (f j))) = some (arrV cA n (fun j => .long (g j)))
    rw [arrV_cg (fun j hj => by rw [h j hj])]
  · rw [List.getElem?_set] at hq
    simp only [if_neg (fun z : k = i => hi z.symm)] at hq
    exact hP i q hq
theorem gw_D {A : Nat → Prop} {ws ws' : va_W} (hD : va_D A ws) (k : Nat) {a : Nat} {e0 e1 : va_E} (hk : ws[k]? = some (a, e0)) (e : ws.set k (a, e1) = ws') : va_D A ws' := e ▸ va_D.set hD hk
theorem gj_i {p : Program} {l : Launch} {e : Env} {R : Room} {s : State} {m : MethodId} {args : Array Value} {below : List Frame} {meth : Method} {c : Code} {H : Heap} {locs : List Loc} {cells slots : Nat} {Q : State → Prop} {pc : Nat} {ls : Array Slot} {rest : List Value} {x y : Int32} (h : x = y) (k : W p l e R s m args below meth c H locs cells slots Q (F0 m pc ls (.int y :: rest))) : W p l e R s m args below meth c H locs cells slots Q (F0 m pc ls (.int x :: rest)) := h ▸ k
theorem gj_l {p : Program} {l : Launch} {e : Env} {R : Room} {s : State} {m : MethodId} {args : Array Value} {below : List Frame} {meth : Method} {c : Code} {H : Heap} {locs : List Loc} {cells slots : Nat} {Q : State → Prop} {pc : Nat} {ls : Array Slot} {rest : List Value} {x y : Int64} (h : x = y) (k : W p l e R s m args below meth c H locs cells slots Q (F0 m pc ls (.long y :: rest))) : W p l e R s m args below meth c H locs cells slots Q (F0 m pc ls (.long x :: rest)) := h ▸ k
/-- the first i places are v, the others f's -/
def flf (f : Nat → Int32) (v : Int32) (i : Nat) : Nat → Int32 := fun j => if j < i then v else f j
theorem flf_0 (f : Nat → Int32) (v : Int32) : flf f v 0 = f := rfl
theorem flf_s (f : Nat → Int32) (v : Int32) (i : Nat) : upd (flf f v i) i v = flf f v (i + 1) := by
  funext j
  unfold upd flf
  by_cases h : j = i
  · rw [if_pos h, if_pos (by omega)]
  · rw [if_neg h]
    by_cases h2 : j < i
    · rw [if_pos h2, if_pos (by omega)]
    · rw [if_neg h2, if_neg (by omega)]
/-- a stock: its object q, its row -/
abbrev wK (q r : Nat) (cI : ClassId) (f : Nat → Int32) (k z : Int32) : va_W := [(q, .inr (0, [.ref r, .int k, .int z])), (r, .inl (cI, 20, .inl f))]
/-- what lapses before the year y -/
def lpF (f : Nat → Int32) (k y : Nat) : Nat → Int32 := if k + 1 ≤ y then upd f (y - k - 1) 0 else f
def lpZ (f : Nat → Int32) (z : Int32) (k y : Nat) : Int32 := if k + 1 ≤ y then z + f (y - k - 1) else z
abbrev wG (ad : Nat → Nat) (cI cL : ClassId) (qy lp sp : Int32) (pr ex : Nat → Int32) (cl : Int32) (dy tk mk : Nat → Int32) (mK mS : Int32) (su : Nat → Int32) (uK uS : Int32) (sh mu co sr : Nat → Int32) (du bi : Nat → Int64) (bb : Int64) : va_W :=
  [(ad 0, .inr (1, [.int qy, .int lp, .int sp, .ref (ad 1), .ref (ad 2), .int cl, .ref (ad 3), .ref (ad 4), .ref (ad 5), .ref (ad 6), .ref (ad 7), .ref (ad 8), .ref (ad 9), .ref (ad 10), .ref (ad 11), .ref (ad 12), .long bb])),
   (ad 1, .inl (cI, 20, .inl pr)), (ad 2, .inl (cI, 20, .inl ex)), (ad 3, .inl (cI, 360, .inl dy)), (ad 4, .inl (cI, 20, .inl tk)),
   (ad 5, .inr (0, [.ref (ad 13), .int mK, .int mS])), (ad 6, .inr (0, [.ref (ad 14), .int uK, .int uS])),
   (ad 7, .inl (cI, 20, .inl sh)), (ad 8, .inl (cI, 20, .inl mu)), (ad 9, .inl (cI, 20, .inl co)), (ad 10, .inl (cI, 20, .inl sr)), (ad 11, .inl (cL, 20, .inr (.inl du))), (ad 12, .inl (cL, 20, .inr (.inl bi))),
   (ad 13, .inl (cI, 20, .inl mk)), (ad 14, .inl (cI, 20, .inl su))]
theorem lp_neg : ∀ y, y < 20 → ∀ k, k < 20 → y < k + 1 → nI y - nI k - 1 < 0 := by decide +kernel
theorem lp_pos : ∀ y, y < 20 → ∀ k, k < 20 → k + 1 ≤ y → nI y - nI k - 1 = nI (y - k - 1) := by decide +kernel
