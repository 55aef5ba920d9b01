set_option maxHeartbeats 8000000 in
set_option maxRecDepth 100000 in
theorem c_L_takes (l : Launch) (hst : l.stackTraces = false) (D : va_G) (sz : Nat) (ad : Nat → Nat) (cI cL : ClassId) (o : Nat) (qy lp sp : Int32) (pr ex : Nat → Int32) (c : Nat) (dy tk : Nat → Int32) (mK uK : Nat) (T : TR) (bi : Nat → Int64) (bb : Int64) (a mo : Nat) (q : Int32) (hI : INV qy lp sp pr ex c dy tk mK uK T bi bb) (ha : a < 360) (hm : mo < 360) (r1 : inR q 1 500) : gHs l yL_takes wsL_takes ({ frames := 10, cells := 745, slots := 4470, locals := 177 } : Room) D [(cI, .int), (cL, .long)] [.ref (ad 0), .ref o, .int (nI a), .int (nI mo), .int q] (wQ ad cI cL o qy lp sp pr ex c dy tk mK uK T bi bb) (PW ad cI cL o) 745 4470 sz := by
  refine gmk_s (cc := cL_takes) (maxL := 8) (by decide) rfl (Nat.le_of_ble_eq_true rfl) ?_
  intro pg en s m args below meth cd A ls hx hb hr hml hown hts hlocks hA hK hP hD hT hl
  have hl : lv_has ls 8 [(0, .ref (ad 0)), (1, .ref o), (2, .int (nI a)), (3, .int (nI mo)), (4, .int q)] := hl
  have hS : va_S A s.heap s.heap [] := va_S.rf
  have hP : va_P D vwCl ((wG ad cI cL qy lp sp pr ex (nI c) dy tk (rMk (T)) (nI mK) (rMS (T)) (rSu (T)) (nI uK) (rUS (T)) (rSh (T)) (rMu (T)) (rCo (T)) (rSr (T)) (rDu (T)) bi bb) ++ [(o, .inl (cI, 7, .inl (cF qy lp sp (nI mK) (nI uK) (nI c) (tk c))))]) s.heap := hP
  have hD : va_D A ((wG ad cI cL qy lp sp pr ex (nI c) dy tk (rMk (T)) (nI mK) (rMS (T)) (rSu (T)) (nI uK) (rUS (T)) (rSh (T)) (rMu (T)) (rCo (T)) (rSr (T)) (rDu (T)) bi bb) ++ [(o, .inl (cI, 7, .inl (cF qy lp sp (nI mK) (nI uK) (nI c) (tk c))))]) := hD
  have hc : c ≤ 20 := hI.1
  have hmK : mK < 20 := by have := hI.2.1; omega
  have huK : uK < 20 := by have := hI.2.2.1; omega
  have tail : ∀ (b9 : Nat), a ≤ b9 → b9 < 360 → ∀ (ls : Array Slot), lv_has ls 8 [(0, .ref (ad 0)), (1, .ref o), (2, .int (nI a)), (4, .int q), (5, .int (nI b9))] → W pg l en ({ frames := 10, cells := 745, slots := 4470, locals := 177 } : Room) s m args below meth cd s.heap [] 0 0 (gEhs (PW ad cI cL o) below D [(cI, .int), (cL, .long)] A args s 745 4470) (F0 m 20 ls []) := by
    intro b9 hab hb3 ls hl
    refine lv_aload_n hx hb dL_takes_20 rfl (lv_at hl 1 rfl) ?_
    refine lv_iconst (v := 5) hx hb dL_takes_21 (by decide) ?_
    refine ga_iald (j := 5) hx hb hK hP 15 0 rfl rfl (by decide) (by decide) dL_takes_22 ?_
    refine gj_i (show (cF qy lp sp (nI mK) (nI uK) (nI c) (tk c)) 5 = nI c from rfl) ?_
    refine lv_bipush (v := 20) hx hb dL_takes_23 (by decide) ?_
    refine lv_icmp_ne (tgt := 44) hx hb dL_takes_25 (by decide) (fun cc => ?_) (fun cc => ?_)
    · have h20 : c < 20 := nI_n20 hc cc
      refine lv_iload_n hx hb dL_takes_44 rfl (lv_at hl 2 rfl) ?_
      refine lv_istore (lv' := [(6, .int (nI a)), (0, .ref (ad 0)), (1, .ref o), (2, .int (nI a)), (4, .int q), (5, .int (nI b9))]) hx hb dL_takes_45 hl (by decide) rfl (fun ls hl => ?_)
      have lupe : ∀ (n i : Nat), i ≤ b9 + 1 → b9 + 1 < i + n → a ≤ i → (∀ d, a ≤ d → d < i → dy d + q ≤ 500) → ∀ (H : Heap) (locs : List Loc), va_P D vwCl ((wG ad cI cL qy lp sp pr ex (nI c) dy tk (rMk (T)) (nI mK) (rMS (T)) (rSu (T)) (nI uK) (rUS (T)) (rSh (T)) (rMu (T)) (rCo (T)) (rSr (T)) (rDu (T)) bi bb) ++ [(o, .inl (cI, 7, .inl (cF qy lp sp (nI mK) (nI uK) (nI c) (tk c))))]) H → va_D A ((wG ad cI cL qy lp sp pr ex (nI c) dy tk (rMk (T)) (nI mK) (rMS (T)) (rSu (T)) (nI uK) (rUS (T)) (rSh (T)) (rMu (T)) (rCo (T)) (rSr (T)) (rDu (T)) bi bb) ++ [(o, .inl (cI, 7, .inl (cF qy lp sp (nI mK) (nI uK) (nI c) (tk c))))]) → va_S A s.heap H locs → ∀ (ls : Array Slot), lv_has ls 8 [(0, .ref (ad 0)), (1, .ref o), (2, .int (nI a)), (4, .int q), (5, .int (nI b9)), (6, .int (nI i))] → W pg l en ({ frames := 10, cells := 745, slots := 4470, locals := 177 } : Room) s m args below meth cd H locs (2 * i + 0) (12 * i + 0) (gEhs (PW ad cI cL o) below D [(cI, .int), (cL, .long)] A args s 745 4470) (F0 m 47 ls []) := by
        intro n
        induction n with
        | zero => intro i h1 h2; exact absurd h2 (by omega)
        | succ n ih =>
          intro i hi hin2 hai hall H locs hP hD hS ls hl
          refine lv_iload hx hb dL_takes_47 (lv_at hl 5 rfl) ?_
          refine lv_iload hx hb dL_takes_49 (lv_at hl 4 rfl) ?_
          refine lv_icmp_gt (tgt := 97) hx hb dL_takes_51 (by decide) (fun c6 => ?_) (fun c6 => ?_)
          · have hbi : ¬ i ≤ b9 := fun h => absurd c6 (Int32.not_lt.mpr (nI_le h (by omega)))
            have hroom : ∀ d, a ≤ d → d ≤ b9 → dy d + q ≤ 500 := fun d h1 h2 => hall d h1 (by omega)
            refine lv_aload_n hx hb dL_takes_97 rfl (lv_at hl 0 rfl) ?_
            refine lv_iload_n hx hb dL_takes_98 rfl (lv_at hl 2 rfl) ?_
            refine lv_iload hx hb dL_takes_99 (lv_at hl 4 rfl) ?_
            refine ghV_i (wc := (wG ad cI cL qy lp sp pr ex (nI c) dy tk (rMk (T)) (nI mK) (rMS (T)) (rSu (T)) (nI uK) (rUS (T)) (rSh (T)) (rMu (T)) (rCo (T)) (rSr (T)) (rDu (T)) bi bb)) (wr := [(o, .inl (cI, 7, .inl (cF qy lp sp (nI mK) (nI uK) (nI c) (tk c))))]) (w1 := (wG ad cI cL qy lp sp pr ex (nI c) dy tk (rMk (T)) (nI mK) (rMS (T)) (rSu (T)) (nI uK) (rUS (T)) (rSh (T)) (rMu (T)) (rCo (T)) (rSr (T)) (rDu (T)) bi bb)) (W' := ((wG ad cI cL qy lp sp pr ex (nI c) dy tk (rMk (T)) (nI mK) (rMS (T)) (rSu (T)) (nI uK) (rUS (T)) (rSh (T)) (rMu (T)) (rCo (T)) (rSr (T)) (rDu (T)) bi bb) ++ [(o, .inl (cI, 7, .inl (cF qy lp sp (nI mK) (nI uK) (nI c) (tk c))))])) (As := [.int (nI a), .int (nI b9)]) (rest := []) ⟨hx, hb, hml, hown, hts⟩ (c_X1_takenFrom l hst D H.size ad cI cL qy lp sp pr ex c dy tk (rMk (T)) mK (rMS (T)) (rSu (T)) uK (rUS (T)) (rSh (T)) (rMu (T)) (rCo (T)) (rSr (T)) (rDu (T)) bi bb a b9 (by omega) (by omega)) (cwV 2 hts gL_takes_X1_takenFrom rfl rfl rfl (by decide +kernel) ⟨(Nat.le_of_ble_eq_true rfl), (Nat.le_of_ble_eq_true rfl)⟩) hT hS hA hK hP hD [0, 1] rfl [0, 1, 2, 3, 4, 5, 6, 7, 8, 9, 10, 11, 12, 13, 14] [15] [1, 2, 3, 4, 5, 6, 7, 8, 9, 10, 11, 12, 13, 14, 15, 0] rfl (by decide) rfl (by decide) (by decide) rfl (by decide) 0 1 rfl rfl rfl rfl hl.1 rfl (Nat.le_of_ble_eq_true rfl) dL_takes_101 ⟨by show 2 * i + 0 + 2 ≤ 745; omega, by show 12 * i + 0 + 12 ≤ 4470; omega⟩ [1, 2, 3, 4, 5, 6, 7, 8, 9, 10, 11, 12, 13, 14, 15, 0] rfl (by decide) (fun _ _ _ _ _ hE => hE.elim) (fun H locs _ hP hD hS => ?_)
            refine lv_istore (lv' := [(6, .int (smI dy a (b9 + 1 - a))), (0, .ref (ad 0)), (1, .ref o), (2, .int (nI a)), (4, .int q), (5, .int (nI b9))]) hx hb dL_takes_104 hl (by decide) rfl (fun ls hl => ?_)
            refine lv_aload_n hx hb dL_takes_106 rfl (lv_at hl 2 rfl) ?_
            refine lv_bipush (v := 6) hx hb dL_takes_107 (by decide) ?_
            refine lv_dup2_11 hx hb dL_takes_109 rfl rfl ?_
            refine ga_iald (j := 6) hx hb hK hP 15 0 rfl rfl (by decide) (by decide) dL_takes_110 ?_
            refine gj_i (show (cF qy lp sp (nI mK) (nI uK) (nI c) (tk c)) 6 = tk c from rfl) ?_
            refine lv_iload hx hb dL_takes_111 (lv_at hl 5 rfl) ?_
            refine lv_iload_n hx hb dL_takes_113 rfl (lv_at hl 3 rfl) ?_
            refine lv_isub hx hb dL_takes_114 ?_
            refine lv_iconst (v := 1) hx hb dL_takes_115 (by decide) ?_
            refine lv_iadd hx hb dL_takes_116 ?_
            refine lv_iload hx hb dL_takes_117 (lv_at hl 4 rfl) ?_
            refine lv_imul hx hb dL_takes_119 ?_
            refine lv_iadd hx hb dL_takes_120 ?_
            refine gj_i (show (tk c) + ((((nI b9) - (nI a)) + 1) * q) = tk c + q * (nI b9 - nI a + 1) from congrArg (tk c + ·) (Int32.mul_comm _ _)) ?_
            refine ga_iast (j := 6) (ws' := ((wG ad cI cL qy lp sp pr ex (nI c) dy tk (rMk (T)) (nI mK) (rMS (T)) (rSu (T)) (nI uK) (rUS (T)) (rSh (T)) (rMu (T)) (rCo (T)) (rSr (T)) (rDu (T)) bi bb) ++ [(o, .inl (cI, 7, .inl (cF qy lp sp (nI mK) (nI uK) (nI c) (tk c + q * (nI b9 - nI a + 1)))))])) hx hb hK hP hD hS 15 0 rfl rfl (by decide) (by decide) dL_takes_121 (by rw [cF_u6]; rfl) (fun H locs hP hD hS => ?_)
            refine lv_iload hx hb dL_takes_122 (lv_at hl 5 rfl) ?_
            refine lv_iload_n hx hb dL_takes_124 rfl (lv_at hl 3 rfl) ?_
            refine lv_icmp_ne (tgt := 151) hx hb dL_takes_125 (by decide) (fun ce => ?_) (fun ce => ?_)
            · refine lv_aload_n hx hb dL_takes_151 rfl (lv_at hl 1 rfl) ?_
              refine lv_iload_n hx hb dL_takes_152 rfl (lv_at hl 3 rfl) ?_
              refine lv_iload hx hb dL_takes_153 (lv_at hl 5 rfl) ?_
              refine lv_iload hx hb dL_takes_155 (lv_at hl 4 rfl) ?_
              refine ghV_i (wc := (wG ad cI cL qy lp sp pr ex (nI c) dy tk (rMk (T)) (nI mK) (rMS (T)) (rSu (T)) (nI uK) (rUS (T)) (rSh (T)) (rMu (T)) (rCo (T)) (rSr (T)) (rDu (T)) bi bb)) (wr := [(o, .inl (cI, 7, .inl (cF qy lp sp (nI mK) (nI uK) (nI c) (tk c + q * (nI b9 - nI a + 1)))))]) (w1 := (wG ad cI cL qy lp sp pr ex (nI c) (adF dy a (b9 + 1) q) (upd tk c (tk c + q * (nI b9 - nI a + 1))) (rMk (T)) (nI mK) (rMS (T)) (rSu (T)) (nI uK) (rUS (T)) (rSh (T)) (rMu (T)) (rCo (T)) (rSr (T)) (rDu (T)) bi bb)) (W' := ((wG ad cI cL qy lp sp pr ex (nI c) (adF dy a (b9 + 1) q) (upd tk c (tk c + q * (nI b9 - nI a + 1))) (rMk (T)) (nI mK) (rMS (T)) (rSu (T)) (nI uK) (rUS (T)) (rSh (T)) (rMu (T)) (rCo (T)) (rSr (T)) (rDu (T)) bi bb) ++ [(o, .inl (cI, 7, .inl (cF qy lp sp (nI mK) (nI uK) (nI c) (tk c + q * (nI b9 - nI a + 1)))))])) (As := [.int (nI a), .int (nI b9), .int q]) (rest := []) ⟨hx, hb, hml, hown, hts⟩ (c_X1_takeDaily l hst D H.size ad cI cL qy lp sp pr ex c dy tk (rMk (T)) mK (rMS (T)) (rSu (T)) uK (rUS (T)) (rSh (T)) (rMu (T)) (rCo (T)) (rSr (T)) (rDu (T)) bi bb a b9 q hab hb3 r1 h20 hroom) (cwV 3 hts gL_takes_X1_takeDaily rfl rfl rfl (by decide +kernel) ⟨(Nat.le_of_ble_eq_true rfl), (Nat.le_of_ble_eq_true rfl)⟩) hT hS hA hK hP hD [0, 1] rfl [0, 1, 2, 3, 4, 5, 6, 7, 8, 9, 10, 11, 12, 13, 14] [15] [1, 2, 3, 4, 5, 6, 7, 8, 9, 10, 11, 12, 13, 14, 15, 0] rfl (by decide) rfl (by decide) (by decide) rfl (by decide) 0 1 rfl rfl rfl rfl hl.1 rfl (Nat.le_of_ble_eq_true rfl) dL_takes_157 ⟨by show 2 * i + 2 + 5 ≤ 745; omega, by show 12 * i + 12 + 30 ≤ 4470; omega⟩ [1, 2, 3, 4, 5, 6, 7, 8, 9, 10, 11, 12, 13, 14, 15, 0] rfl (by decide) (fun _ _ _ _ _ hE => hE.elim) (fun H locs _ hP hD hS => ?_)
              refine lv_aload_n hx hb dL_takes_160 rfl (lv_at hl 2 rfl) ?_
              refine lv_bipush (v := 6) hx hb dL_takes_161 (by decide) ?_
              refine ga_iald (j := 6) hx hb hK hP 15 0 rfl rfl (by decide) (by decide) dL_takes_163 ?_
              refine gj_i (show (cF qy lp sp (nI mK) (nI uK) (nI c) (tk c + q * (nI b9 - nI a + 1))) 6 = tk c + q * (nI b9 - nI a + 1) from rfl) ?_
              refine lv_icmp_ne (tgt := 171) hx hb dL_takes_164 (by decide) (fun cb => absurd ux_s cb) (fun _ => ?_)
              refine lv_iconst (v := 1) hx hb dL_takes_167 (by decide) ?_
              refine lv_goto (tgt := 172) hx hb dL_takes_168 (by decide) ?_
              refine lv_istore (lv' := [(7, .int 1), (6, .int (smI dy a (b9 + 1 - a))), (0, .ref (ad 0)), (1, .ref o), (2, .int (nI a)), (4, .int q), (5, .int (nI b9))]) hx hb dL_takes_172 hl (by decide) rfl (fun ls hl => ?_)
              refine lv_iload hx hb dL_takes_174 (lv_at hl 0 rfl) ?_
              refine lv_if_eq (tgt := 219) hx hb dL_takes_176 (by decide) (fun cb => absurd cb (by decide : ¬ (1 : Int32) = 0)) (fun _ => ?_)
              refine lv_aload_n hx hb dL_takes_179 rfl (lv_at hl 2 rfl) ?_
              refine lv_aload_n hx hb dL_takes_180 rfl (lv_at hl 3 rfl) ?_
              refine lv_iconst (v := 5) hx hb dL_takes_181 (by decide) ?_
              refine ga_iald (j := 5) hx hb hK hP 15 0 rfl rfl (by decide) (by decide) dL_takes_182 ?_
              refine gj_i (show (cF qy lp sp (nI mK) (nI uK) (nI c) (tk c + q * (nI b9 - nI a + 1))) 5 = nI c from rfl) ?_
              refine ghV_i (wc := (wG ad cI cL qy lp sp pr ex (nI c) (adF dy a (b9 + 1) q) (upd tk c (tk c + q * (nI b9 - nI a + 1))) (rMk (T)) (nI mK) (rMS (T)) (rSu (T)) (nI uK) (rUS (T)) (rSh (T)) (rMu (T)) (rCo (T)) (rSr (T)) (rDu (T)) bi bb)) (wr := [(o, .inl (cI, 7, .inl (cF qy lp sp (nI mK) (nI uK) (nI c) (tk c + q * (nI b9 - nI a + 1)))))]) (w1 := (wG ad cI cL qy lp sp pr ex (nI c) (adF dy a (b9 + 1) q) (upd tk c (tk c + q * (nI b9 - nI a + 1))) (rMk (T)) (nI mK) (rMS (T)) (rSu (T)) (nI uK) (rUS (T)) (rSh (T)) (rMu (T)) (rCo (T)) (rSr (T)) (rDu (T)) bi bb)) (W' := ((wG ad cI cL qy lp sp pr ex (nI c) (adF dy a (b9 + 1) q) (upd tk c (tk c + q * (nI b9 - nI a + 1))) (rMk (T)) (nI mK) (rMS (T)) (rSu (T)) (nI uK) (rUS (T)) (rSh (T)) (rMu (T)) (rCo (T)) (rSr (T)) (rDu (T)) bi bb) ++ [(o, .inl (cI, 7, .inl (cF qy lp sp (nI mK) (nI uK) (nI c) (tk c + q * (nI b9 - nI a + 1)))))])) (As := [.int (nI c)]) (rest := []) ⟨hx, hb, hml, hown, hts⟩ (c_X1_taken l hst D H.size ad cI cL qy lp sp pr ex c (adF dy a (b9 + 1) q) (upd tk c (tk c + q * (nI b9 - nI a + 1))) (rMk (T)) mK (rMS (T)) (rSu (T)) uK (rUS (T)) (rSh (T)) (rMu (T)) (rCo (T)) (rSr (T)) (rDu (T)) bi bb c h20) (cwV 1 hts gL_takes_X1_taken rfl rfl rfl (by decide +kernel) ⟨(Nat.le_of_ble_eq_true rfl), (Nat.le_of_ble_eq_true rfl)⟩) hT hS hA hK hP hD [0, 1] rfl [0, 1, 2, 3, 4, 5, 6, 7, 8, 9, 10, 11, 12, 13, 14] [15] [1, 2, 3, 4, 5, 6, 7, 8, 9, 10, 11, 12, 13, 14, 15, 0] rfl (by decide) rfl (by decide) (by decide) rfl (by decide) 0 1 rfl rfl rfl rfl hl.1 rfl (Nat.le_of_ble_eq_true rfl) dL_takes_183 ⟨by show 2 * i + 7 + 1 ≤ 745; omega, by show 12 * i + 42 + 6 ≤ 4470; omega⟩ [1, 2, 3, 4, 5, 6, 7, 8, 9, 10, 11, 12, 13, 14, 15, 0] rfl (by decide) (fun _ _ _ _ _ hE => hE.elim) (fun H locs _ hP hD hS => ?_)
              refine lv_aload_n hx hb dL_takes_186 rfl (lv_at hl 3 rfl) ?_
              refine lv_bipush (v := 6) hx hb dL_takes_187 (by decide) ?_
              refine ga_iald (j := 6) hx hb hK hP 15 0 rfl rfl (by decide) (by decide) dL_takes_189 ?_
              refine gj_i (show (cF qy lp sp (nI mK) (nI uK) (nI c) (tk c + q * (nI b9 - nI a + 1))) 6 = tk c + q * (nI b9 - nI a + 1) from rfl) ?_
              refine lv_icmp_ne (tgt := 219) hx hb dL_takes_190 (by decide) (fun cb => absurd ux_s cb) (fun _ => ?_)
              refine lv_aload_n hx hb dL_takes_193 rfl (lv_at hl 2 rfl) ?_
              refine lv_iload_n hx hb dL_takes_194 rfl (lv_at hl 4 rfl) ?_
              refine lv_iload hx hb dL_takes_195 (lv_at hl 6 rfl) ?_
              refine ghV_i (wc := (wG ad cI cL qy lp sp pr ex (nI c) (adF dy a (b9 + 1) q) (upd tk c (tk c + q * (nI b9 - nI a + 1))) (rMk (T)) (nI mK) (rMS (T)) (rSu (T)) (nI uK) (rUS (T)) (rSh (T)) (rMu (T)) (rCo (T)) (rSr (T)) (rDu (T)) bi bb)) (wr := [(o, .inl (cI, 7, .inl (cF qy lp sp (nI mK) (nI uK) (nI c) (tk c + q * (nI b9 - nI a + 1)))))]) (w1 := (wG ad cI cL qy lp sp pr ex (nI c) (adF dy a (b9 + 1) q) (upd tk c (tk c + q * (nI b9 - nI a + 1))) (rMk (T)) (nI mK) (rMS (T)) (rSu (T)) (nI uK) (rUS (T)) (rSh (T)) (rMu (T)) (rCo (T)) (rSr (T)) (rDu (T)) bi bb)) (W' := ((wG ad cI cL qy lp sp pr ex (nI c) (adF dy a (b9 + 1) q) (upd tk c (tk c + q * (nI b9 - nI a + 1))) (rMk (T)) (nI mK) (rMS (T)) (rSu (T)) (nI uK) (rUS (T)) (rSh (T)) (rMu (T)) (rCo (T)) (rSr (T)) (rDu (T)) bi bb) ++ [(o, .inl (cI, 7, .inl (cF qy lp sp (nI mK) (nI uK) (nI c) (tk c + q * (nI b9 - nI a + 1)))))])) (As := [.int (nI a), .int (nI b9)]) (rest := []) ⟨hx, hb, hml, hown, hts⟩ (c_X1_takenFrom l hst D H.size ad cI cL qy lp sp pr ex c (adF dy a (b9 + 1) q) (upd tk c (tk c + q * (nI b9 - nI a + 1))) (rMk (T)) mK (rMS (T)) (rSu (T)) uK (rUS (T)) (rSh (T)) (rMu (T)) (rCo (T)) (rSr (T)) (rDu (T)) bi bb a b9 (by omega) (by omega)) (cwV 2 hts gL_takes_X1_takenFrom rfl rfl rfl (by decide +kernel) ⟨(Nat.le_of_ble_eq_true rfl), (Nat.le_of_ble_eq_true rfl)⟩) hT hS hA hK hP hD [0, 1] rfl [0, 1, 2, 3, 4, 5, 6, 7, 8, 9, 10, 11, 12, 13, 14] [15] [1, 2, 3, 4, 5, 6, 7, 8, 9, 10, 11, 12, 13, 14, 15, 0] rfl (by decide) rfl (by decide) (by decide) rfl (by decide) 0 1 rfl rfl rfl rfl hl.1 rfl (Nat.le_of_ble_eq_true rfl) dL_takes_197 ⟨by show 2 * i + 8 + 2 ≤ 745; omega, by show 12 * i + 48 + 12 ≤ 4470; omega⟩ [1, 2, 3, 4, 5, 6, 7, 8, 9, 10, 11, 12, 13, 14, 15, 0] rfl (by decide) (fun _ _ _ _ _ hE => hE.elim) (fun H locs _ hP hD hS => ?_)
              refine lv_iload hx hb dL_takes_200 (lv_at hl 1 rfl) ?_
              refine lv_iload hx hb dL_takes_202 (lv_at hl 6 rfl) ?_
              refine lv_iload_n hx hb dL_takes_204 rfl (lv_at hl 4 rfl) ?_
              refine lv_isub hx hb dL_takes_205 ?_
              refine lv_iconst (v := 1) hx hb dL_takes_206 (by decide) ?_
              refine lv_iadd hx hb dL_takes_207 ?_
              refine lv_iload hx hb dL_takes_208 (lv_at hl 5 rfl) ?_
              refine lv_imul hx hb dL_takes_210 ?_
              refine lv_iadd hx hb dL_takes_211 ?_
              refine lv_icmp_ne (tgt := 219) hx hb dL_takes_212 (by decide) (fun cb => absurd (tk_after dy q hab) cb) (fun _ => ?_)
              have hP : va_P D vwCl ((wG ad cI cL qy lp sp pr ex (nI c) (adF dy a (b9 + 1) q) (upd tk c (tk c + q * (nI b9 - nI a + 1))) (rMk (T)) (nI mK) (rMS (T)) (rSu (T)) (nI uK) (rUS (T)) (rSh (T)) (rMu (T)) (rCo (T)) (rSr (T)) (rDu (T)) bi bb) ++ [(o, .inl (cI, 7, .inl (cF qy lp sp (nI mK) (nI uK) (nI c) ((upd tk c (tk c + q * (nI b9 - nI a + 1))) c))))]) H := by rw [ux_s]; exact hP
              have hD : va_D A ((wG ad cI cL qy lp sp pr ex (nI c) (adF dy a (b9 + 1) q) (upd tk c (tk c + q * (nI b9 - nI a + 1))) (rMk (T)) (nI mK) (rMS (T)) (rSu (T)) (nI uK) (rUS (T)) (rSh (T)) (rMu (T)) (rCo (T)) (rSr (T)) (rDu (T)) bi bb) ++ [(o, .inl (cI, 7, .inl (cF qy lp sp (nI mK) (nI uK) (nI c) ((upd tk c (tk c + q * (nI b9 - nI a + 1))) c))))]) := by rw [ux_s]; exact hD
              refine lv_iconst (v := 1) hx hb dL_takes_215 (by decide) ?_
              refine lv_goto (tgt := 220) hx hb dL_takes_216 (by decide) ?_
              exact ge_is (PW_mk (INV_take hI h20 hab hb3 r1 hroom)) hx hb hr hlocks rfl hK hP hD hS (by omega) (by omega) dL_takes_220
            · have eb : b9 = a := (nI_eq (by omega) (by omega)).mp ce
              refine lv_aload_n hx hb dL_takes_128 rfl (lv_at hl 1 rfl) ?_
              refine lv_iload_n hx hb dL_takes_129 rfl (lv_at hl 3 rfl) ?_
              refine lv_iload hx hb dL_takes_130 (lv_at hl 4 rfl) ?_
              refine ghV_i (wc := (wG ad cI cL qy lp sp pr ex (nI c) dy tk (rMk (T)) (nI mK) (rMS (T)) (rSu (T)) (nI uK) (rUS (T)) (rSh (T)) (rMu (T)) (rCo (T)) (rSr (T)) (rDu (T)) bi bb)) (wr := [(o, .inl (cI, 7, .inl (cF qy lp sp (nI mK) (nI uK) (nI c) (tk c + q * (nI b9 - nI a + 1)))))]) (w1 := (wG ad cI cL qy lp sp pr ex (nI c) (adF dy a (a + 1) q) (upd tk c (tk c + q * (nI a - nI a + 1))) (rMk (T)) (nI mK) (rMS (T)) (rSu (T)) (nI uK) (rUS (T)) (rSh (T)) (rMu (T)) (rCo (T)) (rSr (T)) (rDu (T)) bi bb)) (W' := ((wG ad cI cL qy lp sp pr ex (nI c) (adF dy a (a + 1) q) (upd tk c (tk c + q * (nI a - nI a + 1))) (rMk (T)) (nI mK) (rMS (T)) (rSu (T)) (nI uK) (rUS (T)) (rSh (T)) (rMu (T)) (rCo (T)) (rSr (T)) (rDu (T)) bi bb) ++ [(o, .inl (cI, 7, .inl (cF qy lp sp (nI mK) (nI uK) (nI c) (tk c + q * (nI b9 - nI a + 1)))))])) (As := [.int (nI a), .int q]) (rest := []) ⟨hx, hb, hml, hown, hts⟩ (c_X1_take l hst D H.size ad cI cL qy lp sp pr ex c dy tk (rMk (T)) mK (rMS (T)) (rSu (T)) uK (rUS (T)) (rSh (T)) (rMu (T)) (rCo (T)) (rSr (T)) (rDu (T)) bi bb a q ha r1 h20 (fun d h1 h2 => hroom d h1 (by omega))) (cwV 2 hts gL_takes_X1_take rfl rfl rfl (by decide +kernel) ⟨(Nat.le_of_ble_eq_true rfl), (Nat.le_of_ble_eq_true rfl)⟩) hT hS hA hK hP hD [0, 1] rfl [0, 1, 2, 3, 4, 5, 6, 7, 8, 9, 10, 11, 12, 13, 14] [15] [1, 2, 3, 4, 5, 6, 7, 8, 9, 10, 11, 12, 13, 14, 15, 0] rfl (by decide) rfl (by decide) (by decide) rfl (by decide) 0 1 rfl rfl rfl rfl hl.1 rfl (Nat.le_of_ble_eq_true rfl) dL_takes_132 ⟨by show 2 * i + 2 + 4 ≤ 745; omega, by show 12 * i + 12 + 24 ≤ 4470; omega⟩ [1, 2, 3, 4, 5, 6, 7, 8, 9, 10, 11, 12, 13, 14, 15, 0] rfl (by decide) (fun _ _ _ _ _ hE => hE.elim) (fun H locs _ hP hD hS => ?_)
              refine lv_iload hx hb dL_takes_135 (lv_at hl 0 rfl) ?_
              refine lv_iload hx hb dL_takes_137 (lv_at hl 4 rfl) ?_
              refine lv_iadd hx hb dL_takes_139 ?_
              refine lv_icmp_ne (tgt := 147) hx hb dL_takes_140 (by decide) (fun cb => absurd (by rw [eb]; exact tk_one dy a q) cb) (fun _ => ?_)
              have hP : va_P D vwCl ((wG ad cI cL qy lp sp pr ex (nI c) (adF dy a (b9 + 1) q) (upd tk c (tk c + q * (nI b9 - nI a + 1))) (rMk (T)) (nI mK) (rMS (T)) (rSu (T)) (nI uK) (rUS (T)) (rSh (T)) (rMu (T)) (rCo (T)) (rSr (T)) (rDu (T)) bi bb) ++ [(o, .inl (cI, 7, .inl (cF qy lp sp (nI mK) (nI uK) (nI c) (tk c + q * (nI b9 - nI a + 1)))))]) H := by rw [eb] at hP ⊢; exact hP
              have hD : va_D A ((wG ad cI cL qy lp sp pr ex (nI c) (adF dy a (b9 + 1) q) (upd tk c (tk c + q * (nI b9 - nI a + 1))) (rMk (T)) (nI mK) (rMS (T)) (rSu (T)) (nI uK) (rUS (T)) (rSh (T)) (rMu (T)) (rCo (T)) (rSr (T)) (rDu (T)) bi bb) ++ [(o, .inl (cI, 7, .inl (cF qy lp sp (nI mK) (nI uK) (nI c) (tk c + q * (nI b9 - nI a + 1)))))]) := by rw [eb] at hD ⊢; exact hD
              refine lv_iconst (v := 1) hx hb dL_takes_143 (by decide) ?_
              refine lv_goto (tgt := 172) hx hb dL_takes_144 (by decide) ?_
              refine lv_istore (lv' := [(7, .int 1), (6, .int (smI dy a (b9 + 1 - a))), (0, .ref (ad 0)), (1, .ref o), (2, .int (nI a)), (4, .int q), (5, .int (nI b9))]) hx hb dL_takes_172 hl (by decide) rfl (fun ls hl => ?_)
              refine lv_iload hx hb dL_takes_174 (lv_at hl 0 rfl) ?_
              refine lv_if_eq (tgt := 219) hx hb dL_takes_176 (by decide) (fun cb => absurd cb (by decide : ¬ (1 : Int32) = 0)) (fun _ => ?_)
              refine lv_aload_n hx hb dL_takes_179 rfl (lv_at hl 2 rfl) ?_
              refine lv_aload_n hx hb dL_takes_180 rfl (lv_at hl 3 rfl) ?_
              refine lv_iconst (v := 5) hx hb dL_takes_181 (by decide) ?_
              refine ga_iald (j := 5) hx hb hK hP 15 0 rfl rfl (by decide) (by decide) dL_takes_182 ?_
              refine gj_i (show (cF qy lp sp (nI mK) (nI uK) (nI c) (tk c + q * (nI b9 - nI a + 1))) 5 = nI c from rfl) ?_
              refine ghV_i (wc := (wG ad cI cL qy lp sp pr ex (nI c) (adF dy a (b9 + 1) q) (upd tk c (tk c + q * (nI b9 - nI a + 1))) (rMk (T)) (nI mK) (rMS (T)) (rSu (T)) (nI uK) (rUS (T)) (rSh (T)) (rMu (T)) (rCo (T)) (rSr (T)) (rDu (T)) bi bb)) (wr := [(o, .inl (cI, 7, .inl (cF qy lp sp (nI mK) (nI uK) (nI c) (tk c + q * (nI b9 - nI a + 1)))))]) (w1 := (wG ad cI cL qy lp sp pr ex (nI c) (adF dy a (b9 + 1) q) (upd tk c (tk c + q * (nI b9 - nI a + 1))) (rMk (T)) (nI mK) (rMS (T)) (rSu (T)) (nI uK) (rUS (T)) (rSh (T)) (rMu (T)) (rCo (T)) (rSr (T)) (rDu (T)) bi bb)) (W' := ((wG ad cI cL qy lp sp pr ex (nI c) (adF dy a (b9 + 1) q) (upd tk c (tk c + q * (nI b9 - nI a + 1))) (rMk (T)) (nI mK) (rMS (T)) (rSu (T)) (nI uK) (rUS (T)) (rSh (T)) (rMu (T)) (rCo (T)) (rSr (T)) (rDu (T)) bi bb) ++ [(o, .inl (cI, 7, .inl (cF qy lp sp (nI mK) (nI uK) (nI c) (tk c + q * (nI b9 - nI a + 1)))))])) (As := [.int (nI c)]) (rest := []) ⟨hx, hb, hml, hown, hts⟩ (c_X1_taken l hst D H.size ad cI cL qy lp sp pr ex c (adF dy a (b9 + 1) q) (upd tk c (tk c + q * (nI b9 - nI a + 1))) (rMk (T)) mK (rMS (T)) (rSu (T)) uK (rUS (T)) (rSh (T)) (rMu (T)) (rCo (T)) (rSr (T)) (rDu (T)) bi bb c h20) (cwV 1 hts gL_takes_X1_taken rfl rfl rfl (by decide +kernel) ⟨(Nat.le_of_ble_eq_true rfl), (Nat.le_of_ble_eq_true rfl)⟩) hT hS hA hK hP hD [0, 1] rfl [0, 1, 2, 3, 4, 5, 6, 7, 8, 9, 10, 11, 12, 13, 14] [15] [1, 2, 3, 4, 5, 6, 7, 8, 9, 10, 11, 12, 13, 14, 15, 0] rfl (by decide) rfl (by decide) (by decide) rfl (by decide) 0 1 rfl rfl rfl rfl hl.1 rfl (Nat.le_of_ble_eq_true rfl) dL_takes_183 ⟨by show 2 * i + 6 + 1 ≤ 745; omega, by show 12 * i + 36 + 6 ≤ 4470; omega⟩ [1, 2, 3, 4, 5, 6, 7, 8, 9, 10, 11, 12, 13, 14, 15, 0] rfl (by decide) (fun _ _ _ _ _ hE => hE.elim) (fun H locs _ hP hD hS => ?_)
              refine lv_aload_n hx hb dL_takes_186 rfl (lv_at hl 3 rfl) ?_
              refine lv_bipush (v := 6) hx hb dL_takes_187 (by decide) ?_
              refine ga_iald (j := 6) hx hb hK hP 15 0 rfl rfl (by decide) (by decide) dL_takes_189 ?_
              refine gj_i (show (cF qy lp sp (nI mK) (nI uK) (nI c) (tk c + q * (nI b9 - nI a + 1))) 6 = tk c + q * (nI b9 - nI a + 1) from rfl) ?_
              refine lv_icmp_ne (tgt := 219) hx hb dL_takes_190 (by decide) (fun cb => absurd ux_s cb) (fun _ => ?_)
              refine lv_aload_n hx hb dL_takes_193 rfl (lv_at hl 2 rfl) ?_
              refine lv_iload_n hx hb dL_takes_194 rfl (lv_at hl 4 rfl) ?_
              refine lv_iload hx hb dL_takes_195 (lv_at hl 6 rfl) ?_
              refine ghV_i (wc := (wG ad cI cL qy lp sp pr ex (nI c) (adF dy a (b9 + 1) q) (upd tk c (tk c + q * (nI b9 - nI a + 1))) (rMk (T)) (nI mK) (rMS (T)) (rSu (T)) (nI uK) (rUS (T)) (rSh (T)) (rMu (T)) (rCo (T)) (rSr (T)) (rDu (T)) bi bb)) (wr := [(o, .inl (cI, 7, .inl (cF qy lp sp (nI mK) (nI uK) (nI c) (tk c + q * (nI b9 - nI a + 1)))))]) (w1 := (wG ad cI cL qy lp sp pr ex (nI c) (adF dy a (b9 + 1) q) (upd tk c (tk c + q * (nI b9 - nI a + 1))) (rMk (T)) (nI mK) (rMS (T)) (rSu (T)) (nI uK) (rUS (T)) (rSh (T)) (rMu (T)) (rCo (T)) (rSr (T)) (rDu (T)) bi bb)) (W' := ((wG ad cI cL qy lp sp pr ex (nI c) (adF dy a (b9 + 1) q) (upd tk c (tk c + q * (nI b9 - nI a + 1))) (rMk (T)) (nI mK) (rMS (T)) (rSu (T)) (nI uK) (rUS (T)) (rSh (T)) (rMu (T)) (rCo (T)) (rSr (T)) (rDu (T)) bi bb) ++ [(o, .inl (cI, 7, .inl (cF qy lp sp (nI mK) (nI uK) (nI c) (tk c + q * (nI b9 - nI a + 1)))))])) (As := [.int (nI a), .int (nI b9)]) (rest := []) ⟨hx, hb, hml, hown, hts⟩ (c_X1_takenFrom l hst D H.size ad cI cL qy lp sp pr ex c (adF dy a (b9 + 1) q) (upd tk c (tk c + q * (nI b9 - nI a + 1))) (rMk (T)) mK (rMS (T)) (rSu (T)) uK (rUS (T)) (rSh (T)) (rMu (T)) (rCo (T)) (rSr (T)) (rDu (T)) bi bb a b9 (by omega) (by omega)) (cwV 2 hts gL_takes_X1_takenFrom rfl rfl rfl (by decide +kernel) ⟨(Nat.le_of_ble_eq_true rfl), (Nat.le_of_ble_eq_true rfl)⟩) hT hS hA hK hP hD [0, 1] rfl [0, 1, 2, 3, 4, 5, 6, 7, 8, 9, 10, 11, 12, 13, 14] [15] [1, 2, 3, 4, 5, 6, 7, 8, 9, 10, 11, 12, 13, 14, 15, 0] rfl (by decide) rfl (by decide) (by decide) rfl (by decide) 0 1 rfl rfl rfl rfl hl.1 rfl (Nat.le_of_ble_eq_true rfl) dL_takes_197 ⟨by show 2 * i + 7 + 2 ≤ 745; omega, by show 12 * i + 42 + 12 ≤ 4470; omega⟩ [1, 2, 3, 4, 5, 6, 7, 8, 9, 10, 11, 12, 13, 14, 15, 0] rfl (by decide) (fun _ _ _ _ _ hE => hE.elim) (fun H locs _ hP hD hS => ?_)
              refine lv_iload hx hb dL_takes_200 (lv_at hl 1 rfl) ?_
              refine lv_iload hx hb dL_takes_202 (lv_at hl 6 rfl) ?_
              refine lv_iload_n hx hb dL_takes_204 rfl (lv_at hl 4 rfl) ?_
              refine lv_isub hx hb dL_takes_205 ?_
              refine lv_iconst (v := 1) hx hb dL_takes_206 (by decide) ?_
              refine lv_iadd hx hb dL_takes_207 ?_
              refine lv_iload hx hb dL_takes_208 (lv_at hl 5 rfl) ?_
              refine lv_imul hx hb dL_takes_210 ?_
              refine lv_iadd hx hb dL_takes_211 ?_
              refine lv_icmp_ne (tgt := 219) hx hb dL_takes_212 (by decide) (fun cb => absurd (tk_after dy q hab) cb) (fun _ => ?_)
              have hP : va_P D vwCl ((wG ad cI cL qy lp sp pr ex (nI c) (adF dy a (b9 + 1) q) (upd tk c (tk c + q * (nI b9 - nI a + 1))) (rMk (T)) (nI mK) (rMS (T)) (rSu (T)) (nI uK) (rUS (T)) (rSh (T)) (rMu (T)) (rCo (T)) (rSr (T)) (rDu (T)) bi bb) ++ [(o, .inl (cI, 7, .inl (cF qy lp sp (nI mK) (nI uK) (nI c) ((upd tk c (tk c + q * (nI b9 - nI a + 1))) c))))]) H := by rw [ux_s]; exact hP
              have hD : va_D A ((wG ad cI cL qy lp sp pr ex (nI c) (adF dy a (b9 + 1) q) (upd tk c (tk c + q * (nI b9 - nI a + 1))) (rMk (T)) (nI mK) (rMS (T)) (rSu (T)) (nI uK) (rUS (T)) (rSh (T)) (rMu (T)) (rCo (T)) (rSr (T)) (rDu (T)) bi bb) ++ [(o, .inl (cI, 7, .inl (cF qy lp sp (nI mK) (nI uK) (nI c) ((upd tk c (tk c + q * (nI b9 - nI a + 1))) c))))]) := by rw [ux_s]; exact hD
              refine lv_iconst (v := 1) hx hb dL_takes_215 (by decide) ?_
              refine lv_goto (tgt := 220) hx hb dL_takes_216 (by decide) ?_
              exact ge_is (PW_mk (INV_take hI h20 hab hb3 r1 hroom)) hx hb hr hlocks rfl hK hP hD hS (by omega) (by omega) dL_takes_220
          · have hib : i ≤ b9 := Nat.not_lt.mp (fun h => c6 (nI_lt h (by omega)))
            refine lv_aload_n hx hb dL_takes_54 rfl (lv_at hl 0 rfl) ?_
            refine lv_iload hx hb dL_takes_55 (lv_at hl 5 rfl) ?_
            refine lv_iload hx hb dL_takes_57 (lv_at hl 5 rfl) ?_
            refine ghV_i (wc := (wG ad cI cL qy lp sp pr ex (nI c) dy tk (rMk (T)) (nI mK) (rMS (T)) (rSu (T)) (nI uK) (rUS (T)) (rSh (T)) (rMu (T)) (rCo (T)) (rSr (T)) (rDu (T)) bi bb)) (wr := [(o, .inl (cI, 7, .inl (cF qy lp sp (nI mK) (nI uK) (nI c) (tk c))))]) (w1 := (wG ad cI cL qy lp sp pr ex (nI c) dy tk (rMk (T)) (nI mK) (rMS (T)) (rSu (T)) (nI uK) (rUS (T)) (rSh (T)) (rMu (T)) (rCo (T)) (rSr (T)) (rDu (T)) bi bb)) (W' := ((wG ad cI cL qy lp sp pr ex (nI c) dy tk (rMk (T)) (nI mK) (rMS (T)) (rSu (T)) (nI uK) (rUS (T)) (rSh (T)) (rMu (T)) (rCo (T)) (rSr (T)) (rDu (T)) bi bb) ++ [(o, .inl (cI, 7, .inl (cF qy lp sp (nI mK) (nI uK) (nI c) (tk c))))])) (As := [.int (nI i), .int (nI i)]) (rest := []) ⟨hx, hb, hml, hown, hts⟩ (c_X1_takenFrom l hst D H.size ad cI cL qy lp sp pr ex c dy tk (rMk (T)) mK (rMS (T)) (rSu (T)) uK (rUS (T)) (rSh (T)) (rMu (T)) (rCo (T)) (rSr (T)) (rDu (T)) bi bb i i (by omega) (by omega)) (cwV 2 hts gL_takes_X1_takenFrom rfl rfl rfl (by decide +kernel) ⟨(Nat.le_of_ble_eq_true rfl), (Nat.le_of_ble_eq_true rfl)⟩) hT hS hA hK hP hD [0, 1] rfl [0, 1, 2, 3, 4, 5, 6, 7, 8, 9, 10, 11, 12, 13, 14] [15] [1, 2, 3, 4, 5, 6, 7, 8, 9, 10, 11, 12, 13, 14, 15, 0] rfl (by decide) rfl (by decide) (by decide) rfl (by decide) 0 1 rfl rfl rfl rfl hl.1 rfl (Nat.le_of_ble_eq_true rfl) dL_takes_59 ⟨by show 2 * i + 0 + 2 ≤ 745; omega, by show 12 * i + 0 + 12 ≤ 4470; omega⟩ [1, 2, 3, 4, 5, 6, 7, 8, 9, 10, 11, 12, 13, 14, 15, 0] rfl (by decide) (fun _ _ _ _ _ hE => hE.elim) (fun H locs _ hP hD hS => ?_)
            refine lv_iload hx hb dL_takes_62 (lv_at hl 3 rfl) ?_
            refine lv_iadd hx hb dL_takes_64 ?_
            refine lv_sipush (v := 500) hx hb dL_takes_65 (by decide) ?_
            refine lv_icmp_le (tgt := 91) hx hb dL_takes_68 (by decide) (fun cr => ?_) (fun cr => ?_)
            · rw [smI_1] at cr
              refine lv_iinc (v := nI (i + 1)) (lv' := [(6, .int (nI (i + 1))), (0, .ref (ad 0)), (1, .ref o), (2, .int (nI a)), (4, .int q), (5, .int (nI b9))]) hx hb dL_takes_91 hl (k := 5) rfl (gi_1 _) (by decide) rfl (fun ls hl => ?_)
              refine lv_goto (tgt := 47) hx hb dL_takes_94 (by decide) ?_
              refine W.widen (k := 2 * (i + 1) + 0) (n := 12 * (i + 1) + 0) (by show 2 * i + 2 ≤ _; omega) (by show 12 * i + 12 ≤ _; omega) ?_
              exact ih (i + 1) (by omega) (by omega) (by omega) (fun d h1 h2 => by rcases Nat.lt_or_ge d i with h | h; exact hall d h1 h; rw [show d = i by omega]; exact cr) _ _ hP hD hS ls (lv_sub hl [1, 2, 3, 4, 5, 0] rfl)
            · refine lv_aload_n hx hb dL_takes_71 rfl (lv_at hl 0 rfl) ?_
              refine lv_aload_n hx hb dL_takes_72 rfl (lv_at hl 1 rfl) ?_
              refine lv_iconst (v := 5) hx hb dL_takes_73 (by decide) ?_
              refine ga_iald (j := 5) hx hb hK hP 15 0 rfl rfl (by decide) (by decide) dL_takes_74 ?_
              refine gj_i (show (cF qy lp sp (nI mK) (nI uK) (nI c) (tk c)) 5 = nI c from rfl) ?_
              refine ghV_i (wc := (wG ad cI cL qy lp sp pr ex (nI c) dy tk (rMk (T)) (nI mK) (rMS (T)) (rSu (T)) (nI uK) (rUS (T)) (rSh (T)) (rMu (T)) (rCo (T)) (rSr (T)) (rDu (T)) bi bb)) (wr := [(o, .inl (cI, 7, .inl (cF qy lp sp (nI mK) (nI uK) (nI c) (tk c))))]) (w1 := (wG ad cI cL qy lp sp pr ex (nI c) dy tk (rMk (T)) (nI mK) (rMS (T)) (rSu (T)) (nI uK) (rUS (T)) (rSh (T)) (rMu (T)) (rCo (T)) (rSr (T)) (rDu (T)) bi bb)) (W' := ((wG ad cI cL qy lp sp pr ex (nI c) dy tk (rMk (T)) (nI mK) (rMS (T)) (rSu (T)) (nI uK) (rUS (T)) (rSh (T)) (rMu (T)) (rCo (T)) (rSr (T)) (rDu (T)) bi bb) ++ [(o, .inl (cI, 7, .inl (cF qy lp sp (nI mK) (nI uK) (nI c) (tk c))))])) (As := [.int (nI c)]) (rest := []) ⟨hx, hb, hml, hown, hts⟩ (c_X1_taken l hst D H.size ad cI cL qy lp sp pr ex c dy tk (rMk (T)) mK (rMS (T)) (rSu (T)) uK (rUS (T)) (rSh (T)) (rMu (T)) (rCo (T)) (rSr (T)) (rDu (T)) bi bb c h20) (cwV 1 hts gL_takes_X1_taken rfl rfl rfl (by decide +kernel) ⟨(Nat.le_of_ble_eq_true rfl), (Nat.le_of_ble_eq_true rfl)⟩) hT hS hA hK hP hD [0, 1] rfl [0, 1, 2, 3, 4, 5, 6, 7, 8, 9, 10, 11, 12, 13, 14] [15] [1, 2, 3, 4, 5, 6, 7, 8, 9, 10, 11, 12, 13, 14, 15, 0] rfl (by decide) rfl (by decide) (by decide) rfl (by decide) 0 1 rfl rfl rfl rfl hl.1 rfl (Nat.le_of_ble_eq_true rfl) dL_takes_75 ⟨by show 2 * i + 2 + 1 ≤ 745; omega, by show 12 * i + 12 + 6 ≤ 4470; omega⟩ [1, 2, 3, 4, 5, 6, 7, 8, 9, 10, 11, 12, 13, 14, 15, 0] rfl (by decide) (fun _ _ _ _ _ hE => hE.elim) (fun H locs _ hP hD hS => ?_)
              refine lv_aload_n hx hb dL_takes_78 rfl (lv_at hl 1 rfl) ?_
              refine lv_bipush (v := 6) hx hb dL_takes_79 (by decide) ?_
              refine ga_iald (j := 6) hx hb hK hP 15 0 rfl rfl (by decide) (by decide) dL_takes_81 ?_
              refine gj_i (show (cF qy lp sp (nI mK) (nI uK) (nI c) (tk c)) 6 = tk c from rfl) ?_
              refine lv_icmp_ne (tgt := 89) hx hb dL_takes_82 (by decide) (fun cb => absurd rfl cb) (fun _ => ?_)
              refine lv_iconst (v := 1) hx hb dL_takes_85 (by decide) ?_
              refine lv_goto (tgt := 90) hx hb dL_takes_86 (by decide) ?_
              exact ge_is (PW_mk hI) hx hb hr hlocks rfl hK hP hD hS (by omega) (by omega) dL_takes_90
      refine W.widen (k := 2 * a + 0) (n := 12 * a + 0) (by omega) (by omega) ?_
      exact lupe (b9 + 2) a (by omega) (by omega) (Nat.le_refl a) (fun d h1 h2 => absurd h1 (by omega)) _ _ hP hD hS ls (lv_sub hl [1, 2, 3, 4, 5, 0] rfl)
    · have h20 : c = 20 := nI_20 hc cc
      refine lv_aload_n hx hb dL_takes_28 rfl (lv_at hl 0 rfl) ?_
      refine lv_iload_n hx hb dL_takes_29 rfl (lv_at hl 2 rfl) ?_
      refine lv_iload hx hb dL_takes_30 (lv_at hl 4 rfl) ?_
      refine ghV_i (wc := (wG ad cI cL qy lp sp pr ex (nI c) dy tk (rMk (T)) (nI mK) (rMS (T)) (rSu (T)) (nI uK) (rUS (T)) (rSh (T)) (rMu (T)) (rCo (T)) (rSr (T)) (rDu (T)) bi bb)) (wr := [(o, .inl (cI, 7, .inl (cF qy lp sp (nI mK) (nI uK) (nI c) (tk c))))]) (w1 := (wG ad cI cL qy lp sp pr ex (nI c) dy tk (rMk (T)) (nI mK) (rMS (T)) (rSu (T)) (nI uK) (rUS (T)) (rSh (T)) (rMu (T)) (rCo (T)) (rSr (T)) (rDu (T)) bi bb)) (W' := ((wG ad cI cL qy lp sp pr ex (nI c) dy tk (rMk (T)) (nI mK) (rMS (T)) (rSu (T)) (nI uK) (rUS (T)) (rSh (T)) (rMu (T)) (rCo (T)) (rSr (T)) (rDu (T)) bi bb) ++ [(o, .inl (cI, 7, .inl (cF qy lp sp (nI mK) (nI uK) (nI c) (tk c))))])) (As := [.int (nI a), .int (nI b9)]) (rest := []) ⟨hx, hb, hml, hown, hts⟩ (c_X1_takenFrom l hst D s.heap.size ad cI cL qy lp sp pr ex c dy tk (rMk (T)) mK (rMS (T)) (rSu (T)) uK (rUS (T)) (rSh (T)) (rMu (T)) (rCo (T)) (rSr (T)) (rDu (T)) bi bb a b9 (by omega) (by omega)) (cwV 2 hts gL_takes_X1_takenFrom rfl rfl rfl (by decide +kernel) ⟨(Nat.le_of_ble_eq_true rfl), (Nat.le_of_ble_eq_true rfl)⟩) hT hS hA hK hP hD [0, 1] rfl [0, 1, 2, 3, 4, 5, 6, 7, 8, 9, 10, 11, 12, 13, 14] [15] [1, 2, 3, 4, 5, 6, 7, 8, 9, 10, 11, 12, 13, 14, 15, 0] rfl (by decide) rfl (by decide) (by decide) rfl (by decide) 0 1 rfl rfl rfl rfl hl.1 rfl (Nat.le_of_ble_eq_true rfl) dL_takes_32 ⟨(Nat.le_of_ble_eq_true rfl), (Nat.le_of_ble_eq_true rfl)⟩ [1, 2, 3, 4, 5, 6, 7, 8, 9, 10, 11, 12, 13, 14, 15, 0] rfl (by decide) (fun _ _ _ _ _ hE => hE.elim) (fun H locs _ hP hD hS => ?_)
      refine lv_if_ne (tgt := 42) hx hb dL_takes_35 (by decide) (fun cb => absurd (INV_dy0 hI h20 a _) cb) (fun _ => ?_)
      refine lv_iconst (v := 1) hx hb dL_takes_38 (by decide) ?_
      refine lv_goto (tgt := 43) hx hb dL_takes_39 (by decide) ?_
      exact ge_is (PW_mk hI) hx hb hr hlocks rfl hK hP hD hS (Nat.le_of_ble_eq_true rfl) (Nat.le_of_ble_eq_true rfl) dL_takes_43
  refine lv_iload_n hx hb dL_takes_0 rfl (lv_at hl 2 rfl) ?_
  refine lv_iload_n hx hb dL_takes_1 rfl (lv_at hl 3 rfl) ?_
  refine lv_iadd hx hb dL_takes_2 ?_
  refine gj_i (show (nI a) + (nI mo) = nI (a + mo) from nI_add a mo) ?_
  refine lv_sipush (v := 359) hx hb dL_takes_3 (by decide) ?_
  refine lv_icmp_le (tgt := 15) hx hb dL_takes_6 (by decide) (fun ct => ?_) (fun ct => ?_)
  · have hle : a + mo ≤ 359 := (nI_leI (a := a + mo) (b := 359) (by omega) (by decide)).mp ct
    refine lv_iload_n hx hb dL_takes_15 rfl (lv_at hl 2 rfl) ?_
    refine lv_iload_n hx hb dL_takes_16 rfl (lv_at hl 3 rfl) ?_
    refine lv_iadd hx hb dL_takes_17 ?_
    refine gj_i (show (nI a) + (nI mo) = nI (a + mo) from nI_add a mo) ?_
    refine lv_istore (lv' := [(5, .int (nI (a + mo))), (0, .ref (ad 0)), (1, .ref o), (2, .int (nI a)), (3, .int (nI mo)), (4, .int q)]) hx hb dL_takes_18 hl (by decide) rfl (fun ls hl => ?_)
    exact tail (a + mo) (by omega) (by omega) ls (lv_sub hl [1, 2, 3, 5, 0] rfl)
  · refine lv_sipush (v := 359) hx hb dL_takes_9 (by decide) ?_
    refine lv_goto (tgt := 18) hx hb dL_takes_12 (by decide) ?_
    refine lv_istore (lv' := [(5, .int 359), (0, .ref (ad 0)), (1, .ref o), (2, .int (nI a)), (3, .int (nI mo)), (4, .int q)]) hx hb dL_takes_18 hl (by decide) rfl (fun ls hl => ?_)
    exact tail 359 (by omega) (by decide) ls (lv_sub hl [1, 2, 3, 5, 0] rfl)
