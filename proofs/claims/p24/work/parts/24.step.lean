theorem hL_step__constantLong_RL_25_100_ : Cond.constantLong RL 25 (100) ∈ wsL_step := by decide +kernel
theorem hL_step__constant_RL_16_100000_ : Cond.constant RL 16 (100000) ∈ wsL_step := by decide +kernel
theorem hL_step__constantLong_RL_37_36000_ : Cond.constantLong RL 37 (36000) ∈ wsL_step := by decide +kernel
set_option maxHeartbeats 8000000 in
set_option maxRecDepth 100000 in
theorem c_L_step (l : Launch) (hst : l.stackTraces = false) (D : va_G) (sz : Nat) (ad : Nat → Nat) (cI cL : ClassId) (o : Nat) (qy lp sp : Int32) (pr ex : Nat → Int32) (c : Nat) (dy tk : Nat → Int32) (mK uK : Nat) (T : TR) (bi : Nat → Int64) (bb : Int64) (w a b : Nat) (hI : INV qy lp sp pr ex c dy tk mK uK T bi bb) (hw : w < 2147483648) (ha : a < 2147483648) (hb9 : b < 2147483648) : gHs l yL_step wsL_step ({ frames := 11, cells := 760, slots := 4560, locals := 204 } : Room) D [(cI, .int), (cL, .long)] [.ref (ad 0), .ref o, .int (nI w), .int (nI a), .int (nI b)] (wQ ad cI cL o qy lp sp pr ex c dy tk mK uK T bi bb) (PW ad cI cL o) 760 4560 sz := by
  refine gmk_s (cc := cL_step) (maxL := 10) (by decide) rfl (Nat.le_of_ble_eq_true rfl) ?_
  intro pg en s m args below meth cd A ls hx hb hr hml hown hts hlocks hA hK hP hD hT hl
  have hl : lv_has ls 10 [(0, .ref (ad 0)), (1, .ref o), (2, .int (nI w)), (3, .int (nI a)), (4, .int (nI b))] := hl
  have hS : va_S A s.heap s.heap [] := va_S.rf
  have hP : va_P D vwCl ((wG ad cI cL qy lp sp pr ex (nI c) dy tk (rMk (T)) (nI mK) (rMS (T)) (rSu (T)) (nI uK) (rUS (T)) (rSh (T)) (rMu (T)) (rCo (T)) (rSr (T)) (rDu (T)) bi bb) ++ [(o, .inl (cI, 7, .inl (cF qy lp sp (nI mK) (nI uK) (nI c) (tk c))))]) s.heap := hP
  have hD : va_D A ((wG ad cI cL qy lp sp pr ex (nI c) dy tk (rMk (T)) (nI mK) (rMS (T)) (rSu (T)) (nI uK) (rUS (T)) (rSh (T)) (rMu (T)) (rCo (T)) (rSr (T)) (rDu (T)) bi bb) ++ [(o, .inl (cI, 7, .inl (cF qy lp sp (nI mK) (nI uK) (nI c) (tk c))))]) := hD
  have hc : c ≤ 20 := hI.1
  have hmK : mK < 20 := by have := hI.2.1; omega
  have huK : uK < 20 := by have := hI.2.2.1; omega
  obtain ⟨y, hye⟩ : ∃ y : Nat, y = a % 20 := ⟨_, rfl⟩
  have hy : y < 20 := by omega
  obtain ⟨j, hje⟩ : ∃ j : Nat, j = w % 12 := ⟨_, rfl⟩
  refine lv_iload_n hx hb dL_step_0 rfl (lv_at hl 3 rfl) ?_
  refine lv_bipush (v := 20) hx hb dL_step_1 (by decide) ?_
  refine lv_irem hx hb dL_step_3 (by decide) ?_
  refine gj_i (show (nI a) - (nI a) / 20 * 20 = nI (a % 20) from pk_rem (a := a) (d := 20) (by omega) (by decide) (by decide)) ?_
  refine gj_i (show nI (a % 20) = nI y from by rw [hye]) ?_
  refine lv_istore (lv' := [(5, .int (nI y)), (0, .ref (ad 0)), (1, .ref o), (2, .int (nI w)), (3, .int (nI a)), (4, .int (nI b))]) hx hb dL_step_4 hl (by decide) rfl (fun ls hl => ?_)
  refine lv_iload_n hx hb dL_step_6 rfl (lv_at hl 3 rfl) ?_
  refine lv_bipush (v := 12) hx hb dL_step_7 (by decide) ?_
  refine lv_irem hx hb dL_step_9 (by decide) ?_
  refine gj_i (show (nI w) - (nI w) / 12 * 12 = nI (w % 12) from pk_rem (a := w) (d := 12) (by omega) (by decide) (by decide)) ?_
  refine gj_i (show nI (w % 12) = nI j from by rw [hje]) ?_
  rcases (show j = 0 ∨ j = 1 ∨ j = 2 ∨ j = 3 ∨ j = 4 ∨ j = 5 ∨ j = 6 ∨ j = 7 ∨ 8 ≤ j by omega) with rfl | rfl | rfl | rfl | rfl | rfl | rfl | rfl | h8
  · refine lv_tableIn (off := 46) (tgt := 56) hx hb dL_step_10 (by decide) (by decide) (by decide +kernel) (by decide) ?_
    refine lv_aload_n hx hb dL_step_56 rfl (lv_at hl 2 rfl) ?_
    refine lv_iconst (v := 5) hx hb dL_step_57 (by decide) ?_
    refine ga_iald (j := 5) hx hb hK hP 15 0 rfl rfl (by decide) (by decide) dL_step_58 ?_
    refine gj_i (show (cF qy lp sp (nI mK) (nI uK) (nI c) (tk c)) 5 = nI c from rfl) ?_
    refine lv_if_gt (tgt := 69) hx hb dL_step_59 (by decide) (fun h1 => ?_) (fun h1 => ?_)
    · refine lv_aload_n hx hb dL_step_69 rfl (lv_at hl 1 rfl) ?_
      refine gV_i (wc := (wG ad cI cL qy lp sp pr ex (nI c) dy tk (rMk (T)) (nI mK) (rMS (T)) (rSu (T)) (nI uK) (rUS (T)) (rSh (T)) (rMu (T)) (rCo (T)) (rSr (T)) (rDu (T)) bi bb)) (wr := [(o, .inl (cI, 7, .inl (cF qy lp sp (nI mK) (nI uK) (nI c) (tk c))))]) (w1 := (wG ad cI cL qy lp sp pr ex (nI c) dy tk (rMk (T)) (nI mK) (rMS (T)) (rSu (T)) (nI uK) (rUS (T)) (rSh (T)) (rMu (T)) (rCo (T)) (rSr (T)) (rDu (T)) bi bb)) (W' := ((wG ad cI cL qy lp sp pr ex (nI c) dy tk (rMk (T)) (nI mK) (rMS (T)) (rSu (T)) (nI uK) (rUS (T)) (rSh (T)) (rMu (T)) (rCo (T)) (rSr (T)) (rDu (T)) bi bb) ++ [(o, .inl (cI, 7, .inl (cF qy lp sp (nI mK) (nI uK) (nI c) (tk c))))])) (As := []) (rest := []) ⟨hx, hb, hml, hown, hts⟩ (c_X1_closed l D s.heap.size ad cI cL qy lp sp pr ex c dy tk (rMk (T)) mK (rMS (T)) (rSu (T)) uK (rUS (T)) (rSh (T)) (rMu (T)) (rCo (T)) (rSr (T)) (rDu (T)) bi bb  ) (cwV 0 hts gL_step_X1_closed rfl rfl rfl (by decide +kernel) ⟨(Nat.le_of_ble_eq_true rfl), (Nat.le_of_ble_eq_true rfl)⟩) hS hA hK hP hD [0, 1] rfl [0, 1, 2, 3, 4, 5, 6, 7, 8, 9, 10, 11, 12, 13, 14] [15] [1, 2, 3, 4, 5, 6, 7, 8, 9, 10, 11, 12, 13, 14, 15, 0] rfl (by decide) rfl (by decide) (by decide) rfl (by decide) 0 1 rfl rfl rfl rfl hl.1 rfl (Nat.le_of_ble_eq_true rfl) dL_step_70 ⟨(Nat.le_of_ble_eq_true rfl), (Nat.le_of_ble_eq_true rfl)⟩ (fun H locs _ hP hD hS => ?_)
      refine lv_aload_n hx hb dL_step_73 rfl (lv_at hl 2 rfl) ?_
      refine lv_iconst (v := 5) hx hb dL_step_74 (by decide) ?_
      refine ga_iald (j := 5) hx hb hK hP 15 0 rfl rfl (by decide) (by decide) dL_step_75 ?_
      refine gj_i (show (cF qy lp sp (nI mK) (nI uK) (nI c) (tk c)) 5 = nI c from rfl) ?_
      refine lv_icmp_ne (tgt := 83) hx hb dL_step_76 (by decide) (fun cb => absurd rfl cb) (fun _ => ?_)
      refine lv_iconst (v := 1) hx hb dL_step_79 (by decide) ?_
      refine lv_goto (tgt := 84) hx hb dL_step_80 (by decide) ?_
      exact ge_is (PW_mk hI) hx hb hr hlocks rfl hK hP hD hS (Nat.le_of_ble_eq_true rfl) (Nat.le_of_ble_eq_true rfl) dL_step_84
    · refine lv_aload_n hx hb dL_step_62 rfl (lv_at hl 2 rfl) ?_
      refine lv_bipush (v := 6) hx hb dL_step_63 (by decide) ?_
      refine ga_iald (j := 6) hx hb hK hP 15 0 rfl rfl (by decide) (by decide) dL_step_65 ?_
      refine gj_i (show (cF qy lp sp (nI mK) (nI uK) (nI c) (tk c)) 6 = tk c from rfl) ?_
      refine lv_if_le (tgt := 85) hx hb dL_step_66 (by decide) (fun h2 => ?_) (fun h2 => ?_)
      · obtain ⟨hc0, hu⟩ := INV_un hI h1 h2
        refine lv_aload_n hx hb dL_step_85 rfl (lv_at hl 2 rfl) ?_
        refine lv_iconst (v := 0) hx hb dL_step_86 (by decide) ?_
        refine lv_iconst (v := 1) hx hb dL_step_87 (by decide) ?_
        refine lv_iload_n hx hb dL_step_88 rfl (lv_at hl 4 rfl) ?_
        refine lv_iload hx hb dL_step_89 (lv_at hl 5 rfl) ?_
        refine lv_iconst (v := 2) hx hb dL_step_91 (by decide) ?_
        refine lv_irem hx hb dL_step_92 (by decide) ?_
        refine gj_i (show (nI b) - (nI b) / 2 * 2 = nI (b % 2) from pk_rem (a := b) (d := 2) (by omega) (by decide) (by decide)) ?_
        refine lv_if_ne (tgt := 101) hx hb dL_step_93 (by decide) (fun h3 => ?_) (fun h3 => ?_)
        · have r0 : inR (nI (1 + a % 4000)) 1 100000 := inR_n (lo := 1) (hi := 100000) (by omega) (by omega) (by decide)
          have r1 : inR (nI (b / 2 % 101)) 0 100 := inR_n (lo := 0) (hi := 100) (by omega) (by omega) (by decide)
          have r2 : inR (nI (b / 202 % 101)) 0 100 := inR_n (lo := 0) (hi := 100) (by omega) (by omega) (by decide)
          have r3 : inR (nI (1 + a % 5)) 1 5 := inR_n (lo := 1) (hi := 5) (by omega) (by omega) (by decide)
          have r4 : inR (nI (1 + b % 5)) 1 5 := inR_n (lo := 1) (hi := 5) (by omega) (by omega) (by decide)
          have hI1 : INV (nI (1 + a % 4000)) (nI (b / 2 % 101)) (nI (b / 202 % 101)) pr ex c dy tk (1 + a % 5) (1 + b % 5) T bi bb := INV_set hI r0 r1 r2 (by omega) (by omega) hc0
          refine lv_sipush (v := 4000) hx hb dL_step_101 (by decide) ?_
          refine lv_irem hx hb dL_step_104 (by decide) ?_
          refine gj_i (show (nI a) - (nI a) / 4000 * 4000 = nI (a % 4000) from pk_rem (a := a) (d := 4000) (by omega) (by decide) (by decide)) ?_
          refine lv_iadd hx hb dL_step_105 ?_
          refine gj_i (show 1 + (nI (a % 4000)) = nI (1 + (a % 4000)) from nI_add 1 (a % 4000)) ?_
          refine ga_iast (j := 0) (ws' := ((wG ad cI cL qy lp sp pr ex (nI c) dy tk (rMk (T)) (nI mK) (rMS (T)) (rSu (T)) (nI uK) (rUS (T)) (rSh (T)) (rMu (T)) (rCo (T)) (rSr (T)) (rDu (T)) bi bb) ++ [(o, .inl (cI, 7, .inl (cF (nI (1 + (a % 4000))) lp sp (nI mK) (nI uK) (nI c) (tk c))))])) hx hb hK hP hD hS 15 0 rfl rfl (by decide) (by decide) dL_step_106 (by rw [cF_u0]; rfl) (fun H locs hP hD hS => ?_)
          refine lv_aload_n hx hb dL_step_107 rfl (lv_at hl 2 rfl) ?_
          refine lv_iconst (v := 1) hx hb dL_step_108 (by decide) ?_
          refine lv_iload hx hb dL_step_109 (lv_at hl 5 rfl) ?_
          refine lv_iconst (v := 2) hx hb dL_step_111 (by decide) ?_
          refine lv_idiv hx hb dL_step_112 (by decide) ?_
          refine gj_i (show (nI b) / 2 = nI (b / 2) from pk_div (a := b) (d := 2) (by omega) (by decide) (by decide)) ?_
          refine lv_bipush (v := 101) hx hb dL_step_113 (by decide) ?_
          refine lv_irem hx hb dL_step_115 (by decide) ?_
          refine gj_i (show (nI (b / 2)) - (nI (b / 2)) / 101 * 101 = nI ((b / 2) % 101) from pk_rem (a := b / 2) (d := 101) (by omega) (by decide) (by decide)) ?_
          refine ga_iast (j := 1) (ws' := ((wG ad cI cL qy lp sp pr ex (nI c) dy tk (rMk (T)) (nI mK) (rMS (T)) (rSu (T)) (nI uK) (rUS (T)) (rSh (T)) (rMu (T)) (rCo (T)) (rSr (T)) (rDu (T)) bi bb) ++ [(o, .inl (cI, 7, .inl (cF (nI (1 + (a % 4000))) (nI ((b / 2) % 101)) sp (nI mK) (nI uK) (nI c) (tk c))))])) hx hb hK hP hD hS 15 0 rfl rfl (by decide) (by decide) dL_step_116 (by rw [cF_u1]; rfl) (fun H locs hP hD hS => ?_)
          refine lv_aload_n hx hb dL_step_117 rfl (lv_at hl 2 rfl) ?_
          refine lv_iconst (v := 2) hx hb dL_step_118 (by decide) ?_
          refine lv_iload hx hb dL_step_119 (lv_at hl 5 rfl) ?_
          refine lv_sipush (v := 202) hx hb dL_step_121 (by decide) ?_
          refine lv_idiv hx hb dL_step_124 (by decide) ?_
          refine gj_i (show (nI b) / 202 = nI (b / 202) from pk_div (a := b) (d := 202) (by omega) (by decide) (by decide)) ?_
          refine lv_bipush (v := 101) hx hb dL_step_125 (by decide) ?_
          refine lv_irem hx hb dL_step_127 (by decide) ?_
          refine gj_i (show (nI (b / 202)) - (nI (b / 202)) / 101 * 101 = nI ((b / 202) % 101) from pk_rem (a := b / 202) (d := 101) (by omega) (by decide) (by decide)) ?_
          refine ga_iast (j := 2) (ws' := ((wG ad cI cL qy lp sp pr ex (nI c) dy tk (rMk (T)) (nI mK) (rMS (T)) (rSu (T)) (nI uK) (rUS (T)) (rSh (T)) (rMu (T)) (rCo (T)) (rSr (T)) (rDu (T)) bi bb) ++ [(o, .inl (cI, 7, .inl (cF (nI (1 + (a % 4000))) (nI ((b / 2) % 101)) (nI ((b / 202) % 101)) (nI mK) (nI uK) (nI c) (tk c))))])) hx hb hK hP hD hS 15 0 rfl rfl (by decide) (by decide) dL_step_128 (by rw [cF_u2]; rfl) (fun H locs hP hD hS => ?_)
          refine lv_aload_n hx hb dL_step_129 rfl (lv_at hl 2 rfl) ?_
          refine lv_iconst (v := 3) hx hb dL_step_130 (by decide) ?_
          refine lv_iconst (v := 1) hx hb dL_step_131 (by decide) ?_
          refine lv_iload_n hx hb dL_step_132 rfl (lv_at hl 4 rfl) ?_
          refine lv_iconst (v := 5) hx hb dL_step_133 (by decide) ?_
          refine lv_irem hx hb dL_step_134 (by decide) ?_
          refine gj_i (show (nI a) - (nI a) / 5 * 5 = nI (a % 5) from pk_rem (a := a) (d := 5) (by omega) (by decide) (by decide)) ?_
          refine lv_iadd hx hb dL_step_135 ?_
          refine gj_i (show 1 + (nI (a % 5)) = nI (1 + (a % 5)) from nI_add 1 (a % 5)) ?_
          refine ga_iast (j := 3) (ws' := ((wG ad cI cL qy lp sp pr ex (nI c) dy tk (rMk (T)) (nI mK) (rMS (T)) (rSu (T)) (nI uK) (rUS (T)) (rSh (T)) (rMu (T)) (rCo (T)) (rSr (T)) (rDu (T)) bi bb) ++ [(o, .inl (cI, 7, .inl (cF (nI (1 + (a % 4000))) (nI ((b / 2) % 101)) (nI ((b / 202) % 101)) (nI (1 + (a % 5))) (nI uK) (nI c) (tk c))))])) hx hb hK hP hD hS 15 0 rfl rfl (by decide) (by decide) dL_step_136 (by rw [cF_u3]; rfl) (fun H locs hP hD hS => ?_)
          refine lv_aload_n hx hb dL_step_137 rfl (lv_at hl 2 rfl) ?_
          refine lv_iconst (v := 4) hx hb dL_step_138 (by decide) ?_
          refine lv_iconst (v := 1) hx hb dL_step_139 (by decide) ?_
          refine lv_iload hx hb dL_step_140 (lv_at hl 5 rfl) ?_
          refine lv_iconst (v := 5) hx hb dL_step_142 (by decide) ?_
          refine lv_irem hx hb dL_step_143 (by decide) ?_
          refine gj_i (show (nI b) - (nI b) / 5 * 5 = nI (b % 5) from pk_rem (a := b) (d := 5) (by omega) (by decide) (by decide)) ?_
          refine lv_iadd hx hb dL_step_144 ?_
          refine gj_i (show 1 + (nI (b % 5)) = nI (1 + (b % 5)) from nI_add 1 (b % 5)) ?_
          refine ga_iast (j := 4) (ws' := ((wG ad cI cL qy lp sp pr ex (nI c) dy tk (rMk (T)) (nI mK) (rMS (T)) (rSu (T)) (nI uK) (rUS (T)) (rSh (T)) (rMu (T)) (rCo (T)) (rSr (T)) (rDu (T)) bi bb) ++ [(o, .inl (cI, 7, .inl (cF (nI (1 + (a % 4000))) (nI ((b / 2) % 101)) (nI ((b / 202) % 101)) (nI (1 + (a % 5))) (nI (1 + (b % 5))) (nI c) (tk c))))])) hx hb hK hP hD hS 15 0 rfl rfl (by decide) (by decide) dL_step_145 (by rw [cF_u4]; rfl) (fun H locs hP hD hS => ?_)
          refine lv_aload_n hx hb dL_step_146 rfl (lv_at hl 1 rfl) ?_
          refine lv_aload_n hx hb dL_step_147 rfl (lv_at hl 2 rfl) ?_
          refine lv_iconst (v := 0) hx hb dL_step_148 (by decide) ?_
          refine ga_iald (j := 0) hx hb hK hP 15 0 rfl rfl (by decide) (by decide) dL_step_149 ?_
          refine gj_i (show (cF (nI (1 + (a % 4000))) (nI ((b / 2) % 101)) (nI ((b / 202) % 101)) (nI (1 + (a % 5))) (nI (1 + (b % 5))) (nI c) (tk c)) 0 = nI (1 + (a % 4000)) from rfl) ?_
          refine lv_aload_n hx hb dL_step_150 rfl (lv_at hl 2 rfl) ?_
          refine lv_iconst (v := 1) hx hb dL_step_151 (by decide) ?_
          refine ga_iald (j := 1) hx hb hK hP 15 0 rfl rfl (by decide) (by decide) dL_step_152 ?_
          refine gj_i (show (cF (nI (1 + (a % 4000))) (nI ((b / 2) % 101)) (nI ((b / 202) % 101)) (nI (1 + (a % 5))) (nI (1 + (b % 5))) (nI c) (tk c)) 1 = nI ((b / 2) % 101) from rfl) ?_
          refine lv_aload_n hx hb dL_step_153 rfl (lv_at hl 2 rfl) ?_
          refine lv_iconst (v := 2) hx hb dL_step_154 (by decide) ?_
          refine ga_iald (j := 2) hx hb hK hP 15 0 rfl rfl (by decide) (by decide) dL_step_155 ?_
          refine gj_i (show (cF (nI (1 + (a % 4000))) (nI ((b / 2) % 101)) (nI ((b / 202) % 101)) (nI (1 + (a % 5))) (nI (1 + (b % 5))) (nI c) (tk c)) 2 = nI ((b / 202) % 101) from rfl) ?_
          refine lv_aload_n hx hb dL_step_156 rfl (lv_at hl 2 rfl) ?_
          refine lv_iconst (v := 3) hx hb dL_step_157 (by decide) ?_
          refine ga_iald (j := 3) hx hb hK hP 15 0 rfl rfl (by decide) (by decide) dL_step_158 ?_
          refine gj_i (show (cF (nI (1 + (a % 4000))) (nI ((b / 2) % 101)) (nI ((b / 202) % 101)) (nI (1 + (a % 5))) (nI (1 + (b % 5))) (nI c) (tk c)) 3 = nI (1 + (a % 5)) from rfl) ?_
          refine lv_aload_n hx hb dL_step_159 rfl (lv_at hl 2 rfl) ?_
          refine lv_iconst (v := 4) hx hb dL_step_160 (by decide) ?_
          refine ga_iald (j := 4) hx hb hK hP 15 0 rfl rfl (by decide) (by decide) dL_step_161 ?_
          refine gj_i (show (cF (nI (1 + (a % 4000))) (nI ((b / 2) % 101)) (nI ((b / 202) % 101)) (nI (1 + (a % 5))) (nI (1 + (b % 5))) (nI c) (tk c)) 4 = nI (1 + (b % 5)) from rfl) ?_
          refine ghV_v (wc := (wG ad cI cL qy lp sp pr ex (nI c) dy tk (rMk (T)) (nI mK) (rMS (T)) (rSu (T)) (nI uK) (rUS (T)) (rSh (T)) (rMu (T)) (rCo (T)) (rSr (T)) (rDu (T)) bi bb)) (wr := [(o, .inl (cI, 7, .inl (cF (nI (1 + (a % 4000))) (nI ((b / 2) % 101)) (nI ((b / 202) % 101)) (nI (1 + (a % 5))) (nI (1 + (b % 5))) (nI c) (tk c))))]) (w1 := (wG ad cI cL (nI (1 + (a % 4000))) (nI ((b / 2) % 101)) (nI ((b / 202) % 101)) pr ex (nI c) dy tk (rMk (T)) (nI (1 + (a % 5))) (rMS (T)) (rSu (T)) (nI (1 + (b % 5))) (rUS (T)) (rSh (T)) (rMu (T)) (rCo (T)) (rSr (T)) (rDu (T)) bi bb)) (W' := ((wG ad cI cL (nI (1 + (a % 4000))) (nI ((b / 2) % 101)) (nI ((b / 202) % 101)) pr ex (nI c) dy tk (rMk (T)) (nI (1 + (a % 5))) (rMS (T)) (rSu (T)) (nI (1 + (b % 5))) (rUS (T)) (rSh (T)) (rMu (T)) (rCo (T)) (rSr (T)) (rDu (T)) bi bb) ++ [(o, .inl (cI, 7, .inl (cF (nI (1 + (a % 4000))) (nI ((b / 2) % 101)) (nI ((b / 202) % 101)) (nI (1 + (a % 5))) (nI (1 + (b % 5))) (nI c) (tk c))))])) (As := [.int (nI (1 + (a % 4000))), .int (nI ((b / 2) % 101)), .int (nI ((b / 202) % 101)), .int (nI (1 + (a % 5))), .int (nI (1 + (b % 5)))]) (rest := []) ⟨hx, hb, hml, hown, hts⟩ (c_X1_set l hst D H.size ad cI cL qy lp sp pr ex c dy tk (rMk (T)) mK (rMS (T)) (rSu (T)) uK (rUS (T)) (rSh (T)) (rMu (T)) (rCo (T)) (rSr (T)) (rDu (T)) bi bb (nI (1 + (a % 4000))) (nI ((b / 2) % 101)) (nI ((b / 202) % 101)) (nI (1 + (a % 5))) (nI (1 + (b % 5))) r0 r1 r2 r3 r4 hu) (cwV 5 hts gL_step_X1_set rfl rfl rfl (by decide +kernel) ⟨(Nat.le_of_ble_eq_true rfl), (Nat.le_of_ble_eq_true rfl)⟩) hT hS hA hK hP hD [0, 1] rfl [0, 1, 2, 3, 4, 5, 6, 7, 8, 9, 10, 11, 12, 13, 14] [15] [1, 2, 3, 4, 5, 6, 7, 8, 9, 10, 11, 12, 13, 14, 15, 0] rfl (by decide) rfl (by decide) (by decide) rfl (by decide) 0 1 rfl rfl rfl rfl hl.1 rfl (Nat.le_of_ble_eq_true rfl) dL_step_162 ⟨(Nat.le_of_ble_eq_true rfl), (Nat.le_of_ble_eq_true rfl)⟩ [1, 2, 3, 4, 5, 6, 7, 8, 9, 10, 11, 12, 13, 14, 15, 0] rfl (by decide) (fun _ _ _ _ _ hE => hE.elim) (fun H locs _ hP hD hS => ?_)
          refine lv_aload_n hx hb dL_step_165 rfl (lv_at hl 1 rfl) ?_
          refine lv_iload hx hb dL_step_166 (lv_at hl 0 rfl) ?_
          refine ghV_i (wc := (wG ad cI cL (nI (1 + (a % 4000))) (nI ((b / 2) % 101)) (nI ((b / 202) % 101)) pr ex (nI c) dy tk (rMk (T)) (nI (1 + (a % 5))) (rMS (T)) (rSu (T)) (nI (1 + (b % 5))) (rUS (T)) (rSh (T)) (rMu (T)) (rCo (T)) (rSr (T)) (rDu (T)) bi bb)) (wr := [(o, .inl (cI, 7, .inl (cF (nI (1 + (a % 4000))) (nI ((b / 2) % 101)) (nI ((b / 202) % 101)) (nI (1 + (a % 5))) (nI (1 + (b % 5))) (nI c) (tk c))))]) (w1 := (wG ad cI cL (nI (1 + (a % 4000))) (nI ((b / 2) % 101)) (nI ((b / 202) % 101)) pr ex (nI c) dy tk (rMk (T)) (nI (1 + (a % 5))) (rMS (T)) (rSu (T)) (nI (1 + (b % 5))) (rUS (T)) (rSh (T)) (rMu (T)) (rCo (T)) (rSr (T)) (rDu (T)) bi bb)) (W' := ((wG ad cI cL (nI (1 + (a % 4000))) (nI ((b / 2) % 101)) (nI ((b / 202) % 101)) pr ex (nI c) dy tk (rMk (T)) (nI (1 + (a % 5))) (rMS (T)) (rSu (T)) (nI (1 + (b % 5))) (rUS (T)) (rSh (T)) (rMu (T)) (rCo (T)) (rSr (T)) (rDu (T)) bi bb) ++ [(o, .inl (cI, 7, .inl (cF (nI (1 + (a % 4000))) (nI ((b / 2) % 101)) (nI ((b / 202) % 101)) (nI (1 + (a % 5))) (nI (1 + (b % 5))) (nI c) (tk c))))])) (As := [.int (nI y)]) (rest := []) ⟨hx, hb, hml, hown, hts⟩ (c_X1_least l hst D H.size ad cI cL (nI (1 + (a % 4000))) (nI ((b / 2) % 101)) (nI ((b / 202) % 101)) pr ex c dy tk (rMk (T)) (1 + (a % 5)) (rMS (T)) (rSu (T)) (1 + (b % 5)) (rUS (T)) (rSh (T)) (rMu (T)) (rCo (T)) (rSr (T)) (rDu (T)) bi bb y hy) (cwV 1 hts gL_step_X1_least rfl rfl rfl (by decide +kernel) ⟨(Nat.le_of_ble_eq_true rfl), (Nat.le_of_ble_eq_true rfl)⟩) hT hS hA hK hP hD [0, 1] rfl [0, 1, 2, 3, 4, 5, 6, 7, 8, 9, 10, 11, 12, 13, 14] [15] [1, 2, 3, 4, 5, 6, 7, 8, 9, 10, 11, 12, 13, 14, 15, 0] rfl (by decide) rfl (by decide) (by decide) rfl (by decide) 0 1 rfl rfl rfl rfl hl.1 rfl (Nat.le_of_ble_eq_true rfl) dL_step_168 ⟨(Nat.le_of_ble_eq_true rfl), (Nat.le_of_ble_eq_true rfl)⟩ [1, 2, 3, 4, 5, 6, 7, 8, 9, 10, 11, 12, 13, 14, 15, 0] rfl (by decide) (fun _ _ _ _ _ hE => hE.elim) (fun H locs _ hP hD hS => ?_)
          refine lv_if_lt (tgt := 201) hx hb dL_step_171 (by decide) (fun cb => absurd cb ((INV_lq hI1 y).1)) (fun _ => ?_)
          refine lv_aload_n hx hb dL_step_174 rfl (lv_at hl 1 rfl) ?_
          refine lv_iload hx hb dL_step_175 (lv_at hl 0 rfl) ?_
          refine ghV_i (wc := (wG ad cI cL (nI (1 + (a % 4000))) (nI ((b / 2) % 101)) (nI ((b / 202) % 101)) pr ex (nI c) dy tk (rMk (T)) (nI (1 + (a % 5))) (rMS (T)) (rSu (T)) (nI (1 + (b % 5))) (rUS (T)) (rSh (T)) (rMu (T)) (rCo (T)) (rSr (T)) (rDu (T)) bi bb)) (wr := [(o, .inl (cI, 7, .inl (cF (nI (1 + (a % 4000))) (nI ((b / 2) % 101)) (nI ((b / 202) % 101)) (nI (1 + (a % 5))) (nI (1 + (b % 5))) (nI c) (tk c))))]) (w1 := (wG ad cI cL (nI (1 + (a % 4000))) (nI ((b / 2) % 101)) (nI ((b / 202) % 101)) pr ex (nI c) dy tk (rMk (T)) (nI (1 + (a % 5))) (rMS (T)) (rSu (T)) (nI (1 + (b % 5))) (rUS (T)) (rSh (T)) (rMu (T)) (rCo (T)) (rSr (T)) (rDu (T)) bi bb)) (W' := ((wG ad cI cL (nI (1 + (a % 4000))) (nI ((b / 2) % 101)) (nI ((b / 202) % 101)) pr ex (nI c) dy tk (rMk (T)) (nI (1 + (a % 5))) (rMS (T)) (rSu (T)) (nI (1 + (b % 5))) (rUS (T)) (rSh (T)) (rMu (T)) (rCo (T)) (rSr (T)) (rDu (T)) bi bb) ++ [(o, .inl (cI, 7, .inl (cF (nI (1 + (a % 4000))) (nI ((b / 2) % 101)) (nI ((b / 202) % 101)) (nI (1 + (a % 5))) (nI (1 + (b % 5))) (nI c) (tk c))))])) (As := [.int (nI y)]) (rest := []) ⟨hx, hb, hml, hown, hts⟩ (c_X1_least l hst D H.size ad cI cL (nI (1 + (a % 4000))) (nI ((b / 2) % 101)) (nI ((b / 202) % 101)) pr ex c dy tk (rMk (T)) (1 + (a % 5)) (rMS (T)) (rSu (T)) (1 + (b % 5)) (rUS (T)) (rSh (T)) (rMu (T)) (rCo (T)) (rSr (T)) (rDu (T)) bi bb y hy) (cwV 1 hts gL_step_X1_least rfl rfl rfl (by decide +kernel) ⟨(Nat.le_of_ble_eq_true rfl), (Nat.le_of_ble_eq_true rfl)⟩) hT hS hA hK hP hD [0, 1] rfl [0, 1, 2, 3, 4, 5, 6, 7, 8, 9, 10, 11, 12, 13, 14] [15] [1, 2, 3, 4, 5, 6, 7, 8, 9, 10, 11, 12, 13, 14, 15, 0] rfl (by decide) rfl (by decide) (by decide) rfl (by decide) 0 1 rfl rfl rfl rfl hl.1 rfl (Nat.le_of_ble_eq_true rfl) dL_step_177 ⟨(Nat.le_of_ble_eq_true rfl), (Nat.le_of_ble_eq_true rfl)⟩ [1, 2, 3, 4, 5, 6, 7, 8, 9, 10, 11, 12, 13, 14, 15, 0] rfl (by decide) (fun _ _ _ _ _ hE => hE.elim) (fun H locs _ hP hD hS => ?_)
          refine lv_aload_n hx hb dL_step_180 rfl (lv_at hl 2 rfl) ?_
          refine lv_iconst (v := 0) hx hb dL_step_181 (by decide) ?_
          refine ga_iald (j := 0) hx hb hK hP 15 0 rfl rfl (by decide) (by decide) dL_step_182 ?_
          refine gj_i (show (cF (nI (1 + (a % 4000))) (nI ((b / 2) % 101)) (nI ((b / 202) % 101)) (nI (1 + (a % 5))) (nI (1 + (b % 5))) (nI c) (tk c)) 0 = nI (1 + (a % 4000)) from rfl) ?_
          refine lv_i2l hx hb dL_step_183 rfl ?_
          refine lv_aload_n hx hb dL_step_184 rfl (lv_at hl 2 rfl) ?_
          refine lv_iconst (v := 1) hx hb dL_step_185 (by decide) ?_
          refine ga_iald (j := 1) hx hb hK hP 15 0 rfl rfl (by decide) (by decide) dL_step_186 ?_
          refine gj_i (show (cF (nI (1 + (a % 4000))) (nI ((b / 2) % 101)) (nI ((b / 202) % 101)) (nI (1 + (a % 5))) (nI (1 + (b % 5))) (nI c) (tk c)) 1 = nI ((b / 2) % 101) from rfl) ?_
          refine lv_i2l hx hb dL_step_187 rfl ?_
          refine lv_lmul hx hb dL_step_188 ?_
          refine lv_ldc2 (v := 100) hx hb hown (hts _ hL_step__constantLong_RL_25_100_) dL_step_189 ?_
          refine lv_ldiv hx hb dL_step_192 (by decide) ?_
          refine lv_l2i hx hb dL_step_193 rfl ?_
          refine lv_icmp_gt (tgt := 201) hx hb dL_step_194 (by decide) (fun cb => absurd cb ((INV_lq hI1 y).2)) (fun _ => ?_)
          refine lv_iconst (v := 1) hx hb dL_step_197 (by decide) ?_
          refine lv_goto (tgt := 202) hx hb dL_step_198 (by decide) ?_
          exact ge_is (PW_mk hI1) hx hb hr hlocks rfl hK hP hD hS (Nat.le_of_ble_eq_true rfl) (Nat.le_of_ble_eq_true rfl) dL_step_202
        · have r0 : inR (nI (1 + a % 100000)) 1 100000 := inR_n (lo := 1) (hi := 100000) (by omega) (by omega) (by decide)
          have r1 : inR (nI (b / 2 % 101)) 0 100 := inR_n (lo := 0) (hi := 100) (by omega) (by omega) (by decide)
          have r2 : inR (nI (b / 202 % 101)) 0 100 := inR_n (lo := 0) (hi := 100) (by omega) (by omega) (by decide)
          have r3 : inR (nI (1 + a % 5)) 1 5 := inR_n (lo := 1) (hi := 5) (by omega) (by omega) (by decide)
          have r4 : inR (nI (1 + b % 5)) 1 5 := inR_n (lo := 1) (hi := 5) (by omega) (by omega) (by decide)
          have hI1 : INV (nI (1 + a % 100000)) (nI (b / 2 % 101)) (nI (b / 202 % 101)) pr ex c dy tk (1 + a % 5) (1 + b % 5) T bi bb := INV_set hI r0 r1 r2 (by omega) (by omega) hc0
          refine lv_ldc (v := 100000) hx hb hown (hts _ hL_step__constant_RL_16_100000_) dL_step_96 ?_
          refine lv_goto (tgt := 104) hx hb dL_step_98 (by decide) ?_
          refine lv_irem hx hb dL_step_104 (by decide) ?_
          refine gj_i (show (nI a) - (nI a) / 100000 * 100000 = nI (a % 100000) from pk_rem (a := a) (d := 100000) (by omega) (by decide) (by decide)) ?_
          refine lv_iadd hx hb dL_step_105 ?_
          refine gj_i (show 1 + (nI (a % 100000)) = nI (1 + (a % 100000)) from nI_add 1 (a % 100000)) ?_
          refine ga_iast (j := 0) (ws' := ((wG ad cI cL qy lp sp pr ex (nI c) dy tk (rMk (T)) (nI mK) (rMS (T)) (rSu (T)) (nI uK) (rUS (T)) (rSh (T)) (rMu (T)) (rCo (T)) (rSr (T)) (rDu (T)) bi bb) ++ [(o, .inl (cI, 7, .inl (cF (nI (1 + (a % 100000))) lp sp (nI mK) (nI uK) (nI c) (tk c))))])) hx hb hK hP hD hS 15 0 rfl rfl (by decide) (by decide) dL_step_106 (by rw [cF_u0]; rfl) (fun H locs hP hD hS => ?_)
          refine lv_aload_n hx hb dL_step_107 rfl (lv_at hl 2 rfl) ?_
          refine lv_iconst (v := 1) hx hb dL_step_108 (by decide) ?_
          refine lv_iload hx hb dL_step_109 (lv_at hl 5 rfl) ?_
          refine lv_iconst (v := 2) hx hb dL_step_111 (by decide) ?_
          refine lv_idiv hx hb dL_step_112 (by decide) ?_
          refine gj_i (show (nI b) / 2 = nI (b / 2) from pk_div (a := b) (d := 2) (by omega) (by decide) (by decide)) ?_
          refine lv_bipush (v := 101) hx hb dL_step_113 (by decide) ?_
          refine lv_irem hx hb dL_step_115 (by decide) ?_
          refine gj_i (show (nI (b / 2)) - (nI (b / 2)) / 101 * 101 = nI ((b / 2) % 101) from pk_rem (a := b / 2) (d := 101) (by omega) (by decide) (by decide)) ?_
          refine ga_iast (j := 1) (ws' := ((wG ad cI cL qy lp sp pr ex (nI c) dy tk (rMk (T)) (nI mK) (rMS (T)) (rSu (T)) (nI uK) (rUS (T)) (rSh (T)) (rMu (T)) (rCo (T)) (rSr (T)) (rDu (T)) bi bb) ++ [(o, .inl (cI, 7, .inl (cF (nI (1 + (a % 100000))) (nI ((b / 2) % 101)) sp (nI mK) (nI uK) (nI c) (tk c))))])) hx hb hK hP hD hS 15 0 rfl rfl (by decide) (by decide) dL_step_116 (by rw [cF_u1]; rfl) (fun H locs hP hD hS => ?_)
          refine lv_aload_n hx hb dL_step_117 rfl (lv_at hl 2 rfl) ?_
          refine lv_iconst (v := 2) hx hb dL_step_118 (by decide) ?_
          refine lv_iload hx hb dL_step_119 (lv_at hl 5 rfl) ?_
          refine lv_sipush (v := 202) hx hb dL_step_121 (by decide) ?_
          refine lv_idiv hx hb dL_step_124 (by decide) ?_
          refine gj_i (show (nI b) / 202 = nI (b / 202) from pk_div (a := b) (d := 202) (by omega) (by decide) (by decide)) ?_
          refine lv_bipush (v := 101) hx hb dL_step_125 (by decide) ?_
          refine lv_irem hx hb dL_step_127 (by decide) ?_
          refine gj_i (show (nI (b / 202)) - (nI (b / 202)) / 101 * 101 = nI ((b / 202) % 101) from pk_rem (a := b / 202) (d := 101) (by omega) (by decide) (by decide)) ?_
          refine ga_iast (j := 2) (ws' := ((wG ad cI cL qy lp sp pr ex (nI c) dy tk (rMk (T)) (nI mK) (rMS (T)) (rSu (T)) (nI uK) (rUS (T)) (rSh (T)) (rMu (T)) (rCo (T)) (rSr (T)) (rDu (T)) bi bb) ++ [(o, .inl (cI, 7, .inl (cF (nI (1 + (a % 100000))) (nI ((b / 2) % 101)) (nI ((b / 202) % 101)) (nI mK) (nI uK) (nI c) (tk c))))])) hx hb hK hP hD hS 15 0 rfl rfl (by decide) (by decide) dL_step_128 (by rw [cF_u2]; rfl) (fun H locs hP hD hS => ?_)
          refine lv_aload_n hx hb dL_step_129 rfl (lv_at hl 2 rfl) ?_
          refine lv_iconst (v := 3) hx hb dL_step_130 (by decide) ?_
          refine lv_iconst (v := 1) hx hb dL_step_131 (by decide) ?_
          refine lv_iload_n hx hb dL_step_132 rfl (lv_at hl 4 rfl) ?_
          refine lv_iconst (v := 5) hx hb dL_step_133 (by decide) ?_
          refine lv_irem hx hb dL_step_134 (by decide) ?_
          refine gj_i (show (nI a) - (nI a) / 5 * 5 = nI (a % 5) from pk_rem (a := a) (d := 5) (by omega) (by decide) (by decide)) ?_
          refine lv_iadd hx hb dL_step_135 ?_
          refine gj_i (show 1 + (nI (a % 5)) = nI (1 + (a % 5)) from nI_add 1 (a % 5)) ?_
          refine ga_iast (j := 3) (ws' := ((wG ad cI cL qy lp sp pr ex (nI c) dy tk (rMk (T)) (nI mK) (rMS (T)) (rSu (T)) (nI uK) (rUS (T)) (rSh (T)) (rMu (T)) (rCo (T)) (rSr (T)) (rDu (T)) bi bb) ++ [(o, .inl (cI, 7, .inl (cF (nI (1 + (a % 100000))) (nI ((b / 2) % 101)) (nI ((b / 202) % 101)) (nI (1 + (a % 5))) (nI uK) (nI c) (tk c))))])) hx hb hK hP hD hS 15 0 rfl rfl (by decide) (by decide) dL_step_136 (by rw [cF_u3]; rfl) (fun H locs hP hD hS => ?_)
          refine lv_aload_n hx hb dL_step_137 rfl (lv_at hl 2 rfl) ?_
          refine lv_iconst (v := 4) hx hb dL_step_138 (by decide) ?_
          refine lv_iconst (v := 1) hx hb dL_step_139 (by decide) ?_
          refine lv_iload hx hb dL_step_140 (lv_at hl 5 rfl) ?_
          refine lv_iconst (v := 5) hx hb dL_step_142 (by decide) ?_
          refine lv_irem hx hb dL_step_143 (by decide) ?_
          refine gj_i (show (nI b) - (nI b) / 5 * 5 = nI (b % 5) from pk_rem (a := b) (d := 5) (by omega) (by decide) (by decide)) ?_
          refine lv_iadd hx hb dL_step_144 ?_
          refine gj_i (show 1 + (nI (b % 5)) = nI (1 + (b % 5)) from nI_add 1 (b % 5)) ?_
          refine ga_iast (j := 4) (ws' := ((wG ad cI cL qy lp sp pr ex (nI c) dy tk (rMk (T)) (nI mK) (rMS (T)) (rSu (T)) (nI uK) (rUS (T)) (rSh (T)) (rMu (T)) (rCo (T)) (rSr (T)) (rDu (T)) bi bb) ++ [(o, .inl (cI, 7, .inl (cF (nI (1 + (a % 100000))) (nI ((b / 2) % 101)) (nI ((b / 202) % 101)) (nI (1 + (a % 5))) (nI (1 + (b % 5))) (nI c) (tk c))))])) hx hb hK hP hD hS 15 0 rfl rfl (by decide) (by decide) dL_step_145 (by rw [cF_u4]; rfl) (fun H locs hP hD hS => ?_)
          refine lv_aload_n hx hb dL_step_146 rfl (lv_at hl 1 rfl) ?_
          refine lv_aload_n hx hb dL_step_147 rfl (lv_at hl 2 rfl) ?_
          refine lv_iconst (v := 0) hx hb dL_step_148 (by decide) ?_
          refine ga_iald (j := 0) hx hb hK hP 15 0 rfl rfl (by decide) (by decide) dL_step_149 ?_
          refine gj_i (show (cF (nI (1 + (a % 100000))) (nI ((b / 2) % 101)) (nI ((b / 202) % 101)) (nI (1 + (a % 5))) (nI (1 + (b % 5))) (nI c) (tk c)) 0 = nI (1 + (a % 100000)) from rfl) ?_
          refine lv_aload_n hx hb dL_step_150 rfl (lv_at hl 2 rfl) ?_
          refine lv_iconst (v := 1) hx hb dL_step_151 (by decide) ?_
          refine ga_iald (j := 1) hx hb hK hP 15 0 rfl rfl (by decide) (by decide) dL_step_152 ?_
          refine gj_i (show (cF (nI (1 + (a % 100000))) (nI ((b / 2) % 101)) (nI ((b / 202) % 101)) (nI (1 + (a % 5))) (nI (1 + (b % 5))) (nI c) (tk c)) 1 = nI ((b / 2) % 101) from rfl) ?_
          refine lv_aload_n hx hb dL_step_153 rfl (lv_at hl 2 rfl) ?_
          refine lv_iconst (v := 2) hx hb dL_step_154 (by decide) ?_
          refine ga_iald (j := 2) hx hb hK hP 15 0 rfl rfl (by decide) (by decide) dL_step_155 ?_
          refine gj_i (show (cF (nI (1 + (a % 100000))) (nI ((b / 2) % 101)) (nI ((b / 202) % 101)) (nI (1 + (a % 5))) (nI (1 + (b % 5))) (nI c) (tk c)) 2 = nI ((b / 202) % 101) from rfl) ?_
          refine lv_aload_n hx hb dL_step_156 rfl (lv_at hl 2 rfl) ?_
          refine lv_iconst (v := 3) hx hb dL_step_157 (by decide) ?_
          refine ga_iald (j := 3) hx hb hK hP 15 0 rfl rfl (by decide) (by decide) dL_step_158 ?_
          refine gj_i (show (cF (nI (1 + (a % 100000))) (nI ((b / 2) % 101)) (nI ((b / 202) % 101)) (nI (1 + (a % 5))) (nI (1 + (b % 5))) (nI c) (tk c)) 3 = nI (1 + (a % 5)) from rfl) ?_
          refine lv_aload_n hx hb dL_step_159 rfl (lv_at hl 2 rfl) ?_
          refine lv_iconst (v := 4) hx hb dL_step_160 (by decide) ?_
          refine ga_iald (j := 4) hx hb hK hP 15 0 rfl rfl (by decide) (by decide) dL_step_161 ?_
          refine gj_i (show (cF (nI (1 + (a % 100000))) (nI ((b / 2) % 101)) (nI ((b / 202) % 101)) (nI (1 + (a % 5))) (nI (1 + (b % 5))) (nI c) (tk c)) 4 = nI (1 + (b % 5)) from rfl) ?_
          refine ghV_v (wc := (wG ad cI cL qy lp sp pr ex (nI c) dy tk (rMk (T)) (nI mK) (rMS (T)) (rSu (T)) (nI uK) (rUS (T)) (rSh (T)) (rMu (T)) (rCo (T)) (rSr (T)) (rDu (T)) bi bb)) (wr := [(o, .inl (cI, 7, .inl (cF (nI (1 + (a % 100000))) (nI ((b / 2) % 101)) (nI ((b / 202) % 101)) (nI (1 + (a % 5))) (nI (1 + (b % 5))) (nI c) (tk c))))]) (w1 := (wG ad cI cL (nI (1 + (a % 100000))) (nI ((b / 2) % 101)) (nI ((b / 202) % 101)) pr ex (nI c) dy tk (rMk (T)) (nI (1 + (a % 5))) (rMS (T)) (rSu (T)) (nI (1 + (b % 5))) (rUS (T)) (rSh (T)) (rMu (T)) (rCo (T)) (rSr (T)) (rDu (T)) bi bb)) (W' := ((wG ad cI cL (nI (1 + (a % 100000))) (nI ((b / 2) % 101)) (nI ((b / 202) % 101)) pr ex (nI c) dy tk (rMk (T)) (nI (1 + (a % 5))) (rMS (T)) (rSu (T)) (nI (1 + (b % 5))) (rUS (T)) (rSh (T)) (rMu (T)) (rCo (T)) (rSr (T)) (rDu (T)) bi bb) ++ [(o, .inl (cI, 7, .inl (cF (nI (1 + (a % 100000))) (nI ((b / 2) % 101)) (nI ((b / 202) % 101)) (nI (1 + (a % 5))) (nI (1 + (b % 5))) (nI c) (tk c))))])) (As := [.int (nI (1 + (a % 100000))), .int (nI ((b / 2) % 101)), .int (nI ((b / 202) % 101)), .int (nI (1 + (a % 5))), .int (nI (1 + (b % 5)))]) (rest := []) ⟨hx, hb, hml, hown, hts⟩ (c_X1_set l hst D H.size ad cI cL qy lp sp pr ex c dy tk (rMk (T)) mK (rMS (T)) (rSu (T)) uK (rUS (T)) (rSh (T)) (rMu (T)) (rCo (T)) (rSr (T)) (rDu (T)) bi bb (nI (1 + (a % 100000))) (nI ((b / 2) % 101)) (nI ((b / 202) % 101)) (nI (1 + (a % 5))) (nI (1 + (b % 5))) r0 r1 r2 r3 r4 hu) (cwV 5 hts gL_step_X1_set rfl rfl rfl (by decide +kernel) ⟨(Nat.le_of_ble_eq_true rfl), (Nat.le_of_ble_eq_true rfl)⟩) hT hS hA hK hP hD [0, 1] rfl [0, 1, 2, 3, 4, 5, 6, 7, 8, 9, 10, 11, 12, 13, 14] [15] [1, 2, 3, 4, 5, 6, 7, 8, 9, 10, 11, 12, 13, 14, 15, 0] rfl (by decide) rfl (by decide) (by decide) rfl (by decide) 0 1 rfl rfl rfl rfl hl.1 rfl (Nat.le_of_ble_eq_true rfl) dL_step_162 ⟨(Nat.le_of_ble_eq_true rfl), (Nat.le_of_ble_eq_true rfl)⟩ [1, 2, 3, 4, 5, 6, 7, 8, 9, 10, 11, 12, 13, 14, 15, 0] rfl (by decide) (fun _ _ _ _ _ hE => hE.elim) (fun H locs _ hP hD hS => ?_)
          refine lv_aload_n hx hb dL_step_165 rfl (lv_at hl 1 rfl) ?_
          refine lv_iload hx hb dL_step_166 (lv_at hl 0 rfl) ?_
          refine ghV_i (wc := (wG ad cI cL (nI (1 + (a % 100000))) (nI ((b / 2) % 101)) (nI ((b / 202) % 101)) pr ex (nI c) dy tk (rMk (T)) (nI (1 + (a % 5))) (rMS (T)) (rSu (T)) (nI (1 + (b % 5))) (rUS (T)) (rSh (T)) (rMu (T)) (rCo (T)) (rSr (T)) (rDu (T)) bi bb)) (wr := [(o, .inl (cI, 7, .inl (cF (nI (1 + (a % 100000))) (nI ((b / 2) % 101)) (nI ((b / 202) % 101)) (nI (1 + (a % 5))) (nI (1 + (b % 5))) (nI c) (tk c))))]) (w1 := (wG ad cI cL (nI (1 + (a % 100000))) (nI ((b / 2) % 101)) (nI ((b / 202) % 101)) pr ex (nI c) dy tk (rMk (T)) (nI (1 + (a % 5))) (rMS (T)) (rSu (T)) (nI (1 + (b % 5))) (rUS (T)) (rSh (T)) (rMu (T)) (rCo (T)) (rSr (T)) (rDu (T)) bi bb)) (W' := ((wG ad cI cL (nI (1 + (a % 100000))) (nI ((b / 2) % 101)) (nI ((b / 202) % 101)) pr ex (nI c) dy tk (rMk (T)) (nI (1 + (a % 5))) (rMS (T)) (rSu (T)) (nI (1 + (b % 5))) (rUS (T)) (rSh (T)) (rMu (T)) (rCo (T)) (rSr (T)) (rDu (T)) bi bb) ++ [(o, .inl (cI, 7, .inl (cF (nI (1 + (a % 100000))) (nI ((b / 2) % 101)) (nI ((b / 202) % 101)) (nI (1 + (a % 5))) (nI (1 + (b % 5))) (nI c) (tk c))))])) (As := [.int (nI y)]) (rest := []) ⟨hx, hb, hml, hown, hts⟩ (c_X1_least l hst D H.size ad cI cL (nI (1 + (a % 100000))) (nI ((b / 2) % 101)) (nI ((b / 202) % 101)) pr ex c dy tk (rMk (T)) (1 + (a % 5)) (rMS (T)) (rSu (T)) (1 + (b % 5)) (rUS (T)) (rSh (T)) (rMu (T)) (rCo (T)) (rSr (T)) (rDu (T)) bi bb y hy) (cwV 1 hts gL_step_X1_least rfl rfl rfl (by decide +kernel) ⟨(Nat.le_of_ble_eq_true rfl), (Nat.le_of_ble_eq_true rfl)⟩) hT hS hA hK hP hD [0, 1] rfl [0, 1, 2, 3, 4, 5, 6, 7, 8, 9, 10, 11, 12, 13, 14] [15] [1, 2, 3, 4, 5, 6, 7, 8, 9, 10, 11, 12, 13, 14, 15, 0] rfl (by decide) rfl (by decide) (by decide) rfl (by decide) 0 1 rfl rfl rfl rfl hl.1 rfl (Nat.le_of_ble_eq_true rfl) dL_step_168 ⟨(Nat.le_of_ble_eq_true rfl), (Nat.le_of_ble_eq_true rfl)⟩ [1, 2, 3, 4, 5, 6, 7, 8, 9, 10, 11, 12, 13, 14, 15, 0] rfl (by decide) (fun _ _ _ _ _ hE => hE.elim) (fun H locs _ hP hD hS => ?_)
          refine lv_if_lt (tgt := 201) hx hb dL_step_171 (by decide) (fun cb => absurd cb ((INV_lq hI1 y).1)) (fun _ => ?_)
          refine lv_aload_n hx hb dL_step_174 rfl (lv_at hl 1 rfl) ?_
          refine lv_iload hx hb dL_step_175 (lv_at hl 0 rfl) ?_
          refine ghV_i (wc := (wG ad cI cL (nI (1 + (a % 100000))) (nI ((b / 2) % 101)) (nI ((b / 202) % 101)) pr ex (nI c) dy tk (rMk (T)) (nI (1 + (a % 5))) (rMS (T)) (rSu (T)) (nI (1 + (b % 5))) (rUS (T)) (rSh (T)) (rMu (T)) (rCo (T)) (rSr (T)) (rDu (T)) bi bb)) (wr := [(o, .inl (cI, 7, .inl (cF (nI (1 + (a % 100000))) (nI ((b / 2) % 101)) (nI ((b / 202) % 101)) (nI (1 + (a % 5))) (nI (1 + (b % 5))) (nI c) (tk c))))]) (w1 := (wG ad cI cL (nI (1 + (a % 100000))) (nI ((b / 2) % 101)) (nI ((b / 202) % 101)) pr ex (nI c) dy tk (rMk (T)) (nI (1 + (a % 5))) (rMS (T)) (rSu (T)) (nI (1 + (b % 5))) (rUS (T)) (rSh (T)) (rMu (T)) (rCo (T)) (rSr (T)) (rDu (T)) bi bb)) (W' := ((wG ad cI cL (nI (1 + (a % 100000))) (nI ((b / 2) % 101)) (nI ((b / 202) % 101)) pr ex (nI c) dy tk (rMk (T)) (nI (1 + (a % 5))) (rMS (T)) (rSu (T)) (nI (1 + (b % 5))) (rUS (T)) (rSh (T)) (rMu (T)) (rCo (T)) (rSr (T)) (rDu (T)) bi bb) ++ [(o, .inl (cI, 7, .inl (cF (nI (1 + (a % 100000))) (nI ((b / 2) % 101)) (nI ((b / 202) % 101)) (nI (1 + (a % 5))) (nI (1 + (b % 5))) (nI c) (tk c))))])) (As := [.int (nI y)]) (rest := []) ⟨hx, hb, hml, hown, hts⟩ (c_X1_least l hst D H.size ad cI cL (nI (1 + (a % 100000))) (nI ((b / 2) % 101)) (nI ((b / 202) % 101)) pr ex c dy tk (rMk (T)) (1 + (a % 5)) (rMS (T)) (rSu (T)) (1 + (b % 5)) (rUS (T)) (rSh (T)) (rMu (T)) (rCo (T)) (rSr (T)) (rDu (T)) bi bb y hy) (cwV 1 hts gL_step_X1_least rfl rfl rfl (by decide +kernel) ⟨(Nat.le_of_ble_eq_true rfl), (Nat.le_of_ble_eq_true rfl)⟩) hT hS hA hK hP hD [0, 1] rfl [0, 1, 2, 3, 4, 5, 6, 7, 8, 9, 10, 11, 12, 13, 14] [15] [1, 2, 3, 4, 5, 6, 7, 8, 9, 10, 11, 12, 13, 14, 15, 0] rfl (by decide) rfl (by decide) (by decide) rfl (by decide) 0 1 rfl rfl rfl rfl hl.1 rfl (Nat.le_of_ble_eq_true rfl) dL_step_177 ⟨(Nat.le_of_ble_eq_true rfl), (Nat.le_of_ble_eq_true rfl)⟩ [1, 2, 3, 4, 5, 6, 7, 8, 9, 10, 11, 12, 13, 14, 15, 0] rfl (by decide) (fun _ _ _ _ _ hE => hE.elim) (fun H locs _ hP hD hS => ?_)
          refine lv_aload_n hx hb dL_step_180 rfl (lv_at hl 2 rfl) ?_
          refine lv_iconst (v := 0) hx hb dL_step_181 (by decide) ?_
          refine ga_iald (j := 0) hx hb hK hP 15 0 rfl rfl (by decide) (by decide) dL_step_182 ?_
          refine gj_i (show (cF (nI (1 + (a % 100000))) (nI ((b / 2) % 101)) (nI ((b / 202) % 101)) (nI (1 + (a % 5))) (nI (1 + (b % 5))) (nI c) (tk c)) 0 = nI (1 + (a % 100000)) from rfl) ?_
          refine lv_i2l hx hb dL_step_183 rfl ?_
          refine lv_aload_n hx hb dL_step_184 rfl (lv_at hl 2 rfl) ?_
          refine lv_iconst (v := 1) hx hb dL_step_185 (by decide) ?_
          refine ga_iald (j := 1) hx hb hK hP 15 0 rfl rfl (by decide) (by decide) dL_step_186 ?_
          refine gj_i (show (cF (nI (1 + (a % 100000))) (nI ((b / 2) % 101)) (nI ((b / 202) % 101)) (nI (1 + (a % 5))) (nI (1 + (b % 5))) (nI c) (tk c)) 1 = nI ((b / 2) % 101) from rfl) ?_
          refine lv_i2l hx hb dL_step_187 rfl ?_
          refine lv_lmul hx hb dL_step_188 ?_
          refine lv_ldc2 (v := 100) hx hb hown (hts _ hL_step__constantLong_RL_25_100_) dL_step_189 ?_
          refine lv_ldiv hx hb dL_step_192 (by decide) ?_
          refine lv_l2i hx hb dL_step_193 rfl ?_
          refine lv_icmp_gt (tgt := 201) hx hb dL_step_194 (by decide) (fun cb => absurd cb ((INV_lq hI1 y).2)) (fun _ => ?_)
          refine lv_iconst (v := 1) hx hb dL_step_197 (by decide) ?_
          refine lv_goto (tgt := 202) hx hb dL_step_198 (by decide) ?_
          exact ge_is (PW_mk hI1) hx hb hr hlocks rfl hK hP hD hS (Nat.le_of_ble_eq_true rfl) (Nat.le_of_ble_eq_true rfl) dL_step_202
      · refine lv_aload_n hx hb dL_step_69 rfl (lv_at hl 1 rfl) ?_
        refine gV_i (wc := (wG ad cI cL qy lp sp pr ex (nI c) dy tk (rMk (T)) (nI mK) (rMS (T)) (rSu (T)) (nI uK) (rUS (T)) (rSh (T)) (rMu (T)) (rCo (T)) (rSr (T)) (rDu (T)) bi bb)) (wr := [(o, .inl (cI, 7, .inl (cF qy lp sp (nI mK) (nI uK) (nI c) (tk c))))]) (w1 := (wG ad cI cL qy lp sp pr ex (nI c) dy tk (rMk (T)) (nI mK) (rMS (T)) (rSu (T)) (nI uK) (rUS (T)) (rSh (T)) (rMu (T)) (rCo (T)) (rSr (T)) (rDu (T)) bi bb)) (W' := ((wG ad cI cL qy lp sp pr ex (nI c) dy tk (rMk (T)) (nI mK) (rMS (T)) (rSu (T)) (nI uK) (rUS (T)) (rSh (T)) (rMu (T)) (rCo (T)) (rSr (T)) (rDu (T)) bi bb) ++ [(o, .inl (cI, 7, .inl (cF qy lp sp (nI mK) (nI uK) (nI c) (tk c))))])) (As := []) (rest := []) ⟨hx, hb, hml, hown, hts⟩ (c_X1_closed l D s.heap.size ad cI cL qy lp sp pr ex c dy tk (rMk (T)) mK (rMS (T)) (rSu (T)) uK (rUS (T)) (rSh (T)) (rMu (T)) (rCo (T)) (rSr (T)) (rDu (T)) bi bb  ) (cwV 0 hts gL_step_X1_closed rfl rfl rfl (by decide +kernel) ⟨(Nat.le_of_ble_eq_true rfl), (Nat.le_of_ble_eq_true rfl)⟩) hS hA hK hP hD [0, 1] rfl [0, 1, 2, 3, 4, 5, 6, 7, 8, 9, 10, 11, 12, 13, 14] [15] [1, 2, 3, 4, 5, 6, 7, 8, 9, 10, 11, 12, 13, 14, 15, 0] rfl (by decide) rfl (by decide) (by decide) rfl (by decide) 0 1 rfl rfl rfl rfl hl.1 rfl (Nat.le_of_ble_eq_true rfl) dL_step_70 ⟨(Nat.le_of_ble_eq_true rfl), (Nat.le_of_ble_eq_true rfl)⟩ (fun H locs _ hP hD hS => ?_)
        refine lv_aload_n hx hb dL_step_73 rfl (lv_at hl 2 rfl) ?_
        refine lv_iconst (v := 5) hx hb dL_step_74 (by decide) ?_
        refine ga_iald (j := 5) hx hb hK hP 15 0 rfl rfl (by decide) (by decide) dL_step_75 ?_
        refine gj_i (show (cF qy lp sp (nI mK) (nI uK) (nI c) (tk c)) 5 = nI c from rfl) ?_
        refine lv_icmp_ne (tgt := 83) hx hb dL_step_76 (by decide) (fun cb => absurd rfl cb) (fun _ => ?_)
        refine lv_iconst (v := 1) hx hb dL_step_79 (by decide) ?_
        refine lv_goto (tgt := 84) hx hb dL_step_80 (by decide) ?_
        exact ge_is (PW_mk hI) hx hb hr hlocks rfl hK hP hD hS (Nat.le_of_ble_eq_true rfl) (Nat.le_of_ble_eq_true rfl) dL_step_84
  · refine lv_tableIn (off := 193) (tgt := 203) hx hb dL_step_10 (by decide) (by decide) (by decide +kernel) (by decide) ?_
    obtain ⟨p, hp⟩ : ∃ p : Int32, p = nI (1 + b % 1000) := ⟨_, rfl⟩
    have r1 : inR p 1 1000 := by rw [hp]; exact inR_n (lo := 1) (hi := 1000) (by omega) (by omega) (by decide)
    obtain ⟨T1, hT1⟩ : ∃ T1 : TR, T1 = stC qy lp sp (rvF pr y 20 p) ex tk mK uK (st0 (rSh T) (rMu T) (rCo T) (rSr T) (rDu T)) c := ⟨_, rfl⟩
    have hI1 : INV qy lp sp (rvF pr y 20 p) ex c dy tk mK uK T1 bi bb := by rw [hT1]; exact INV_review hI r1
    refine lv_iconst (v := 1) hx hb dL_step_203 (by decide) ?_
    refine lv_iload hx hb dL_step_204 (lv_at hl 5 rfl) ?_
    refine lv_sipush (v := 1000) hx hb dL_step_206 (by decide) ?_
    refine lv_irem hx hb dL_step_209 (by decide) ?_
    refine gj_i (show (nI b) - (nI b) / 1000 * 1000 = nI (b % 1000) from pk_rem (a := b) (d := 1000) (by omega) (by decide) (by decide)) ?_
    refine lv_iadd hx hb dL_step_210 ?_
    refine gj_i (show 1 + (nI (b % 1000)) = nI (1 + (b % 1000)) from nI_add 1 (b % 1000)) ?_
    refine gj_i (show nI (1 + (b % 1000)) = p from hp.symm) ?_
    refine lv_istore (lv' := [(6, .int p), (5, .int (nI y)), (0, .ref (ad 0)), (1, .ref o), (2, .int (nI w)), (3, .int (nI a)), (4, .int (nI b))]) hx hb dL_step_211 hl (by decide) rfl (fun ls hl => ?_)
    refine lv_aload_n hx hb dL_step_213 rfl (lv_at hl 2 rfl) ?_
    refine lv_iload hx hb dL_step_214 (lv_at hl 1 rfl) ?_
    refine ghV_i (wc := (wG ad cI cL qy lp sp pr ex (nI c) dy tk (rMk (T)) (nI mK) (rMS (T)) (rSu (T)) (nI uK) (rUS (T)) (rSh (T)) (rMu (T)) (rCo (T)) (rSr (T)) (rDu (T)) bi bb)) (wr := [(o, .inl (cI, 7, .inl (cF qy lp sp (nI mK) (nI uK) (nI c) (tk c))))]) (w1 := (wG ad cI cL qy lp sp pr ex (nI c) dy tk (rMk (T)) (nI mK) (rMS (T)) (rSu (T)) (nI uK) (rUS (T)) (rSh (T)) (rMu (T)) (rCo (T)) (rSr (T)) (rDu (T)) bi bb)) (W' := ((wG ad cI cL qy lp sp pr ex (nI c) dy tk (rMk (T)) (nI mK) (rMS (T)) (rSu (T)) (nI uK) (rUS (T)) (rSh (T)) (rMu (T)) (rCo (T)) (rSr (T)) (rDu (T)) bi bb) ++ [(o, .inl (cI, 7, .inl (cF qy lp sp (nI mK) (nI uK) (nI c) (tk c))))])) (As := [.int (nI y)]) (rest := []) ⟨hx, hb, hml, hown, hts⟩ (c_X1_price l hst D s.heap.size ad cI cL qy lp sp pr ex c dy tk (rMk (T)) mK (rMS (T)) (rSu (T)) uK (rUS (T)) (rSh (T)) (rMu (T)) (rCo (T)) (rSr (T)) (rDu (T)) bi bb y hy) (cwV 1 hts gL_step_X1_price rfl rfl rfl (by decide +kernel) ⟨(Nat.le_of_ble_eq_true rfl), (Nat.le_of_ble_eq_true rfl)⟩) hT hS hA hK hP hD [0, 1] rfl [0, 1, 2, 3, 4, 5, 6, 7, 8, 9, 10, 11, 12, 13, 14] [15] [1, 2, 3, 4, 5, 6, 7, 8, 9, 10, 11, 12, 13, 14, 15, 0] rfl (by decide) rfl (by decide) (by decide) rfl (by decide) 0 1 rfl rfl rfl rfl hl.1 rfl (Nat.le_of_ble_eq_true rfl) dL_step_216 ⟨(Nat.le_of_ble_eq_true rfl), (Nat.le_of_ble_eq_true rfl)⟩ [1, 2, 3, 4, 5, 6, 7, 8, 9, 10, 11, 12, 13, 14, 15, 0] rfl (by decide) (fun _ _ _ _ _ hE => hE.elim) (fun H locs _ hP hD hS => ?_)
    refine lv_istore (lv' := [(7, .int (pr y)), (6, .int p), (5, .int (nI y)), (0, .ref (ad 0)), (1, .ref o), (2, .int (nI w)), (3, .int (nI a)), (4, .int (nI b))]) hx hb dL_step_219 hl (by decide) rfl (fun ls hl => ?_)
    refine lv_aload_n hx hb dL_step_221 rfl (lv_at hl 3 rfl) ?_
    refine lv_iload hx hb dL_step_222 (lv_at hl 2 rfl) ?_
    refine lv_iload hx hb dL_step_224 (lv_at hl 1 rfl) ?_
    refine ghV_i (wc := (wG ad cI cL qy lp sp pr ex (nI c) dy tk (rMk (T)) (nI mK) (rMS (T)) (rSu (T)) (nI uK) (rUS (T)) (rSh (T)) (rMu (T)) (rCo (T)) (rSr (T)) (rDu (T)) bi bb)) (wr := [(o, .inl (cI, 7, .inl (cF qy lp sp (nI mK) (nI uK) (nI c) (tk c))))]) (w1 := (wG ad cI cL qy lp sp (rvF pr y 20 p) ex (nI c) dy tk (rMk (stC qy lp sp (rvF pr y 20 p) ex tk mK uK (st0 (rSh (T)) (rMu (T)) (rCo (T)) (rSr (T)) (rDu (T))) c)) (nI mK) (rMS (stC qy lp sp (rvF pr y 20 p) ex tk mK uK (st0 (rSh (T)) (rMu (T)) (rCo (T)) (rSr (T)) (rDu (T))) c)) (rSu (stC qy lp sp (rvF pr y 20 p) ex tk mK uK (st0 (rSh (T)) (rMu (T)) (rCo (T)) (rSr (T)) (rDu (T))) c)) (nI uK) (rUS (stC qy lp sp (rvF pr y 20 p) ex tk mK uK (st0 (rSh (T)) (rMu (T)) (rCo (T)) (rSr (T)) (rDu (T))) c)) (rSh (stC qy lp sp (rvF pr y 20 p) ex tk mK uK (st0 (rSh (T)) (rMu (T)) (rCo (T)) (rSr (T)) (rDu (T))) c)) (rMu (stC qy lp sp (rvF pr y 20 p) ex tk mK uK (st0 (rSh (T)) (rMu (T)) (rCo (T)) (rSr (T)) (rDu (T))) c)) (rCo (stC qy lp sp (rvF pr y 20 p) ex tk mK uK (st0 (rSh (T)) (rMu (T)) (rCo (T)) (rSr (T)) (rDu (T))) c)) (rSr (stC qy lp sp (rvF pr y 20 p) ex tk mK uK (st0 (rSh (T)) (rMu (T)) (rCo (T)) (rSr (T)) (rDu (T))) c)) (rDu (stC qy lp sp (rvF pr y 20 p) ex tk mK uK (st0 (rSh (T)) (rMu (T)) (rCo (T)) (rSr (T)) (rDu (T))) c)) bi bb)) (W' := ((wG ad cI cL qy lp sp (rvF pr y 20 p) ex (nI c) dy tk (rMk (stC qy lp sp (rvF pr y 20 p) ex tk mK uK (st0 (rSh (T)) (rMu (T)) (rCo (T)) (rSr (T)) (rDu (T))) c)) (nI mK) (rMS (stC qy lp sp (rvF pr y 20 p) ex tk mK uK (st0 (rSh (T)) (rMu (T)) (rCo (T)) (rSr (T)) (rDu (T))) c)) (rSu (stC qy lp sp (rvF pr y 20 p) ex tk mK uK (st0 (rSh (T)) (rMu (T)) (rCo (T)) (rSr (T)) (rDu (T))) c)) (nI uK) (rUS (stC qy lp sp (rvF pr y 20 p) ex tk mK uK (st0 (rSh (T)) (rMu (T)) (rCo (T)) (rSr (T)) (rDu (T))) c)) (rSh (stC qy lp sp (rvF pr y 20 p) ex tk mK uK (st0 (rSh (T)) (rMu (T)) (rCo (T)) (rSr (T)) (rDu (T))) c)) (rMu (stC qy lp sp (rvF pr y 20 p) ex tk mK uK (st0 (rSh (T)) (rMu (T)) (rCo (T)) (rSr (T)) (rDu (T))) c)) (rCo (stC qy lp sp (rvF pr y 20 p) ex tk mK uK (st0 (rSh (T)) (rMu (T)) (rCo (T)) (rSr (T)) (rDu (T))) c)) (rSr (stC qy lp sp (rvF pr y 20 p) ex tk mK uK (st0 (rSh (T)) (rMu (T)) (rCo (T)) (rSr (T)) (rDu (T))) c)) (rDu (stC qy lp sp (rvF pr y 20 p) ex tk mK uK (st0 (rSh (T)) (rMu (T)) (rCo (T)) (rSr (T)) (rDu (T))) c)) bi bb) ++ [(o, .inl (cI, 7, .inl (cF qy lp sp (nI mK) (nI uK) (nI c) (tk c))))])) (As := [.int (nI y), .int p]) (rest := []) ⟨hx, hb, hml, hown, hts⟩ (c_X1_review l hst D H.size ad cI cL qy lp sp pr ex c dy tk (rMk (T)) mK (rMS (T)) (rSu (T)) uK (rUS (T)) (rSh (T)) (rMu (T)) (rCo (T)) (rSr (T)) (rDu (T)) bi bb y p hy r1 hc hmK huK) (cwV 2 hts gL_step_X1_review rfl rfl rfl (by decide +kernel) ⟨(Nat.le_of_ble_eq_true rfl), (Nat.le_of_ble_eq_true rfl)⟩) hT hS hA hK hP hD [0, 1] rfl [0, 1, 2, 3, 4, 5, 6, 7, 8, 9, 10, 11, 12, 13, 14] [15] [1, 2, 3, 4, 5, 6, 7, 8, 9, 10, 11, 12, 13, 14, 15, 0] rfl (by decide) rfl (by decide) (by decide) rfl (by decide) 0 1 rfl rfl rfl rfl hl.1 rfl (Nat.le_of_ble_eq_true rfl) dL_step_226 ⟨(Nat.le_of_ble_eq_true rfl), (Nat.le_of_ble_eq_true rfl)⟩ [1, 2, 3, 4, 5, 6, 7, 8, 9, 10, 11, 12, 13, 14, 15, 0] rfl (by decide) (fun _ _ _ _ _ hE => hE.elim) (fun H locs _ hP hD hS => ?_)
    rw [← hT1] at hP hD
    have hP : va_P D vwCl ((wG ad cI cL qy lp sp (rvF pr y 20 p) ex (nI c) dy tk (rMk (T1)) (nI mK) (rMS (T1)) (rSu (T1)) (nI uK) (rUS (T1)) (rSh (T1)) (rMu (T1)) (rCo (T1)) (rSr (T1)) (rDu (T1)) bi bb) ++ [(o, .inl (cI, 7, .inl (cF qy lp sp (nI mK) (nI uK) (nI c) (tk c))))]) H := hP
    have hD : va_D A ((wG ad cI cL qy lp sp (rvF pr y 20 p) ex (nI c) dy tk (rMk (T1)) (nI mK) (rMS (T1)) (rSu (T1)) (nI uK) (rUS (T1)) (rSh (T1)) (rMu (T1)) (rCo (T1)) (rSr (T1)) (rDu (T1)) bi bb) ++ [(o, .inl (cI, 7, .inl (cF qy lp sp (nI mK) (nI uK) (nI c) (tk c))))]) := hD
    refine lv_iload hx hb dL_step_229 (lv_at hl 0 rfl) ?_
    refine lv_icmp_ne (tgt := 238) hx hb dL_step_231 (by decide) (fun cb => absurd rfl cb) (fun _ => ?_)
    refine lv_iconst (v := 1) hx hb dL_step_234 (by decide) ?_
    refine lv_goto (tgt := 239) hx hb dL_step_235 (by decide) ?_
    refine lv_istore (lv' := [(8, .int 1), (7, .int (pr y)), (6, .int p), (5, .int (nI y)), (0, .ref (ad 0)), (1, .ref o), (2, .int (nI w)), (3, .int (nI a)), (4, .int (nI b))]) hx hb dL_step_239 hl (by decide) rfl (fun ls hl => ?_)
    refine lv_iconst (v := 0) hx hb dL_step_241 (by decide) ?_
    refine lv_istore (lv' := [(9, .int 0), (8, .int 1), (7, .int (pr y)), (6, .int p), (5, .int (nI y)), (0, .ref (ad 0)), (1, .ref o), (2, .int (nI w)), (3, .int (nI a)), (4, .int (nI b))]) hx hb dL_step_242 hl (by decide) rfl (fun ls hl => ?_)
    have lupe : ∀ (n i : Nat), i ≤ 20 → 20 < i + n → ∀ (H : Heap) (locs : List Loc), va_P D vwCl ((wG ad cI cL qy lp sp (rvF pr y 20 p) ex (nI c) dy tk (rMk (T1)) (nI mK) (rMS (T1)) (rSu (T1)) (nI uK) (rUS (T1)) (rSh (T1)) (rMu (T1)) (rCo (T1)) (rSr (T1)) (rDu (T1)) bi bb) ++ [(o, .inl (cI, 7, .inl (cF qy lp sp (nI mK) (nI uK) (nI c) (tk c))))]) H → va_D A ((wG ad cI cL qy lp sp (rvF pr y 20 p) ex (nI c) dy tk (rMk (T1)) (nI mK) (rMS (T1)) (rSu (T1)) (nI uK) (rUS (T1)) (rSh (T1)) (rMu (T1)) (rCo (T1)) (rSr (T1)) (rDu (T1)) bi bb) ++ [(o, .inl (cI, 7, .inl (cF qy lp sp (nI mK) (nI uK) (nI c) (tk c))))]) → va_S A s.heap H locs → ∀ (ls : Array Slot), lv_has ls 10 [(0, .ref (ad 0)), (1, .ref o), (5, .int (nI y)), (6, .int p), (8, .int 1), (9, .int (nI i))] → W pg l en ({ frames := 11, cells := 760, slots := 4560, locals := 204 } : Room) s m args below meth cd H locs (1 * i + 3) (6 * i + 18) (gEhs (PW ad cI cL o) below D [(cI, .int), (cL, .long)] A args s 760 4560) (F0 m 244 ls []) := by
      intro n
      induction n with
      | zero => intro i h1 h2; exact absurd h2 (by omega)
      | succ n ih =>
        intro i hi hin2 H locs hP hD hS ls hl
        refine lv_iload hx hb dL_step_244 (lv_at hl 5 rfl) ?_
        refine lv_bipush (v := 20) hx hb dL_step_246 (by decide) ?_
        refine lv_icmp_ge (tgt := 287) hx hb dL_step_248 (by decide) (fun c1 => ?_) (fun c1 => ?_)
        · refine lv_iload hx hb dL_step_287 (lv_at hl 4 rfl) ?_
          exact ge_is (PW_mk hI1) hx hb hr hlocks rfl hK hP hD hS (by omega) (by omega) dL_step_289
        · have hi2 : i < 20 := Nat.not_le.mp (fun h => c1 (nI_le h (by omega)))
          refine lv_iload hx hb dL_step_251 (lv_at hl 4 rfl) ?_
          refine lv_if_eq (tgt := 278) hx hb dL_step_253 (by decide) (fun cb => absurd cb (by decide : ¬ (1 : Int32) = 0)) (fun _ => ?_)
          refine lv_iload hx hb dL_step_256 (lv_at hl 5 rfl) ?_
          refine lv_iload hx hb dL_step_258 (lv_at hl 2 rfl) ?_
          refine lv_icmp_lt (tgt := 274) hx hb dL_step_260 (by decide) (fun c2 => ?_) (fun c2 => ?_)
          · refine lv_iconst (v := 1) hx hb dL_step_274 (by decide) ?_
            refine lv_goto (tgt := 279) hx hb dL_step_275 (by decide) ?_
            refine lv_istore (lv' := [(8, .int 1), (0, .ref (ad 0)), (1, .ref o), (5, .int (nI y)), (6, .int p), (9, .int (nI i))]) hx hb dL_step_279 hl (by decide) rfl (fun ls hl => ?_)
            refine lv_iinc (v := nI (i + 1)) (lv' := [(9, .int (nI (i + 1))), (8, .int 1), (0, .ref (ad 0)), (1, .ref o), (5, .int (nI y)), (6, .int p)]) hx hb dL_step_281 hl (k := 5) rfl (gi_1 _) (by decide) rfl (fun ls hl => ?_)
            refine lv_goto (tgt := 244) hx hb dL_step_284 (by decide) ?_
            refine W.widen (k := 1 * (i + 1) + 3) (n := 6 * (i + 1) + 18) (by show 1 * i + 3 ≤ _; omega) (by show 6 * i + 18 ≤ _; omega) ?_
            exact ih (i + 1) (by omega) (by omega) _ _ hP hD hS ls (lv_sub hl [2, 3, 4, 5, 1, 0] rfl)
          · have hyi : y ≤ i := Nat.not_lt.mp (fun h => c2 (nI_lt h (by omega)))
            refine lv_aload_n hx hb dL_step_263 rfl (lv_at hl 0 rfl) ?_
            refine lv_iload hx hb dL_step_264 (lv_at hl 5 rfl) ?_
            refine ghV_i (wc := (wG ad cI cL qy lp sp (rvF pr y 20 p) ex (nI c) dy tk (rMk (T1)) (nI mK) (rMS (T1)) (rSu (T1)) (nI uK) (rUS (T1)) (rSh (T1)) (rMu (T1)) (rCo (T1)) (rSr (T1)) (rDu (T1)) bi bb)) (wr := [(o, .inl (cI, 7, .inl (cF qy lp sp (nI mK) (nI uK) (nI c) (tk c))))]) (w1 := (wG ad cI cL qy lp sp (rvF pr y 20 p) ex (nI c) dy tk (rMk (T1)) (nI mK) (rMS (T1)) (rSu (T1)) (nI uK) (rUS (T1)) (rSh (T1)) (rMu (T1)) (rCo (T1)) (rSr (T1)) (rDu (T1)) bi bb)) (W' := ((wG ad cI cL qy lp sp (rvF pr y 20 p) ex (nI c) dy tk (rMk (T1)) (nI mK) (rMS (T1)) (rSu (T1)) (nI uK) (rUS (T1)) (rSh (T1)) (rMu (T1)) (rCo (T1)) (rSr (T1)) (rDu (T1)) bi bb) ++ [(o, .inl (cI, 7, .inl (cF qy lp sp (nI mK) (nI uK) (nI c) (tk c))))])) (As := [.int (nI i)]) (rest := []) ⟨hx, hb, hml, hown, hts⟩ (c_X1_price l hst D H.size ad cI cL qy lp sp (rvF pr y 20 p) ex c dy tk (rMk (T1)) mK (rMS (T1)) (rSu (T1)) uK (rUS (T1)) (rSh (T1)) (rMu (T1)) (rCo (T1)) (rSr (T1)) (rDu (T1)) bi bb i hi2) (cwV 1 hts gL_step_X1_price rfl rfl rfl (by decide +kernel) ⟨(Nat.le_of_ble_eq_true rfl), (Nat.le_of_ble_eq_true rfl)⟩) hT hS hA hK hP hD [0, 1] rfl [0, 1, 2, 3, 4, 5, 6, 7, 8, 9, 10, 11, 12, 13, 14] [15] [1, 2, 3, 4, 5, 6, 7, 8, 9, 10, 11, 12, 13, 14, 15, 0] rfl (by decide) rfl (by decide) (by decide) rfl (by decide) 0 1 rfl rfl rfl rfl hl.1 rfl (Nat.le_of_ble_eq_true rfl) dL_step_266 ⟨by show 1 * i + 3 + 1 ≤ 760; omega, by show 6 * i + 18 + 6 ≤ 4560; omega⟩ [1, 2, 3, 4, 5, 6, 7, 8, 9, 10, 11, 12, 13, 14, 15, 0] rfl (by decide) (fun _ _ _ _ _ hE => hE.elim) (fun H locs _ hP hD hS => ?_)
            refine lv_iload hx hb dL_step_269 (lv_at hl 3 rfl) ?_
            refine lv_icmp_ne (tgt := 278) hx hb dL_step_271 (by decide) (fun cb => absurd (if_pos ⟨hyi, hi2⟩) cb) (fun _ => ?_)
            refine lv_iconst (v := 1) hx hb dL_step_274 (by decide) ?_
            refine lv_goto (tgt := 279) hx hb dL_step_275 (by decide) ?_
            refine lv_istore (lv' := [(8, .int 1), (0, .ref (ad 0)), (1, .ref o), (5, .int (nI y)), (6, .int p), (9, .int (nI i))]) hx hb dL_step_279 hl (by decide) rfl (fun ls hl => ?_)
            refine lv_iinc (v := nI (i + 1)) (lv' := [(9, .int (nI (i + 1))), (8, .int 1), (0, .ref (ad 0)), (1, .ref o), (5, .int (nI y)), (6, .int p)]) hx hb dL_step_281 hl (k := 5) rfl (gi_1 _) (by decide) rfl (fun ls hl => ?_)
            refine lv_goto (tgt := 244) hx hb dL_step_284 (by decide) ?_
            refine W.widen (k := 1 * (i + 1) + 3) (n := 6 * (i + 1) + 18) (by show 1 * i + 4 ≤ _; omega) (by show 6 * i + 24 ≤ _; omega) ?_
            exact ih (i + 1) (by omega) (by omega) _ _ hP hD hS ls (lv_sub hl [2, 3, 4, 5, 1, 0] rfl)
    exact lupe 21 0 (by omega) (by omega) _ _ hP hD hS ls (lv_sub hl [5, 6, 4, 3, 1, 0] rfl)
  · refine lv_tableIn (off := 280) (tgt := 290) hx hb dL_step_10 (by decide) (by decide) (by decide +kernel) (by decide) ?_
    obtain ⟨p, hp⟩ : ∃ p : Int32, p = nI (b % 361) := ⟨_, rfl⟩
    have r1 : inR p 0 360 := by rw [hp]; exact inR_n (lo := 0) (hi := 360) (by omega) (by omega) (by decide)
    obtain ⟨T1, hT1⟩ : ∃ T1 : TR, T1 = stC qy lp sp pr (upd ex y p) tk mK uK (st0 (rSh T) (rMu T) (rCo T) (rSr T) (rDu T)) c := ⟨_, rfl⟩
    obtain ⟨T2, hT2⟩ : ∃ T2 : TR, T2 = stC qy lp sp pr (upd (upd ex y p) y p) tk mK uK (st0 (rSh T1) (rMu T1) (rCo T1) (rSr T1) (rDu T1)) c := ⟨_, rfl⟩
    have hI1 : INV qy lp sp pr (upd ex y p) c dy tk mK uK T1 bi bb := by rw [hT1]; exact INV_excuse hI r1
    have hI2 : INV qy lp sp pr (upd (upd ex y p) y p) c dy tk mK uK T2 bi bb := by rw [hT2]; exact INV_excuse hI1 r1
    refine lv_iload hx hb dL_step_290 (lv_at hl 5 rfl) ?_
    refine lv_sipush (v := 361) hx hb dL_step_292 (by decide) ?_
    refine lv_irem hx hb dL_step_295 (by decide) ?_
    refine gj_i (show (nI b) - (nI b) / 361 * 361 = nI (b % 361) from pk_rem (a := b) (d := 361) (by omega) (by decide) (by decide)) ?_
    refine gj_i (show nI (b % 361) = p from hp.symm) ?_
    refine lv_istore (lv' := [(9, .int p), (5, .int (nI y)), (0, .ref (ad 0)), (1, .ref o), (2, .int (nI w)), (3, .int (nI a)), (4, .int (nI b))]) hx hb dL_step_296 hl (by decide) rfl (fun ls hl => ?_)
    refine lv_aload_n hx hb dL_step_298 rfl (lv_at hl 2 rfl) ?_
    refine lv_iload hx hb dL_step_299 (lv_at hl 1 rfl) ?_
    refine lv_iload hx hb dL_step_301 (lv_at hl 0 rfl) ?_
    refine ghV_i (wc := (wG ad cI cL qy lp sp pr ex (nI c) dy tk (rMk (T)) (nI mK) (rMS (T)) (rSu (T)) (nI uK) (rUS (T)) (rSh (T)) (rMu (T)) (rCo (T)) (rSr (T)) (rDu (T)) bi bb)) (wr := [(o, .inl (cI, 7, .inl (cF qy lp sp (nI mK) (nI uK) (nI c) (tk c))))]) (w1 := (wG ad cI cL qy lp sp pr (upd ex y p) (nI c) dy tk (rMk (stC qy lp sp pr (upd ex y p) tk mK uK (st0 (rSh (T)) (rMu (T)) (rCo (T)) (rSr (T)) (rDu (T))) c)) (nI mK) (rMS (stC qy lp sp pr (upd ex y p) tk mK uK (st0 (rSh (T)) (rMu (T)) (rCo (T)) (rSr (T)) (rDu (T))) c)) (rSu (stC qy lp sp pr (upd ex y p) tk mK uK (st0 (rSh (T)) (rMu (T)) (rCo (T)) (rSr (T)) (rDu (T))) c)) (nI uK) (rUS (stC qy lp sp pr (upd ex y p) tk mK uK (st0 (rSh (T)) (rMu (T)) (rCo (T)) (rSr (T)) (rDu (T))) c)) (rSh (stC qy lp sp pr (upd ex y p) tk mK uK (st0 (rSh (T)) (rMu (T)) (rCo (T)) (rSr (T)) (rDu (T))) c)) (rMu (stC qy lp sp pr (upd ex y p) tk mK uK (st0 (rSh (T)) (rMu (T)) (rCo (T)) (rSr (T)) (rDu (T))) c)) (rCo (stC qy lp sp pr (upd ex y p) tk mK uK (st0 (rSh (T)) (rMu (T)) (rCo (T)) (rSr (T)) (rDu (T))) c)) (rSr (stC qy lp sp pr (upd ex y p) tk mK uK (st0 (rSh (T)) (rMu (T)) (rCo (T)) (rSr (T)) (rDu (T))) c)) (rDu (stC qy lp sp pr (upd ex y p) tk mK uK (st0 (rSh (T)) (rMu (T)) (rCo (T)) (rSr (T)) (rDu (T))) c)) bi bb)) (W' := ((wG ad cI cL qy lp sp pr (upd ex y p) (nI c) dy tk (rMk (stC qy lp sp pr (upd ex y p) tk mK uK (st0 (rSh (T)) (rMu (T)) (rCo (T)) (rSr (T)) (rDu (T))) c)) (nI mK) (rMS (stC qy lp sp pr (upd ex y p) tk mK uK (st0 (rSh (T)) (rMu (T)) (rCo (T)) (rSr (T)) (rDu (T))) c)) (rSu (stC qy lp sp pr (upd ex y p) tk mK uK (st0 (rSh (T)) (rMu (T)) (rCo (T)) (rSr (T)) (rDu (T))) c)) (nI uK) (rUS (stC qy lp sp pr (upd ex y p) tk mK uK (st0 (rSh (T)) (rMu (T)) (rCo (T)) (rSr (T)) (rDu (T))) c)) (rSh (stC qy lp sp pr (upd ex y p) tk mK uK (st0 (rSh (T)) (rMu (T)) (rCo (T)) (rSr (T)) (rDu (T))) c)) (rMu (stC qy lp sp pr (upd ex y p) tk mK uK (st0 (rSh (T)) (rMu (T)) (rCo (T)) (rSr (T)) (rDu (T))) c)) (rCo (stC qy lp sp pr (upd ex y p) tk mK uK (st0 (rSh (T)) (rMu (T)) (rCo (T)) (rSr (T)) (rDu (T))) c)) (rSr (stC qy lp sp pr (upd ex y p) tk mK uK (st0 (rSh (T)) (rMu (T)) (rCo (T)) (rSr (T)) (rDu (T))) c)) (rDu (stC qy lp sp pr (upd ex y p) tk mK uK (st0 (rSh (T)) (rMu (T)) (rCo (T)) (rSr (T)) (rDu (T))) c)) bi bb) ++ [(o, .inl (cI, 7, .inl (cF qy lp sp (nI mK) (nI uK) (nI c) (tk c))))])) (As := [.int (nI y), .int p]) (rest := []) ⟨hx, hb, hml, hown, hts⟩ (c_X1_excuse l hst D s.heap.size ad cI cL qy lp sp pr ex c dy tk (rMk (T)) mK (rMS (T)) (rSu (T)) uK (rUS (T)) (rSh (T)) (rMu (T)) (rCo (T)) (rSr (T)) (rDu (T)) bi bb y p hy r1 hc hmK huK) (cwV 2 hts gL_step_X1_excuse rfl rfl rfl (by decide +kernel) ⟨(Nat.le_of_ble_eq_true rfl), (Nat.le_of_ble_eq_true rfl)⟩) hT hS hA hK hP hD [0, 1] rfl [0, 1, 2, 3, 4, 5, 6, 7, 8, 9, 10, 11, 12, 13, 14] [15] [1, 2, 3, 4, 5, 6, 7, 8, 9, 10, 11, 12, 13, 14, 15, 0] rfl (by decide) rfl (by decide) (by decide) rfl (by decide) 0 1 rfl rfl rfl rfl hl.1 rfl (Nat.le_of_ble_eq_true rfl) dL_step_303 ⟨(Nat.le_of_ble_eq_true rfl), (Nat.le_of_ble_eq_true rfl)⟩ [1, 2, 3, 4, 5, 6, 7, 8, 9, 10, 11, 12, 13, 14, 15, 0] rfl (by decide) (fun _ _ _ _ _ hE => hE.elim) (fun H locs _ hP hD hS => ?_)
    rw [← hT1] at hP hD
    have hP : va_P D vwCl ((wG ad cI cL qy lp sp pr (upd ex y p) (nI c) dy tk (rMk (T1)) (nI mK) (rMS (T1)) (rSu (T1)) (nI uK) (rUS (T1)) (rSh (T1)) (rMu (T1)) (rCo (T1)) (rSr (T1)) (rDu (T1)) bi bb) ++ [(o, .inl (cI, 7, .inl (cF qy lp sp (nI mK) (nI uK) (nI c) (tk c))))]) H := hP
    have hD : va_D A ((wG ad cI cL qy lp sp pr (upd ex y p) (nI c) dy tk (rMk (T1)) (nI mK) (rMS (T1)) (rSu (T1)) (nI uK) (rUS (T1)) (rSh (T1)) (rMu (T1)) (rCo (T1)) (rSr (T1)) (rDu (T1)) bi bb) ++ [(o, .inl (cI, 7, .inl (cF qy lp sp (nI mK) (nI uK) (nI c) (tk c))))]) := hD
    refine lv_if_lt (tgt := 357) hx hb dL_step_306 (by decide) (fun cb => absurd cb (INV_ex hI y)) (fun _ => ?_)
    refine lv_aload_n hx hb dL_step_309 rfl (lv_at hl 2 rfl) ?_
    refine lv_iload hx hb dL_step_310 (lv_at hl 1 rfl) ?_
    refine lv_iload hx hb dL_step_312 (lv_at hl 0 rfl) ?_
    refine ghV_i (wc := (wG ad cI cL qy lp sp pr (upd ex y p) (nI c) dy tk (rMk (T1)) (nI mK) (rMS (T1)) (rSu (T1)) (nI uK) (rUS (T1)) (rSh (T1)) (rMu (T1)) (rCo (T1)) (rSr (T1)) (rDu (T1)) bi bb)) (wr := [(o, .inl (cI, 7, .inl (cF qy lp sp (nI mK) (nI uK) (nI c) (tk c))))]) (w1 := (wG ad cI cL qy lp sp pr (upd (upd ex y p) y p) (nI c) dy tk (rMk (stC qy lp sp pr (upd (upd ex y p) y p) tk mK uK (st0 (rSh (T1)) (rMu (T1)) (rCo (T1)) (rSr (T1)) (rDu (T1))) c)) (nI mK) (rMS (stC qy lp sp pr (upd (upd ex y p) y p) tk mK uK (st0 (rSh (T1)) (rMu (T1)) (rCo (T1)) (rSr (T1)) (rDu (T1))) c)) (rSu (stC qy lp sp pr (upd (upd ex y p) y p) tk mK uK (st0 (rSh (T1)) (rMu (T1)) (rCo (T1)) (rSr (T1)) (rDu (T1))) c)) (nI uK) (rUS (stC qy lp sp pr (upd (upd ex y p) y p) tk mK uK (st0 (rSh (T1)) (rMu (T1)) (rCo (T1)) (rSr (T1)) (rDu (T1))) c)) (rSh (stC qy lp sp pr (upd (upd ex y p) y p) tk mK uK (st0 (rSh (T1)) (rMu (T1)) (rCo (T1)) (rSr (T1)) (rDu (T1))) c)) (rMu (stC qy lp sp pr (upd (upd ex y p) y p) tk mK uK (st0 (rSh (T1)) (rMu (T1)) (rCo (T1)) (rSr (T1)) (rDu (T1))) c)) (rCo (stC qy lp sp pr (upd (upd ex y p) y p) tk mK uK (st0 (rSh (T1)) (rMu (T1)) (rCo (T1)) (rSr (T1)) (rDu (T1))) c)) (rSr (stC qy lp sp pr (upd (upd ex y p) y p) tk mK uK (st0 (rSh (T1)) (rMu (T1)) (rCo (T1)) (rSr (T1)) (rDu (T1))) c)) (rDu (stC qy lp sp pr (upd (upd ex y p) y p) tk mK uK (st0 (rSh (T1)) (rMu (T1)) (rCo (T1)) (rSr (T1)) (rDu (T1))) c)) bi bb)) (W' := ((wG ad cI cL qy lp sp pr (upd (upd ex y p) y p) (nI c) dy tk (rMk (stC qy lp sp pr (upd (upd ex y p) y p) tk mK uK (st0 (rSh (T1)) (rMu (T1)) (rCo (T1)) (rSr (T1)) (rDu (T1))) c)) (nI mK) (rMS (stC qy lp sp pr (upd (upd ex y p) y p) tk mK uK (st0 (rSh (T1)) (rMu (T1)) (rCo (T1)) (rSr (T1)) (rDu (T1))) c)) (rSu (stC qy lp sp pr (upd (upd ex y p) y p) tk mK uK (st0 (rSh (T1)) (rMu (T1)) (rCo (T1)) (rSr (T1)) (rDu (T1))) c)) (nI uK) (rUS (stC qy lp sp pr (upd (upd ex y p) y p) tk mK uK (st0 (rSh (T1)) (rMu (T1)) (rCo (T1)) (rSr (T1)) (rDu (T1))) c)) (rSh (stC qy lp sp pr (upd (upd ex y p) y p) tk mK uK (st0 (rSh (T1)) (rMu (T1)) (rCo (T1)) (rSr (T1)) (rDu (T1))) c)) (rMu (stC qy lp sp pr (upd (upd ex y p) y p) tk mK uK (st0 (rSh (T1)) (rMu (T1)) (rCo (T1)) (rSr (T1)) (rDu (T1))) c)) (rCo (stC qy lp sp pr (upd (upd ex y p) y p) tk mK uK (st0 (rSh (T1)) (rMu (T1)) (rCo (T1)) (rSr (T1)) (rDu (T1))) c)) (rSr (stC qy lp sp pr (upd (upd ex y p) y p) tk mK uK (st0 (rSh (T1)) (rMu (T1)) (rCo (T1)) (rSr (T1)) (rDu (T1))) c)) (rDu (stC qy lp sp pr (upd (upd ex y p) y p) tk mK uK (st0 (rSh (T1)) (rMu (T1)) (rCo (T1)) (rSr (T1)) (rDu (T1))) c)) bi bb) ++ [(o, .inl (cI, 7, .inl (cF qy lp sp (nI mK) (nI uK) (nI c) (tk c))))])) (As := [.int (nI y), .int p]) (rest := []) ⟨hx, hb, hml, hown, hts⟩ (c_X1_excuse l hst D H.size ad cI cL qy lp sp pr (upd ex y p) c dy tk (rMk (T1)) mK (rMS (T1)) (rSu (T1)) uK (rUS (T1)) (rSh (T1)) (rMu (T1)) (rCo (T1)) (rSr (T1)) (rDu (T1)) bi bb y p hy r1 hc hmK huK) (cwV 2 hts gL_step_X1_excuse rfl rfl rfl (by decide +kernel) ⟨(Nat.le_of_ble_eq_true rfl), (Nat.le_of_ble_eq_true rfl)⟩) hT hS hA hK hP hD [0, 1] rfl [0, 1, 2, 3, 4, 5, 6, 7, 8, 9, 10, 11, 12, 13, 14] [15] [1, 2, 3, 4, 5, 6, 7, 8, 9, 10, 11, 12, 13, 14, 15, 0] rfl (by decide) rfl (by decide) (by decide) rfl (by decide) 0 1 rfl rfl rfl rfl hl.1 rfl (Nat.le_of_ble_eq_true rfl) dL_step_314 ⟨(Nat.le_of_ble_eq_true rfl), (Nat.le_of_ble_eq_true rfl)⟩ [1, 2, 3, 4, 5, 6, 7, 8, 9, 10, 11, 12, 13, 14, 15, 0] rfl (by decide) (fun _ _ _ _ _ hE => hE.elim) (fun H locs _ hP hD hS => ?_)
    rw [← hT2] at hP hD
    have hP : va_P D vwCl ((wG ad cI cL qy lp sp pr (upd (upd ex y p) y p) (nI c) dy tk (rMk (T2)) (nI mK) (rMS (T2)) (rSu (T2)) (nI uK) (rUS (T2)) (rSh (T2)) (rMu (T2)) (rCo (T2)) (rSr (T2)) (rDu (T2)) bi bb) ++ [(o, .inl (cI, 7, .inl (cF qy lp sp (nI mK) (nI uK) (nI c) (tk c))))]) H := hP
    have hD : va_D A ((wG ad cI cL qy lp sp pr (upd (upd ex y p) y p) (nI c) dy tk (rMk (T2)) (nI mK) (rMS (T2)) (rSu (T2)) (nI uK) (rUS (T2)) (rSh (T2)) (rMu (T2)) (rCo (T2)) (rSr (T2)) (rDu (T2)) bi bb) ++ [(o, .inl (cI, 7, .inl (cF qy lp sp (nI mK) (nI uK) (nI c) (tk c))))]) := hD
    refine lv_iload hx hb dL_step_317 (lv_at hl 0 rfl) ?_
    refine lv_icmp_ne (tgt := 357) hx hb dL_step_319 (by decide) (fun cb => absurd ux_s cb) (fun _ => ?_)
    refine lv_aload_n hx hb dL_step_322 rfl (lv_at hl 2 rfl) ?_
    refine lv_iload hx hb dL_step_323 (lv_at hl 1 rfl) ?_
    refine ghV_i (wc := (wG ad cI cL qy lp sp pr (upd (upd ex y p) y p) (nI c) dy tk (rMk (T2)) (nI mK) (rMS (T2)) (rSu (T2)) (nI uK) (rUS (T2)) (rSh (T2)) (rMu (T2)) (rCo (T2)) (rSr (T2)) (rDu (T2)) bi bb)) (wr := [(o, .inl (cI, 7, .inl (cF qy lp sp (nI mK) (nI uK) (nI c) (tk c))))]) (w1 := (wG ad cI cL qy lp sp pr (upd (upd ex y p) y p) (nI c) dy tk (rMk (T2)) (nI mK) (rMS (T2)) (rSu (T2)) (nI uK) (rUS (T2)) (rSh (T2)) (rMu (T2)) (rCo (T2)) (rSr (T2)) (rDu (T2)) bi bb)) (W' := ((wG ad cI cL qy lp sp pr (upd (upd ex y p) y p) (nI c) dy tk (rMk (T2)) (nI mK) (rMS (T2)) (rSu (T2)) (nI uK) (rUS (T2)) (rSh (T2)) (rMu (T2)) (rCo (T2)) (rSr (T2)) (rDu (T2)) bi bb) ++ [(o, .inl (cI, 7, .inl (cF qy lp sp (nI mK) (nI uK) (nI c) (tk c))))])) (As := [.int (nI y)]) (rest := []) ⟨hx, hb, hml, hown, hts⟩ (c_X1_least l hst D H.size ad cI cL qy lp sp pr (upd (upd ex y p) y p) c dy tk (rMk (T2)) mK (rMS (T2)) (rSu (T2)) uK (rUS (T2)) (rSh (T2)) (rMu (T2)) (rCo (T2)) (rSr (T2)) (rDu (T2)) bi bb y hy) (cwV 1 hts gL_step_X1_least rfl rfl rfl (by decide +kernel) ⟨(Nat.le_of_ble_eq_true rfl), (Nat.le_of_ble_eq_true rfl)⟩) hT hS hA hK hP hD [0, 1] rfl [0, 1, 2, 3, 4, 5, 6, 7, 8, 9, 10, 11, 12, 13, 14] [15] [1, 2, 3, 4, 5, 6, 7, 8, 9, 10, 11, 12, 13, 14, 15, 0] rfl (by decide) rfl (by decide) (by decide) rfl (by decide) 0 1 rfl rfl rfl rfl hl.1 rfl (Nat.le_of_ble_eq_true rfl) dL_step_325 ⟨(Nat.le_of_ble_eq_true rfl), (Nat.le_of_ble_eq_true rfl)⟩ [1, 2, 3, 4, 5, 6, 7, 8, 9, 10, 11, 12, 13, 14, 15, 0] rfl (by decide) (fun _ _ _ _ _ hE => hE.elim) (fun H locs _ hP hD hS => ?_)
    refine lv_aload_n hx hb dL_step_328 rfl (lv_at hl 3 rfl) ?_
    refine lv_iconst (v := 0) hx hb dL_step_329 (by decide) ?_
    refine ga_iald (j := 0) hx hb hK hP 15 0 rfl rfl (by decide) (by decide) dL_step_330 ?_
    refine gj_i (show (cF qy lp sp (nI mK) (nI uK) (nI c) (tk c)) 0 = qy from rfl) ?_
    refine lv_i2l hx hb dL_step_331 rfl ?_
    refine lv_aload_n hx hb dL_step_332 rfl (lv_at hl 3 rfl) ?_
    refine lv_iconst (v := 1) hx hb dL_step_333 (by decide) ?_
    refine ga_iald (j := 1) hx hb hK hP 15 0 rfl rfl (by decide) (by decide) dL_step_334 ?_
    refine gj_i (show (cF qy lp sp (nI mK) (nI uK) (nI c) (tk c)) 1 = lp from rfl) ?_
    refine lv_i2l hx hb dL_step_335 rfl ?_
    refine lv_lmul hx hb dL_step_336 ?_
    refine lv_sipush (v := 360) hx hb dL_step_337 (by decide) ?_
    refine lv_iload hx hb dL_step_340 (lv_at hl 0 rfl) ?_
    refine lv_isub hx hb dL_step_342 ?_
    refine lv_i2l hx hb dL_step_343 rfl ?_
    refine lv_lmul hx hb dL_step_344 ?_
    refine lv_ldc2 (v := 36000) hx hb hown (hts _ hL_step__constantLong_RL_37_36000_) dL_step_345 ?_
    refine lv_ldiv hx hb dL_step_348 (by decide) ?_
    refine lv_l2i hx hb dL_step_349 rfl ?_
    refine lv_icmp_ne (tgt := 357) hx hb dL_step_350 (by decide) (fun cb => absurd (by unfold lqf; rw [ux_s]) cb) (fun _ => ?_)
    refine lv_iconst (v := 1) hx hb dL_step_353 (by decide) ?_
    refine lv_goto (tgt := 358) hx hb dL_step_354 (by decide) ?_
    exact ge_is (PW_mk hI2) hx hb hr hlocks rfl hK hP hD hS (Nat.le_of_ble_eq_true rfl) (Nat.le_of_ble_eq_true rfl) dL_step_358
  · refine lv_tableIn (off := 349) (tgt := 359) hx hb dL_step_10 (by decide) (by decide) (by decide +kernel) (by decide) ?_
    refine lv_aload_n hx hb dL_step_359 rfl (lv_at hl 1 rfl) ?_
    refine lv_aload_n hx hb dL_step_360 rfl (lv_at hl 2 rfl) ?_
    refine lv_iload_n hx hb dL_step_361 rfl (lv_at hl 4 rfl) ?_
    refine lv_sipush (v := 360) hx hb dL_step_362 (by decide) ?_
    refine lv_irem hx hb dL_step_365 (by decide) ?_
    refine gj_i (show (nI a) - (nI a) / 360 * 360 = nI (a % 360) from pk_rem (a := a) (d := 360) (by omega) (by decide) (by decide)) ?_
    refine lv_iload_n hx hb dL_step_366 rfl (lv_at hl 4 rfl) ?_
    refine lv_sipush (v := 360) hx hb dL_step_367 (by decide) ?_
    refine lv_idiv hx hb dL_step_370 (by decide) ?_
    refine gj_i (show (nI a) / 360 = nI (a / 360) from pk_div (a := a) (d := 360) (by omega) (by decide) (by decide)) ?_
    refine lv_sipush (v := 360) hx hb dL_step_371 (by decide) ?_
    refine lv_irem hx hb dL_step_374 (by decide) ?_
    refine gj_i (show (nI (a / 360)) - (nI (a / 360)) / 360 * 360 = nI ((a / 360) % 360) from pk_rem (a := a / 360) (d := 360) (by omega) (by decide) (by decide)) ?_
    refine lv_iconst (v := 1) hx hb dL_step_375 (by decide) ?_
    refine lv_iload hx hb dL_step_376 (lv_at hl 5 rfl) ?_
    refine lv_iload hx hb dL_step_378 (lv_at hl 5 rfl) ?_
    refine lv_iconst (v := 3) hx hb dL_step_380 (by decide) ?_
    refine lv_irem hx hb dL_step_381 (by decide) ?_
    refine gj_i (show (nI b) - (nI b) / 3 * 3 = nI (b % 3) from pk_rem (a := b) (d := 3) (by omega) (by decide) (by decide)) ?_
    refine lv_if_ne (tgt := 391) hx hb dL_step_382 (by decide) (fun h1 => ?_) (fun h1 => ?_)
    · refine lv_bipush (v := 120) hx hb dL_step_391 (by decide) ?_
      refine lv_irem hx hb dL_step_393 (by decide) ?_
      refine gj_i (show (nI b) - (nI b) / 120 * 120 = nI (b % 120) from pk_rem (a := b) (d := 120) (by omega) (by decide) (by decide)) ?_
      refine lv_iadd hx hb dL_step_394 ?_
      refine gj_i (show 1 + (nI (b % 120)) = nI (1 + (b % 120)) from nI_add 1 (b % 120)) ?_
      refine gHS_s (Wd := ((wG ad cI cL qy lp sp pr ex (nI c) dy tk (rMk (T)) (nI mK) (rMS (T)) (rSu (T)) (nI uK) (rUS (T)) (rSh (T)) (rMu (T)) (rCo (T)) (rSr (T)) (rDu (T)) bi bb) ++ [(o, .inl (cI, 7, .inl (cF qy lp sp (nI mK) (nI uK) (nI c) (tk c))))])) (As := [.ref (ad 0), .ref o, .int (nI (a % 360)), .int (nI ((a / 360) % 360)), .int (nI (1 + (b % 120)))]) (rest := []) ⟨hx, hb, hml, hown, hts⟩ (c_L_takes l hst D s.heap.size ad cI cL o qy lp sp pr ex c dy tk mK uK T bi bb (a % 360) ((a / 360) % 360) (nI (1 + (b % 120))) hI (by omega) (by omega) (inR_n (lo := 1) (hi := 500) (by omega) (by omega) (by decide))) (va_cwS 5 hts gL_step_L_takes rfl rfl rfl (by decide +kernel) ⟨(Nat.le_of_ble_eq_true rfl), (Nat.le_of_ble_eq_true rfl)⟩) hT hS hA hK hP hD [0, 1] rfl [0, 1, 2, 3, 4, 5, 6, 7, 8, 9, 10, 11, 12, 13, 14, 15] rfl (by decide) rfl hl.1 rfl (Nat.le_of_ble_eq_true rfl) dL_step_395 ⟨(Nat.le_of_ble_eq_true rfl), (Nat.le_of_ble_eq_true rfl)⟩ (fun u H locs hu hP hD hS => ?_)
      exact ge_is hu hx hb hr hlocks rfl hK hP hD hS (Nat.le_of_ble_eq_true rfl) (Nat.le_of_ble_eq_true rfl) dL_step_398
    · refine lv_sipush (v := 500) hx hb dL_step_385 (by decide) ?_
      refine lv_goto (tgt := 393) hx hb dL_step_388 (by decide) ?_
      refine lv_irem hx hb dL_step_393 (by decide) ?_
      refine gj_i (show (nI b) - (nI b) / 500 * 500 = nI (b % 500) from pk_rem (a := b) (d := 500) (by omega) (by decide) (by decide)) ?_
      refine lv_iadd hx hb dL_step_394 ?_
      refine gj_i (show 1 + (nI (b % 500)) = nI (1 + (b % 500)) from nI_add 1 (b % 500)) ?_
      refine gHS_s (Wd := ((wG ad cI cL qy lp sp pr ex (nI c) dy tk (rMk (T)) (nI mK) (rMS (T)) (rSu (T)) (nI uK) (rUS (T)) (rSh (T)) (rMu (T)) (rCo (T)) (rSr (T)) (rDu (T)) bi bb) ++ [(o, .inl (cI, 7, .inl (cF qy lp sp (nI mK) (nI uK) (nI c) (tk c))))])) (As := [.ref (ad 0), .ref o, .int (nI (a % 360)), .int (nI ((a / 360) % 360)), .int (nI (1 + (b % 500)))]) (rest := []) ⟨hx, hb, hml, hown, hts⟩ (c_L_takes l hst D s.heap.size ad cI cL o qy lp sp pr ex c dy tk mK uK T bi bb (a % 360) ((a / 360) % 360) (nI (1 + (b % 500))) hI (by omega) (by omega) (inR_n (lo := 1) (hi := 500) (by omega) (by omega) (by decide))) (va_cwS 5 hts gL_step_L_takes rfl rfl rfl (by decide +kernel) ⟨(Nat.le_of_ble_eq_true rfl), (Nat.le_of_ble_eq_true rfl)⟩) hT hS hA hK hP hD [0, 1] rfl [0, 1, 2, 3, 4, 5, 6, 7, 8, 9, 10, 11, 12, 13, 14, 15] rfl (by decide) rfl hl.1 rfl (Nat.le_of_ble_eq_true rfl) dL_step_395 ⟨(Nat.le_of_ble_eq_true rfl), (Nat.le_of_ble_eq_true rfl)⟩ (fun u H locs hu hP hD hS => ?_)
      exact ge_is hu hx hb hr hlocks rfl hK hP hD hS (Nat.le_of_ble_eq_true rfl) (Nat.le_of_ble_eq_true rfl) dL_step_398
  · refine lv_tableIn (off := 349) (tgt := 359) hx hb dL_step_10 (by decide) (by decide) (by decide +kernel) (by decide) ?_
    refine lv_aload_n hx hb dL_step_359 rfl (lv_at hl 1 rfl) ?_
    refine lv_aload_n hx hb dL_step_360 rfl (lv_at hl 2 rfl) ?_
    refine lv_iload_n hx hb dL_step_361 rfl (lv_at hl 4 rfl) ?_
    refine lv_sipush (v := 360) hx hb dL_step_362 (by decide) ?_
    refine lv_irem hx hb dL_step_365 (by decide) ?_
    refine gj_i (show (nI a) - (nI a) / 360 * 360 = nI (a % 360) from pk_rem (a := a) (d := 360) (by omega) (by decide) (by decide)) ?_
    refine lv_iload_n hx hb dL_step_366 rfl (lv_at hl 4 rfl) ?_
    refine lv_sipush (v := 360) hx hb dL_step_367 (by decide) ?_
    refine lv_idiv hx hb dL_step_370 (by decide) ?_
    refine gj_i (show (nI a) / 360 = nI (a / 360) from pk_div (a := a) (d := 360) (by omega) (by decide) (by decide)) ?_
    refine lv_sipush (v := 360) hx hb dL_step_371 (by decide) ?_
    refine lv_irem hx hb dL_step_374 (by decide) ?_
    refine gj_i (show (nI (a / 360)) - (nI (a / 360)) / 360 * 360 = nI ((a / 360) % 360) from pk_rem (a := a / 360) (d := 360) (by omega) (by decide) (by decide)) ?_
    refine lv_iconst (v := 1) hx hb dL_step_375 (by decide) ?_
    refine lv_iload hx hb dL_step_376 (lv_at hl 5 rfl) ?_
    refine lv_iload hx hb dL_step_378 (lv_at hl 5 rfl) ?_
    refine lv_iconst (v := 3) hx hb dL_step_380 (by decide) ?_
    refine lv_irem hx hb dL_step_381 (by decide) ?_
    refine gj_i (show (nI b) - (nI b) / 3 * 3 = nI (b % 3) from pk_rem (a := b) (d := 3) (by omega) (by decide) (by decide)) ?_
    refine lv_if_ne (tgt := 391) hx hb dL_step_382 (by decide) (fun h1 => ?_) (fun h1 => ?_)
    · refine lv_bipush (v := 120) hx hb dL_step_391 (by decide) ?_
      refine lv_irem hx hb dL_step_393 (by decide) ?_
      refine gj_i (show (nI b) - (nI b) / 120 * 120 = nI (b % 120) from pk_rem (a := b) (d := 120) (by omega) (by decide) (by decide)) ?_
      refine lv_iadd hx hb dL_step_394 ?_
      refine gj_i (show 1 + (nI (b % 120)) = nI (1 + (b % 120)) from nI_add 1 (b % 120)) ?_
      refine gHS_s (Wd := ((wG ad cI cL qy lp sp pr ex (nI c) dy tk (rMk (T)) (nI mK) (rMS (T)) (rSu (T)) (nI uK) (rUS (T)) (rSh (T)) (rMu (T)) (rCo (T)) (rSr (T)) (rDu (T)) bi bb) ++ [(o, .inl (cI, 7, .inl (cF qy lp sp (nI mK) (nI uK) (nI c) (tk c))))])) (As := [.ref (ad 0), .ref o, .int (nI (a % 360)), .int (nI ((a / 360) % 360)), .int (nI (1 + (b % 120)))]) (rest := []) ⟨hx, hb, hml, hown, hts⟩ (c_L_takes l hst D s.heap.size ad cI cL o qy lp sp pr ex c dy tk mK uK T bi bb (a % 360) ((a / 360) % 360) (nI (1 + (b % 120))) hI (by omega) (by omega) (inR_n (lo := 1) (hi := 500) (by omega) (by omega) (by decide))) (va_cwS 5 hts gL_step_L_takes rfl rfl rfl (by decide +kernel) ⟨(Nat.le_of_ble_eq_true rfl), (Nat.le_of_ble_eq_true rfl)⟩) hT hS hA hK hP hD [0, 1] rfl [0, 1, 2, 3, 4, 5, 6, 7, 8, 9, 10, 11, 12, 13, 14, 15] rfl (by decide) rfl hl.1 rfl (Nat.le_of_ble_eq_true rfl) dL_step_395 ⟨(Nat.le_of_ble_eq_true rfl), (Nat.le_of_ble_eq_true rfl)⟩ (fun u H locs hu hP hD hS => ?_)
      exact ge_is hu hx hb hr hlocks rfl hK hP hD hS (Nat.le_of_ble_eq_true rfl) (Nat.le_of_ble_eq_true rfl) dL_step_398
    · refine lv_sipush (v := 500) hx hb dL_step_385 (by decide) ?_
      refine lv_goto (tgt := 393) hx hb dL_step_388 (by decide) ?_
      refine lv_irem hx hb dL_step_393 (by decide) ?_
      refine gj_i (show (nI b) - (nI b) / 500 * 500 = nI (b % 500) from pk_rem (a := b) (d := 500) (by omega) (by decide) (by decide)) ?_
      refine lv_iadd hx hb dL_step_394 ?_
      refine gj_i (show 1 + (nI (b % 500)) = nI (1 + (b % 500)) from nI_add 1 (b % 500)) ?_
      refine gHS_s (Wd := ((wG ad cI cL qy lp sp pr ex (nI c) dy tk (rMk (T)) (nI mK) (rMS (T)) (rSu (T)) (nI uK) (rUS (T)) (rSh (T)) (rMu (T)) (rCo (T)) (rSr (T)) (rDu (T)) bi bb) ++ [(o, .inl (cI, 7, .inl (cF qy lp sp (nI mK) (nI uK) (nI c) (tk c))))])) (As := [.ref (ad 0), .ref o, .int (nI (a % 360)), .int (nI ((a / 360) % 360)), .int (nI (1 + (b % 500)))]) (rest := []) ⟨hx, hb, hml, hown, hts⟩ (c_L_takes l hst D s.heap.size ad cI cL o qy lp sp pr ex c dy tk mK uK T bi bb (a % 360) ((a / 360) % 360) (nI (1 + (b % 500))) hI (by omega) (by omega) (inR_n (lo := 1) (hi := 500) (by omega) (by omega) (by decide))) (va_cwS 5 hts gL_step_L_takes rfl rfl rfl (by decide +kernel) ⟨(Nat.le_of_ble_eq_true rfl), (Nat.le_of_ble_eq_true rfl)⟩) hT hS hA hK hP hD [0, 1] rfl [0, 1, 2, 3, 4, 5, 6, 7, 8, 9, 10, 11, 12, 13, 14, 15] rfl (by decide) rfl hl.1 rfl (Nat.le_of_ble_eq_true rfl) dL_step_395 ⟨(Nat.le_of_ble_eq_true rfl), (Nat.le_of_ble_eq_true rfl)⟩ (fun u H locs hu hP hD hS => ?_)
      exact ge_is hu hx hb hr hlocks rfl hK hP hD hS (Nat.le_of_ble_eq_true rfl) (Nat.le_of_ble_eq_true rfl) dL_step_398
  · refine lv_tableIn (off := 349) (tgt := 359) hx hb dL_step_10 (by decide) (by decide) (by decide +kernel) (by decide) ?_
    refine lv_aload_n hx hb dL_step_359 rfl (lv_at hl 1 rfl) ?_
    refine lv_aload_n hx hb dL_step_360 rfl (lv_at hl 2 rfl) ?_
    refine lv_iload_n hx hb dL_step_361 rfl (lv_at hl 4 rfl) ?_
    refine lv_sipush (v := 360) hx hb dL_step_362 (by decide) ?_
    refine lv_irem hx hb dL_step_365 (by decide) ?_
    refine gj_i (show (nI a) - (nI a) / 360 * 360 = nI (a % 360) from pk_rem (a := a) (d := 360) (by omega) (by decide) (by decide)) ?_
    refine lv_iload_n hx hb dL_step_366 rfl (lv_at hl 4 rfl) ?_
    refine lv_sipush (v := 360) hx hb dL_step_367 (by decide) ?_
    refine lv_idiv hx hb dL_step_370 (by decide) ?_
    refine gj_i (show (nI a) / 360 = nI (a / 360) from pk_div (a := a) (d := 360) (by omega) (by decide) (by decide)) ?_
    refine lv_sipush (v := 360) hx hb dL_step_371 (by decide) ?_
    refine lv_irem hx hb dL_step_374 (by decide) ?_
    refine gj_i (show (nI (a / 360)) - (nI (a / 360)) / 360 * 360 = nI ((a / 360) % 360) from pk_rem (a := a / 360) (d := 360) (by omega) (by decide) (by decide)) ?_
    refine lv_iconst (v := 1) hx hb dL_step_375 (by decide) ?_
    refine lv_iload hx hb dL_step_376 (lv_at hl 5 rfl) ?_
    refine lv_iload hx hb dL_step_378 (lv_at hl 5 rfl) ?_
    refine lv_iconst (v := 3) hx hb dL_step_380 (by decide) ?_
    refine lv_irem hx hb dL_step_381 (by decide) ?_
    refine gj_i (show (nI b) - (nI b) / 3 * 3 = nI (b % 3) from pk_rem (a := b) (d := 3) (by omega) (by decide) (by decide)) ?_
    refine lv_if_ne (tgt := 391) hx hb dL_step_382 (by decide) (fun h1 => ?_) (fun h1 => ?_)
    · refine lv_bipush (v := 120) hx hb dL_step_391 (by decide) ?_
      refine lv_irem hx hb dL_step_393 (by decide) ?_
      refine gj_i (show (nI b) - (nI b) / 120 * 120 = nI (b % 120) from pk_rem (a := b) (d := 120) (by omega) (by decide) (by decide)) ?_
      refine lv_iadd hx hb dL_step_394 ?_
      refine gj_i (show 1 + (nI (b % 120)) = nI (1 + (b % 120)) from nI_add 1 (b % 120)) ?_
      refine gHS_s (Wd := ((wG ad cI cL qy lp sp pr ex (nI c) dy tk (rMk (T)) (nI mK) (rMS (T)) (rSu (T)) (nI uK) (rUS (T)) (rSh (T)) (rMu (T)) (rCo (T)) (rSr (T)) (rDu (T)) bi bb) ++ [(o, .inl (cI, 7, .inl (cF qy lp sp (nI mK) (nI uK) (nI c) (tk c))))])) (As := [.ref (ad 0), .ref o, .int (nI (a % 360)), .int (nI ((a / 360) % 360)), .int (nI (1 + (b % 120)))]) (rest := []) ⟨hx, hb, hml, hown, hts⟩ (c_L_takes l hst D s.heap.size ad cI cL o qy lp sp pr ex c dy tk mK uK T bi bb (a % 360) ((a / 360) % 360) (nI (1 + (b % 120))) hI (by omega) (by omega) (inR_n (lo := 1) (hi := 500) (by omega) (by omega) (by decide))) (va_cwS 5 hts gL_step_L_takes rfl rfl rfl (by decide +kernel) ⟨(Nat.le_of_ble_eq_true rfl), (Nat.le_of_ble_eq_true rfl)⟩) hT hS hA hK hP hD [0, 1] rfl [0, 1, 2, 3, 4, 5, 6, 7, 8, 9, 10, 11, 12, 13, 14, 15] rfl (by decide) rfl hl.1 rfl (Nat.le_of_ble_eq_true rfl) dL_step_395 ⟨(Nat.le_of_ble_eq_true rfl), (Nat.le_of_ble_eq_true rfl)⟩ (fun u H locs hu hP hD hS => ?_)
      exact ge_is hu hx hb hr hlocks rfl hK hP hD hS (Nat.le_of_ble_eq_true rfl) (Nat.le_of_ble_eq_true rfl) dL_step_398
    · refine lv_sipush (v := 500) hx hb dL_step_385 (by decide) ?_
      refine lv_goto (tgt := 393) hx hb dL_step_388 (by decide) ?_
      refine lv_irem hx hb dL_step_393 (by decide) ?_
      refine gj_i (show (nI b) - (nI b) / 500 * 500 = nI (b % 500) from pk_rem (a := b) (d := 500) (by omega) (by decide) (by decide)) ?_
      refine lv_iadd hx hb dL_step_394 ?_
      refine gj_i (show 1 + (nI (b % 500)) = nI (1 + (b % 500)) from nI_add 1 (b % 500)) ?_
      refine gHS_s (Wd := ((wG ad cI cL qy lp sp pr ex (nI c) dy tk (rMk (T)) (nI mK) (rMS (T)) (rSu (T)) (nI uK) (rUS (T)) (rSh (T)) (rMu (T)) (rCo (T)) (rSr (T)) (rDu (T)) bi bb) ++ [(o, .inl (cI, 7, .inl (cF qy lp sp (nI mK) (nI uK) (nI c) (tk c))))])) (As := [.ref (ad 0), .ref o, .int (nI (a % 360)), .int (nI ((a / 360) % 360)), .int (nI (1 + (b % 500)))]) (rest := []) ⟨hx, hb, hml, hown, hts⟩ (c_L_takes l hst D s.heap.size ad cI cL o qy lp sp pr ex c dy tk mK uK T bi bb (a % 360) ((a / 360) % 360) (nI (1 + (b % 500))) hI (by omega) (by omega) (inR_n (lo := 1) (hi := 500) (by omega) (by omega) (by decide))) (va_cwS 5 hts gL_step_L_takes rfl rfl rfl (by decide +kernel) ⟨(Nat.le_of_ble_eq_true rfl), (Nat.le_of_ble_eq_true rfl)⟩) hT hS hA hK hP hD [0, 1] rfl [0, 1, 2, 3, 4, 5, 6, 7, 8, 9, 10, 11, 12, 13, 14, 15] rfl (by decide) rfl hl.1 rfl (Nat.le_of_ble_eq_true rfl) dL_step_395 ⟨(Nat.le_of_ble_eq_true rfl), (Nat.le_of_ble_eq_true rfl)⟩ (fun u H locs hu hP hD hS => ?_)
      exact ge_is hu hx hb hr hlocks rfl hK hP hD hS (Nat.le_of_ble_eq_true rfl) (Nat.le_of_ble_eq_true rfl) dL_step_398
  · refine lv_tableIn (off := 389) (tgt := 399) hx hb dL_step_10 (by decide) (by decide) (by decide +kernel) (by decide) ?_
    refine lv_aload_n hx hb dL_step_399 rfl (lv_at hl 1 rfl) ?_
    refine lv_aload_n hx hb dL_step_400 rfl (lv_at hl 2 rfl) ?_
    refine lv_iload_n hx hb dL_step_401 rfl (lv_at hl 4 rfl) ?_
    refine lv_sipush (v := 360) hx hb dL_step_402 (by decide) ?_
    refine lv_irem hx hb dL_step_405 (by decide) ?_
    refine gj_i (show (nI a) - (nI a) / 360 * 360 = nI (a % 360) from pk_rem (a := a) (d := 360) (by omega) (by decide) (by decide)) ?_
    refine lv_iconst (v := 0) hx hb dL_step_406 (by decide) ?_
    refine lv_iconst (v := 1) hx hb dL_step_407 (by decide) ?_
    refine lv_iload hx hb dL_step_408 (lv_at hl 5 rfl) ?_
    refine lv_sipush (v := 500) hx hb dL_step_410 (by decide) ?_
    refine lv_irem hx hb dL_step_413 (by decide) ?_
    refine gj_i (show (nI b) - (nI b) / 500 * 500 = nI (b % 500) from pk_rem (a := b) (d := 500) (by omega) (by decide) (by decide)) ?_
    refine lv_iadd hx hb dL_step_414 ?_
    refine gj_i (show 1 + (nI (b % 500)) = nI (1 + (b % 500)) from nI_add 1 (b % 500)) ?_
    refine gHS_s (Wd := ((wG ad cI cL qy lp sp pr ex (nI c) dy tk (rMk (T)) (nI mK) (rMS (T)) (rSu (T)) (nI uK) (rUS (T)) (rSh (T)) (rMu (T)) (rCo (T)) (rSr (T)) (rDu (T)) bi bb) ++ [(o, .inl (cI, 7, .inl (cF qy lp sp (nI mK) (nI uK) (nI c) (tk c))))])) (As := [.ref (ad 0), .ref o, .int (nI (a % 360)), .int 0, .int (nI (1 + (b % 500)))]) (rest := []) ⟨hx, hb, hml, hown, hts⟩ (c_L_takes l hst D s.heap.size ad cI cL o qy lp sp pr ex c dy tk mK uK T bi bb (a % 360) 0 (nI (1 + (b % 500))) hI (by omega) (by omega) (inR_n (lo := 1) (hi := 500) (by omega) (by omega) (by decide))) (va_cwS 5 hts gL_step_L_takes rfl rfl rfl (by decide +kernel) ⟨(Nat.le_of_ble_eq_true rfl), (Nat.le_of_ble_eq_true rfl)⟩) hT hS hA hK hP hD [0, 1] rfl [0, 1, 2, 3, 4, 5, 6, 7, 8, 9, 10, 11, 12, 13, 14, 15] rfl (by decide) rfl hl.1 rfl (Nat.le_of_ble_eq_true rfl) dL_step_415 ⟨(Nat.le_of_ble_eq_true rfl), (Nat.le_of_ble_eq_true rfl)⟩ (fun u H locs hu hP hD hS => ?_)
    exact ge_is hu hx hb hr hlocks rfl hK hP hD hS (Nat.le_of_ble_eq_true rfl) (Nat.le_of_ble_eq_true rfl) dL_step_418
  · refine lv_tableIn (off := 409) (tgt := 419) hx hb dL_step_10 (by decide) (by decide) (by decide +kernel) (by decide) ?_
    refine lv_aload_n hx hb dL_step_419 rfl (lv_at hl 2 rfl) ?_
    refine lv_iconst (v := 5) hx hb dL_step_420 (by decide) ?_
    refine ga_iald (j := 5) hx hb hK hP 15 0 rfl rfl (by decide) (by decide) dL_step_421 ?_
    refine gj_i (show (cF qy lp sp (nI mK) (nI uK) (nI c) (tk c)) 5 = nI c from rfl) ?_
    refine lv_bipush (v := 20) hx hb dL_step_422 (by decide) ?_
    refine lv_icmp_eq (tgt := 482) hx hb dL_step_424 (by decide) (fun cc => ?_) (fun cc => ?_)
    · refine lv_iconst (v := 1) hx hb dL_step_482 (by decide) ?_
      refine lv_goto (tgt := 487) hx hb dL_step_483 (by decide) ?_
      exact ge_is (PW_mk hI) hx hb hr hlocks rfl hK hP hD hS (Nat.le_of_ble_eq_true rfl) (Nat.le_of_ble_eq_true rfl) dL_step_487
    · have h20 : c < 20 := nI_n20 hc cc
      refine lv_aload_n hx hb dL_step_427 rfl (lv_at hl 1 rfl) ?_
      refine lv_aload_n hx hb dL_step_428 rfl (lv_at hl 2 rfl) ?_
      refine lv_iconst (v := 5) hx hb dL_step_429 (by decide) ?_
      refine ga_iald (j := 5) hx hb hK hP 15 0 rfl rfl (by decide) (by decide) dL_step_430 ?_
      refine gj_i (show (cF qy lp sp (nI mK) (nI uK) (nI c) (tk c)) 5 = nI c from rfl) ?_
      refine ghV_i (wc := (wG ad cI cL qy lp sp pr ex (nI c) dy tk (rMk (T)) (nI mK) (rMS (T)) (rSu (T)) (nI uK) (rUS (T)) (rSh (T)) (rMu (T)) (rCo (T)) (rSr (T)) (rDu (T)) bi bb)) (wr := [(o, .inl (cI, 7, .inl (cF qy lp sp (nI mK) (nI uK) (nI c) (tk c))))]) (w1 := (wG ad cI cL qy lp sp pr ex (nI c) dy tk (rMk (T)) (nI mK) (rMS (T)) (rSu (T)) (nI uK) (rUS (T)) (rSh (T)) (rMu (T)) (rCo (T)) (rSr (T)) (rDu (T)) bi bb)) (W' := ((wG ad cI cL qy lp sp pr ex (nI c) dy tk (rMk (T)) (nI mK) (rMS (T)) (rSu (T)) (nI uK) (rUS (T)) (rSh (T)) (rMu (T)) (rCo (T)) (rSr (T)) (rDu (T)) bi bb) ++ [(o, .inl (cI, 7, .inl (cF qy lp sp (nI mK) (nI uK) (nI c) (tk c))))])) (As := [.int (nI c)]) (rest := []) ⟨hx, hb, hml, hown, hts⟩ (c_X1_taken l hst D s.heap.size ad cI cL qy lp sp pr ex c dy tk (rMk (T)) mK (rMS (T)) (rSu (T)) uK (rUS (T)) (rSh (T)) (rMu (T)) (rCo (T)) (rSr (T)) (rDu (T)) bi bb c h20) (cwV 1 hts gL_step_X1_taken rfl rfl rfl (by decide +kernel) ⟨(Nat.le_of_ble_eq_true rfl), (Nat.le_of_ble_eq_true rfl)⟩) hT hS hA hK hP hD [0, 1] rfl [0, 1, 2, 3, 4, 5, 6, 7, 8, 9, 10, 11, 12, 13, 14] [15] [1, 2, 3, 4, 5, 6, 7, 8, 9, 10, 11, 12, 13, 14, 15, 0] rfl (by decide) rfl (by decide) (by decide) rfl (by decide) 0 1 rfl rfl rfl rfl hl.1 rfl (Nat.le_of_ble_eq_true rfl) dL_step_431 ⟨(Nat.le_of_ble_eq_true rfl), (Nat.le_of_ble_eq_true rfl)⟩ [1, 2, 3, 4, 5, 6, 7, 8, 9, 10, 11, 12, 13, 14, 15, 0] rfl (by decide) (fun _ _ _ _ _ hE => hE.elim) (fun H locs _ hP hD hS => ?_)
      refine lv_aload_n hx hb dL_step_434 rfl (lv_at hl 2 rfl) ?_
      refine lv_bipush (v := 6) hx hb dL_step_435 (by decide) ?_
      refine ga_iald (j := 6) hx hb hK hP 15 0 rfl rfl (by decide) (by decide) dL_step_437 ?_
      refine gj_i (show (cF qy lp sp (nI mK) (nI uK) (nI c) (tk c)) 6 = tk c from rfl) ?_
      refine lv_icmp_ne (tgt := 486) hx hb dL_step_438 (by decide) (fun cb => absurd rfl cb) (fun _ => ?_)
      refine lv_aload_n hx hb dL_step_441 rfl (lv_at hl 1 rfl) ?_
      refine lv_iconst (v := 0) hx hb dL_step_442 (by decide) ?_
      refine lv_sipush (v := 359) hx hb dL_step_443 (by decide) ?_
      refine ghV_i (wc := (wG ad cI cL qy lp sp pr ex (nI c) dy tk (rMk (T)) (nI mK) (rMS (T)) (rSu (T)) (nI uK) (rUS (T)) (rSh (T)) (rMu (T)) (rCo (T)) (rSr (T)) (rDu (T)) bi bb)) (wr := [(o, .inl (cI, 7, .inl (cF qy lp sp (nI mK) (nI uK) (nI c) (tk c))))]) (w1 := (wG ad cI cL qy lp sp pr ex (nI c) dy tk (rMk (T)) (nI mK) (rMS (T)) (rSu (T)) (nI uK) (rUS (T)) (rSh (T)) (rMu (T)) (rCo (T)) (rSr (T)) (rDu (T)) bi bb)) (W' := ((wG ad cI cL qy lp sp pr ex (nI c) dy tk (rMk (T)) (nI mK) (rMS (T)) (rSu (T)) (nI uK) (rUS (T)) (rSh (T)) (rMu (T)) (rCo (T)) (rSr (T)) (rDu (T)) bi bb) ++ [(o, .inl (cI, 7, .inl (cF qy lp sp (nI mK) (nI uK) (nI c) (tk c))))])) (As := [.int 0, .int 359]) (rest := []) ⟨hx, hb, hml, hown, hts⟩ (c_X1_takenFrom l hst D H.size ad cI cL qy lp sp pr ex c dy tk (rMk (T)) mK (rMS (T)) (rSu (T)) uK (rUS (T)) (rSh (T)) (rMu (T)) (rCo (T)) (rSr (T)) (rDu (T)) bi bb 0 359 (by omega) (by omega)) (cwV 2 hts gL_step_X1_takenFrom rfl rfl rfl (by decide +kernel) ⟨(Nat.le_of_ble_eq_true rfl), (Nat.le_of_ble_eq_true rfl)⟩) hT hS hA hK hP hD [0, 1] rfl [0, 1, 2, 3, 4, 5, 6, 7, 8, 9, 10, 11, 12, 13, 14] [15] [1, 2, 3, 4, 5, 6, 7, 8, 9, 10, 11, 12, 13, 14, 15, 0] rfl (by decide) rfl (by decide) (by decide) rfl (by decide) 0 1 rfl rfl rfl rfl hl.1 rfl (Nat.le_of_ble_eq_true rfl) dL_step_446 ⟨(Nat.le_of_ble_eq_true rfl), (Nat.le_of_ble_eq_true rfl)⟩ [1, 2, 3, 4, 5, 6, 7, 8, 9, 10, 11, 12, 13, 14, 15, 0] rfl (by decide) (fun _ _ _ _ _ hE => hE.elim) (fun H locs _ hP hD hS => ?_)
      refine lv_aload_n hx hb dL_step_449 rfl (lv_at hl 2 rfl) ?_
      refine lv_bipush (v := 6) hx hb dL_step_450 (by decide) ?_
      refine ga_iald (j := 6) hx hb hK hP 15 0 rfl rfl (by decide) (by decide) dL_step_452 ?_
      refine gj_i (show (cF qy lp sp (nI mK) (nI uK) (nI c) (tk c)) 6 = tk c from rfl) ?_
      refine lv_icmp_ne (tgt := 486) hx hb dL_step_453 (by decide) (fun cb => absurd (INV_all hI) cb) (fun _ => ?_)
      refine lv_aload_n hx hb dL_step_456 rfl (lv_at hl 1 rfl) ?_
      refine lv_iconst (v := 0) hx hb dL_step_457 (by decide) ?_
      refine lv_iload hx hb dL_step_458 (lv_at hl 0 rfl) ?_
      refine ghV_i (wc := (wG ad cI cL qy lp sp pr ex (nI c) dy tk (rMk (T)) (nI mK) (rMS (T)) (rSu (T)) (nI uK) (rUS (T)) (rSh (T)) (rMu (T)) (rCo (T)) (rSr (T)) (rDu (T)) bi bb)) (wr := [(o, .inl (cI, 7, .inl (cF qy lp sp (nI mK) (nI uK) (nI c) (tk c))))]) (w1 := (wG ad cI cL qy lp sp pr ex (nI c) dy tk (rMk (T)) (nI mK) (rMS (T)) (rSu (T)) (nI uK) (rUS (T)) (rSh (T)) (rMu (T)) (rCo (T)) (rSr (T)) (rDu (T)) bi bb)) (W' := ((wG ad cI cL qy lp sp pr ex (nI c) dy tk (rMk (T)) (nI mK) (rMS (T)) (rSu (T)) (nI uK) (rUS (T)) (rSh (T)) (rMu (T)) (rCo (T)) (rSr (T)) (rDu (T)) bi bb) ++ [(o, .inl (cI, 7, .inl (cF qy lp sp (nI mK) (nI uK) (nI c) (tk c))))])) (As := [.int 0, .int (nI y)]) (rest := []) ⟨hx, hb, hml, hown, hts⟩ (c_X1_takenFrom l hst D H.size ad cI cL qy lp sp pr ex c dy tk (rMk (T)) mK (rMS (T)) (rSu (T)) uK (rUS (T)) (rSh (T)) (rMu (T)) (rCo (T)) (rSr (T)) (rDu (T)) bi bb 0 y (by omega) (by omega)) (cwV 2 hts gL_step_X1_takenFrom rfl rfl rfl (by decide +kernel) ⟨(Nat.le_of_ble_eq_true rfl), (Nat.le_of_ble_eq_true rfl)⟩) hT hS hA hK hP hD [0, 1] rfl [0, 1, 2, 3, 4, 5, 6, 7, 8, 9, 10, 11, 12, 13, 14] [15] [1, 2, 3, 4, 5, 6, 7, 8, 9, 10, 11, 12, 13, 14, 15, 0] rfl (by decide) rfl (by decide) (by decide) rfl (by decide) 0 1 rfl rfl rfl rfl hl.1 rfl (Nat.le_of_ble_eq_true rfl) dL_step_460 ⟨(Nat.le_of_ble_eq_true rfl), (Nat.le_of_ble_eq_true rfl)⟩ [1, 2, 3, 4, 5, 6, 7, 8, 9, 10, 11, 12, 13, 14, 15, 0] rfl (by decide) (fun _ _ _ _ _ hE => hE.elim) (fun H locs _ hP hD hS => ?_)
      refine lv_aload_n hx hb dL_step_463 rfl (lv_at hl 1 rfl) ?_
      refine lv_iload hx hb dL_step_464 (lv_at hl 0 rfl) ?_
      refine lv_iconst (v := 1) hx hb dL_step_466 (by decide) ?_
      refine lv_iadd hx hb dL_step_467 ?_
      refine gj_i (show (nI y) + 1 = nI (y + 1) from nI_add y 1) ?_
      refine lv_sipush (v := 359) hx hb dL_step_468 (by decide) ?_
      refine ghV_i (wc := (wG ad cI cL qy lp sp pr ex (nI c) dy tk (rMk (T)) (nI mK) (rMS (T)) (rSu (T)) (nI uK) (rUS (T)) (rSh (T)) (rMu (T)) (rCo (T)) (rSr (T)) (rDu (T)) bi bb)) (wr := [(o, .inl (cI, 7, .inl (cF qy lp sp (nI mK) (nI uK) (nI c) (tk c))))]) (w1 := (wG ad cI cL qy lp sp pr ex (nI c) dy tk (rMk (T)) (nI mK) (rMS (T)) (rSu (T)) (nI uK) (rUS (T)) (rSh (T)) (rMu (T)) (rCo (T)) (rSr (T)) (rDu (T)) bi bb)) (W' := ((wG ad cI cL qy lp sp pr ex (nI c) dy tk (rMk (T)) (nI mK) (rMS (T)) (rSu (T)) (nI uK) (rUS (T)) (rSh (T)) (rMu (T)) (rCo (T)) (rSr (T)) (rDu (T)) bi bb) ++ [(o, .inl (cI, 7, .inl (cF qy lp sp (nI mK) (nI uK) (nI c) (tk c))))])) (As := [.int (nI (y + 1)), .int 359]) (rest := [.int (smI dy 0 (y + 1 - 0))]) ⟨hx, hb, hml, hown, hts⟩ (c_X1_takenFrom l hst D H.size ad cI cL qy lp sp pr ex c dy tk (rMk (T)) mK (rMS (T)) (rSu (T)) uK (rUS (T)) (rSh (T)) (rMu (T)) (rCo (T)) (rSr (T)) (rDu (T)) bi bb (y + 1) 359 (by omega) (by omega)) (cwV 2 hts gL_step_X1_takenFrom rfl rfl rfl (by decide +kernel) ⟨(Nat.le_of_ble_eq_true rfl), (Nat.le_of_ble_eq_true rfl)⟩) hT hS hA hK hP hD [0, 1] rfl [0, 1, 2, 3, 4, 5, 6, 7, 8, 9, 10, 11, 12, 13, 14] [15] [1, 2, 3, 4, 5, 6, 7, 8, 9, 10, 11, 12, 13, 14, 15, 0] rfl (by decide) rfl (by decide) (by decide) rfl (by decide) 0 1 rfl rfl rfl rfl hl.1 rfl (Nat.le_of_ble_eq_true rfl) dL_step_471 ⟨(Nat.le_of_ble_eq_true rfl), (Nat.le_of_ble_eq_true rfl)⟩ [1, 2, 3, 4, 5, 6, 7, 8, 9, 10, 11, 12, 13, 14, 15, 0] rfl (by decide) (fun _ _ _ _ _ hE => hE.elim) (fun H locs _ hP hD hS => ?_)
      refine lv_iadd hx hb dL_step_474 ?_
      refine lv_aload_n hx hb dL_step_475 rfl (lv_at hl 2 rfl) ?_
      refine lv_bipush (v := 6) hx hb dL_step_476 (by decide) ?_
      refine ga_iald (j := 6) hx hb hK hP 15 0 rfl rfl (by decide) (by decide) dL_step_478 ?_
      refine gj_i (show (cF qy lp sp (nI mK) (nI uK) (nI c) (tk c)) 6 = tk c from rfl) ?_
      refine lv_icmp_ne (tgt := 486) hx hb dL_step_479 (by decide) (fun cb => absurd (INV_two hI hy) cb) (fun _ => ?_)
      refine lv_iconst (v := 1) hx hb dL_step_482 (by decide) ?_
      refine lv_goto (tgt := 487) hx hb dL_step_483 (by decide) ?_
      exact ge_is (PW_mk hI) hx hb hr hlocks rfl hK hP hD hS (Nat.le_of_ble_eq_true rfl) (Nat.le_of_ble_eq_true rfl) dL_step_487
  · refine lv_tableOut (tgt := 488) hx hb dL_step_10 (Or.inr (by rw [nI_toInt (by omega)]; omega)) (by decide) ?_
    refine lv_aload_n hx hb dL_step_488 rfl (lv_at hl 2 rfl) ?_
    refine lv_iconst (v := 5) hx hb dL_step_489 (by decide) ?_
    refine ga_iald (j := 5) hx hb hK hP 15 0 rfl rfl (by decide) (by decide) dL_step_490 ?_
    refine gj_i (show (cF qy lp sp (nI mK) (nI uK) (nI c) (tk c)) 5 = nI c from rfl) ?_
    refine lv_bipush (v := 20) hx hb dL_step_491 (by decide) ?_
    refine lv_icmp_eq (tgt := 504) hx hb dL_step_493 (by decide) (fun cc => ?_) (fun cc => ?_)
    · refine lv_iconst (v := 1) hx hb dL_step_504 (by decide) ?_
      refine lv_goto (tgt := 509) hx hb dL_step_505 (by decide) ?_
      exact ge_is (PW_mk hI) hx hb hr hlocks rfl hK hP hD hS (Nat.le_of_ble_eq_true rfl) (Nat.le_of_ble_eq_true rfl) dL_step_509
    · have h20 : c < 20 := nI_n20 hc cc
      refine lv_aload_n hx hb dL_step_496 rfl (lv_at hl 1 rfl) ?_
      refine lv_aload_n hx hb dL_step_497 rfl (lv_at hl 2 rfl) ?_
      refine gHS_s (Wd := ((wG ad cI cL qy lp sp pr ex (nI c) dy tk (rMk (T)) (nI mK) (rMS (T)) (rSu (T)) (nI uK) (rUS (T)) (rSh (T)) (rMu (T)) (rCo (T)) (rSr (T)) (rDu (T)) bi bb) ++ [(o, .inl (cI, 7, .inl (cF qy lp sp (nI mK) (nI uK) (nI c) (tk c))))])) (As := [.ref (ad 0), .ref o]) (rest := []) ⟨hx, hb, hml, hown, hts⟩ (c_L_closes l hst D s.heap.size ad cI cL o qy lp sp pr ex c dy tk mK uK T bi bb  hI h20) (va_cwS 2 hts gL_step_L_closes rfl rfl rfl (by decide +kernel) ⟨(Nat.le_of_ble_eq_true rfl), (Nat.le_of_ble_eq_true rfl)⟩) hT hS hA hK hP hD [0, 1] rfl [0, 1, 2, 3, 4, 5, 6, 7, 8, 9, 10, 11, 12, 13, 14, 15] rfl (by decide) rfl hl.1 rfl (Nat.le_of_ble_eq_true rfl) dL_step_498 ⟨(Nat.le_of_ble_eq_true rfl), (Nat.le_of_ble_eq_true rfl)⟩ (fun u H locs hu hP hD hS => ?_)
      refine lv_if_eq (tgt := 508) hx hb dL_step_501 (by decide) (fun cb => absurd cb (by decide : ¬ (1 : Int32) = 0)) (fun _ => ?_)
      refine lv_iconst (v := 1) hx hb dL_step_504 (by decide) ?_
      refine lv_goto (tgt := 509) hx hb dL_step_505 (by decide) ?_
      exact ge_is hu hx hb hr hlocks rfl hK hP hD hS (Nat.le_of_ble_eq_true rfl) (Nat.le_of_ble_eq_true rfl) dL_step_509
