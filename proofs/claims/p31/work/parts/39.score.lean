/-! contracts: a score -/
set_option maxRecDepth 100000 in
set_option maxHeartbeats 4000000 in
theorem c_X6_score (l : Launch) (hst : l.stackTraces = false) (D : va_G) (cy : Nat → ClassId) (z0 : Nat) (ad : Nat → Nat) (fm fr h su st sh fl sm cm em ep : Int) (cS cH dD dE dF pl pw an hd fq c1 c2 c3 c4 c5 e1 e2 e3 e4 e5 : Int → Int) (x : Int) (r_x : r32 x) (g_pl : zrg 12 0 47 pl) (g_c1 : zrg 60 0 11 c1) (g_c2 : zrg 60 0 11 c2) (g_c3 : zrg 60 0 300 c3) (g_c5 : zrg 60 0 5000 c5) (g_e1 : zrg 80 0 11 e1) (g_e2 : zrg 80 0 11 e2) (g_e3 : zrg 80 0 300 e3) (g_e4 : zrg 80 0 5000 e4) (g_e5 : zrg 80 (-1) 79 e5) (hsm : 0 ≤ sm ∧ sm ≤ 12) (hcm : 0 ≤ cm ∧ cm ≤ 60) (hem : 0 ≤ em ∧ em ≤ 80) (h_h : 0 ≤ h ∧ h ≤ 5000) : vx_Met l yX6_score [.code yX6_score cX6_score 7 (some .int)] (zRm 7 1 6 111) (zPc [.ref (ad 0), .int (iI x)] D cy z0 (zWl D z0 ((rooW ad 0 cy fm fr) ++ ((airW ad 1 cy h su st sh fl cS cH dD dE dF) ++ ((sndW ad 19 cy 12 sm pl pw an hd fq) ++ ((conW ad 31 cy cm c1 c2 c3 c4 c5) ++ (entW ad 37 cy em ep e1 e2 e3 e4 e5))))))) (zQ1 D ((rooW ad 0 cy fm fr) ++ ((airW ad 1 cy h su st sh fl cS cH dD dE dF) ++ ((sndW ad 19 cy 12 sm pl pw an hd fq) ++ ((conW ad 31 cy cm c1 c2 c3 c4 c5) ++ (entW ad 37 cy em ep e1 e2 e3 e4 e5))))) (fun (r : Int32) (_ : Unit) => ((0 ≤ x ∧ x < sm)) ∧ r = iI (scZ cm c1 c2 c3 c5 e1 e2 e3 e4 e5 pl em h x)) (fun (_ : Unit) => ((rooW ad 0 cy fm fr) ++ ((airW ad 1 cy h su st sh fl cS cH dD dE dF) ++ ((sndW ad 19 cy 12 sm pl pw an hd fq) ++ ((conW ad 31 cy cm c1 c2 c3 c4 c5) ++ (entW ad 37 cy em ep e1 e2 e3 e4 e5))))))) (zXC (fun E => (E = eIB ∧ (¬ (0 ≤ x ∧ x < sm))))) 1 6 (zIn ((rooW ad 0 cy fm fr) ++ ((airW ad 1 cy h su st sh fl cS cH dD dE dF) ++ ((sndW ad 19 cy 12 sm pl pw an hd fq) ++ ((conW ad 31 cy cm c1 c2 c3 c4 c5) ++ (entW ad 37 cy em ep e1 e2 e3 e4 e5)))))) := by
  refine z_ofX (by decide) (Nat.le_of_ble_eq_true rfl) ?_
  intro p e s m args below meth c M hr hlk ht hargs hP0 hE ls hl
  have hP : va_P D vwCl ((rooW ad 0 cy fm fr) ++ ((airW ad 1 cy h su st sh fl cS cH dD dE dF) ++ ((sndW ad 19 cy 12 sm pl pw an hd fq) ++ ((conW ad 31 cy cm c1 c2 c3 c4 c5) ++ (entW ad 37 cy em ep e1 e2 e3 e4 e5))))) s.heap := hP0.1
  have hD : va_D (zIn ((rooW ad 0 cy fm fr) ++ ((airW ad 1 cy h su st sh fl cS cH dD dE dF) ++ ((sndW ad 19 cy 12 sm pl pw an hd fq) ++ ((conW ad 31 cy cm c1 c2 c3 c4 c5) ++ (entW ad 37 cy em ep e1 e2 e3 e4 e5)))))) ((rooW ad 0 cy fm fr) ++ ((airW ad 1 cy h su st sh fl cS cH dD dE dF) ++ ((sndW ad 19 cy 12 sm pl pw an hd fq) ++ ((conW ad 31 cy cm c1 c2 c3 c4 c5) ++ (entW ad 37 cy em ep e1 e2 e3 e4 e5))))) := hP0.self
  have hAz := hP0.A
  have hS : va_S (zIn ((rooW ad 0 cy fm fr) ++ ((airW ad 1 cy h su st sh fl cS cH dD dE dF) ++ ((sndW ad 19 cy 12 sm pl pw an hd fq) ++ ((conW ad 31 cy cm c1 c2 c3 c4 c5) ++ (entW ad 37 cy em ep e1 e2 e3 e4 e5)))))) s.heap s.heap [] := va_S.rf
  have hl : lv_has ls 7 [(0, .ref (ad 0)), (1, .int (iI x))] := hl
  refine lv_aload_n M.1 M.2.1 dX6_score_0 rfl (lv_at hl 0 rfl) ?_
  refine lv_iload_n M.1 M.2.1 dX6_score_1 rfl (lv_at hl 1 rfl) ?_
  refine zx_need (zx_runV (As := [.int (iI x)]) (rest := []) M (c_X6_needStation l hst D cy z0 ad fm fr sm pl pw an hd fq x (by omega) (by omega)) hE hS hAz (hP.sub [0, 8, 9, 10, 11, 12, 13] rfl) (zRc.of (ci := 6) (q0 := 0) hE hP rfl rfl) zk_cd_X6_needStation zk_in_RX6 zk_im_X6_needStation zk_se_X6_needStation zk_ml_RX6_122 rfl rfl zd_X6_needStation ⟨by decide, by decide⟩ rfl hl.1 rfl (Nat.le_of_ble_eq_true rfl) dX6_score_2 ⟨by decide, by decide⟩) ht hlk (by decide) (by decide) (fun E t hA9 hC hz hq => ⟨by obtain ⟨rfl, h9⟩ := hC; exact ⟨rfl, by omega⟩, hz, hq⟩) (fun hn_1 => ?_)
  refine zi_push M dX6_score_5 ?_
  refine lv_istore_n (lv' := [(2, .int (iI 0)), (0, .ref (ad 0)), (1, .int (iI x))]) M.1 M.2.1 dX6_score_6 rfl hl (by decide) rfl (fun ls hl => ?_)
  refine zi_push M dX6_score_7 ?_
  refine lv_istore_n (lv' := [(3, .int (iI 0)), (2, .int (iI 0)), (0, .ref (ad 0)), (1, .int (iI x))]) M.1 M.2.1 dX6_score_8 rfl hl (by decide) rfl (fun ls hl => ?_)
  refine zi_push M dX6_score_9 ?_
  refine lv_istore (lv' := [(4, .int (iI 0)), (3, .int (iI 0)), (2, .int (iI 0)), (0, .ref (ad 0)), (1, .int (iI x))]) M.1 M.2.1 dX6_score_10 hl (by decide) rfl (fun ls hl => ?_)
  refine zi_push M dX6_score_12 ?_
  refine lv_istore (lv' := [(5, .int (iI 0)), (4, .int (iI 0)), (3, .int (iI 0)), (2, .int (iI 0)), (0, .ref (ad 0)), (1, .int (iI x))]) M.1 M.2.1 dX6_score_13 hl (by decide) rfl (fun ls hl => ?_)
  have L_15 : ∀ (k_15 : Nat) (pt : Int) (ln : Int) (ms : Int) (i : Int) (hi : 0 ≤ i ∧ i ≤ em) (h1 : pt = ptF cm c1 c2 c3 c5 e1 e2 e3 e4 e5 pl x i.toNat) (h2 : ln = lnF cm c1 c2 c3 c5 e1 e2 e3 e4 e5 pl x i.toNat) (h3 : ms = msF e1 e4 e5 h x i.toNat) (hm : em - i < (k_15 : Int)) (ls : Array Slot) (hl : lv_has ls 7 [(0, .ref (ad 0)), (1, .int (iI x)), (2, .int (iI pt)), (3, .int (iI ln)), (4, .int (iI ms)), (5, .int (iI i))]), W p l e (zRm 7 1 6 111) s m args below meth c s.heap [] 1 6 (vx_MQ below (zQ1 D ((rooW ad 0 cy fm fr) ++ ((airW ad 1 cy h su st sh fl cS cH dD dE dF) ++ ((sndW ad 19 cy 12 sm pl pw an hd fq) ++ ((conW ad 31 cy cm c1 c2 c3 c4 c5) ++ (entW ad 37 cy em ep e1 e2 e3 e4 e5))))) (fun (r : Int32) (_ : Unit) => ((0 ≤ x ∧ x < sm)) ∧ r = iI (scZ cm c1 c2 c3 c5 e1 e2 e3 e4 e5 pl em h x)) (fun (_ : Unit) => ((rooW ad 0 cy fm fr) ++ ((airW ad 1 cy h su st sh fl cS cH dD dE dF) ++ ((sndW ad 19 cy 12 sm pl pw an hd fq) ++ ((conW ad 31 cy cm c1 c2 c3 c4 c5) ++ (entW ad 37 cy em ep e1 e2 e3 e4 e5))))))) (zXC (fun E => (E = eIB ∧ (¬ (0 ≤ x ∧ x < sm))))) args s 1 6 (zIn ((rooW ad 0 cy fm fr) ++ ((airW ad 1 cy h su st sh fl cS cH dD dE dF) ++ ((sndW ad 19 cy 12 sm pl pw an hd fq) ++ ((conW ad 31 cy cm c1 c2 c3 c4 c5) ++ (entW ad 37 cy em ep e1 e2 e3 e4 e5))))))) (F0 m 15 ls []) := by
    intro k_15
    induction k_15 with
    | zero =>
      intro pt ln ms i hi h1 h2 h3 hm ls hl
      exact absurd hm (by omega)
    | succ k_15 ih_15 =>
      intro pt ln ms i hi h1 h2 h3 hm ls hl
      have hlr := lnF_rg (cm := cm) (c1 := c1) (c2 := c2) (c3 := c3) (c5 := c5) (e1 := e1) (e3 := e3) (e4 := e4) (e5 := e5) (x := x) g_pl g_e2 i.toNat (by omega)
      rw [← h2] at hlr
      refine lv_iload M.1 M.2.1 dX6_score_15 (lv_at hl 5 rfl) ?_
      refine lv_aload_n M.1 M.2.1 dX6_score_17 rfl (lv_at hl 0 rfl) ?_
      refine zi_get (ci := 6) (v := .ref (ad 37)) M hE hP 0 rfl rfl zu_X6 7 (by decide) zk_fl_RX6_55 rfl rfl dX6_score_18 ?_
      refine zi_getN (ci := 2) (v := .int (iI em)) M hE hP 20 rfl rfl zu_X2 5 (by decide) zk_fn_RX6_244 rfl rfl dX6_score_21 ?_
      refine zi_icmp_ge (tgt := 153) M dX6_score_24 (by decide) (by omega) (by omega) (fun c_2 => ?_) (fun c_2 => ?_)
      ·
        refine lv_iload_n M.1 M.2.1 dX6_score_153 rfl (lv_at hl 2 rfl) ?_
        refine lv_iload_n M.1 M.2.1 dX6_score_154 rfl (lv_at hl 3 rfl) ?_
        refine z_cR (z_runS (As := [.int (iI ln)]) (rest := [.int (iI pt)]) M (c_J6_bitCount l D cy z0 ln (by omega)) hE hS hAz trivial zk_cd_J6_bitCount_0f7a4 zk_in_RJ6 zk_st_J6_bitCount_0f7a4 zk_ml_RX6_263 rfl rfl zd_J6_bitCount_0f7a4 ⟨by decide, by decide⟩ rfl hl.1 rfl (Nat.le_of_ble_eq_true rfl) dX6_score_155 ⟨by decide, by decide⟩) ?_
        refine zi_imul M dX6_score_158 ?_
        refine zi_push M dX6_score_159 ?_
        refine lv_iload M.1 M.2.1 dX6_score_160 (lv_at hl 4 rfl) ?_
        refine zi_imul M dX6_score_162 ?_
        refine zi_isub M dX6_score_163 ?_
        have hP : va_P D vwCl ((rooW ad 0 cy fm fr) ++ ((airW ad 1 cy h su st sh fl cS cH dD dE dF) ++ ((sndW ad 19 cy 12 sm pl pw an hd fq) ++ ((conW ad 31 cy cm c1 c2 c3 c4 c5) ++ (entW ad 37 cy em ep e1 e2 e3 e4 e5))))) s.heap := hP
        exact vx_ret (zw_i M hr hlk () hP hS (by exact ⟨by omega, congrArg iI (show (((pt * (popZ ln)) - (3 * ms)) : Int) = scZ cm c1 c2 c3 c5 e1 e2 e3 e4 e5 pl em h x by (unfold scZ; rw [h1, h2, h3, show i = em from by omega]))⟩) (by decide) (by decide) dX6_score_164)
      ·
        refine lv_aload_n M.1 M.2.1 dX6_score_27 rfl (lv_at hl 0 rfl) ?_
        refine zi_get (ci := 6) (v := .ref (ad 37)) M hE hP 0 rfl rfl zu_X6 7 (by decide) zk_fl_RX6_55 rfl rfl dX6_score_28 ?_
        refine zi_getN (ci := 2) (v := .ref (ad (37 + 1))) M hE hP 20 rfl rfl zu_X2 0 (by decide) zk_fn_RX6_245 rfl rfl dX6_score_31 ?_
        refine lv_iload M.1 M.2.1 dX6_score_34 (lv_at hl 5 rfl) ?_
        refine zi_iald M hE hP 21 (n := 80) (g := e1) rfl (Nat.le_of_ble_eq_true rfl) (by omega) (by omega) dX6_score_36 ?_
        have hr_3 := g_e1 i (by omega) (by omega)
        refine lv_iload_n M.1 M.2.1 dX6_score_37 rfl (lv_at hl 1 rfl) ?_
        refine zi_icmp_eq (tgt := 44) M dX6_score_38 (by decide) (by omega) (by omega) (fun c_4 => ?_) (fun c_4 => ?_)
        ·
          refine lv_aload_n M.1 M.2.1 dX6_score_44 rfl (lv_at hl 0 rfl) ?_
          refine lv_iload M.1 M.2.1 dX6_score_45 (lv_at hl 5 rfl) ?_
          refine z_cR (z_runV (As := [.int (iI i)]) (rest := []) M (c_X6_counts l D cy z0 ad fm fr cm em ep c1 c2 c3 c4 c5 e1 e2 e3 e4 e5 i g_c1 g_c2 g_c3 g_c5 g_e1 g_e2 g_e3 g_e4 g_e5 (by omega) (by omega)) hE hS hAz (hP.sub [0, 14, 15, 16, 17, 18, 19, 20, 21, 22, 23, 24, 25] rfl) (zRc.of (ci := 6) (q0 := 0) hE hP rfl rfl) zk_cd_X6_counts zk_in_RX6 zk_im_X6_counts zk_se_X6_counts zk_ml_RX6_240 rfl rfl zd_X6_counts ⟨by decide, by decide⟩ rfl hl.1 rfl (Nat.le_of_ble_eq_true rfl) dX6_score_47 ⟨by decide, by decide⟩) ?_
          refine zi_bz (P := cntZ cm c1 c2 c3 c5 e1 e2 e3 e4 e5 i) (g := fun r => F0 m 50 ls (.int r :: [])) (fun b_5 => ?_) (fun b_5 => ?_)
          ·
            have hb5 := b_5.1
            refine zi_if_eq (tgt := 108) M dX6_score_50 (by decide) ⟨by decide, by decide⟩ (fun q => absurd q (by decide)) (fun _ => ?_)
            refine lv_aload_n M.1 M.2.1 dX6_score_53 rfl (lv_at hl 0 rfl) ?_
            refine zi_get (ci := 6) (v := .ref (ad 19)) M hE hP 0 rfl rfl zu_X6 4 (by decide) zk_fl_RX6_38 rfl rfl dX6_score_54 ?_
            refine zi_getN (ci := 5) (v := .ref (ad (19 + 1))) M hE hP 8 rfl rfl zu_X5 0 (by decide) zk_fn_RX6_248 rfl rfl dX6_score_57 ?_
            refine lv_aload_n M.1 M.2.1 dX6_score_60 rfl (lv_at hl 0 rfl) ?_
            refine zi_get (ci := 6) (v := .ref (ad 37)) M hE hP 0 rfl rfl zu_X6 7 (by decide) zk_fl_RX6_55 rfl rfl dX6_score_61 ?_
            refine zi_getN (ci := 2) (v := .ref (ad (37 + 2))) M hE hP 20 rfl rfl zu_X2 1 (by decide) zk_fn_RX6_251 rfl rfl dX6_score_64 ?_
            refine lv_iload M.1 M.2.1 dX6_score_67 (lv_at hl 5 rfl) ?_
            refine zi_iald M hE hP 22 (n := 80) (g := e2) rfl (Nat.le_of_ble_eq_true rfl) (by omega) (by omega) dX6_score_69 ?_
            have hr_6 := g_e2 i (by omega) (by omega)
            refine zi_iald M hE hP 9 (n := 12) (g := pl) rfl (Nat.le_of_ble_eq_true rfl) (by omega) (by omega) dX6_score_70 ?_
            have hr_7 := g_pl (e2 i) (by omega) (by omega)
            refine lv_istore (lv' := [(6, .int (iI (pl (e2 i)))), (0, .ref (ad 0)), (1, .int (iI x)), (2, .int (iI pt)), (3, .int (iI ln)), (4, .int (iI ms)), (5, .int (iI i))]) M.1 M.2.1 dX6_score_71 hl (by decide) rfl (fun ls hl => ?_)
            refine lv_iload_n M.1 M.2.1 dX6_score_73 rfl (lv_at hl 3 rfl) ?_
            refine zi_push M dX6_score_74 ?_
            refine lv_aload_n M.1 M.2.1 dX6_score_75 rfl (lv_at hl 1 rfl) ?_
            refine zi_get (ci := 6) (v := .ref (ad 19)) M hE hP 0 rfl rfl zu_X6 4 (by decide) zk_fl_RX6_38 rfl rfl dX6_score_76 ?_
            refine zi_getN (ci := 5) (v := .ref (ad (19 + 1))) M hE hP 8 rfl rfl zu_X5 0 (by decide) zk_fn_RX6_248 rfl rfl dX6_score_79 ?_
            refine lv_iload_n M.1 M.2.1 dX6_score_82 rfl (lv_at hl 2 rfl) ?_
            refine zi_iald M hE hP 9 (n := 12) (g := pl) rfl (Nat.le_of_ble_eq_true rfl) (by omega) (by omega) dX6_score_83 ?_
            have hr_8 := g_pl x (by omega) (by omega)
            refine lv_iload M.1 M.2.1 dX6_score_84 (lv_at hl 0 rfl) ?_
            refine z_cR (z_runS (As := [.int (iI (pl x)), .int (iI (pl (e2 i)))]) (rest := [.int (iI 1), .int (iI pt)]) M (c_X6_distance l D cy z0 (pl x) (pl (e2 i)) (by omega) (by omega)) hE hS hAz trivial zk_cd_X6_distance zk_in_RX6 zk_st_X6_distance zk_ml_RX6_254 rfl rfl zd_X6_distance ⟨by decide, by decide⟩ rfl hl.1 rfl (Nat.le_of_ble_eq_true rfl) dX6_score_86 ⟨by decide, by decide⟩) ?_
            have hdz : 0 ≤ (distZ (pl x) (pl (e2 i))) ∧ (distZ (pl x) (pl (e2 i))) ≤ 47 := by unfold distZ; omega
            refine zi_bipush M dX6_score_89 ⟨by decide, by decide⟩ ?_
            refine zi_idiv M dX6_score_91 (by omega) (by omega) (by omega) (by omega) ?_
            refine zi_iadd M dX6_score_92 ?_
            refine zi_iadd M dX6_score_93 ?_
            refine lv_istore_n (lv' := [(2, .int (iI (pt + (1 + ((distZ (pl x) (pl (e2 i))) / 6))))), (6, .int (iI (pl (e2 i)))), (0, .ref (ad 0)), (1, .int (iI x)), (3, .int (iI ln)), (4, .int (iI ms)), (5, .int (iI i))]) M.1 M.2.1 dX6_score_94 rfl hl (by decide) rfl (fun ls hl => ?_)
            refine lv_iload_n M.1 M.2.1 dX6_score_95 rfl (lv_at hl 4 rfl) ?_
            refine zi_push M dX6_score_96 ?_
            refine lv_iload M.1 M.2.1 dX6_score_97 (lv_at hl 1 rfl) ?_
            refine zi_bipush M dX6_score_99 ⟨by decide, by decide⟩ ?_
            refine zi_idiv M dX6_score_101 (by omega) (by omega) (by omega) (by omega) ?_
            refine zi_orshl M (by omega) (by omega) dX6_score_102 dX6_score_103 ?_
            refine lv_istore_n (lv' := [(3, .int (iI (orZ ln ((pl (e2 i)) / 6)))), (2, .int (iI (pt + (1 + ((distZ (pl x) (pl (e2 i))) / 6))))), (6, .int (iI (pl (e2 i)))), (0, .ref (ad 0)), (1, .int (iI x)), (4, .int (iI ms)), (5, .int (iI i))]) M.1 M.2.1 dX6_score_104 rfl hl (by decide) rfl (fun ls hl => ?_)
            refine zi_goto (tgt := 147) M dX6_score_105 (by decide) ?_
            refine zi_iinc (lv' := [(5, .int (iI (i + 1))), (3, .int (iI (orZ ln ((pl (e2 i)) / 6)))), (2, .int (iI (pt + (1 + ((distZ (pl x) (pl (e2 i))) / 6))))), (6, .int (iI (pl (e2 i)))), (0, .ref (ad 0)), (1, .int (iI x)), (4, .int (iI ms))]) M dX6_score_147 hl 6 rfl (by decide) rfl (fun ls hl => ?_)
            refine zi_goto (tgt := 15) M dX6_score_150 (by decide) ?_
            exact ih_15 (pt + (1 + ((distZ (pl x) (pl (e2 i))) / 6))) (orZ ln ((pl (e2 i)) / 6)) ms (i + 1) (by omega) (by first | exact ptF_s hi.1 h1 ⟨by omega, by assumption⟩ | exact ptF_n hi.1 h1 (fun z => by first | exact absurd z.2 (by assumption) | exact absurd z.1 (by omega))) (by first | exact lnF_s hi.1 h2 ⟨by omega, by assumption⟩ | exact lnF_n hi.1 h2 (fun z => by first | exact absurd z.2 (by assumption) | exact absurd z.1 (by omega))) (by first | exact msF_s hi.1 h3 ⟨by omega, by omega, by omega⟩ | exact msF_n hi.1 h3 (fun z => by have z1 := z.1; have z2 := z.2.1; have z3 := z.2.2; omega)) (by omega) ls (lv_sub hl [4, 5, 2, 1, 6, 0] rfl)
          ·
            refine zi_if_eq (tgt := 108) M dX6_score_50 (by decide) ⟨by decide, by decide⟩ (fun _ => ?_) (fun q => absurd q (by decide))
            refine lv_aload_n M.1 M.2.1 dX6_score_108 rfl (lv_at hl 0 rfl) ?_
            refine zi_get (ci := 6) (v := .ref (ad 37)) M hE hP 0 rfl rfl zu_X6 7 (by decide) zk_fl_RX6_55 rfl rfl dX6_score_109 ?_
            refine zi_getN (ci := 2) (v := .ref (ad (37 + 5))) M hE hP 20 rfl rfl zu_X2 4 (by decide) zk_fn_RX6_257 rfl rfl dX6_score_112 ?_
            refine lv_iload M.1 M.2.1 dX6_score_115 (lv_at hl 5 rfl) ?_
            refine zi_iald M hE hP 25 (n := 80) (g := e5) rfl (Nat.le_of_ble_eq_true rfl) (by omega) (by omega) dX6_score_117 ?_
            have hr_9 := g_e5 i (by omega) (by omega)
            refine zi_push M dX6_score_118 ?_
            refine zi_icmp_ne (tgt := 147) M dX6_score_119 (by decide) (by omega) ⟨by decide, by decide⟩ (fun c_10 => ?_) (fun c_10 => ?_)
            ·
              refine zi_iinc (lv' := [(5, .int (iI (i + 1))), (0, .ref (ad 0)), (1, .int (iI x)), (2, .int (iI pt)), (3, .int (iI ln)), (4, .int (iI ms))]) M dX6_score_147 hl 5 rfl (by decide) rfl (fun ls hl => ?_)
              refine zi_goto (tgt := 15) M dX6_score_150 (by decide) ?_
              exact ih_15 pt ln ms (i + 1) (by omega) (by first | exact ptF_s hi.1 h1 ⟨by omega, by assumption⟩ | exact ptF_n hi.1 h1 (fun z => by first | exact absurd z.2 (by assumption) | exact absurd z.1 (by omega))) (by first | exact lnF_s hi.1 h2 ⟨by omega, by assumption⟩ | exact lnF_n hi.1 h2 (fun z => by first | exact absurd z.2 (by assumption) | exact absurd z.1 (by omega))) (by first | exact msF_s hi.1 h3 ⟨by omega, by omega, by omega⟩ | exact msF_n hi.1 h3 (fun z => by have z1 := z.1; have z2 := z.2.1; have z3 := z.2.2; omega)) (by omega) ls (lv_sub hl [1, 2, 3, 4, 5, 0] rfl)
            ·
              refine lv_aload_n M.1 M.2.1 dX6_score_122 rfl (lv_at hl 0 rfl) ?_
              refine zi_get (ci := 6) (v := .ref (ad 1)) M hE hP 0 rfl rfl zu_X6 0 (by decide) zk_fl_RX6_12 rfl rfl dX6_score_123 ?_
              refine zi_getN (ci := 0) (v := .int (iI h)) M hE hP 1 rfl rfl zu_X0 0 (by decide) zk_fn_RX6_94 rfl rfl dX6_score_126 ?_
              refine lv_aload_n M.1 M.2.1 dX6_score_129 rfl (lv_at hl 0 rfl) ?_
              refine zi_get (ci := 6) (v := .ref (ad 37)) M hE hP 0 rfl rfl zu_X6 7 (by decide) zk_fl_RX6_55 rfl rfl dX6_score_130 ?_
              refine zi_getN (ci := 2) (v := .ref (ad (37 + 4))) M hE hP 20 rfl rfl zu_X2 3 (by decide) zk_fn_RX6_260 rfl rfl dX6_score_133 ?_
              refine lv_iload M.1 M.2.1 dX6_score_136 (lv_at hl 5 rfl) ?_
              refine zi_iald M hE hP 24 (n := 80) (g := e4) rfl (Nat.le_of_ble_eq_true rfl) (by omega) (by omega) dX6_score_138 ?_
              have hr_11 := g_e4 i (by omega) (by omega)
              refine zi_isub M dX6_score_139 ?_
              refine zi_push M dX6_score_140 ?_
              refine zi_icmp_lt (tgt := 147) M dX6_score_141 (by decide) (by omega) ⟨by decide, by decide⟩ (fun c_12 => ?_) (fun c_12 => ?_)
              ·
                refine zi_iinc (lv' := [(5, .int (iI (i + 1))), (0, .ref (ad 0)), (1, .int (iI x)), (2, .int (iI pt)), (3, .int (iI ln)), (4, .int (iI ms))]) M dX6_score_147 hl 5 rfl (by decide) rfl (fun ls hl => ?_)
                refine zi_goto (tgt := 15) M dX6_score_150 (by decide) ?_
                exact ih_15 pt ln ms (i + 1) (by omega) (by first | exact ptF_s hi.1 h1 ⟨by omega, by assumption⟩ | exact ptF_n hi.1 h1 (fun z => by first | exact absurd z.2 (by assumption) | exact absurd z.1 (by omega))) (by first | exact lnF_s hi.1 h2 ⟨by omega, by assumption⟩ | exact lnF_n hi.1 h2 (fun z => by first | exact absurd z.2 (by assumption) | exact absurd z.1 (by omega))) (by first | exact msF_s hi.1 h3 ⟨by omega, by omega, by omega⟩ | exact msF_n hi.1 h3 (fun z => by have z1 := z.1; have z2 := z.2.1; have z3 := z.2.2; omega)) (by omega) ls (lv_sub hl [1, 2, 3, 4, 5, 0] rfl)
              ·
                refine zi_iinc (lv' := [(4, .int (iI (ms + 1))), (0, .ref (ad 0)), (1, .int (iI x)), (2, .int (iI pt)), (3, .int (iI ln)), (5, .int (iI i))]) M dX6_score_144 hl 4 rfl (by decide) rfl (fun ls hl => ?_)
                refine zi_iinc (lv' := [(5, .int (iI (i + 1))), (4, .int (iI (ms + 1))), (0, .ref (ad 0)), (1, .int (iI x)), (2, .int (iI pt)), (3, .int (iI ln))]) M dX6_score_147 hl 5 rfl (by decide) rfl (fun ls hl => ?_)
                refine zi_goto (tgt := 15) M dX6_score_150 (by decide) ?_
                exact ih_15 pt ln (ms + 1) (i + 1) (by omega) (by first | exact ptF_s hi.1 h1 ⟨by omega, by assumption⟩ | exact ptF_n hi.1 h1 (fun z => by first | exact absurd z.2 (by assumption) | exact absurd z.1 (by omega))) (by first | exact lnF_s hi.1 h2 ⟨by omega, by assumption⟩ | exact lnF_n hi.1 h2 (fun z => by first | exact absurd z.2 (by assumption) | exact absurd z.1 (by omega))) (by first | exact msF_s hi.1 h3 ⟨by omega, by omega, by omega⟩ | exact msF_n hi.1 h3 (fun z => by have z1 := z.1; have z2 := z.2.1; have z3 := z.2.2; omega)) (by omega) ls (lv_sub hl [2, 3, 4, 5, 1, 0] rfl)
        ·
          refine zi_goto (tgt := 147) M dX6_score_41 (by decide) ?_
          refine zi_iinc (lv' := [(5, .int (iI (i + 1))), (0, .ref (ad 0)), (1, .int (iI x)), (2, .int (iI pt)), (3, .int (iI ln)), (4, .int (iI ms))]) M dX6_score_147 hl 5 rfl (by decide) rfl (fun ls hl => ?_)
          refine zi_goto (tgt := 15) M dX6_score_150 (by decide) ?_
          exact ih_15 pt ln ms (i + 1) (by omega) (by first | exact ptF_s hi.1 h1 ⟨by omega, by assumption⟩ | exact ptF_n hi.1 h1 (fun z => by first | exact absurd z.2 (by assumption) | exact absurd z.1 (by omega))) (by first | exact lnF_s hi.1 h2 ⟨by omega, by assumption⟩ | exact lnF_n hi.1 h2 (fun z => by first | exact absurd z.2 (by assumption) | exact absurd z.1 (by omega))) (by first | exact msF_s hi.1 h3 ⟨by omega, by omega, by omega⟩ | exact msF_n hi.1 h3 (fun z => by have z1 := z.1; have z2 := z.2.1; have z3 := z.2.2; omega)) (by omega) ls (lv_sub hl [1, 2, 3, 4, 5, 0] rfl)
  exact L_15 (Int.toNat (em - 0) + 1) 0 0 0 0 (by omega) rfl rfl rfl (by omega) ls (lv_sub hl [4, 5, 3, 2, 1, 0] rfl)
