/-! contracts: what everybody may call -/
set_option maxRecDepth 100000 in
set_option maxHeartbeats 4000000 in
theorem c_X6_counts (l : Launch) (D : va_G) (cy : Nat → ClassId) (z0 : Nat) (ad : Nat → Nat) (fm fr cm em ep : Int) (c1 c2 c3 c4 c5 e1 e2 e3 e4 e5 : Int → Int) (k : Int) (g_c1 : zrg 60 0 11 c1) (g_c2 : zrg 60 0 11 c2) (g_c3 : zrg 60 0 300 c3) (g_c5 : zrg 60 0 5000 c5) (g_e1 : zrg 80 0 11 e1) (g_e2 : zrg 80 0 11 e2) (g_e3 : zrg 80 0 300 e3) (g_e4 : zrg 80 0 5000 e4) (g_e5 : zrg 80 (-1) 79 e5) (hcm : 0 ≤ cm ∧ cm ≤ 60) (hk : 0 ≤ k ∧ k < 80) : Met l yX6_counts [.code yX6_counts cX6_counts 5 (some .boolean)] (zRm 1 0 0 23) (zPc [.ref (ad 0), .int (iI k)] D cy z0 (fun H => va_P D vwCl ((rooW ad 0 cy fm fr) ++ ((conW ad 31 cy cm c1 c2 c3 c4 c5) ++ (entW ad 37 cy em ep e1 e2 e3 e4 e5))) H)) (QcRead (iI (zif (cntZ cm c1 c2 c3 c5 e1 e2 e3 e4 e5 k) 1 0))) 0 0 (fun _ => False) := by
  refine z_of (by decide) (Nat.le_of_ble_eq_true rfl) ?_
  intro p e s m args below meth c M hr hlk _ hargs hP hE ls hl
  have hS : va_S (fun q => z0 ≤ q) s.heap s.heap [] := va_S.rf
  have hAz : ∀ q : Nat, (fun q => z0 ≤ q) q → z0 ≤ q := fun _ h => h
  have hl : lv_has ls 5 [(0, .ref (ad 0)), (1, .int (iI k))] := hl
  refine lv_aload_n M.1 M.2.1 dX6_counts_0 rfl (lv_at hl 0 rfl) ?_
  refine zi_get (ci := 6) (v := .ref (ad 37)) M hE hP 0 rfl rfl zu_X6 7 (by decide) zk_fl_RX6_55 rfl rfl dX6_counts_1 ?_
  refine zi_getN (ci := 2) (v := .ref (ad (37 + 5))) M hE hP 7 rfl rfl zu_X2 4 (by decide) zk_fn_RX6_257 rfl rfl dX6_counts_4 ?_
  refine lv_iload_n M.1 M.2.1 dX6_counts_7 rfl (lv_at hl 1 rfl) ?_
  refine zi_iald M hE hP 12 (n := 80) (g := e5) rfl (Nat.le_of_ble_eq_true rfl) (by omega) (by omega) dX6_counts_8 ?_
  have hr_1 := g_e5 k (by omega) (by omega)
  refine lv_istore_n (lv' := [(2, .int (iI (e5 k))), (0, .ref (ad 0)), (1, .int (iI k))]) M.1 M.2.1 dX6_counts_9 rfl hl (by decide) rfl (fun ls hl => ?_)
  refine lv_iload_n M.1 M.2.1 dX6_counts_10 rfl (lv_at hl 0 rfl) ?_
  refine zi_push M dX6_counts_11 ?_
  refine zi_icmp_ne (tgt := 17) M dX6_counts_12 (by decide) (by omega) ⟨by decide, by decide⟩ (fun c_2 => ?_) (fun c_2 => ?_)
  ·
    refine zi_push M dX6_counts_17 ?_
    refine lv_istore_n (lv' := [(3, .int (iI 0)), (2, .int (iI (e5 k))), (0, .ref (ad 0)), (1, .int (iI k))]) M.1 M.2.1 dX6_counts_18 rfl hl (by decide) rfl (fun ls hl => ?_)
    have L_19 : ∀ (k_19 : Nat) (i : Int) (hi : 0 ≤ i ∧ i ≤ cm) (hno : ∀ j : Int, 0 ≤ j → j < i → ¬ cntQ c1 c2 c3 c5 e1 e2 e3 e4 e5 k j) (hm : cm - i < (k_19 : Int)) (ls : Array Slot) (hl : lv_has ls 5 [(0, .ref (ad 0)), (1, .int (iI k)), (2, .int (iI (e5 k))), (3, .int (iI i))]), W p l e (zRm 1 0 0 23) s m args below meth c s.heap [] 0 0 (MQ below (QcRead (iI (zif (cntZ cm c1 c2 c3 c5 e1 e2 e3 e4 e5 k) 1 0))) args s 0 0 (fun _ => False)) (F0 m 19 ls []) := by
      intro k_19
      induction k_19 with
      | zero =>
        intro i hi hno hm ls hl
        exact absurd hm (by omega)
      | succ k_19 ih_19 =>
        intro i hi hno hm ls hl
        have hr_k := g_e5 k (by omega) (by omega)
        refine lv_iload_n M.1 M.2.1 dX6_counts_19 rfl (lv_at hl 3 rfl) ?_
        refine lv_aload_n M.1 M.2.1 dX6_counts_20 rfl (lv_at hl 0 rfl) ?_
        refine zi_get (ci := 6) (v := .ref (ad 31)) M hE hP 0 rfl rfl zu_X6 6 (by decide) zk_fl_RX6_48 rfl rfl dX6_counts_21 ?_
        refine zi_getN (ci := 1) (v := .int (iI cm)) M hE hP 1 rfl rfl zu_X1 5 (by decide) zk_fn_RX6_268 rfl rfl dX6_counts_24 ?_
        refine zi_icmp_ge (tgt := 142) M dX6_counts_27 (by decide) (by omega) (by omega) (fun c_3 => ?_) (fun c_3 => ?_)
        ·
          refine zi_push M dX6_counts_142 ?_
          exact zr_z M hr hlk (v := 0) (show (0 : Int) = zif (cntZ cm c1 c2 c3 c5 e1 e2 e3 e4 e5 k) 1 0 by (exact (zif_f (fun ⟨_, n, a, b, z⟩ => hno n a (by omega) z)).symm)) (Or.inl rfl) dX6_counts_143
        ·
          refine lv_aload_n M.1 M.2.1 dX6_counts_30 rfl (lv_at hl 0 rfl) ?_
          refine zi_get (ci := 6) (v := .ref (ad 31)) M hE hP 0 rfl rfl zu_X6 6 (by decide) zk_fl_RX6_48 rfl rfl dX6_counts_31 ?_
          refine zi_getN (ci := 1) (v := .ref (ad (31 + 5))) M hE hP 1 rfl rfl zu_X1 4 (by decide) zk_fn_RX6_312 rfl rfl dX6_counts_34 ?_
          refine lv_iload_n M.1 M.2.1 dX6_counts_37 rfl (lv_at hl 3 rfl) ?_
          refine zi_iald M hE hP 6 (n := 60) (g := c5) rfl (Nat.le_of_ble_eq_true rfl) (by omega) (by omega) dX6_counts_38 ?_
          have hr_4 := g_c5 i (by omega) (by omega)
          refine lv_aload_n M.1 M.2.1 dX6_counts_39 rfl (lv_at hl 0 rfl) ?_
          refine zi_get (ci := 6) (v := .ref (ad 37)) M hE hP 0 rfl rfl zu_X6 7 (by decide) zk_fl_RX6_55 rfl rfl dX6_counts_40 ?_
          refine zi_getN (ci := 2) (v := .ref (ad (37 + 4))) M hE hP 7 rfl rfl zu_X2 3 (by decide) zk_fn_RX6_260 rfl rfl dX6_counts_43 ?_
          refine lv_iload_n M.1 M.2.1 dX6_counts_46 rfl (lv_at hl 1 rfl) ?_
          refine zi_iald M hE hP 11 (n := 80) (g := e4) rfl (Nat.le_of_ble_eq_true rfl) (by omega) (by omega) dX6_counts_47 ?_
          have hr_5 := g_e4 k (by omega) (by omega)
          refine zi_icmp_eq (tgt := 72) M dX6_counts_48 (by decide) (by omega) (by omega) (fun c_6 => ?_) (fun c_6 => ?_)
          ·
            refine zi_push M dX6_counts_72 ?_
            refine zi_goto (tgt := 77) M dX6_counts_73 (by decide) ?_
            refine lv_istore (lv' := [(4, .int (iI 1)), (0, .ref (ad 0)), (1, .int (iI k)), (2, .int (iI (e5 k))), (3, .int (iI i))]) M.1 M.2.1 dX6_counts_77 hl (by decide) rfl (fun ls hl => ?_)
            refine lv_iload M.1 M.2.1 dX6_counts_79 (lv_at hl 0 rfl) ?_
            refine zi_if_eq (tgt := 136) M dX6_counts_81 (by decide) ⟨by decide, by decide⟩ (fun q => absurd q (by decide)) (fun _ => ?_)
            refine lv_aload_n M.1 M.2.1 dX6_counts_84 rfl (lv_at hl 1 rfl) ?_
            refine zi_get (ci := 6) (v := .ref (ad 31)) M hE hP 0 rfl rfl zu_X6 6 (by decide) zk_fl_RX6_48 rfl rfl dX6_counts_85 ?_
            refine zi_getN (ci := 1) (v := .ref (ad (31 + 3))) M hE hP 1 rfl rfl zu_X1 2 (by decide) zk_fn_RX6_313 rfl rfl dX6_counts_88 ?_
            refine lv_iload_n M.1 M.2.1 dX6_counts_91 rfl (lv_at hl 4 rfl) ?_
            refine zi_iald M hE hP 4 (n := 60) (g := c3) rfl (Nat.le_of_ble_eq_true rfl) (by omega) (by omega) dX6_counts_92 ?_
            have hr_7 := g_c3 i (by omega) (by omega)
            refine lv_aload_n M.1 M.2.1 dX6_counts_93 rfl (lv_at hl 1 rfl) ?_
            refine zi_get (ci := 6) (v := .ref (ad 37)) M hE hP 0 rfl rfl zu_X6 7 (by decide) zk_fl_RX6_55 rfl rfl dX6_counts_94 ?_
            refine zi_getN (ci := 2) (v := .ref (ad (37 + 3))) M hE hP 7 rfl rfl zu_X2 2 (by decide) zk_fn_RX6_314 rfl rfl dX6_counts_97 ?_
            refine lv_iload_n M.1 M.2.1 dX6_counts_100 rfl (lv_at hl 2 rfl) ?_
            refine zi_iald M hE hP 10 (n := 80) (g := e3) rfl (Nat.le_of_ble_eq_true rfl) (by omega) (by omega) dX6_counts_101 ?_
            have hr_8 := g_e3 k (by omega) (by omega)
            refine zi_icmp_ne (tgt := 136) M dX6_counts_102 (by decide) (by omega) (by omega) (fun c_9 => ?_) (fun c_9 => ?_)
            ·
              refine zi_iinc (lv' := [(3, .int (iI (i + 1))), (4, .int (iI 1)), (0, .ref (ad 0)), (1, .int (iI k)), (2, .int (iI (e5 k)))]) M dX6_counts_136 hl 4 rfl (by decide) rfl (fun ls hl => ?_)
              refine zi_goto (tgt := 19) M dX6_counts_139 (by decide) ?_
              exact ih_19 (i + 1) (by omega) (fun j h0 h1 => by rcases Int.lt_or_le j i with hj | hj; exact hno j h0 hj; (have hji : j = i := (by omega)); subst hji; unfold cntQ; omega) (by omega) ls (lv_sub hl [2, 3, 4, 0] rfl)
            ·
              refine lv_aload_n M.1 M.2.1 dX6_counts_105 rfl (lv_at hl 1 rfl) ?_
              refine zi_get (ci := 6) (v := .ref (ad 31)) M hE hP 0 rfl rfl zu_X6 6 (by decide) zk_fl_RX6_48 rfl rfl dX6_counts_106 ?_
              refine lv_iload_n M.1 M.2.1 dX6_counts_109 rfl (lv_at hl 4 rfl) ?_
              refine lv_aload_n M.1 M.2.1 dX6_counts_110 rfl (lv_at hl 1 rfl) ?_
              refine zi_get (ci := 6) (v := .ref (ad 37)) M hE hP 0 rfl rfl zu_X6 7 (by decide) zk_fl_RX6_55 rfl rfl dX6_counts_111 ?_
              refine zi_getN (ci := 2) (v := .ref (ad (37 + 1))) M hE hP 7 rfl rfl zu_X2 0 (by decide) zk_fn_RX6_245 rfl rfl dX6_counts_114 ?_
              refine lv_iload_n M.1 M.2.1 dX6_counts_117 rfl (lv_at hl 2 rfl) ?_
              refine zi_iald M hE hP 8 (n := 80) (g := e1) rfl (Nat.le_of_ble_eq_true rfl) (by omega) (by omega) dX6_counts_118 ?_
              have hr_10 := g_e1 k (by omega) (by omega)
              refine lv_aload_n M.1 M.2.1 dX6_counts_119 rfl (lv_at hl 1 rfl) ?_
              refine zi_get (ci := 6) (v := .ref (ad 37)) M hE hP 0 rfl rfl zu_X6 7 (by decide) zk_fl_RX6_55 rfl rfl dX6_counts_120 ?_
              refine zi_getN (ci := 2) (v := .ref (ad (37 + 2))) M hE hP 7 rfl rfl zu_X2 1 (by decide) zk_fn_RX6_251 rfl rfl dX6_counts_123 ?_
              refine lv_iload_n M.1 M.2.1 dX6_counts_126 rfl (lv_at hl 2 rfl) ?_
              refine zi_iald M hE hP 9 (n := 80) (g := e2) rfl (Nat.le_of_ble_eq_true rfl) (by omega) (by omega) dX6_counts_127 ?_
              have hr_11 := g_e2 k (by omega) (by omega)
              refine z_cR (z_runV (As := [.int (iI i), .int (iI (e1 k)), .int (iI (e2 k))]) (rest := []) M (c_X1_isOf l D cy z0 ad 31 cm c1 c2 c3 c4 c5 i (e1 k) (e2 k) g_c1 g_c2 (by omega) (by omega) (by omega)) hE hS hAz (hP.sub [1, 2, 3, 4, 5, 6] rfl) (zRc.of (ci := 1) (q0 := 1) hE hP rfl rfl) zk_cd_X1_isOf zk_in_RX1 zk_im_X1_isOf zk_se_X1_isOf zk_ml_RX6_315 rfl rfl zd_X1_isOf ⟨by decide, by decide⟩ rfl hl.1 rfl (Nat.le_of_ble_eq_true rfl) dX6_counts_128 ⟨by decide, by decide⟩) ?_
              refine zi_b (P := (c1 i = (e1 k) ∧ c2 i = (e2 k)) ∨ (c1 i = (e2 k) ∧ c2 i = (e1 k))) (g := fun r => F0 m 131 ls (.int r :: [])) (fun b_12 => ?_) (fun b_12 => ?_)
              ·
                refine zi_if_eq (tgt := 136) M dX6_counts_131 (by decide) ⟨by decide, by decide⟩ (fun q => absurd q (by decide)) (fun _ => ?_)
                refine zi_push M dX6_counts_134 ?_
                exact zr_z M hr hlk (v := 1) (show (1 : Int) = zif (cntZ cm c1 c2 c3 c5 e1 e2 e3 e4 e5 k) 1 0 by (exact (zif_t ⟨by omega, i, by omega, by omega, by unfold cntQ; omega⟩).symm)) (Or.inr rfl) dX6_counts_135
              ·
                refine zi_if_eq (tgt := 136) M dX6_counts_131 (by decide) ⟨by decide, by decide⟩ (fun _ => ?_) (fun q => absurd q (by decide))
                refine zi_iinc (lv' := [(3, .int (iI (i + 1))), (4, .int (iI 1)), (0, .ref (ad 0)), (1, .int (iI k)), (2, .int (iI (e5 k)))]) M dX6_counts_136 hl 4 rfl (by decide) rfl (fun ls hl => ?_)
                refine zi_goto (tgt := 19) M dX6_counts_139 (by decide) ?_
                exact ih_19 (i + 1) (by omega) (fun j h0 h1 => by rcases Int.lt_or_le j i with hj | hj; exact hno j h0 hj; (have hji : j = i := (by omega)); subst hji; unfold cntQ; omega) (by omega) ls (lv_sub hl [2, 3, 4, 0] rfl)
          ·
            refine lv_aload_n M.1 M.2.1 dX6_counts_51 rfl (lv_at hl 0 rfl) ?_
            refine zi_get (ci := 6) (v := .ref (ad 31)) M hE hP 0 rfl rfl zu_X6 6 (by decide) zk_fl_RX6_48 rfl rfl dX6_counts_52 ?_
            refine zi_getN (ci := 1) (v := .ref (ad (31 + 5))) M hE hP 1 rfl rfl zu_X1 4 (by decide) zk_fn_RX6_312 rfl rfl dX6_counts_55 ?_
            refine lv_iload_n M.1 M.2.1 dX6_counts_58 rfl (lv_at hl 3 rfl) ?_
            refine zi_iald M hE hP 6 (n := 60) (g := c5) rfl (Nat.le_of_ble_eq_true rfl) (by omega) (by omega) dX6_counts_59 ?_
            have hr_13 := g_c5 i (by omega) (by omega)
            refine lv_aload_n M.1 M.2.1 dX6_counts_60 rfl (lv_at hl 0 rfl) ?_
            refine zi_get (ci := 6) (v := .ref (ad 37)) M hE hP 0 rfl rfl zu_X6 7 (by decide) zk_fl_RX6_55 rfl rfl dX6_counts_61 ?_
            refine zi_getN (ci := 2) (v := .ref (ad (37 + 4))) M hE hP 7 rfl rfl zu_X2 3 (by decide) zk_fn_RX6_260 rfl rfl dX6_counts_64 ?_
            refine lv_iload_n M.1 M.2.1 dX6_counts_67 rfl (lv_at hl 2 rfl) ?_
            refine zi_iald M hE hP 11 (n := 80) (g := e4) rfl (Nat.le_of_ble_eq_true rfl) (by omega) (by omega) dX6_counts_68 ?_
            have hr_14 := g_e4 (e5 k) (by omega) (by omega)
            refine zi_icmp_ne (tgt := 76) M dX6_counts_69 (by decide) (by omega) (by omega) (fun c_15 => ?_) (fun c_15 => ?_)
            ·
              refine zi_push M dX6_counts_76 ?_
              refine lv_istore (lv' := [(4, .int (iI 0)), (0, .ref (ad 0)), (1, .int (iI k)), (2, .int (iI (e5 k))), (3, .int (iI i))]) M.1 M.2.1 dX6_counts_77 hl (by decide) rfl (fun ls hl => ?_)
              refine lv_iload M.1 M.2.1 dX6_counts_79 (lv_at hl 0 rfl) ?_
              refine zi_if_eq (tgt := 136) M dX6_counts_81 (by decide) ⟨by decide, by decide⟩ (fun _ => ?_) (fun q => absurd q (by decide))
              refine zi_iinc (lv' := [(3, .int (iI (i + 1))), (4, .int (iI 0)), (0, .ref (ad 0)), (1, .int (iI k)), (2, .int (iI (e5 k)))]) M dX6_counts_136 hl 4 rfl (by decide) rfl (fun ls hl => ?_)
              refine zi_goto (tgt := 19) M dX6_counts_139 (by decide) ?_
              exact ih_19 (i + 1) (by omega) (fun j h0 h1 => by rcases Int.lt_or_le j i with hj | hj; exact hno j h0 hj; (have hji : j = i := (by omega)); subst hji; unfold cntQ; omega) (by omega) ls (lv_sub hl [2, 3, 4, 0] rfl)
            ·
              refine zi_push M dX6_counts_72 ?_
              refine zi_goto (tgt := 77) M dX6_counts_73 (by decide) ?_
              refine lv_istore (lv' := [(4, .int (iI 1)), (0, .ref (ad 0)), (1, .int (iI k)), (2, .int (iI (e5 k))), (3, .int (iI i))]) M.1 M.2.1 dX6_counts_77 hl (by decide) rfl (fun ls hl => ?_)
              refine lv_iload M.1 M.2.1 dX6_counts_79 (lv_at hl 0 rfl) ?_
              refine zi_if_eq (tgt := 136) M dX6_counts_81 (by decide) ⟨by decide, by decide⟩ (fun q => absurd q (by decide)) (fun _ => ?_)
              refine lv_aload_n M.1 M.2.1 dX6_counts_84 rfl (lv_at hl 1 rfl) ?_
              refine zi_get (ci := 6) (v := .ref (ad 31)) M hE hP 0 rfl rfl zu_X6 6 (by decide) zk_fl_RX6_48 rfl rfl dX6_counts_85 ?_
              refine zi_getN (ci := 1) (v := .ref (ad (31 + 3))) M hE hP 1 rfl rfl zu_X1 2 (by decide) zk_fn_RX6_313 rfl rfl dX6_counts_88 ?_
              refine lv_iload_n M.1 M.2.1 dX6_counts_91 rfl (lv_at hl 4 rfl) ?_
              refine zi_iald M hE hP 4 (n := 60) (g := c3) rfl (Nat.le_of_ble_eq_true rfl) (by omega) (by omega) dX6_counts_92 ?_
              have hr_16 := g_c3 i (by omega) (by omega)
              refine lv_aload_n M.1 M.2.1 dX6_counts_93 rfl (lv_at hl 1 rfl) ?_
              refine zi_get (ci := 6) (v := .ref (ad 37)) M hE hP 0 rfl rfl zu_X6 7 (by decide) zk_fl_RX6_55 rfl rfl dX6_counts_94 ?_
              refine zi_getN (ci := 2) (v := .ref (ad (37 + 3))) M hE hP 7 rfl rfl zu_X2 2 (by decide) zk_fn_RX6_314 rfl rfl dX6_counts_97 ?_
              refine lv_iload_n M.1 M.2.1 dX6_counts_100 rfl (lv_at hl 2 rfl) ?_
              refine zi_iald M hE hP 10 (n := 80) (g := e3) rfl (Nat.le_of_ble_eq_true rfl) (by omega) (by omega) dX6_counts_101 ?_
              have hr_17 := g_e3 k (by omega) (by omega)
              refine zi_icmp_ne (tgt := 136) M dX6_counts_102 (by decide) (by omega) (by omega) (fun c_18 => ?_) (fun c_18 => ?_)
              ·
                refine zi_iinc (lv' := [(3, .int (iI (i + 1))), (4, .int (iI 1)), (0, .ref (ad 0)), (1, .int (iI k)), (2, .int (iI (e5 k)))]) M dX6_counts_136 hl 4 rfl (by decide) rfl (fun ls hl => ?_)
                refine zi_goto (tgt := 19) M dX6_counts_139 (by decide) ?_
                exact ih_19 (i + 1) (by omega) (fun j h0 h1 => by rcases Int.lt_or_le j i with hj | hj; exact hno j h0 hj; (have hji : j = i := (by omega)); subst hji; unfold cntQ; omega) (by omega) ls (lv_sub hl [2, 3, 4, 0] rfl)
              ·
                refine lv_aload_n M.1 M.2.1 dX6_counts_105 rfl (lv_at hl 1 rfl) ?_
                refine zi_get (ci := 6) (v := .ref (ad 31)) M hE hP 0 rfl rfl zu_X6 6 (by decide) zk_fl_RX6_48 rfl rfl dX6_counts_106 ?_
                refine lv_iload_n M.1 M.2.1 dX6_counts_109 rfl (lv_at hl 4 rfl) ?_
                refine lv_aload_n M.1 M.2.1 dX6_counts_110 rfl (lv_at hl 1 rfl) ?_
                refine zi_get (ci := 6) (v := .ref (ad 37)) M hE hP 0 rfl rfl zu_X6 7 (by decide) zk_fl_RX6_55 rfl rfl dX6_counts_111 ?_
                refine zi_getN (ci := 2) (v := .ref (ad (37 + 1))) M hE hP 7 rfl rfl zu_X2 0 (by decide) zk_fn_RX6_245 rfl rfl dX6_counts_114 ?_
                refine lv_iload_n M.1 M.2.1 dX6_counts_117 rfl (lv_at hl 2 rfl) ?_
                refine zi_iald M hE hP 8 (n := 80) (g := e1) rfl (Nat.le_of_ble_eq_true rfl) (by omega) (by omega) dX6_counts_118 ?_
                have hr_19 := g_e1 k (by omega) (by omega)
                refine lv_aload_n M.1 M.2.1 dX6_counts_119 rfl (lv_at hl 1 rfl) ?_
                refine zi_get (ci := 6) (v := .ref (ad 37)) M hE hP 0 rfl rfl zu_X6 7 (by decide) zk_fl_RX6_55 rfl rfl dX6_counts_120 ?_
                refine zi_getN (ci := 2) (v := .ref (ad (37 + 2))) M hE hP 7 rfl rfl zu_X2 1 (by decide) zk_fn_RX6_251 rfl rfl dX6_counts_123 ?_
                refine lv_iload_n M.1 M.2.1 dX6_counts_126 rfl (lv_at hl 2 rfl) ?_
                refine zi_iald M hE hP 9 (n := 80) (g := e2) rfl (Nat.le_of_ble_eq_true rfl) (by omega) (by omega) dX6_counts_127 ?_
                have hr_20 := g_e2 k (by omega) (by omega)
                refine z_cR (z_runV (As := [.int (iI i), .int (iI (e1 k)), .int (iI (e2 k))]) (rest := []) M (c_X1_isOf l D cy z0 ad 31 cm c1 c2 c3 c4 c5 i (e1 k) (e2 k) g_c1 g_c2 (by omega) (by omega) (by omega)) hE hS hAz (hP.sub [1, 2, 3, 4, 5, 6] rfl) (zRc.of (ci := 1) (q0 := 1) hE hP rfl rfl) zk_cd_X1_isOf zk_in_RX1 zk_im_X1_isOf zk_se_X1_isOf zk_ml_RX6_315 rfl rfl zd_X1_isOf ⟨by decide, by decide⟩ rfl hl.1 rfl (Nat.le_of_ble_eq_true rfl) dX6_counts_128 ⟨by decide, by decide⟩) ?_
                refine zi_b (P := (c1 i = (e1 k) ∧ c2 i = (e2 k)) ∨ (c1 i = (e2 k) ∧ c2 i = (e1 k))) (g := fun r => F0 m 131 ls (.int r :: [])) (fun b_21 => ?_) (fun b_21 => ?_)
                ·
                  refine zi_if_eq (tgt := 136) M dX6_counts_131 (by decide) ⟨by decide, by decide⟩ (fun q => absurd q (by decide)) (fun _ => ?_)
                  refine zi_push M dX6_counts_134 ?_
                  exact zr_z M hr hlk (v := 1) (show (1 : Int) = zif (cntZ cm c1 c2 c3 c5 e1 e2 e3 e4 e5 k) 1 0 by (exact (zif_t ⟨by omega, i, by omega, by omega, by unfold cntQ; omega⟩).symm)) (Or.inr rfl) dX6_counts_135
                ·
                  refine zi_if_eq (tgt := 136) M dX6_counts_131 (by decide) ⟨by decide, by decide⟩ (fun _ => ?_) (fun q => absurd q (by decide))
                  refine zi_iinc (lv' := [(3, .int (iI (i + 1))), (4, .int (iI 1)), (0, .ref (ad 0)), (1, .int (iI k)), (2, .int (iI (e5 k)))]) M dX6_counts_136 hl 4 rfl (by decide) rfl (fun ls hl => ?_)
                  refine zi_goto (tgt := 19) M dX6_counts_139 (by decide) ?_
                  exact ih_19 (i + 1) (by omega) (fun j h0 h1 => by rcases Int.lt_or_le j i with hj | hj; exact hno j h0 hj; (have hji : j = i := (by omega)); subst hji; unfold cntQ; omega) (by omega) ls (lv_sub hl [2, 3, 4, 0] rfl)
    exact L_19 (Int.toNat (cm - 0) + 1) 0 (by omega) (fun j h0 h1 => absurd h1 (by omega)) (by omega) ls (lv_sub hl [2, 3, 1, 0] rfl)
  ·
    refine zi_push M dX6_counts_15 ?_
    exact zr_z M hr hlk (v := 0) (show (0 : Int) = zif (cntZ cm c1 c2 c3 c5 e1 e2 e3 e4 e5 k) 1 0 by (exact (zif_f (fun z => z.1 (by omega))).symm)) (Or.inl rfl) dX6_counts_16

set_option maxRecDepth 100000 in
set_option maxHeartbeats 4000000 in
theorem c_X6_contactOf (l : Launch) (hst : l.stackTraces = false) (D : va_G) (cy : Nat → ClassId) (z0 : Nat) (ad : Nat → Nat) (fm fr cm : Int) (c1 c2 c3 c4 c5 : Int → Int) (k : Int) (wh : Int) (r_k : r32 k) (r_wh : r32 wh) (hcm : 0 ≤ cm ∧ cm ≤ 60) : vx_Met l yX6_contactOf [.code yX6_contactOf cX6_contactOf 3 (some .int)] (zRm 7 1 6 112) (zPc [.ref (ad 0), .int (iI k), .int (iI wh)] D cy z0 (zWl D z0 ((rooW ad 0 cy fm fr) ++ (conW ad 31 cy cm c1 c2 c3 c4 c5)))) (zQ1 D ((rooW ad 0 cy fm fr) ++ (conW ad 31 cy cm c1 c2 c3 c4 c5)) (fun (r : Int32) (_ : Unit) => ((0 ≤ k ∧ k < cm) ∧ (0 ≤ wh ∧ wh ≤ 4)) ∧ r = iI (tell5 (c1 k) (c2 k) (c3 k) (c4 k) (c5 k) wh)) (fun (_ : Unit) => ((rooW ad 0 cy fm fr) ++ (conW ad 31 cy cm c1 c2 c3 c4 c5)))) (zXC (fun E => (E = eIB ∧ (¬ (0 ≤ k ∧ k < cm))) ∨ (E = eIA ∧ ((0 ≤ k ∧ k < cm) ∧ ¬ (0 ≤ wh ∧ wh ≤ 4))))) 1 6 (zIn ((rooW ad 0 cy fm fr) ++ (conW ad 31 cy cm c1 c2 c3 c4 c5))) := by
  refine z_ofX (by decide) (Nat.le_of_ble_eq_true rfl) ?_
  intro p e s m args below meth c M hr hlk ht hargs hP0 hE ls hl
  have hP : va_P D vwCl ((rooW ad 0 cy fm fr) ++ (conW ad 31 cy cm c1 c2 c3 c4 c5)) s.heap := hP0.1
  have hD : va_D (zIn ((rooW ad 0 cy fm fr) ++ (conW ad 31 cy cm c1 c2 c3 c4 c5))) ((rooW ad 0 cy fm fr) ++ (conW ad 31 cy cm c1 c2 c3 c4 c5)) := hP0.self
  have hAz := hP0.A
  have hS : va_S (zIn ((rooW ad 0 cy fm fr) ++ (conW ad 31 cy cm c1 c2 c3 c4 c5))) s.heap s.heap [] := va_S.rf
  have hl : lv_has ls 3 [(0, .ref (ad 0)), (1, .int (iI k)), (2, .int (iI wh))] := hl
  refine lv_aload_n M.1 M.2.1 dX6_contactOf_0 rfl (lv_at hl 0 rfl) ?_
  refine zi_get (ci := 6) (v := .ref (ad 31)) M hE hP 0 rfl rfl zu_X6 6 (by decide) zk_fl_RX6_48 rfl rfl dX6_contactOf_1 ?_
  refine lv_iload_n M.1 M.2.1 dX6_contactOf_4 rfl (lv_at hl 1 rfl) ?_
  refine z_cR (z_runV (As := [.int (iI k)]) (rest := []) M (c_X1_has l D cy z0 ad 31 cm c1 c2 c3 c4 c5 k (by omega) (by omega)) hE hS hAz (hP.sub [1, 2, 3, 4, 5, 6] rfl) (zRc.of (ci := 1) (q0 := 1) hE hP rfl rfl) zk_cd_X1_has zk_in_RX1 zk_im_X1_has zk_se_X1_has zk_ml_RX6_229 rfl rfl zd_X1_has ⟨by decide, by decide⟩ rfl hl.1 rfl (Nat.le_of_ble_eq_true rfl) dX6_contactOf_5 ⟨by decide, by decide⟩) ?_
  refine zi_b (P := 0 ≤ k ∧ k < cm) (g := fun r => F0 m 8 ls (.int r :: [])) (fun b_1 => ?_) (fun b_1 => ?_)
  ·
    refine zi_if_ne (tgt := 21) M dX6_contactOf_8 (by decide) ⟨by decide, by decide⟩ (fun _ => ?_) (fun q => absurd q (by decide))
    refine lv_iload_n M.1 M.2.1 dX6_contactOf_21 rfl (lv_at hl 2 rfl) ?_
    refine zi_push M dX6_contactOf_22 ?_
    refine zi_push M dX6_contactOf_23 ?_
    refine zx_need (zx_runS (As := [.int (iI wh), .int (iI 0), .int (iI 4)]) (rest := []) M (c_X6_needRange l hst D cy z0 wh 0 4 (by omega) (by omega) (by omega)) hE hS hAz trivial zk_cd_X6_needRange zk_in_RX6 zk_st_X6_needRange zk_ml_RX6_59 rfl rfl zd_X6_needRange ⟨by decide, by decide⟩ rfl hl.1 rfl (Nat.le_of_ble_eq_true rfl) dX6_contactOf_24 ⟨by decide, by decide⟩) ht hlk (by decide) (by decide) (fun E t hA9 hC hz hq => ⟨by obtain ⟨rfl, h9⟩ := hC; exact Or.inr (⟨rfl, by omega⟩), hz, hq⟩) (fun hn_2 => ?_)
    refine lv_aload_n M.1 M.2.1 dX6_contactOf_27 rfl (lv_at hl 0 rfl) ?_
    refine zi_get (ci := 6) (v := .ref (ad 31)) M hE hP 0 rfl rfl zu_X6 6 (by decide) zk_fl_RX6_48 rfl rfl dX6_contactOf_28 ?_
    refine lv_iload_n M.1 M.2.1 dX6_contactOf_31 rfl (lv_at hl 1 rfl) ?_
    refine lv_iload_n M.1 M.2.1 dX6_contactOf_32 rfl (lv_at hl 2 rfl) ?_
    refine z_cR (z_runV (As := [.int (iI k), .int (iI wh)]) (rest := []) M (c_X1_tell l D cy z0 ad 31 cm c1 c2 c3 c4 c5 k wh (by omega) (by omega)) hE hS hAz (hP.sub [1, 2, 3, 4, 5, 6] rfl) (zRc.of (ci := 1) (q0 := 1) hE hP rfl rfl) zk_cd_X1_tell zk_in_RX1 zk_im_X1_tell zk_se_X1_tell zk_ml_RX6_235 rfl rfl zd_X1_tell ⟨by decide, by decide⟩ rfl hl.1 rfl (Nat.le_of_ble_eq_true rfl) dX6_contactOf_33 ⟨by decide, by decide⟩) ?_
    have hP : va_P D vwCl ((rooW ad 0 cy fm fr) ++ (conW ad 31 cy cm c1 c2 c3 c4 c5)) s.heap := hP
    exact vx_ret (zw_i M hr hlk () hP hS (by exact ⟨by omega, congrArg iI (show ((tell5 (c1 k) (c2 k) (c3 k) (c4 k) (c5 k) wh) : Int) = tell5 (c1 k) (c2 k) (c3 k) (c4 k) (c5 k) wh by rfl)⟩) (by decide) (by decide) dX6_contactOf_36)
  ·
    refine zi_if_ne (tgt := 21) M dX6_contactOf_8 (by decide) ⟨by decide, by decide⟩ (fun q => absurd q (by decide)) (fun _ => ?_)
    exact zx_throw M hst hE hS hAz (cls := eIB) (ik := 203) (is := 233) (ic := 207) (by decide +kernel) zk_cl_RX6_203 zk_in_java_lang_IndexOutOfBoundsException (by unfold zTi; decide) zat_207 zgd_207 hl.1 dX6_contactOf_11 dX6_contactOf_14 dX6_contactOf_15 dX6_contactOf_17 dX6_contactOf_20 ht (by decide) (by decide) (by decide) (by decide) hlk (fun t hA9 hz hq => ⟨Or.inl (⟨rfl, by omega⟩), hz, hq⟩) (fun _ h => nomatch h) (by decide) (by decide)

set_option maxRecDepth 100000 in
set_option maxHeartbeats 4000000 in
theorem c_X6_entryOf (l : Launch) (hst : l.stackTraces = false) (D : va_G) (cy : Nat → ClassId) (z0 : Nat) (ad : Nat → Nat) (fm fr cm em ep : Int) (c1 c2 c3 c4 c5 e1 e2 e3 e4 e5 : Int → Int) (k : Int) (wh : Int) (r_k : r32 k) (r_wh : r32 wh) (g_c1 : zrg 60 0 11 c1) (g_c2 : zrg 60 0 11 c2) (g_c3 : zrg 60 0 300 c3) (g_c5 : zrg 60 0 5000 c5) (g_e1 : zrg 80 0 11 e1) (g_e2 : zrg 80 0 11 e2) (g_e3 : zrg 80 0 300 e3) (g_e4 : zrg 80 0 5000 e4) (g_e5 : zrg 80 (-1) 79 e5) (hcm : 0 ≤ cm ∧ cm ≤ 60) (hem : 0 ≤ em ∧ em ≤ 80) : vx_Met l yX6_entryOf [.code yX6_entryOf cX6_entryOf 3 (some .int)] (zRm 7 1 6 112) (zPc [.ref (ad 0), .int (iI k), .int (iI wh)] D cy z0 (zWl D z0 ((rooW ad 0 cy fm fr) ++ ((conW ad 31 cy cm c1 c2 c3 c4 c5) ++ (entW ad 37 cy em ep e1 e2 e3 e4 e5))))) (zQ1 D ((rooW ad 0 cy fm fr) ++ ((conW ad 31 cy cm c1 c2 c3 c4 c5) ++ (entW ad 37 cy em ep e1 e2 e3 e4 e5))) (fun (r : Int32) (_ : Unit) => ((0 ≤ k ∧ k < em) ∧ (0 ≤ wh ∧ wh ≤ 5)) ∧ r = iI (if wh = 5 then zif (cntZ cm c1 c2 c3 c5 e1 e2 e3 e4 e5 k) 1 0 else tell5 (e1 k) (e2 k) (e3 k) (e4 k) (e5 k) wh)) (fun (_ : Unit) => ((rooW ad 0 cy fm fr) ++ ((conW ad 31 cy cm c1 c2 c3 c4 c5) ++ (entW ad 37 cy em ep e1 e2 e3 e4 e5))))) (zXC (fun E => (E = eIB ∧ (¬ (0 ≤ k ∧ k < em))) ∨ (E = eIA ∧ ((0 ≤ k ∧ k < em) ∧ ¬ (0 ≤ wh ∧ wh ≤ 5))))) 1 6 (zIn ((rooW ad 0 cy fm fr) ++ ((conW ad 31 cy cm c1 c2 c3 c4 c5) ++ (entW ad 37 cy em ep e1 e2 e3 e4 e5)))) := by
  refine z_ofX (by decide) (Nat.le_of_ble_eq_true rfl) ?_
  intro p e s m args below meth c M hr hlk ht hargs hP0 hE ls hl
  have hP : va_P D vwCl ((rooW ad 0 cy fm fr) ++ ((conW ad 31 cy cm c1 c2 c3 c4 c5) ++ (entW ad 37 cy em ep e1 e2 e3 e4 e5))) s.heap := hP0.1
  have hD : va_D (zIn ((rooW ad 0 cy fm fr) ++ ((conW ad 31 cy cm c1 c2 c3 c4 c5) ++ (entW ad 37 cy em ep e1 e2 e3 e4 e5)))) ((rooW ad 0 cy fm fr) ++ ((conW ad 31 cy cm c1 c2 c3 c4 c5) ++ (entW ad 37 cy em ep e1 e2 e3 e4 e5))) := hP0.self
  have hAz := hP0.A
  have hS : va_S (zIn ((rooW ad 0 cy fm fr) ++ ((conW ad 31 cy cm c1 c2 c3 c4 c5) ++ (entW ad 37 cy em ep e1 e2 e3 e4 e5)))) s.heap s.heap [] := va_S.rf
  have hl : lv_has ls 3 [(0, .ref (ad 0)), (1, .int (iI k)), (2, .int (iI wh))] := hl
  refine lv_aload_n M.1 M.2.1 dX6_entryOf_0 rfl (lv_at hl 0 rfl) ?_
  refine zi_get (ci := 6) (v := .ref (ad 37)) M hE hP 0 rfl rfl zu_X6 7 (by decide) zk_fl_RX6_55 rfl rfl dX6_entryOf_1 ?_
  refine lv_iload_n M.1 M.2.1 dX6_entryOf_4 rfl (lv_at hl 1 rfl) ?_
  refine z_cR (z_runV (As := [.int (iI k)]) (rest := []) M (c_X2_has l D cy z0 ad 37 em ep e1 e2 e3 e4 e5 k (by omega) (by omega)) hE hS hAz (hP.sub [7, 8, 9, 10, 11, 12] rfl) (zRc.of (ci := 2) (q0 := 7) hE hP rfl rfl) zk_cd_X2_has zk_in_RX2 zk_im_X2_has zk_se_X2_has zk_ml_RX6_237 rfl rfl zd_X2_has ⟨by decide, by decide⟩ rfl hl.1 rfl (Nat.le_of_ble_eq_true rfl) dX6_entryOf_5 ⟨by decide, by decide⟩) ?_
  refine zi_b (P := 0 ≤ k ∧ k < em) (g := fun r => F0 m 8 ls (.int r :: [])) (fun b_1 => ?_) (fun b_1 => ?_)
  ·
    refine zi_if_ne (tgt := 21) M dX6_entryOf_8 (by decide) ⟨by decide, by decide⟩ (fun _ => ?_) (fun q => absurd q (by decide))
    refine lv_iload_n M.1 M.2.1 dX6_entryOf_21 rfl (lv_at hl 2 rfl) ?_
    refine zi_push M dX6_entryOf_22 ?_
    refine zi_push M dX6_entryOf_23 ?_
    refine zx_need (zx_runS (As := [.int (iI wh), .int (iI 0), .int (iI 5)]) (rest := []) M (c_X6_needRange l hst D cy z0 wh 0 5 (by omega) (by omega) (by omega)) hE hS hAz trivial zk_cd_X6_needRange zk_in_RX6 zk_st_X6_needRange zk_ml_RX6_59 rfl rfl zd_X6_needRange ⟨by decide, by decide⟩ rfl hl.1 rfl (Nat.le_of_ble_eq_true rfl) dX6_entryOf_24 ⟨by decide, by decide⟩) ht hlk (by decide) (by decide) (fun E t hA9 hC hz hq => ⟨by obtain ⟨rfl, h9⟩ := hC; exact Or.inr (⟨rfl, by omega⟩), hz, hq⟩) (fun hn_2 => ?_)
    refine lv_iload_n M.1 M.2.1 dX6_entryOf_27 rfl (lv_at hl 2 rfl) ?_
    refine zi_push M dX6_entryOf_28 ?_
    refine zi_icmp_ne (tgt := 46) M dX6_entryOf_29 (by decide) (by omega) ⟨by decide, by decide⟩ (fun c_3 => ?_) (fun c_3 => ?_)
    ·
      refine lv_aload_n M.1 M.2.1 dX6_entryOf_46 rfl (lv_at hl 0 rfl) ?_
      refine zi_get (ci := 6) (v := .ref (ad 37)) M hE hP 0 rfl rfl zu_X6 7 (by decide) zk_fl_RX6_55 rfl rfl dX6_entryOf_47 ?_
      refine lv_iload_n M.1 M.2.1 dX6_entryOf_50 rfl (lv_at hl 1 rfl) ?_
      refine lv_iload_n M.1 M.2.1 dX6_entryOf_51 rfl (lv_at hl 2 rfl) ?_
      refine z_cR (z_runV (As := [.int (iI k), .int (iI wh)]) (rest := []) M (c_X2_tell l D cy z0 ad 37 em ep e1 e2 e3 e4 e5 k wh (by omega) (by omega)) hE hS hAz (hP.sub [7, 8, 9, 10, 11, 12] rfl) (zRc.of (ci := 2) (q0 := 7) hE hP rfl rfl) zk_cd_X2_tell zk_in_RX2 zk_im_X2_tell zk_se_X2_tell zk_ml_RX6_243 rfl rfl zd_X2_tell ⟨by decide, by decide⟩ rfl hl.1 rfl (Nat.le_of_ble_eq_true rfl) dX6_entryOf_52 ⟨by decide, by decide⟩) ?_
      have hP : va_P D vwCl ((rooW ad 0 cy fm fr) ++ ((conW ad 31 cy cm c1 c2 c3 c4 c5) ++ (entW ad 37 cy em ep e1 e2 e3 e4 e5))) s.heap := hP
      exact vx_ret (zw_i M hr hlk () hP hS (by exact ⟨by omega, congrArg iI (show ((tell5 (e1 k) (e2 k) (e3 k) (e4 k) (e5 k) wh) : Int) = if wh = 5 then zif (cntZ cm c1 c2 c3 c5 e1 e2 e3 e4 e5 k) 1 0 else tell5 (e1 k) (e2 k) (e3 k) (e4 k) (e5 k) wh by (rw [if_neg (by assumption)]))⟩) (by decide) (by decide) dX6_entryOf_55)
    ·
      refine lv_aload_n M.1 M.2.1 dX6_entryOf_32 rfl (lv_at hl 0 rfl) ?_
      refine lv_iload_n M.1 M.2.1 dX6_entryOf_33 rfl (lv_at hl 1 rfl) ?_
      refine z_cR (z_runV (As := [.int (iI k)]) (rest := []) M (c_X6_counts l D cy z0 ad fm fr cm em ep c1 c2 c3 c4 c5 e1 e2 e3 e4 e5 k g_c1 g_c2 g_c3 g_c5 g_e1 g_e2 g_e3 g_e4 g_e5 (by omega) (by omega)) hE hS hAz hP (zRc.of (ci := 6) (q0 := 0) hE hP rfl rfl) zk_cd_X6_counts zk_in_RX6 zk_im_X6_counts zk_se_X6_counts zk_ml_RX6_240 rfl rfl zd_X6_counts ⟨by decide, by decide⟩ rfl hl.1 rfl (Nat.le_of_ble_eq_true rfl) dX6_entryOf_34 ⟨by decide, by decide⟩) ?_
      refine zi_bz (P := cntZ cm c1 c2 c3 c5 e1 e2 e3 e4 e5 k) (g := fun r => F0 m 37 ls (.int r :: [])) (fun b_4 => ?_) (fun b_4 => ?_)
      ·
        refine zi_if_eq (tgt := 44) M dX6_entryOf_37 (by decide) ⟨by decide, by decide⟩ (fun q => absurd q (by decide)) (fun _ => ?_)
        refine zi_push M dX6_entryOf_40 ?_
        refine zi_goto (tgt := 45) M dX6_entryOf_41 (by decide) ?_
        have hP : va_P D vwCl ((rooW ad 0 cy fm fr) ++ ((conW ad 31 cy cm c1 c2 c3 c4 c5) ++ (entW ad 37 cy em ep e1 e2 e3 e4 e5))) s.heap := hP
        exact vx_ret (zw_i M hr hlk () hP hS (by exact ⟨by omega, congrArg iI (show (1 : Int) = if wh = 5 then zif (cntZ cm c1 c2 c3 c5 e1 e2 e3 e4 e5 k) 1 0 else tell5 (e1 k) (e2 k) (e3 k) (e4 k) (e5 k) wh by (rw [if_pos (by assumption), zif_t (by assumption)]))⟩) (by decide) (by decide) dX6_entryOf_45)
      ·
        refine zi_if_eq (tgt := 44) M dX6_entryOf_37 (by decide) ⟨by decide, by decide⟩ (fun _ => ?_) (fun q => absurd q (by decide))
        refine zi_push M dX6_entryOf_44 ?_
        have hP : va_P D vwCl ((rooW ad 0 cy fm fr) ++ ((conW ad 31 cy cm c1 c2 c3 c4 c5) ++ (entW ad 37 cy em ep e1 e2 e3 e4 e5))) s.heap := hP
        exact vx_ret (zw_i M hr hlk () hP hS (by exact ⟨by omega, congrArg iI (show (0 : Int) = if wh = 5 then zif (cntZ cm c1 c2 c3 c5 e1 e2 e3 e4 e5 k) 1 0 else tell5 (e1 k) (e2 k) (e3 k) (e4 k) (e5 k) wh by (rw [if_pos (by assumption), zif_f (by assumption)]))⟩) (by decide) (by decide) dX6_entryOf_45)
  ·
    refine zi_if_ne (tgt := 21) M dX6_entryOf_8 (by decide) ⟨by decide, by decide⟩ (fun q => absurd q (by decide)) (fun _ => ?_)
    exact zx_throw M hst hE hS hAz (cls := eIB) (ik := 203) (is := 238) (ic := 207) (by decide +kernel) zk_cl_RX6_203 zk_in_java_lang_IndexOutOfBoundsException (by unfold zTi; decide) zat_207 zgd_207 hl.1 dX6_entryOf_11 dX6_entryOf_14 dX6_entryOf_15 dX6_entryOf_17 dX6_entryOf_20 ht (by decide) (by decide) (by decide) (by decide) hlk (fun t hA9 hz hq => ⟨Or.inl (⟨rfl, by omega⟩), hz, hq⟩) (fun _ h => nomatch h) (by decide) (by decide)

set_option maxRecDepth 100000 in
set_option maxHeartbeats 4000000 in
theorem c_X6_count (l : Launch) (hst : l.stackTraces = false) (D : va_G) (cy : Nat → ClassId) (z0 : Nat) (ad : Nat → Nat) (fm fr sm bsm cm em ep : Int) (pl pw an hd fq bpl bpw ban bhd bfq c1 c2 c3 c4 c5 e1 e2 e3 e4 e5 : Int → Int) (wh : Int) (r_wh : r32 wh) : vx_Met l yX6_count [.code yX6_count cX6_count 2 (some .int)] (zRm 7 1 6 112) (zPc [.ref (ad 0), .int (iI wh)] D cy z0 (zWl D z0 ((rooW ad 0 cy fm fr) ++ ((sndW ad 19 cy 12 sm pl pw an hd fq) ++ ((sndW ad 25 cy 6 bsm bpl bpw ban bhd bfq) ++ ((conW ad 31 cy cm c1 c2 c3 c4 c5) ++ (entW ad 37 cy em ep e1 e2 e3 e4 e5))))))) (zQ1 D ((rooW ad 0 cy fm fr) ++ ((sndW ad 19 cy 12 sm pl pw an hd fq) ++ ((sndW ad 25 cy 6 bsm bpl bpw ban bhd bfq) ++ ((conW ad 31 cy cm c1 c2 c3 c4 c5) ++ (entW ad 37 cy em ep e1 e2 e3 e4 e5))))) (fun (r : Int32) (_ : Unit) => ((0 ≤ wh ∧ wh ≤ 4)) ∧ r = iI (tell5 sm bsm cm em ep wh)) (fun (_ : Unit) => ((rooW ad 0 cy fm fr) ++ ((sndW ad 19 cy 12 sm pl pw an hd fq) ++ ((sndW ad 25 cy 6 bsm bpl bpw ban bhd bfq) ++ ((conW ad 31 cy cm c1 c2 c3 c4 c5) ++ (entW ad 37 cy em ep e1 e2 e3 e4 e5))))))) (zXC (fun E => (E = eIA ∧ (¬ (0 ≤ wh ∧ wh ≤ 4))))) 1 6 (zIn ((rooW ad 0 cy fm fr) ++ ((sndW ad 19 cy 12 sm pl pw an hd fq) ++ ((sndW ad 25 cy 6 bsm bpl bpw ban bhd bfq) ++ ((conW ad 31 cy cm c1 c2 c3 c4 c5) ++ (entW ad 37 cy em ep e1 e2 e3 e4 e5)))))) := by
  refine z_ofX (by decide) (Nat.le_of_ble_eq_true rfl) ?_
  intro p e s m args below meth c M hr hlk ht hargs hP0 hE ls hl
  have hP : va_P D vwCl ((rooW ad 0 cy fm fr) ++ ((sndW ad 19 cy 12 sm pl pw an hd fq) ++ ((sndW ad 25 cy 6 bsm bpl bpw ban bhd bfq) ++ ((conW ad 31 cy cm c1 c2 c3 c4 c5) ++ (entW ad 37 cy em ep e1 e2 e3 e4 e5))))) s.heap := hP0.1
  have hD : va_D (zIn ((rooW ad 0 cy fm fr) ++ ((sndW ad 19 cy 12 sm pl pw an hd fq) ++ ((sndW ad 25 cy 6 bsm bpl bpw ban bhd bfq) ++ ((conW ad 31 cy cm c1 c2 c3 c4 c5) ++ (entW ad 37 cy em ep e1 e2 e3 e4 e5)))))) ((rooW ad 0 cy fm fr) ++ ((sndW ad 19 cy 12 sm pl pw an hd fq) ++ ((sndW ad 25 cy 6 bsm bpl bpw ban bhd bfq) ++ ((conW ad 31 cy cm c1 c2 c3 c4 c5) ++ (entW ad 37 cy em ep e1 e2 e3 e4 e5))))) := hP0.self
  have hAz := hP0.A
  have hS : va_S (zIn ((rooW ad 0 cy fm fr) ++ ((sndW ad 19 cy 12 sm pl pw an hd fq) ++ ((sndW ad 25 cy 6 bsm bpl bpw ban bhd bfq) ++ ((conW ad 31 cy cm c1 c2 c3 c4 c5) ++ (entW ad 37 cy em ep e1 e2 e3 e4 e5)))))) s.heap s.heap [] := va_S.rf
  have hl : lv_has ls 2 [(0, .ref (ad 0)), (1, .int (iI wh))] := hl
  refine lv_iload_n M.1 M.2.1 dX6_count_0 rfl (lv_at hl 1 rfl) ?_
  refine zi_push M dX6_count_1 ?_
  refine zi_push M dX6_count_2 ?_
  refine zx_need (zx_runS (As := [.int (iI wh), .int (iI 0), .int (iI 4)]) (rest := []) M (c_X6_needRange l hst D cy z0 wh 0 4 (by omega) (by omega) (by omega)) hE hS hAz trivial zk_cd_X6_needRange zk_in_RX6 zk_st_X6_needRange zk_ml_RX6_59 rfl rfl zd_X6_needRange ⟨by decide, by decide⟩ rfl hl.1 rfl (Nat.le_of_ble_eq_true rfl) dX6_count_3 ⟨by decide, by decide⟩) ht hlk (by decide) (by decide) (fun E t hA9 hC hz hq => ⟨by obtain ⟨rfl, h9⟩ := hC; exact ⟨rfl, by omega⟩, hz, hq⟩) (fun hn_1 => ?_)
  rcases (by omega : wh = 0 ∨ wh = 1 ∨ wh = 2 ∨ wh = 3 ∨ wh = 4) with rfl | rfl | rfl | rfl | rfl
  ·
    refine lv_iload_n M.1 M.2.1 dX6_count_6 rfl (lv_at hl 1 rfl) ?_
    refine lv_tableIn (off := 29) (tgt := 36) M.1 M.2.1 dX6_count_7 (by decide) (by decide) rfl (by decide) ?_
    refine lv_aload_n M.1 M.2.1 dX6_count_36 rfl (lv_at hl 0 rfl) ?_
    refine zi_get (ci := 6) (v := .ref (ad 19)) M hE hP 0 rfl rfl zu_X6 4 (by decide) zk_fl_RX6_38 rfl rfl dX6_count_37 ?_
    refine zi_getN (ci := 5) (v := .int (iI sm)) M hE hP 1 rfl rfl zu_X5 5 (by decide) zk_fn_RX6_148 rfl rfl dX6_count_40 ?_
    have hP : va_P D vwCl ((rooW ad 0 cy fm fr) ++ ((sndW ad 19 cy 12 sm pl pw an hd fq) ++ ((sndW ad 25 cy 6 bsm bpl bpw ban bhd bfq) ++ ((conW ad 31 cy cm c1 c2 c3 c4 c5) ++ (entW ad 37 cy em ep e1 e2 e3 e4 e5))))) s.heap := hP
    exact vx_ret (zw_i M hr hlk () hP hS (by exact ⟨by omega, congrArg iI (show (sm : Int) = tell5 sm bsm cm em ep 0 by rfl)⟩) (by decide) (by decide) dX6_count_43)
  ·
    refine lv_iload_n M.1 M.2.1 dX6_count_6 rfl (lv_at hl 1 rfl) ?_
    refine lv_tableIn (off := 37) (tgt := 44) M.1 M.2.1 dX6_count_7 (by decide) (by decide) rfl (by decide) ?_
    refine lv_aload_n M.1 M.2.1 dX6_count_44 rfl (lv_at hl 0 rfl) ?_
    refine zi_get (ci := 6) (v := .ref (ad 25)) M hE hP 0 rfl rfl zu_X6 5 (by decide) zk_fl_RX6_42 rfl rfl dX6_count_45 ?_
    refine zi_getN (ci := 5) (v := .int (iI bsm)) M hE hP 7 rfl rfl zu_X5 5 (by decide) zk_fn_RX6_148 rfl rfl dX6_count_48 ?_
    have hP : va_P D vwCl ((rooW ad 0 cy fm fr) ++ ((sndW ad 19 cy 12 sm pl pw an hd fq) ++ ((sndW ad 25 cy 6 bsm bpl bpw ban bhd bfq) ++ ((conW ad 31 cy cm c1 c2 c3 c4 c5) ++ (entW ad 37 cy em ep e1 e2 e3 e4 e5))))) s.heap := hP
    exact vx_ret (zw_i M hr hlk () hP hS (by exact ⟨by omega, congrArg iI (show (bsm : Int) = tell5 sm bsm cm em ep 1 by rfl)⟩) (by decide) (by decide) dX6_count_51)
  ·
    refine lv_iload_n M.1 M.2.1 dX6_count_6 rfl (lv_at hl 1 rfl) ?_
    refine lv_tableIn (off := 45) (tgt := 52) M.1 M.2.1 dX6_count_7 (by decide) (by decide) rfl (by decide) ?_
    refine lv_aload_n M.1 M.2.1 dX6_count_52 rfl (lv_at hl 0 rfl) ?_
    refine zi_get (ci := 6) (v := .ref (ad 31)) M hE hP 0 rfl rfl zu_X6 6 (by decide) zk_fl_RX6_48 rfl rfl dX6_count_53 ?_
    refine zi_getN (ci := 1) (v := .int (iI cm)) M hE hP 13 rfl rfl zu_X1 5 (by decide) zk_fn_RX6_268 rfl rfl dX6_count_56 ?_
    have hP : va_P D vwCl ((rooW ad 0 cy fm fr) ++ ((sndW ad 19 cy 12 sm pl pw an hd fq) ++ ((sndW ad 25 cy 6 bsm bpl bpw ban bhd bfq) ++ ((conW ad 31 cy cm c1 c2 c3 c4 c5) ++ (entW ad 37 cy em ep e1 e2 e3 e4 e5))))) s.heap := hP
    exact vx_ret (zw_i M hr hlk () hP hS (by exact ⟨by omega, congrArg iI (show (cm : Int) = tell5 sm bsm cm em ep 2 by rfl)⟩) (by decide) (by decide) dX6_count_59)
  ·
    refine lv_iload_n M.1 M.2.1 dX6_count_6 rfl (lv_at hl 1 rfl) ?_
    refine lv_tableIn (off := 53) (tgt := 60) M.1 M.2.1 dX6_count_7 (by decide) (by decide) rfl (by decide) ?_
    refine lv_aload_n M.1 M.2.1 dX6_count_60 rfl (lv_at hl 0 rfl) ?_
    refine zi_get (ci := 6) (v := .ref (ad 37)) M hE hP 0 rfl rfl zu_X6 7 (by decide) zk_fl_RX6_55 rfl rfl dX6_count_61 ?_
    refine zi_getN (ci := 2) (v := .int (iI em)) M hE hP 19 rfl rfl zu_X2 5 (by decide) zk_fn_RX6_244 rfl rfl dX6_count_64 ?_
    have hP : va_P D vwCl ((rooW ad 0 cy fm fr) ++ ((sndW ad 19 cy 12 sm pl pw an hd fq) ++ ((sndW ad 25 cy 6 bsm bpl bpw ban bhd bfq) ++ ((conW ad 31 cy cm c1 c2 c3 c4 c5) ++ (entW ad 37 cy em ep e1 e2 e3 e4 e5))))) s.heap := hP
    exact vx_ret (zw_i M hr hlk () hP hS (by exact ⟨by omega, congrArg iI (show (em : Int) = tell5 sm bsm cm em ep 3 by rfl)⟩) (by decide) (by decide) dX6_count_67)
  ·
    refine lv_iload_n M.1 M.2.1 dX6_count_6 rfl (lv_at hl 1 rfl) ?_
    refine lv_tableOut (tgt := 68) M.1 M.2.1 dX6_count_7 (by decide) (by decide) ?_
    refine lv_aload_n M.1 M.2.1 dX6_count_68 rfl (lv_at hl 0 rfl) ?_
    refine zi_get (ci := 6) (v := .ref (ad 37)) M hE hP 0 rfl rfl zu_X6 7 (by decide) zk_fl_RX6_55 rfl rfl dX6_count_69 ?_
    refine zi_getN (ci := 2) (v := .int (iI ep)) M hE hP 19 rfl rfl zu_X2 6 (by decide) zk_fn_RX6_269 rfl rfl dX6_count_72 ?_
    have hP : va_P D vwCl ((rooW ad 0 cy fm fr) ++ ((sndW ad 19 cy 12 sm pl pw an hd fq) ++ ((sndW ad 25 cy 6 bsm bpl bpw ban bhd bfq) ++ ((conW ad 31 cy cm c1 c2 c3 c4 c5) ++ (entW ad 37 cy em ep e1 e2 e3 e4 e5))))) s.heap := hP
    exact vx_ret (zw_i M hr hlk () hP hS (by exact ⟨by omega, congrArg iI (show (ep : Int) = tell5 sm bsm cm em ep 4 by rfl)⟩) (by decide) (by decide) dX6_count_75)

set_option maxRecDepth 100000 in
set_option maxHeartbeats 4000000 in
theorem c_X6_signal (l : Launch) (hst : l.stackTraces = false) (D : va_G) (cy : Nat → ClassId) (z0 : Nat) (ad : Nat → Nat) (fm fr h su st sh fl ypl ydr yan yfr yst ylg yle ydl sm : Int) (cS cH dD dE dF sea noi pl pw an hd fq : Int → Int) (x : Int) (y : Int) (f : Int) (r_x : r32 x) (r_y : r32 y) (r_f : r32 f) (g_dD : zrg 48 0 1000 dD) (g_dE : zrg 48 0 1000 dE) (g_dF : zrg 48 0 1000 dF) (g_sea : zrg 48 0 1 sea) (g_noi : zrg 48 0 40 noi) (g_pl : zrg 12 0 47 pl) (g_pw : zrg 12 0 80 pw) (g_an : zrg 12 0 2 an) (g_hd : zrg 12 0 2 hd) (hsm : 0 ≤ sm ∧ sm ≤ 12) (h_h : 0 ≤ h ∧ h ≤ 5000) : vx_Met l yX6_signal [.code yX6_signal cX6_signal 4 (some .int)] (zRm 8 4 24 154) (zPc [.ref (ad 0), .int (iI x), .int (iI y), .int (iI f)] D cy z0 (zWl D z0 ((rooW ad 0 cy fm fr) ++ ((airW ad 1 cy h su st sh fl cS cH dD dE dF) ++ ((grdW ad 15 cy sea noi) ++ ((rayW ad 18 cy ypl ydr yan yfr yst ylg yle ydl) ++ (sndW ad 19 cy 12 sm pl pw an hd fq))))))) (zQ1 D ((rooW ad 0 cy fm fr) ++ ((airW ad 1 cy h su st sh fl cS cH dD dE dF) ++ ((grdW ad 15 cy sea noi) ++ ((rayW ad 18 cy ypl ydr yan yfr yst ylg yle ydl) ++ (sndW ad 19 cy 12 sm pl pw an hd fq))))) (fun (r : Int32) (u : Nat → Int) => (((0 ≤ x ∧ x < sm) ∧ (0 ≤ y ∧ y < sm)) ∧ ((10 ≤ f ∧ f ≤ 300) ∧ (¬ x = y))) ∧ r = iI (sigZ dE dF dD sea noi h (pl x) (pl y) f (pw x) (an x) (hd x))) (fun (u : Nat → Int) => ((rooW ad 0 cy fm fr) ++ ((airW ad 1 cy h su st sh fl cS cH dD dE dF) ++ ((grdW ad 15 cy sea noi) ++ ((rayW ad 18 cy (u 0) (u 1) (u 2) (u 3) (u 4) (u 5) (u 6) (u 7)) ++ (sndW ad 19 cy 12 sm pl pw an hd fq))))))) (zXC (fun E => (E = eIB ∧ (¬ ((0 ≤ x ∧ x < sm) ∧ (0 ≤ y ∧ y < sm)))) ∨ (E = eIA ∧ (((0 ≤ x ∧ x < sm) ∧ (0 ≤ y ∧ y < sm)) ∧ ¬ ((10 ≤ f ∧ f ≤ 300) ∧ (¬ x = y)))))) 4 24 (zIn ((rooW ad 0 cy fm fr) ++ ((airW ad 1 cy h su st sh fl cS cH dD dE dF) ++ ((grdW ad 15 cy sea noi) ++ ((rayW ad 18 cy ypl ydr yan yfr yst ylg yle ydl) ++ (sndW ad 19 cy 12 sm pl pw an hd fq)))))) := by
  refine z_ofX (by decide) (Nat.le_of_ble_eq_true rfl) ?_
  intro p e s m args below meth c M hr hlk ht hargs hP0 hE ls hl
  have hP : va_P D vwCl ((rooW ad 0 cy fm fr) ++ ((airW ad 1 cy h su st sh fl cS cH dD dE dF) ++ ((grdW ad 15 cy sea noi) ++ ((rayW ad 18 cy ypl ydr yan yfr yst ylg yle ydl) ++ (sndW ad 19 cy 12 sm pl pw an hd fq))))) s.heap := hP0.1
  have hD : va_D (zIn ((rooW ad 0 cy fm fr) ++ ((airW ad 1 cy h su st sh fl cS cH dD dE dF) ++ ((grdW ad 15 cy sea noi) ++ ((rayW ad 18 cy ypl ydr yan yfr yst ylg yle ydl) ++ (sndW ad 19 cy 12 sm pl pw an hd fq)))))) ((rooW ad 0 cy fm fr) ++ ((airW ad 1 cy h su st sh fl cS cH dD dE dF) ++ ((grdW ad 15 cy sea noi) ++ ((rayW ad 18 cy ypl ydr yan yfr yst ylg yle ydl) ++ (sndW ad 19 cy 12 sm pl pw an hd fq))))) := hP0.self
  have hAz := hP0.A
  have hS : va_S (zIn ((rooW ad 0 cy fm fr) ++ ((airW ad 1 cy h su st sh fl cS cH dD dE dF) ++ ((grdW ad 15 cy sea noi) ++ ((rayW ad 18 cy ypl ydr yan yfr yst ylg yle ydl) ++ (sndW ad 19 cy 12 sm pl pw an hd fq)))))) s.heap s.heap [] := va_S.rf
  have hl : lv_has ls 4 [(0, .ref (ad 0)), (1, .int (iI x)), (2, .int (iI y)), (3, .int (iI f))] := hl
  refine lv_aload_n M.1 M.2.1 dX6_signal_0 rfl (lv_at hl 0 rfl) ?_
  refine lv_iload_n M.1 M.2.1 dX6_signal_1 rfl (lv_at hl 1 rfl) ?_
  refine zx_need (zx_runV (As := [.int (iI x)]) (rest := []) M (c_X6_needStation l hst D cy z0 ad fm fr sm pl pw an hd fq x (by omega) (by omega)) hE hS hAz (hP.sub [0, 12, 13, 14, 15, 16, 17] rfl) (zRc.of (ci := 6) (q0 := 0) hE hP rfl rfl) zk_cd_X6_needStation zk_in_RX6 zk_im_X6_needStation zk_se_X6_needStation zk_ml_RX6_122 rfl rfl zd_X6_needStation ⟨by decide, by decide⟩ rfl hl.1 rfl (Nat.le_of_ble_eq_true rfl) dX6_signal_2 ⟨by decide, by decide⟩) ht hlk (by decide) (by decide) (fun E t hA9 hC hz hq => ⟨by obtain ⟨rfl, h9⟩ := hC; exact Or.inl (⟨rfl, by omega⟩), hz, hq⟩) (fun hn_1 => ?_)
  refine lv_aload_n M.1 M.2.1 dX6_signal_5 rfl (lv_at hl 0 rfl) ?_
  refine lv_iload_n M.1 M.2.1 dX6_signal_6 rfl (lv_at hl 2 rfl) ?_
  refine zx_need (zx_runV (As := [.int (iI y)]) (rest := []) M (c_X6_needStation l hst D cy z0 ad fm fr sm pl pw an hd fq y (by omega) (by omega)) hE hS hAz (hP.sub [0, 12, 13, 14, 15, 16, 17] rfl) (zRc.of (ci := 6) (q0 := 0) hE hP rfl rfl) zk_cd_X6_needStation zk_in_RX6 zk_im_X6_needStation zk_se_X6_needStation zk_ml_RX6_122 rfl rfl zd_X6_needStation ⟨by decide, by decide⟩ rfl hl.1 rfl (Nat.le_of_ble_eq_true rfl) dX6_signal_7 ⟨by decide, by decide⟩) ht hlk (by decide) (by decide) (fun E t hA9 hC hz hq => ⟨by obtain ⟨rfl, h9⟩ := hC; exact Or.inl (⟨rfl, by omega⟩), hz, hq⟩) (fun hn_2 => ?_)
  refine lv_iload_n M.1 M.2.1 dX6_signal_10 rfl (lv_at hl 3 rfl) ?_
  refine zx_need (zx_runS (As := [.int (iI f)]) (rest := []) M (c_X6_needFrequency l hst D cy z0 f (by omega)) hE hS hAz trivial zk_cd_X6_needFrequency zk_in_RX6 zk_st_X6_needFrequency zk_ml_RX6_117 rfl rfl zd_X6_needFrequency ⟨by decide, by decide⟩ rfl hl.1 rfl (Nat.le_of_ble_eq_true rfl) dX6_signal_11 ⟨by decide, by decide⟩) ht hlk (by decide) (by decide) (fun E t hA9 hC hz hq => ⟨by obtain ⟨rfl, h9⟩ := hC; exact Or.inr (⟨rfl, by omega⟩), hz, hq⟩) (fun hn_3 => ?_)
  refine lv_iload_n M.1 M.2.1 dX6_signal_14 rfl (lv_at hl 1 rfl) ?_
  refine lv_iload_n M.1 M.2.1 dX6_signal_15 rfl (lv_at hl 2 rfl) ?_
  refine zx_need (zx_runS (As := [.int (iI x), .int (iI y)]) (rest := []) M (c_X6_needDifferent l hst D cy z0 x y (by omega) (by omega)) hE hS hAz trivial zk_cd_X6_needDifferent zk_in_RX6 zk_st_X6_needDifferent zk_ml_RX6_125 rfl rfl zd_X6_needDifferent ⟨by decide, by decide⟩ rfl hl.1 rfl (Nat.le_of_ble_eq_true rfl) dX6_signal_16 ⟨by decide, by decide⟩) ht hlk (by decide) (by decide) (fun E t hA9 hC hz hq => ⟨by obtain ⟨rfl, h9⟩ := hC; exact Or.inr (⟨rfl, by omega⟩), hz, hq⟩) (fun hn_4 => ?_)
  refine lv_aload_n M.1 M.2.1 dX6_signal_19 rfl (lv_at hl 0 rfl) ?_
  refine lv_iload_n M.1 M.2.1 dX6_signal_20 rfl (lv_at hl 1 rfl) ?_
  refine lv_iload_n M.1 M.2.1 dX6_signal_21 rfl (lv_at hl 2 rfl) ?_
  refine lv_iload_n M.1 M.2.1 dX6_signal_22 rfl (lv_at hl 3 rfl) ?_
  refine z_cW (z_runV (As := [.int (iI x), .int (iI y), .int (iI f)]) (rest := []) M (c_X6_signalBetween l D cy z0 ad fm fr h su st sh fl ypl ydr yan yfr yst ylg yle ydl sm cS cH dD dE dF sea noi pl pw an hd fq x y f g_dD g_dE g_dF g_sea g_noi g_pl g_pw g_an g_hd (by omega) (by omega) (by omega) (by omega)) hE hS hAz (z_cut hP hD hAz [0, 1, 2, 3, 4, 5, 6, 7, 8, 9, 10, 11, 12, 13, 14, 15, 16, 17] rfl (by decide +kernel)) (zRc.of (ci := 6) (q0 := 0) hE hP rfl rfl) zk_cd_X6_signalBetween zk_in_RX6 zk_im_X6_signalBetween zk_se_X6_signalBetween zk_ml_RX6_135 rfl rfl zd_X6_signalBetween ⟨by decide, by decide⟩ rfl hl.1 rfl (Nat.le_of_ble_eq_true rfl) dX6_signal_23 ⟨by decide, by decide⟩) hP hD hS [0, 1, 2, 3, 4, 5, 6, 7, 8, 9, 10, 11, 12, 13, 14, 15, 16, 17] rfl (fun _ => rfl) (fun r_5 u_5 H locs hp_5 hP hD hS => ?_)
  have hP : va_P D vwCl ((rooW ad 0 cy fm fr) ++ ((airW ad 1 cy h su st sh fl cS cH dD dE dF) ++ ((grdW ad 15 cy sea noi) ++ ((rayW ad 18 cy (u_5 0) (u_5 1) (u_5 2) (u_5 3) (u_5 4) (u_5 5) (u_5 6) (u_5 7)) ++ (sndW ad 19 cy 12 sm pl pw an hd fq))))) H := hP
  have hD : va_D (zIn ((rooW ad 0 cy fm fr) ++ ((airW ad 1 cy h su st sh fl cS cH dD dE dF) ++ ((grdW ad 15 cy sea noi) ++ ((rayW ad 18 cy ypl ydr yan yfr yst ylg yle ydl) ++ (sndW ad 19 cy 12 sm pl pw an hd fq)))))) ((rooW ad 0 cy fm fr) ++ ((airW ad 1 cy h su st sh fl cS cH dD dE dF) ++ ((grdW ad 15 cy sea noi) ++ ((rayW ad 18 cy (u_5 0) (u_5 1) (u_5 2) (u_5 3) (u_5 4) (u_5 5) (u_5 6) (u_5 7)) ++ (sndW ad 19 cy 12 sm pl pw an hd fq))))) := hD
  subst hp_5
  have hpx_5 := g_pl x (by omega) (by omega)
  have hpy_5 := g_pl y (by omega) (by omega)
  have hsg_5 := sigZ_rg (h := h) (dE := dE) (dF := dF) (sea := sea) g_dD g_noi (by omega : 10 ≤ f ∧ f ≤ 300) (fr := pl x) (t := pl y) (an := an x) (hd := hd x) (pw := pw x) (by omega) (by omega) (g_pw x (by omega) (by omega))
  have hP : va_P D vwCl ((rooW ad 0 cy fm fr) ++ ((airW ad 1 cy h su st sh fl cS cH dD dE dF) ++ ((grdW ad 15 cy sea noi) ++ ((rayW ad 18 cy (u_5 0) (u_5 1) (u_5 2) (u_5 3) (u_5 4) (u_5 5) (u_5 6) (u_5 7)) ++ (sndW ad 19 cy 12 sm pl pw an hd fq))))) H := hP
  exact vx_ret (zw_i M hr hlk u_5 hP hS (by exact ⟨by omega, congrArg iI (show (sigZ dE dF dD sea noi h (pl x) (pl y) f (pw x) (an x) (hd x) : Int) = sigZ dE dF dD sea noi h (pl x) (pl y) f (pw x) (an x) (hd x) by rfl)⟩) (by decide) (by decide) dX6_signal_26)

set_option maxRecDepth 100000 in
set_option maxHeartbeats 4000000 in
theorem c_X6_call (l : Launch) (hst : l.stackTraces = false) (D : va_G) (cy : Nat → ClassId) (z0 : Nat) (ad : Nat → Nat) (fm fr h su st sh fl ypl ydr yan yfr yst ylg yle ydl sm cm : Int) (cS cH dD dE dF sea noi pl pw an hd fq c1 c2 c3 c4 c5 : Int → Int) (x : Int) (y : Int) (f : Int) (md : Int) (r_x : r32 x) (r_y : r32 y) (r_f : r32 f) (r_md : r32 md) (g_dD : zrg 48 0 1000 dD) (g_dE : zrg 48 0 1000 dE) (g_dF : zrg 48 0 1000 dF) (g_sea : zrg 48 0 1 sea) (g_noi : zrg 48 0 40 noi) (g_pl : zrg 12 0 47 pl) (g_pw : zrg 12 0 80 pw) (g_an : zrg 12 0 2 an) (g_hd : zrg 12 0 2 hd) (hsm : 0 ≤ sm ∧ sm ≤ 12) (hcm : 0 ≤ cm ∧ cm ≤ 60) (h_h : 0 ≤ h ∧ h ≤ 5000) : vx_Met l yX6_call [.code yX6_call cX6_call 6 (some .boolean)] (zRm 8 6 36 154) (zPc [.ref (ad 0), .int (iI x), .int (iI y), .int (iI f), .int (iI md)] D cy z0 (zWl D z0 ((rooW ad 0 cy fm fr) ++ ((airW ad 1 cy h su st sh fl cS cH dD dE dF) ++ ((grdW ad 15 cy sea noi) ++ ((rayW ad 18 cy ypl ydr yan yfr yst ylg yle ydl) ++ ((sndW ad 19 cy 12 sm pl pw an hd fq) ++ (conW ad 31 cy cm c1 c2 c3 c4 c5)))))))) (zQ1 D ((rooW ad 0 cy fm fr) ++ ((airW ad 1 cy h su st sh fl cS cH dD dE dF) ++ ((grdW ad 15 cy sea noi) ++ ((rayW ad 18 cy ypl ydr yan yfr yst ylg yle ydl) ++ ((sndW ad 19 cy 12 sm pl pw an hd fq) ++ (conW ad 31 cy cm c1 c2 c3 c4 c5)))))) (fun (r : Int32) (u : Nat → Int) => (((0 ≤ x ∧ x < sm) ∧ (0 ≤ y ∧ y < sm)) ∧ ((10 ≤ f ∧ f ≤ 300) ∧ (0 ≤ md ∧ md ≤ 2) ∧ (¬ x = y)) ∧ (cm < 60)) ∧ r = iI (zif (callP dE dF dD sea noi h pl pw an hd x y f md) 1 0)) (fun (u : Nat → Int) => ((rooW ad 0 cy fm fr) ++ ((airW ad 1 cy h su st sh fl cS cH dD dE dF) ++ ((grdW ad 15 cy sea noi) ++ ((rayW ad 18 cy (u 0) (u 1) (u 2) (u 3) (u 4) (u 5) (u 6) (u 7)) ++ ((sndW ad 19 cy 12 sm pl pw an hd fq) ++ (conW ad 31 cy (zif (callP dE dF dD sea noi h pl pw an hd x y f md) (cm + 1) cm) (zifF (callP dE dF dD sea noi h pl pw an hd x y f md) (zu c1 cm x) c1) (zifF (callP dE dF dD sea noi h pl pw an hd x y f md) (zu c2 cm y) c2) (zifF (callP dE dF dD sea noi h pl pw an hd x y f md) (zu c3 cm f) c3) (zifF (callP dE dF dD sea noi h pl pw an hd x y f md) (zu c4 cm md) c4) (zifF (callP dE dF dD sea noi h pl pw an hd x y f md) (zu c5 cm h) c5))))))))) (zXC (fun E => (E = eIB ∧ (¬ ((0 ≤ x ∧ x < sm) ∧ (0 ≤ y ∧ y < sm)))) ∨ (E = eIA ∧ (((0 ≤ x ∧ x < sm) ∧ (0 ≤ y ∧ y < sm)) ∧ ¬ ((10 ≤ f ∧ f ≤ 300) ∧ (0 ≤ md ∧ md ≤ 2) ∧ (¬ x = y)))) ∨ (E = eIS ∧ (((0 ≤ x ∧ x < sm) ∧ (0 ≤ y ∧ y < sm)) ∧ ((10 ≤ f ∧ f ≤ 300) ∧ (0 ≤ md ∧ md ≤ 2) ∧ (¬ x = y)) ∧ ¬ (cm < 60))))) 6 36 (zIn ((rooW ad 0 cy fm fr) ++ ((airW ad 1 cy h su st sh fl cS cH dD dE dF) ++ ((grdW ad 15 cy sea noi) ++ ((rayW ad 18 cy ypl ydr yan yfr yst ylg yle ydl) ++ ((sndW ad 19 cy 12 sm pl pw an hd fq) ++ (conW ad 31 cy cm c1 c2 c3 c4 c5))))))) := by
  refine z_ofX (by decide) (Nat.le_of_ble_eq_true rfl) ?_
  intro p e s m args below meth c M hr hlk ht hargs hP0 hE ls hl
  have hP : va_P D vwCl ((rooW ad 0 cy fm fr) ++ ((airW ad 1 cy h su st sh fl cS cH dD dE dF) ++ ((grdW ad 15 cy sea noi) ++ ((rayW ad 18 cy ypl ydr yan yfr yst ylg yle ydl) ++ ((sndW ad 19 cy 12 sm pl pw an hd fq) ++ (conW ad 31 cy cm c1 c2 c3 c4 c5)))))) s.heap := hP0.1
  have hD : va_D (zIn ((rooW ad 0 cy fm fr) ++ ((airW ad 1 cy h su st sh fl cS cH dD dE dF) ++ ((grdW ad 15 cy sea noi) ++ ((rayW ad 18 cy ypl ydr yan yfr yst ylg yle ydl) ++ ((sndW ad 19 cy 12 sm pl pw an hd fq) ++ (conW ad 31 cy cm c1 c2 c3 c4 c5))))))) ((rooW ad 0 cy fm fr) ++ ((airW ad 1 cy h su st sh fl cS cH dD dE dF) ++ ((grdW ad 15 cy sea noi) ++ ((rayW ad 18 cy ypl ydr yan yfr yst ylg yle ydl) ++ ((sndW ad 19 cy 12 sm pl pw an hd fq) ++ (conW ad 31 cy cm c1 c2 c3 c4 c5)))))) := hP0.self
  have hAz := hP0.A
  have hS : va_S (zIn ((rooW ad 0 cy fm fr) ++ ((airW ad 1 cy h su st sh fl cS cH dD dE dF) ++ ((grdW ad 15 cy sea noi) ++ ((rayW ad 18 cy ypl ydr yan yfr yst ylg yle ydl) ++ ((sndW ad 19 cy 12 sm pl pw an hd fq) ++ (conW ad 31 cy cm c1 c2 c3 c4 c5))))))) s.heap s.heap [] := va_S.rf
  have hl : lv_has ls 6 [(0, .ref (ad 0)), (1, .int (iI x)), (2, .int (iI y)), (3, .int (iI f)), (4, .int (iI md))] := hl
  refine lv_aload_n M.1 M.2.1 dX6_call_0 rfl (lv_at hl 0 rfl) ?_
  refine lv_iload_n M.1 M.2.1 dX6_call_1 rfl (lv_at hl 1 rfl) ?_
  refine zx_need (zx_runV (As := [.int (iI x)]) (rest := []) M (c_X6_needStation l hst D cy z0 ad fm fr sm pl pw an hd fq x (by omega) (by omega)) hE hS hAz (hP.sub [0, 12, 13, 14, 15, 16, 17] rfl) (zRc.of (ci := 6) (q0 := 0) hE hP rfl rfl) zk_cd_X6_needStation zk_in_RX6 zk_im_X6_needStation zk_se_X6_needStation zk_ml_RX6_122 rfl rfl zd_X6_needStation ⟨by decide, by decide⟩ rfl hl.1 rfl (Nat.le_of_ble_eq_true rfl) dX6_call_2 ⟨by decide, by decide⟩) ht hlk (by decide) (by decide) (fun E t hA9 hC hz hq => ⟨by obtain ⟨rfl, h9⟩ := hC; exact Or.inl (⟨rfl, by omega⟩), hz, hq⟩) (fun hn_1 => ?_)
  refine lv_aload_n M.1 M.2.1 dX6_call_5 rfl (lv_at hl 0 rfl) ?_
  refine lv_iload_n M.1 M.2.1 dX6_call_6 rfl (lv_at hl 2 rfl) ?_
  refine zx_need (zx_runV (As := [.int (iI y)]) (rest := []) M (c_X6_needStation l hst D cy z0 ad fm fr sm pl pw an hd fq y (by omega) (by omega)) hE hS hAz (hP.sub [0, 12, 13, 14, 15, 16, 17] rfl) (zRc.of (ci := 6) (q0 := 0) hE hP rfl rfl) zk_cd_X6_needStation zk_in_RX6 zk_im_X6_needStation zk_se_X6_needStation zk_ml_RX6_122 rfl rfl zd_X6_needStation ⟨by decide, by decide⟩ rfl hl.1 rfl (Nat.le_of_ble_eq_true rfl) dX6_call_7 ⟨by decide, by decide⟩) ht hlk (by decide) (by decide) (fun E t hA9 hC hz hq => ⟨by obtain ⟨rfl, h9⟩ := hC; exact Or.inl (⟨rfl, by omega⟩), hz, hq⟩) (fun hn_2 => ?_)
  refine lv_iload_n M.1 M.2.1 dX6_call_10 rfl (lv_at hl 3 rfl) ?_
  refine zx_need (zx_runS (As := [.int (iI f)]) (rest := []) M (c_X6_needFrequency l hst D cy z0 f (by omega)) hE hS hAz trivial zk_cd_X6_needFrequency zk_in_RX6 zk_st_X6_needFrequency zk_ml_RX6_117 rfl rfl zd_X6_needFrequency ⟨by decide, by decide⟩ rfl hl.1 rfl (Nat.le_of_ble_eq_true rfl) dX6_call_11 ⟨by decide, by decide⟩) ht hlk (by decide) (by decide) (fun E t hA9 hC hz hq => ⟨by obtain ⟨rfl, h9⟩ := hC; exact Or.inr (Or.inl (⟨rfl, by omega⟩)), hz, hq⟩) (fun hn_3 => ?_)
  refine lv_iload M.1 M.2.1 dX6_call_14 (lv_at hl 4 rfl) ?_
  refine zi_push M dX6_call_16 ?_
  refine zi_push M dX6_call_17 ?_
  refine zx_need (zx_runS (As := [.int (iI md), .int (iI 0), .int (iI 2)]) (rest := []) M (c_X6_needRange l hst D cy z0 md 0 2 (by omega) (by omega) (by omega)) hE hS hAz trivial zk_cd_X6_needRange zk_in_RX6 zk_st_X6_needRange zk_ml_RX6_59 rfl rfl zd_X6_needRange ⟨by decide, by decide⟩ rfl hl.1 rfl (Nat.le_of_ble_eq_true rfl) dX6_call_18 ⟨by decide, by decide⟩) ht hlk (by decide) (by decide) (fun E t hA9 hC hz hq => ⟨by obtain ⟨rfl, h9⟩ := hC; exact Or.inr (Or.inl (⟨rfl, by omega⟩)), hz, hq⟩) (fun hn_4 => ?_)
  refine lv_iload_n M.1 M.2.1 dX6_call_21 rfl (lv_at hl 1 rfl) ?_
  refine lv_iload_n M.1 M.2.1 dX6_call_22 rfl (lv_at hl 2 rfl) ?_
  refine zx_need (zx_runS (As := [.int (iI x), .int (iI y)]) (rest := []) M (c_X6_needDifferent l hst D cy z0 x y (by omega) (by omega)) hE hS hAz trivial zk_cd_X6_needDifferent zk_in_RX6 zk_st_X6_needDifferent zk_ml_RX6_125 rfl rfl zd_X6_needDifferent ⟨by decide, by decide⟩ rfl hl.1 rfl (Nat.le_of_ble_eq_true rfl) dX6_call_23 ⟨by decide, by decide⟩) ht hlk (by decide) (by decide) (fun E t hA9 hC hz hq => ⟨by obtain ⟨rfl, h9⟩ := hC; exact Or.inr (Or.inl (⟨rfl, by omega⟩)), hz, hq⟩) (fun hn_5 => ?_)
  refine lv_aload_n M.1 M.2.1 dX6_call_26 rfl (lv_at hl 0 rfl) ?_
  refine zi_get (ci := 6) (v := .ref (ad 31)) M hE hP 0 rfl rfl zu_X6 6 (by decide) zk_fl_RX6_48 rfl rfl dX6_call_27 ?_
  refine z_cR (z_runV (As := []) (rest := []) M (c_X1_isFull l D cy z0 ad 31 cm c1 c2 c3 c4 c5 (by omega)) hE hS hAz (hP.sub [18, 19, 20, 21, 22, 23] rfl) (zRc.of (ci := 1) (q0 := 18) hE hP rfl rfl) zk_cd_X1_isFull zk_in_RX1 zk_im_X1_isFull zk_se_X1_isFull zk_ml_RX6_128 rfl rfl zd_X1_isFull ⟨by decide, by decide⟩ rfl hl.1 rfl (Nat.le_of_ble_eq_true rfl) dX6_call_30 ⟨by decide, by decide⟩) ?_
  refine zi_b (P := 60 ≤ cm) (g := fun r => F0 m 33 ls (.int r :: [])) (fun b_6 => ?_) (fun b_6 => ?_)
  ·
    refine zi_if_eq (tgt := 46) M dX6_call_33 (by decide) ⟨by decide, by decide⟩ (fun q => absurd q (by decide)) (fun _ => ?_)
    exact zx_throw M hst hE hS hAz (cls := eIS) (ik := 97) (is := 129) (ic := 101) (by decide +kernel) zk_cl_RX6_97 zk_in_java_lang_IllegalStateException (by unfold zTi; decide) zat_101 zgd_101 hl.1 dX6_call_36 dX6_call_39 dX6_call_40 dX6_call_42 dX6_call_45 ht (by decide) (by decide) (by decide) (by decide) hlk (fun t hA9 hz hq => ⟨Or.inr (Or.inr (⟨rfl, by omega⟩)), hz, hq⟩) (fun _ h => nomatch h) (by decide) (by decide)
  ·
    refine zi_if_eq (tgt := 46) M dX6_call_33 (by decide) ⟨by decide, by decide⟩ (fun _ => ?_) (fun q => absurd q (by decide))
    refine lv_iload M.1 M.2.1 dX6_call_46 (lv_at hl 4 rfl) ?_
    refine z_cR (z_runS (As := [.int (iI md)]) (rest := []) M (c_X6_neededFor l D cy z0 md (by omega)) hE hS hAz trivial zk_cd_X6_neededFor zk_in_RX6 zk_st_X6_neededFor zk_ml_RX6_131 rfl rfl zd_X6_neededFor ⟨by decide, by decide⟩ rfl hl.1 rfl (Nat.le_of_ble_eq_true rfl) dX6_call_48 ⟨by decide, by decide⟩) ?_
    have hx_7 := neZ_rg md
    refine lv_istore (lv' := [(5, .int (iI (neZ md))), (0, .ref (ad 0)), (1, .int (iI x)), (2, .int (iI y)), (3, .int (iI f)), (4, .int (iI md))]) M.1 M.2.1 dX6_call_51 hl (by decide) rfl (fun ls hl => ?_)
    refine lv_aload_n M.1 M.2.1 dX6_call_53 rfl (lv_at hl 1 rfl) ?_
    refine lv_iload_n M.1 M.2.1 dX6_call_54 rfl (lv_at hl 2 rfl) ?_
    refine lv_iload_n M.1 M.2.1 dX6_call_55 rfl (lv_at hl 3 rfl) ?_
    refine lv_iload_n M.1 M.2.1 dX6_call_56 rfl (lv_at hl 4 rfl) ?_
    refine z_cW (z_runV (As := [.int (iI x), .int (iI y), .int (iI f)]) (rest := []) M (c_X6_signalBetween l D cy z0 ad fm fr h su st sh fl ypl ydr yan yfr yst ylg yle ydl sm cS cH dD dE dF sea noi pl pw an hd fq x y f g_dD g_dE g_dF g_sea g_noi g_pl g_pw g_an g_hd (by omega) (by omega) (by omega) (by omega)) hE hS hAz (z_cut hP hD hAz [0, 1, 2, 3, 4, 5, 6, 7, 8, 9, 10, 11, 12, 13, 14, 15, 16, 17] rfl (by decide +kernel)) (zRc.of (ci := 6) (q0 := 0) hE hP rfl rfl) zk_cd_X6_signalBetween zk_in_RX6 zk_im_X6_signalBetween zk_se_X6_signalBetween zk_ml_RX6_135 rfl rfl zd_X6_signalBetween ⟨by decide, by decide⟩ rfl hl.1 rfl (Nat.le_of_ble_eq_true rfl) dX6_call_57 ⟨by decide, by decide⟩) hP hD hS [0, 1, 2, 3, 4, 5, 6, 7, 8, 9, 10, 11, 12, 13, 14, 15, 16, 17] rfl (fun _ => rfl) (fun r_8 u_8 H locs hp_8 hP hD hS => ?_)
    have hP : va_P D vwCl ((rooW ad 0 cy fm fr) ++ ((airW ad 1 cy h su st sh fl cS cH dD dE dF) ++ ((grdW ad 15 cy sea noi) ++ ((rayW ad 18 cy (u_8 0) (u_8 1) (u_8 2) (u_8 3) (u_8 4) (u_8 5) (u_8 6) (u_8 7)) ++ ((sndW ad 19 cy 12 sm pl pw an hd fq) ++ (conW ad 31 cy cm c1 c2 c3 c4 c5)))))) H := hP
    have hD : va_D (zIn ((rooW ad 0 cy fm fr) ++ ((airW ad 1 cy h su st sh fl cS cH dD dE dF) ++ ((grdW ad 15 cy sea noi) ++ ((rayW ad 18 cy ypl ydr yan yfr yst ylg yle ydl) ++ ((sndW ad 19 cy 12 sm pl pw an hd fq) ++ (conW ad 31 cy cm c1 c2 c3 c4 c5))))))) ((rooW ad 0 cy fm fr) ++ ((airW ad 1 cy h su st sh fl cS cH dD dE dF) ++ ((grdW ad 15 cy sea noi) ++ ((rayW ad 18 cy (u_8 0) (u_8 1) (u_8 2) (u_8 3) (u_8 4) (u_8 5) (u_8 6) (u_8 7)) ++ ((sndW ad 19 cy 12 sm pl pw an hd fq) ++ (conW ad 31 cy cm c1 c2 c3 c4 c5)))))) := hD
    subst hp_8
    have hpx_8 := g_pl x (by omega) (by omega)
    have hpy_8 := g_pl y (by omega) (by omega)
    have hsg_8 := sigZ_rg (h := h) (dE := dE) (dF := dF) (sea := sea) g_dD g_noi (by omega : 10 ≤ f ∧ f ≤ 300) (fr := pl x) (t := pl y) (an := an x) (hd := hd x) (pw := pw x) (by omega) (by omega) (g_pw x (by omega) (by omega))
    refine lv_iload M.1 M.2.1 dX6_call_60 (lv_at hl 0 rfl) ?_
    refine zi_icmp_lt (tgt := 77) M dX6_call_62 (by decide) (by omega) (by omega) (fun c_9 => ?_) (fun c_9 => ?_)
    ·
      refine zi_push M dX6_call_77 ?_
      have hcp : ¬ callP dE dF dD sea noi h pl pw an hd x y f md := fun z => by have z1 := z.1; have z2 := z.2; omega
      have hP : va_P D vwCl ((rooW ad 0 cy fm fr) ++ ((airW ad 1 cy h su st sh fl cS cH dD dE dF) ++ ((grdW ad 15 cy sea noi) ++ ((rayW ad 18 cy (u_8 0) (u_8 1) (u_8 2) (u_8 3) (u_8 4) (u_8 5) (u_8 6) (u_8 7)) ++ ((sndW ad 19 cy 12 sm pl pw an hd fq) ++ (conW ad 31 cy (zif (callP dE dF dD sea noi h pl pw an hd x y f md) (cm + 1) cm) (zifF (callP dE dF dD sea noi h pl pw an hd x y f md) (zu c1 cm x) c1) (zifF (callP dE dF dD sea noi h pl pw an hd x y f md) (zu c2 cm y) c2) (zifF (callP dE dF dD sea noi h pl pw an hd x y f md) (zu c3 cm f) c3) (zifF (callP dE dF dD sea noi h pl pw an hd x y f md) (zu c4 cm md) c4) (zifF (callP dE dF dD sea noi h pl pw an hd x y f md) (zu c5 cm h) c5))))))) H := by rw [zif_f hcp, zifF_f hcp, zifF_f hcp, zifF_f hcp, zifF_f hcp, zifF_f hcp]; exact hP
      exact vx_ret (zw_z M hr hlk (v := 0) (Or.inl rfl) u_8 hP hS (by exact ⟨by omega, congrArg iI (show (0 : Int) = zif (callP dE dF dD sea noi h pl pw an hd x y f md) 1 0 by (exact (zif_f hcp).symm))⟩) (by decide) (by decide) dX6_call_78)
    ·
      refine lv_aload_n M.1 M.2.1 dX6_call_65 rfl (lv_at hl 1 rfl) ?_
      refine lv_iload_n M.1 M.2.1 dX6_call_66 rfl (lv_at hl 3 rfl) ?_
      refine lv_iload_n M.1 M.2.1 dX6_call_67 rfl (lv_at hl 2 rfl) ?_
      refine lv_iload_n M.1 M.2.1 dX6_call_68 rfl (lv_at hl 4 rfl) ?_
      refine z_cW (z_runV (As := [.int (iI y), .int (iI x), .int (iI f)]) (rest := []) M (c_X6_signalBetween l D cy z0 ad fm fr h su st sh fl (u_8 0) (u_8 1) (u_8 2) (u_8 3) (u_8 4) (u_8 5) (u_8 6) (u_8 7) sm cS cH dD dE dF sea noi pl pw an hd fq y x f g_dD g_dE g_dF g_sea g_noi g_pl g_pw g_an g_hd (by omega) (by omega) (by omega) (by omega)) hE hS hAz (z_cut hP hD hAz [0, 1, 2, 3, 4, 5, 6, 7, 8, 9, 10, 11, 12, 13, 14, 15, 16, 17] rfl (by decide +kernel)) (zRc.of (ci := 6) (q0 := 0) hE hP rfl rfl) zk_cd_X6_signalBetween zk_in_RX6 zk_im_X6_signalBetween zk_se_X6_signalBetween zk_ml_RX6_135 rfl rfl zd_X6_signalBetween ⟨by decide, by decide⟩ rfl hl.1 rfl (Nat.le_of_ble_eq_true rfl) dX6_call_69 ⟨by decide, by decide⟩) hP hD hS [0, 1, 2, 3, 4, 5, 6, 7, 8, 9, 10, 11, 12, 13, 14, 15, 16, 17] rfl (fun _ => rfl) (fun r_10 u_10 H locs hp_10 hP hD hS => ?_)
      have hP : va_P D vwCl ((rooW ad 0 cy fm fr) ++ ((airW ad 1 cy h su st sh fl cS cH dD dE dF) ++ ((grdW ad 15 cy sea noi) ++ ((rayW ad 18 cy (u_10 0) (u_10 1) (u_10 2) (u_10 3) (u_10 4) (u_10 5) (u_10 6) (u_10 7)) ++ ((sndW ad 19 cy 12 sm pl pw an hd fq) ++ (conW ad 31 cy cm c1 c2 c3 c4 c5)))))) H := hP
      have hD : va_D (zIn ((rooW ad 0 cy fm fr) ++ ((airW ad 1 cy h su st sh fl cS cH dD dE dF) ++ ((grdW ad 15 cy sea noi) ++ ((rayW ad 18 cy ypl ydr yan yfr yst ylg yle ydl) ++ ((sndW ad 19 cy 12 sm pl pw an hd fq) ++ (conW ad 31 cy cm c1 c2 c3 c4 c5))))))) ((rooW ad 0 cy fm fr) ++ ((airW ad 1 cy h su st sh fl cS cH dD dE dF) ++ ((grdW ad 15 cy sea noi) ++ ((rayW ad 18 cy (u_10 0) (u_10 1) (u_10 2) (u_10 3) (u_10 4) (u_10 5) (u_10 6) (u_10 7)) ++ ((sndW ad 19 cy 12 sm pl pw an hd fq) ++ (conW ad 31 cy cm c1 c2 c3 c4 c5)))))) := hD
      subst hp_10
      have hpx_10 := g_pl y (by omega) (by omega)
      have hpy_10 := g_pl x (by omega) (by omega)
      have hsg_10 := sigZ_rg (h := h) (dE := dE) (dF := dF) (sea := sea) g_dD g_noi (by omega : 10 ≤ f ∧ f ≤ 300) (fr := pl y) (t := pl x) (an := an y) (hd := hd y) (pw := pw y) (by omega) (by omega) (g_pw y (by omega) (by omega))
      refine lv_iload M.1 M.2.1 dX6_call_72 (lv_at hl 0 rfl) ?_
      refine zi_icmp_ge (tgt := 79) M dX6_call_74 (by decide) (by omega) (by omega) (fun c_11 => ?_) (fun c_11 => ?_)
      ·
        refine lv_aload_n M.1 M.2.1 dX6_call_79 rfl (lv_at hl 1 rfl) ?_
        refine zi_get (ci := 6) (v := .ref (ad 31)) M hE hP 0 rfl rfl zu_X6 6 (by decide) zk_fl_RX6_48 rfl rfl dX6_call_80 ?_
        refine lv_iload_n M.1 M.2.1 dX6_call_83 rfl (lv_at hl 2 rfl) ?_
        refine lv_iload_n M.1 M.2.1 dX6_call_84 rfl (lv_at hl 3 rfl) ?_
        refine lv_iload_n M.1 M.2.1 dX6_call_85 rfl (lv_at hl 4 rfl) ?_
        refine lv_iload M.1 M.2.1 dX6_call_86 (lv_at hl 5 rfl) ?_
        refine lv_aload_n M.1 M.2.1 dX6_call_88 rfl (lv_at hl 1 rfl) ?_
        refine zi_get (ci := 6) (v := .ref (ad 1)) M hE hP 0 rfl rfl zu_X6 0 (by decide) zk_fl_RX6_12 rfl rfl dX6_call_89 ?_
        refine zi_getN (ci := 0) (v := .int (iI h)) M hE hP 1 rfl rfl zu_X0 0 (by decide) zk_fn_RX6_94 rfl rfl dX6_call_92 ?_
        refine z_cV (z_runV (As := [.int (iI x), .int (iI y), .int (iI f), .int (iI md), .int (iI h)]) (rest := []) M (c_X1_add l D cy z0 ad 31 cm c1 c2 c3 c4 c5 x y f md h (by omega)) hE hS hAz (z_cut hP hD hAz [18, 19, 20, 21, 22, 23] rfl (by decide +kernel)) (zRc.of (ci := 1) (q0 := 18) hE hP rfl rfl) zk_cd_X1_add zk_in_RX1 zk_im_X1_add zk_se_X1_add zk_ml_RX6_139 rfl rfl zd_X1_add ⟨by decide, by decide⟩ rfl hl.1 rfl (Nat.le_of_ble_eq_true rfl) dX6_call_95 ⟨by decide, by decide⟩) hP hD hS [18, 19, 20, 21, 22, 23] rfl (fun _ => rfl) (fun u_12 H locs hp_12 hP hD hS => ?_)
        have hP : va_P D vwCl ((rooW ad 0 cy fm fr) ++ ((airW ad 1 cy h su st sh fl cS cH dD dE dF) ++ ((grdW ad 15 cy sea noi) ++ ((rayW ad 18 cy (u_10 0) (u_10 1) (u_10 2) (u_10 3) (u_10 4) (u_10 5) (u_10 6) (u_10 7)) ++ ((sndW ad 19 cy 12 sm pl pw an hd fq) ++ (conW ad 31 cy (cm + 1) (zu c1 cm x) (zu c2 cm y) (zu c3 cm f) (zu c4 cm md) (zu c5 cm h))))))) H := hP
        have hD : va_D (zIn ((rooW ad 0 cy fm fr) ++ ((airW ad 1 cy h su st sh fl cS cH dD dE dF) ++ ((grdW ad 15 cy sea noi) ++ ((rayW ad 18 cy ypl ydr yan yfr yst ylg yle ydl) ++ ((sndW ad 19 cy 12 sm pl pw an hd fq) ++ (conW ad 31 cy cm c1 c2 c3 c4 c5))))))) ((rooW ad 0 cy fm fr) ++ ((airW ad 1 cy h su st sh fl cS cH dD dE dF) ++ ((grdW ad 15 cy sea noi) ++ ((rayW ad 18 cy (u_10 0) (u_10 1) (u_10 2) (u_10 3) (u_10 4) (u_10 5) (u_10 6) (u_10 7)) ++ ((sndW ad 19 cy 12 sm pl pw an hd fq) ++ (conW ad 31 cy (cm + 1) (zu c1 cm x) (zu c2 cm y) (zu c3 cm f) (zu c4 cm md) (zu c5 cm h))))))) := hD
        refine zi_push M dX6_call_98 ?_
        have hcp : callP dE dF dD sea noi h pl pw an hd x y f md := ⟨by omega, by omega⟩
        have hP : va_P D vwCl ((rooW ad 0 cy fm fr) ++ ((airW ad 1 cy h su st sh fl cS cH dD dE dF) ++ ((grdW ad 15 cy sea noi) ++ ((rayW ad 18 cy (u_10 0) (u_10 1) (u_10 2) (u_10 3) (u_10 4) (u_10 5) (u_10 6) (u_10 7)) ++ ((sndW ad 19 cy 12 sm pl pw an hd fq) ++ (conW ad 31 cy (zif (callP dE dF dD sea noi h pl pw an hd x y f md) (cm + 1) cm) (zifF (callP dE dF dD sea noi h pl pw an hd x y f md) (zu c1 cm x) c1) (zifF (callP dE dF dD sea noi h pl pw an hd x y f md) (zu c2 cm y) c2) (zifF (callP dE dF dD sea noi h pl pw an hd x y f md) (zu c3 cm f) c3) (zifF (callP dE dF dD sea noi h pl pw an hd x y f md) (zu c4 cm md) c4) (zifF (callP dE dF dD sea noi h pl pw an hd x y f md) (zu c5 cm h) c5))))))) H := by rw [zif_t hcp, zifF_t hcp, zifF_t hcp, zifF_t hcp, zifF_t hcp, zifF_t hcp]; exact hP
        exact vx_ret (zw_z M hr hlk (v := 1) (Or.inr rfl) u_10 hP hS (by exact ⟨by omega, congrArg iI (show (1 : Int) = zif (callP dE dF dD sea noi h pl pw an hd x y f md) 1 0 by (exact (zif_t hcp).symm))⟩) (by decide) (by decide) dX6_call_99)
      ·
        refine zi_push M dX6_call_77 ?_
        have hcp : ¬ callP dE dF dD sea noi h pl pw an hd x y f md := fun z => by have z1 := z.1; have z2 := z.2; omega
        have hP : va_P D vwCl ((rooW ad 0 cy fm fr) ++ ((airW ad 1 cy h su st sh fl cS cH dD dE dF) ++ ((grdW ad 15 cy sea noi) ++ ((rayW ad 18 cy (u_10 0) (u_10 1) (u_10 2) (u_10 3) (u_10 4) (u_10 5) (u_10 6) (u_10 7)) ++ ((sndW ad 19 cy 12 sm pl pw an hd fq) ++ (conW ad 31 cy (zif (callP dE dF dD sea noi h pl pw an hd x y f md) (cm + 1) cm) (zifF (callP dE dF dD sea noi h pl pw an hd x y f md) (zu c1 cm x) c1) (zifF (callP dE dF dD sea noi h pl pw an hd x y f md) (zu c2 cm y) c2) (zifF (callP dE dF dD sea noi h pl pw an hd x y f md) (zu c3 cm f) c3) (zifF (callP dE dF dD sea noi h pl pw an hd x y f md) (zu c4 cm md) c4) (zifF (callP dE dF dD sea noi h pl pw an hd x y f md) (zu c5 cm h) c5))))))) H := by rw [zif_f hcp, zifF_f hcp, zifF_f hcp, zifF_f hcp, zifF_f hcp, zifF_f hcp]; exact hP
        exact vx_ret (zw_z M hr hlk (v := 0) (Or.inl rfl) u_10 hP hS (by exact ⟨by omega, congrArg iI (show (0 : Int) = zif (callP dE dF dD sea noi h pl pw an hd x y f md) 1 0 by (exact (zif_f hcp).symm))⟩) (by decide) (by decide) dX6_call_78)
