/-! contracts of the rays -/
set_option maxRecDepth 100000 in
set_option maxHeartbeats 4000000 in
theorem c_X4_goOn (l : Launch) (D : va_G) (cy : Nat → ClassId) (z0 : Nat) (ad : Nat → Nat) (b : Nat) (b2 : Nat) (b3 : Nat) (ypl ydr yan yfr yst ylg yle ydl h su st sh fl : Int) (cS cH dD dE dF sea noi : Int → Int) (ea : Int) (g_dD : zrg 48 0 1000 dD) (g_dE : zrg 48 0 1000 dE) (g_dF : zrg 48 0 1000 dF) (g_sea : zrg 48 0 1 sea) (hdr : (ydr = 0 ∧ ea = 1) ∨ (ydr = 1 ∧ ea = 0)) (hp1 : 0 ≤ ypl ∧ ypl < 48) (ha : 1 ≤ yan ∧ yan ≤ 9) (hf : 10 ≤ yfr ∧ yfr ≤ 300) (hw : 0 ≤ yst ∧ yst ≤ 300) (hlg : 0 ≤ ylg ∧ ylg ≤ 10) : Met l yX4_goOn [.code yX4_goOn cX4_goOn 9 (some .boolean)] (zRm 2 0 0 48) (zPc [.ref (ad b), .ref (ad b2), .ref (ad b3)] D cy z0 (zWl D z0 ((rayW ad b cy ypl ydr yan yfr yst ylg yle ydl) ++ ((airW ad b2 cy h su st sh fl cS cH dD dE dF) ++ (grdW ad b3 cy sea noi))))) (zQ1 D ((rayW ad b cy ypl ydr yan yfr yst ylg yle ydl) ++ ((airW ad b2 cy h su st sh fl cS cH dD dE dF) ++ (grdW ad b3 cy sea noi))) (fun (r : Int32) (u : Nat → Int) => (∃ q w2 lg2 le2 dl2 : Int, stepZ dE dF dD sea ea yan yfr ypl yst ylg yle ydl = some (q, w2, lg2, le2, dl2) ∧ r = iI 1 ∧ u = u8 q ydr yan yfr w2 lg2 le2 dl2) ∨ (stepZ dE dF dD sea ea yan yfr ypl yst ylg yle ydl = none ∧ r = iI 0)) (fun (u : Nat → Int) => ((rayW ad b cy (u 0) (u 1) (u 2) (u 3) (u 4) (u 5) (u 6) (u 7)) ++ ((airW ad b2 cy h su st sh fl cS cH dD dE dF) ++ (grdW ad b3 cy sea noi))))) 0 0 (zIn ((rayW ad b cy ypl ydr yan yfr yst ylg yle ydl) ++ ((airW ad b2 cy h su st sh fl cS cH dD dE dF) ++ (grdW ad b3 cy sea noi)))) := by
  refine z_of (by decide) (Nat.le_of_ble_eq_true rfl) ?_
  intro p e s m args below meth c M hr hlk hini hargs hP0 hE ls hl
  have hP : va_P D vwCl ((rayW ad b cy ypl ydr yan yfr yst ylg yle ydl) ++ ((airW ad b2 cy h su st sh fl cS cH dD dE dF) ++ (grdW ad b3 cy sea noi))) s.heap := hP0.1
  have hD : va_D (zIn ((rayW ad b cy ypl ydr yan yfr yst ylg yle ydl) ++ ((airW ad b2 cy h su st sh fl cS cH dD dE dF) ++ (grdW ad b3 cy sea noi)))) ((rayW ad b cy ypl ydr yan yfr yst ylg yle ydl) ++ ((airW ad b2 cy h su st sh fl cS cH dD dE dF) ++ (grdW ad b3 cy sea noi))) := hP0.self
  have hAz := hP0.A
  have hS : va_S (zIn ((rayW ad b cy ypl ydr yan yfr yst ylg yle ydl) ++ ((airW ad b2 cy h su st sh fl cS cH dD dE dF) ++ (grdW ad b3 cy sea noi)))) s.heap s.heap [] := va_S.rf
  have hl : lv_has ls 9 [(0, .ref (ad b)), (1, .ref (ad b2)), (2, .ref (ad b3))] := hl
  refine lv_aload_n M.1 M.2.1 dX4_goOn_0 rfl (lv_at hl 0 rfl) ?_
  refine zi_get (ci := 4) (v := .int (iI ydr)) M hE hP 0 rfl rfl zu_X4 1 (by decide) zk_fl_RX4_15 rfl rfl dX4_goOn_1 ?_
  refine zi_if_ne (tgt := 11) M dX4_goOn_4 (by decide) (by omega) (fun c_1 => ?_) (fun c_1 => ?_)
  ·
    refine zi_push M dX4_goOn_11 ?_
    refine lv_istore_n (lv' := [(3, .int (iI (-1))), (0, .ref (ad b)), (1, .ref (ad b2)), (2, .ref (ad b3))]) M.1 M.2.1 dX4_goOn_12 rfl hl (by decide) rfl (fun ls hl => ?_)
    refine lv_aload_n M.1 M.2.1 dX4_goOn_13 rfl (lv_at hl 2 rfl) ?_
    refine lv_aload_n M.1 M.2.1 dX4_goOn_14 rfl (lv_at hl 1 rfl) ?_
    refine zi_get (ci := 4) (v := .int (iI ypl)) M hE hP 0 rfl rfl zu_X4 0 (by decide) zk_fl_RX4_9 rfl rfl dX4_goOn_15 ?_
    refine lv_iload_n M.1 M.2.1 dX4_goOn_18 rfl (lv_at hl 0 rfl) ?_
    refine lv_aload_n M.1 M.2.1 dX4_goOn_19 rfl (lv_at hl 1 rfl) ?_
    refine zi_get (ci := 4) (v := .int (iI yan)) M hE hP 0 rfl rfl zu_X4 2 (by decide) zk_fl_RX4_18 rfl rfl dX4_goOn_20 ?_
    refine lv_aload_n M.1 M.2.1 dX4_goOn_23 rfl (lv_at hl 1 rfl) ?_
    refine zi_get (ci := 4) (v := .int (iI yfr)) M hE hP 0 rfl rfl zu_X4 3 (by decide) zk_fl_RX4_21 rfl rfl dX4_goOn_24 ?_
    refine z_cR (z_runV (As := [.int (iI ypl), .int (iI (-1)), .int (iI yan), .int (iI yfr)]) (rest := []) M (c_X0_bender l D cy z0 ad b2 h su st sh fl cS cH dD dE dF ypl ea (-1) yan yfr g_dE g_dF (by omega) (by omega) (by omega) (by omega)) hE hS hAz (hP.sub [1, 2, 3, 4, 5, 6, 7] rfl) (zRc.of (ci := 0) (q0 := 1) hE hP rfl rfl) zk_cd_X0_bender zk_in_RX0 zk_im_X0_bender zk_se_X0_bender zk_ml_RX4_36 rfl rfl zd_X0_bender ⟨by decide, by decide⟩ rfl hl.1 rfl (Nat.le_of_ble_eq_true rfl) dX4_goOn_27 ⟨by decide, by decide⟩) ?_
    have hx_2 := bndZ_c dE dF ea ypl yan yfr
    obtain ⟨yL, hyL⟩ : ∃ y : Int, y = bndZ dE dF ea ypl yan yfr := ⟨_, rfl⟩
    refine z_rw (b := yL) hyL.symm ?_
    have hyc := bndZ_c dE dF ea ypl yan yfr
    rw [← hyL] at hyc
    refine lv_istore (lv' := [(4, .int (iI yL)), (3, .int (iI (-1))), (0, .ref (ad b)), (1, .ref (ad b2)), (2, .ref (ad b3))]) M.1 M.2.1 dX4_goOn_30 hl (by decide) rfl (fun ls hl => ?_)
    refine lv_iload M.1 M.2.1 dX4_goOn_32 (lv_at hl 0 rfl) ?_
    refine zi_push M dX4_goOn_34 ?_
    refine zi_icmp_ne (tgt := 40) M dX4_goOn_35 (by decide) (by omega) ⟨by decide, by decide⟩ (fun c_3 => ?_) (fun c_3 => ?_)
    ·
      refine lv_iload M.1 M.2.1 dX4_goOn_40 (lv_at hl 0 rfl) ?_
      refine lv_aload_n M.1 M.2.1 dX4_goOn_42 rfl (lv_at hl 2 rfl) ?_
      refine zi_get (ci := 4) (v := .int (iI yan)) M hE hP 0 rfl rfl zu_X4 2 (by decide) zk_fl_RX4_18 rfl rfl dX4_goOn_43 ?_
      refine z_cR (z_runSN (As := [.int (iI yL), .int (iI yan)]) (rest := []) M (c_X6_lengthBy l D cy z0 yL yan (by omega) (by omega)) hE hS hAz trivial zk_cd_X6_lengthBy zk_in_RX6 zk_st_X6_lengthBy zk_mn_RX4_42 rfl rfl zd_X6_lengthBy ⟨by decide, by decide⟩ rfl hl.1 rfl (Nat.le_of_ble_eq_true rfl) dX4_goOn_46 ⟨by decide, by decide⟩) ?_
      have hx_4 := lenZ_rg yL yan (by omega)
      refine lv_istore (lv' := [(5, .int (iI (lenZ yL yan))), (4, .int (iI yL)), (3, .int (iI (-1))), (0, .ref (ad b)), (1, .ref (ad b2)), (2, .ref (ad b3))]) M.1 M.2.1 dX4_goOn_49 hl (by decide) rfl (fun ls hl => ?_)
      refine lv_aload_n M.1 M.2.1 dX4_goOn_51 rfl (lv_at hl 3 rfl) ?_
      refine zi_get (ci := 4) (v := .int (iI ypl)) M hE hP 0 rfl rfl zu_X4 0 (by decide) zk_fl_RX4_9 rfl rfl dX4_goOn_52 ?_
      refine lv_iload_n M.1 M.2.1 dX4_goOn_55 rfl (lv_at hl 2 rfl) ?_
      refine lv_iload M.1 M.2.1 dX4_goOn_56 (lv_at hl 0 rfl) ?_
      refine zi_imul M dX4_goOn_58 ?_
      refine zi_iadd M dX4_goOn_59 ?_
      refine z_cR (z_runSN (As := [.int (iI (ypl + ((-1) * (lenZ yL yan))))]) (rest := []) M (c_X6_ring l D cy z0 (ypl + ((-1) * (lenZ yL yan))) (by omega)) hE hS hAz trivial zk_cd_X6_ring zk_in_RX6 zk_st_X6_ring zk_mn_RX4_46 rfl rfl zd_X6_ring ⟨by decide, by decide⟩ rfl hl.1 rfl (Nat.le_of_ble_eq_true rfl) dX4_goOn_60 ⟨by decide, by decide⟩) ?_
      refine z_rw (b := mvZ ea ypl (lenZ yL yan)) (by unfold mvZ; split <;> omega) ?_
      have hmv := mvZ_rg ea ypl (lenZ yL yan)
      refine lv_istore (lv' := [(6, .int (iI (mvZ ea ypl (lenZ yL yan)))), (5, .int (iI (lenZ yL yan))), (4, .int (iI yL)), (3, .int (iI (-1))), (0, .ref (ad b)), (1, .ref (ad b2)), (2, .ref (ad b3))]) M.1 M.2.1 dX4_goOn_63 hl (by decide) rfl (fun ls hl => ?_)
      refine lv_aload_n M.1 M.2.1 dX4_goOn_65 rfl (lv_at hl 5 rfl) ?_
      refine zi_getN (ci := 0) (v := .ref (ad (b2 + 3))) M hE hP 1 rfl rfl zu_X0 7 (by decide) zk_fn_RX4_50 rfl rfl dX4_goOn_66 ?_
      refine zi_push M dX4_goOn_69 ?_
      refine zi_aald (n := 3) (f := fun i => ad (b2 + (4 + i))) M hE hP 4 rfl (by decide) (by decide) (by decide) dX4_goOn_70 ?_
      refine z_re (v := .ref (ad (b2 + 4))) rfl ?_
      refine lv_aload_n M.1 M.2.1 dX4_goOn_71 rfl (lv_at hl 4 rfl) ?_
      refine zi_get (ci := 4) (v := .int (iI ypl)) M hE hP 0 rfl rfl zu_X4 0 (by decide) zk_fl_RX4_9 rfl rfl dX4_goOn_72 ?_
      refine zi_iald M hE hP 5 (n := 48) (g := dD) rfl (Nat.le_of_ble_eq_true rfl) (by omega) (by omega) dX4_goOn_75 ?_
      have hr_5 := g_dD ypl (by omega) (by omega)
      refine lv_aload_n M.1 M.2.1 dX4_goOn_76 rfl (lv_at hl 5 rfl) ?_
      refine zi_getN (ci := 0) (v := .ref (ad (b2 + 3))) M hE hP 1 rfl rfl zu_X0 7 (by decide) zk_fn_RX4_50 rfl rfl dX4_goOn_77 ?_
      refine zi_push M dX4_goOn_80 ?_
      refine zi_aald (n := 3) (f := fun i => ad (b2 + (4 + i))) M hE hP 4 rfl (by decide) (by decide) (by decide) dX4_goOn_81 ?_
      refine z_re (v := .ref (ad (b2 + 4))) rfl ?_
      refine lv_iload M.1 M.2.1 dX4_goOn_82 (lv_at hl 0 rfl) ?_
      refine zi_iald M hE hP 5 (n := 48) (g := dD) rfl (Nat.le_of_ble_eq_true rfl) (by omega) (by omega) dX4_goOn_84 ?_
      have hr_6 := g_dD (mvZ ea ypl (lenZ yL yan)) (by omega) (by omega)
      refine zi_iadd M dX4_goOn_85 ?_
      refine lv_istore (lv' := [(7, .int (iI ((dD ypl) + (dD (mvZ ea ypl (lenZ yL yan)))))), (6, .int (iI (mvZ ea ypl (lenZ yL yan)))), (5, .int (iI (lenZ yL yan))), (4, .int (iI yL)), (3, .int (iI (-1))), (0, .ref (ad b)), (1, .ref (ad b2)), (2, .ref (ad b3))]) M.1 M.2.1 dX4_goOn_86 hl (by decide) rfl (fun ls hl => ?_)
      refine lv_aload_n M.1 M.2.1 dX4_goOn_88 rfl (lv_at hl 5 rfl) ?_
      refine zi_get (ci := 4) (v := .int (iI ylg)) M hE hP 0 rfl rfl zu_X4 5 (by decide) zk_fl_RX4_27 rfl rfl dX4_goOn_89 ?_
      refine zi_if_ne (tgt := 99) M dX4_goOn_92 (by decide) (by omega) (fun c_7 => ?_) (fun c_7 => ?_)
      ·
        refine lv_aload_n M.1 M.2.1 dX4_goOn_99 rfl (lv_at hl 7 rfl) ?_
        refine lv_aload_n M.1 M.2.1 dX4_goOn_100 rfl (lv_at hl 5 rfl) ?_
        refine zi_get (ci := 4) (v := .int (iI ypl)) M hE hP 0 rfl rfl zu_X4 0 (by decide) zk_fl_RX4_9 rfl rfl dX4_goOn_101 ?_
        refine z_cR (z_runV (As := [.int (iI ypl)]) (rest := []) M (c_X3_takes l D cy z0 ad b3 sea noi ypl g_sea (by omega)) hE hS hAz (hP.sub [8, 9, 10] rfl) (zRc.of (ci := 3) (q0 := 8) hE hP rfl rfl) zk_cd_X3_takes zk_in_RX3 zk_im_X3_takes zk_se_X3_takes zk_ml_RX4_54 rfl rfl zd_X3_takes ⟨by decide, by decide⟩ rfl hl.1 rfl (Nat.le_of_ble_eq_true rfl) dX4_goOn_104 ⟨by decide, by decide⟩) ?_
        have hx_8 : (if sea ypl = 0 then (6 : Int) else 3) = 6 ∨ (if sea ypl = 0 then (6 : Int) else 3) = 3 := by split <;> simp
        refine lv_istore (lv' := [(8, .int (iI (if sea ypl = 0 then 6 else 3))), (7, .int (iI ((dD ypl) + (dD (mvZ ea ypl (lenZ yL yan)))))), (6, .int (iI (mvZ ea ypl (lenZ yL yan)))), (5, .int (iI (lenZ yL yan))), (4, .int (iI yL)), (3, .int (iI (-1))), (0, .ref (ad b)), (1, .ref (ad b2)), (2, .ref (ad b3))]) M.1 M.2.1 dX4_goOn_107 hl (by decide) rfl (fun ls hl => ?_)
        refine lv_aload_n M.1 M.2.1 dX4_goOn_109 rfl (lv_at hl 6 rfl) ?_
        refine lv_dup M.1 M.2.1 dX4_goOn_110 rfl ?_
        refine zi_get (ci := 4) (v := .int (iI yst)) M hE hP 0 rfl rfl zu_X4 4 (by decide) zk_fl_RX4_24 rfl rfl dX4_goOn_111 ?_
        refine lv_iload M.1 M.2.1 dX4_goOn_114 (lv_at hl 0 rfl) ?_
        refine zi_push M dX4_goOn_116 ?_
        refine zi_iadd M dX4_goOn_117 ?_
        refine lv_iload M.1 M.2.1 dX4_goOn_118 (lv_at hl 3 rfl) ?_
        refine zi_iadd M dX4_goOn_120 ?_
        refine lv_iload M.1 M.2.1 dX4_goOn_121 (lv_at hl 1 rfl) ?_
        refine zi_bipush M dX4_goOn_123 ⟨by decide, by decide⟩ ?_
        refine zi_imul M dX4_goOn_125 ?_
        refine lv_aload_n M.1 M.2.1 dX4_goOn_126 rfl (lv_at hl 6 rfl) ?_
        refine zi_get (ci := 4) (v := .int (iI yfr)) M hE hP 0 rfl rfl zu_X4 3 (by decide) zk_fl_RX4_21 rfl rfl dX4_goOn_127 ?_
        have hdv := divr (a := (dD ypl + dD (mvZ ea ypl (lenZ yL yan))) * 40) (b := yfr) (A := 80000) (by omega) (by omega) (by omega)
        refine zi_idiv M dX4_goOn_130 (by omega) (by omega) (by omega) (by omega) ?_
        refine zi_iadd M dX4_goOn_131 ?_
        refine zi_isub M dX4_goOn_132 ?_
        obtain ⟨w2, hw2⟩ : ∃ w : Int, w = yst - takZ dD sea ylg ypl (mvZ ea ypl (lenZ yL yan)) (lenZ yL yan) yfr := ⟨_, rfl⟩
        have hgn : gndZ sea ylg ypl = (if sea ypl = 0 then 6 else 3) := by unfold gndZ; first | exact if_pos (by assumption) | exact if_neg (by assumption)
        refine z_rw (b := w2) (by rw [hw2]; unfold takZ; rw [hgn]) ?_
        have htk := takZ_rg (sea := sea) (lg := ylg) g_dD hp1 hmv (lenZ_rg yL yan ha) hf
        refine zi_put (ci := 4) (ws' := ((rayW ad b cy ypl ydr yan yfr w2 ylg yle ydl) ++ ((airW ad b2 cy h su st sh fl cS cH dD dE dF) ++ (grdW ad b3 cy sea noi)))) M hE hP hD hS 0 rfl rfl zu_X4 4 (by decide) zk_fl_RX4_24 rfl rfl tyX4_ok nmX4 rfl rfl (Nat.le_of_ble_eq_true rfl) rfl dX4_goOn_133 (fun H locs hP hD hS => ?_)
        refine lv_aload_n M.1 M.2.1 dX4_goOn_136 rfl (lv_at hl 6 rfl) ?_
        refine zi_get (ci := 4) (v := .int (iI w2)) M hE hP 0 rfl rfl zu_X4 4 (by decide) zk_fl_RX4_24 rfl rfl dX4_goOn_137 ?_
        refine zi_if_ge (tgt := 145) M dX4_goOn_140 (by decide) (by omega) (fun c_9 => ?_) (fun c_9 => ?_)
        ·
          refine lv_aload_n M.1 M.2.1 dX4_goOn_145 rfl (lv_at hl 6 rfl) ?_
          refine lv_iload M.1 M.2.1 dX4_goOn_146 (lv_at hl 2 rfl) ?_
          refine zi_put (ci := 4) (ws' := ((rayW ad b cy (mvZ ea ypl (lenZ yL yan)) ydr yan yfr w2 ylg yle ydl) ++ ((airW ad b2 cy h su st sh fl cS cH dD dE dF) ++ (grdW ad b3 cy sea noi)))) M hE hP hD hS 0 rfl rfl zu_X4 0 (by decide) zk_fl_RX4_9 rfl rfl tyX4_ok nmX4 rfl rfl (Nat.le_of_ble_eq_true rfl) rfl dX4_goOn_148 (fun H locs hP hD hS => ?_)
          refine lv_aload_n M.1 M.2.1 dX4_goOn_151 rfl (lv_at hl 6 rfl) ?_
          refine lv_dup M.1 M.2.1 dX4_goOn_152 rfl ?_
          refine zi_get (ci := 4) (v := .int (iI ylg)) M hE hP 0 rfl rfl zu_X4 5 (by decide) zk_fl_RX4_27 rfl rfl dX4_goOn_153 ?_
          refine zi_push M dX4_goOn_156 ?_
          refine zi_iadd M dX4_goOn_157 ?_
          refine zi_put (ci := 4) (ws' := ((rayW ad b cy (mvZ ea ypl (lenZ yL yan)) ydr yan yfr w2 (ylg + 1) yle ydl) ++ ((airW ad b2 cy h su st sh fl cS cH dD dE dF) ++ (grdW ad b3 cy sea noi)))) M hE hP hD hS 0 rfl rfl zu_X4 5 (by decide) zk_fl_RX4_27 rfl rfl tyX4_ok nmX4 rfl rfl (Nat.le_of_ble_eq_true rfl) rfl dX4_goOn_158 (fun H locs hP hD hS => ?_)
          refine lv_iload M.1 M.2.1 dX4_goOn_161 (lv_at hl 4 rfl) ?_
          refine zi_push M dX4_goOn_163 ?_
          refine zi_icmp_ne (tgt := 177) M dX4_goOn_164 (by decide) (by omega) ⟨by decide, by decide⟩ (fun c_10 => ?_) (fun c_10 => ?_)
          ·
            refine lv_aload_n M.1 M.2.1 dX4_goOn_177 rfl (lv_at hl 6 rfl) ?_
            refine lv_dup M.1 M.2.1 dX4_goOn_178 rfl ?_
            refine zi_get (ci := 4) (v := .int (iI ydl)) M hE hP 0 rfl rfl zu_X4 7 (by decide) zk_fl_RX4_33 rfl rfl dX4_goOn_179 ?_
            refine zi_bipush M dX4_goOn_182 ⟨by decide, by decide⟩ ?_
            refine lv_iload M.1 M.2.1 dX4_goOn_184 (lv_at hl 3 rfl) ?_
            refine zi_imul M dX4_goOn_186 ?_
            refine lv_iload M.1 M.2.1 dX4_goOn_187 (lv_at hl 4 rfl) ?_
            refine zi_push M dX4_goOn_189 ?_
            refine zi_icmp_ne (tgt := 197) M dX4_goOn_190 (by decide) (by omega) ⟨by decide, by decide⟩ (fun _ => ?_) (fun q => absurd q c_10)
            refine zi_push M dX4_goOn_197 ?_
            refine zi_iadd M dX4_goOn_198 ?_
            refine zi_iadd M dX4_goOn_199 ?_
            refine zi_put (ci := 4) (ws' := ((rayW ad b cy (mvZ ea ypl (lenZ yL yan)) ydr yan yfr w2 (ylg + 1) yle (ydl + ((10 * (lenZ yL yan)) + 5))) ++ ((airW ad b2 cy h su st sh fl cS cH dD dE dF) ++ (grdW ad b3 cy sea noi)))) M hE hP hD hS 0 rfl rfl zu_X4 7 (by decide) zk_fl_RX4_33 rfl rfl tyX4_ok nmX4 rfl rfl (Nat.le_of_ble_eq_true rfl) rfl dX4_goOn_200 (fun H locs hP hD hS => ?_)
            refine zi_push M dX4_goOn_203 ?_
            have q1 : (if yL = 1 then (1 : Int) else 0) = 0 := if_neg (by assumption)
            have q2 : (if yL = 1 then (2 : Int) else 5) = 5 := if_neg (by assumption)
            have hP : va_P D vwCl ((rayW ad b cy ((u8 (mvZ ea ypl (lenZ yL yan)) ydr yan yfr w2 (ylg + 1) (yle + (if yL = 1 then 1 else 0)) (ydl + (10 * lenZ yL yan + (if yL = 1 then 2 else 5)))) 0) ((u8 (mvZ ea ypl (lenZ yL yan)) ydr yan yfr w2 (ylg + 1) (yle + (if yL = 1 then 1 else 0)) (ydl + (10 * lenZ yL yan + (if yL = 1 then 2 else 5)))) 1) ((u8 (mvZ ea ypl (lenZ yL yan)) ydr yan yfr w2 (ylg + 1) (yle + (if yL = 1 then 1 else 0)) (ydl + (10 * lenZ yL yan + (if yL = 1 then 2 else 5)))) 2) ((u8 (mvZ ea ypl (lenZ yL yan)) ydr yan yfr w2 (ylg + 1) (yle + (if yL = 1 then 1 else 0)) (ydl + (10 * lenZ yL yan + (if yL = 1 then 2 else 5)))) 3) ((u8 (mvZ ea ypl (lenZ yL yan)) ydr yan yfr w2 (ylg + 1) (yle + (if yL = 1 then 1 else 0)) (ydl + (10 * lenZ yL yan + (if yL = 1 then 2 else 5)))) 4) ((u8 (mvZ ea ypl (lenZ yL yan)) ydr yan yfr w2 (ylg + 1) (yle + (if yL = 1 then 1 else 0)) (ydl + (10 * lenZ yL yan + (if yL = 1 then 2 else 5)))) 5) ((u8 (mvZ ea ypl (lenZ yL yan)) ydr yan yfr w2 (ylg + 1) (yle + (if yL = 1 then 1 else 0)) (ydl + (10 * lenZ yL yan + (if yL = 1 then 2 else 5)))) 6) ((u8 (mvZ ea ypl (lenZ yL yan)) ydr yan yfr w2 (ylg + 1) (yle + (if yL = 1 then 1 else 0)) (ydl + (10 * lenZ yL yan + (if yL = 1 then 2 else 5)))) 7)) ++ ((airW ad b2 cy h su st sh fl cS cH dD dE dF) ++ (grdW ad b3 cy sea noi))) H := by rw [q1, q2, Int.add_zero]; exact hP
            exact zw_z M hr hlk (v := 1) (Or.inr rfl) (u8 (mvZ ea ypl (lenZ yL yan)) ydr yan yfr w2 (ylg + 1) (yle + (if yL = 1 then 1 else 0)) (ydl + (10 * lenZ yL yan + (if yL = 1 then 2 else 5)))) hP hS (by (refine Or.inl ⟨_, _, _, _, _, ?_, rfl, rfl⟩; unfold stepZ; rw [← hyL, if_neg (by omega), if_neg (by omega), hw2])) (by decide) (by decide) dX4_goOn_204
          ·
            refine lv_aload_n M.1 M.2.1 dX4_goOn_167 rfl (lv_at hl 6 rfl) ?_
            refine lv_dup M.1 M.2.1 dX4_goOn_168 rfl ?_
            refine zi_get (ci := 4) (v := .int (iI yle)) M hE hP 0 rfl rfl zu_X4 6 (by decide) zk_fl_RX4_30 rfl rfl dX4_goOn_169 ?_
            refine zi_push M dX4_goOn_172 ?_
            refine zi_iadd M dX4_goOn_173 ?_
            refine zi_put (ci := 4) (ws' := ((rayW ad b cy (mvZ ea ypl (lenZ yL yan)) ydr yan yfr w2 (ylg + 1) (yle + 1) ydl) ++ ((airW ad b2 cy h su st sh fl cS cH dD dE dF) ++ (grdW ad b3 cy sea noi)))) M hE hP hD hS 0 rfl rfl zu_X4 6 (by decide) zk_fl_RX4_30 rfl rfl tyX4_ok nmX4 rfl rfl (Nat.le_of_ble_eq_true rfl) rfl dX4_goOn_174 (fun H locs hP hD hS => ?_)
            refine lv_aload_n M.1 M.2.1 dX4_goOn_177 rfl (lv_at hl 6 rfl) ?_
            refine lv_dup M.1 M.2.1 dX4_goOn_178 rfl ?_
            refine zi_get (ci := 4) (v := .int (iI ydl)) M hE hP 0 rfl rfl zu_X4 7 (by decide) zk_fl_RX4_33 rfl rfl dX4_goOn_179 ?_
            refine zi_bipush M dX4_goOn_182 ⟨by decide, by decide⟩ ?_
            refine lv_iload M.1 M.2.1 dX4_goOn_184 (lv_at hl 3 rfl) ?_
            refine zi_imul M dX4_goOn_186 ?_
            refine lv_iload M.1 M.2.1 dX4_goOn_187 (lv_at hl 4 rfl) ?_
            refine zi_push M dX4_goOn_189 ?_
            refine zi_icmp_ne (tgt := 197) M dX4_goOn_190 (by decide) (by omega) ⟨by decide, by decide⟩ (fun q => absurd c_10 q) (fun _ => ?_)
            refine zi_push M dX4_goOn_193 ?_
            refine zi_goto (tgt := 198) M dX4_goOn_194 (by decide) ?_
            refine zi_iadd M dX4_goOn_198 ?_
            refine zi_iadd M dX4_goOn_199 ?_
            refine zi_put (ci := 4) (ws' := ((rayW ad b cy (mvZ ea ypl (lenZ yL yan)) ydr yan yfr w2 (ylg + 1) (yle + 1) (ydl + ((10 * (lenZ yL yan)) + 2))) ++ ((airW ad b2 cy h su st sh fl cS cH dD dE dF) ++ (grdW ad b3 cy sea noi)))) M hE hP hD hS 0 rfl rfl zu_X4 7 (by decide) zk_fl_RX4_33 rfl rfl tyX4_ok nmX4 rfl rfl (Nat.le_of_ble_eq_true rfl) rfl dX4_goOn_200 (fun H locs hP hD hS => ?_)
            refine zi_push M dX4_goOn_203 ?_
            have q1 : (if yL = 1 then (1 : Int) else 0) = 1 := if_pos (by assumption)
            have q2 : (if yL = 1 then (2 : Int) else 5) = 2 := if_pos (by assumption)
            have hP : va_P D vwCl ((rayW ad b cy ((u8 (mvZ ea ypl (lenZ yL yan)) ydr yan yfr w2 (ylg + 1) (yle + (if yL = 1 then 1 else 0)) (ydl + (10 * lenZ yL yan + (if yL = 1 then 2 else 5)))) 0) ((u8 (mvZ ea ypl (lenZ yL yan)) ydr yan yfr w2 (ylg + 1) (yle + (if yL = 1 then 1 else 0)) (ydl + (10 * lenZ yL yan + (if yL = 1 then 2 else 5)))) 1) ((u8 (mvZ ea ypl (lenZ yL yan)) ydr yan yfr w2 (ylg + 1) (yle + (if yL = 1 then 1 else 0)) (ydl + (10 * lenZ yL yan + (if yL = 1 then 2 else 5)))) 2) ((u8 (mvZ ea ypl (lenZ yL yan)) ydr yan yfr w2 (ylg + 1) (yle + (if yL = 1 then 1 else 0)) (ydl + (10 * lenZ yL yan + (if yL = 1 then 2 else 5)))) 3) ((u8 (mvZ ea ypl (lenZ yL yan)) ydr yan yfr w2 (ylg + 1) (yle + (if yL = 1 then 1 else 0)) (ydl + (10 * lenZ yL yan + (if yL = 1 then 2 else 5)))) 4) ((u8 (mvZ ea ypl (lenZ yL yan)) ydr yan yfr w2 (ylg + 1) (yle + (if yL = 1 then 1 else 0)) (ydl + (10 * lenZ yL yan + (if yL = 1 then 2 else 5)))) 5) ((u8 (mvZ ea ypl (lenZ yL yan)) ydr yan yfr w2 (ylg + 1) (yle + (if yL = 1 then 1 else 0)) (ydl + (10 * lenZ yL yan + (if yL = 1 then 2 else 5)))) 6) ((u8 (mvZ ea ypl (lenZ yL yan)) ydr yan yfr w2 (ylg + 1) (yle + (if yL = 1 then 1 else 0)) (ydl + (10 * lenZ yL yan + (if yL = 1 then 2 else 5)))) 7)) ++ ((airW ad b2 cy h su st sh fl cS cH dD dE dF) ++ (grdW ad b3 cy sea noi))) H := by rw [q1, q2]; exact hP
            exact zw_z M hr hlk (v := 1) (Or.inr rfl) (u8 (mvZ ea ypl (lenZ yL yan)) ydr yan yfr w2 (ylg + 1) (yle + (if yL = 1 then 1 else 0)) (ydl + (10 * lenZ yL yan + (if yL = 1 then 2 else 5)))) hP hS (by (refine Or.inl ⟨_, _, _, _, _, ?_, rfl, rfl⟩; unfold stepZ; rw [← hyL, if_neg (by omega), if_neg (by omega), hw2])) (by decide) (by decide) dX4_goOn_204
        ·
          refine zi_push M dX4_goOn_143 ?_
          have hP : va_P D vwCl ((rayW ad b cy ((u8 ypl ydr yan yfr w2 ylg yle ydl) 0) ((u8 ypl ydr yan yfr w2 ylg yle ydl) 1) ((u8 ypl ydr yan yfr w2 ylg yle ydl) 2) ((u8 ypl ydr yan yfr w2 ylg yle ydl) 3) ((u8 ypl ydr yan yfr w2 ylg yle ydl) 4) ((u8 ypl ydr yan yfr w2 ylg yle ydl) 5) ((u8 ypl ydr yan yfr w2 ylg yle ydl) 6) ((u8 ypl ydr yan yfr w2 ylg yle ydl) 7)) ++ ((airW ad b2 cy h su st sh fl cS cH dD dE dF) ++ (grdW ad b3 cy sea noi))) H := hP
          exact zw_z M hr hlk (v := 0) (Or.inl rfl) (u8 ypl ydr yan yfr w2 ylg yle ydl) hP hS (by (refine Or.inr ⟨?_, rfl⟩; unfold stepZ; rw [← hyL, if_neg (by omega), if_pos (by omega)])) (by decide) (by decide) dX4_goOn_144
      ·
        refine zi_push M dX4_goOn_95 ?_
        refine zi_goto (tgt := 107) M dX4_goOn_96 (by decide) ?_
        refine lv_istore (lv' := [(8, .int (iI 0)), (7, .int (iI ((dD ypl) + (dD (mvZ ea ypl (lenZ yL yan)))))), (6, .int (iI (mvZ ea ypl (lenZ yL yan)))), (5, .int (iI (lenZ yL yan))), (4, .int (iI yL)), (3, .int (iI (-1))), (0, .ref (ad b)), (1, .ref (ad b2)), (2, .ref (ad b3))]) M.1 M.2.1 dX4_goOn_107 hl (by decide) rfl (fun ls hl => ?_)
        refine lv_aload_n M.1 M.2.1 dX4_goOn_109 rfl (lv_at hl 6 rfl) ?_
        refine lv_dup M.1 M.2.1 dX4_goOn_110 rfl ?_
        refine zi_get (ci := 4) (v := .int (iI yst)) M hE hP 0 rfl rfl zu_X4 4 (by decide) zk_fl_RX4_24 rfl rfl dX4_goOn_111 ?_
        refine lv_iload M.1 M.2.1 dX4_goOn_114 (lv_at hl 0 rfl) ?_
        refine zi_push M dX4_goOn_116 ?_
        refine zi_iadd M dX4_goOn_117 ?_
        refine lv_iload M.1 M.2.1 dX4_goOn_118 (lv_at hl 3 rfl) ?_
        refine zi_iadd M dX4_goOn_120 ?_
        refine lv_iload M.1 M.2.1 dX4_goOn_121 (lv_at hl 1 rfl) ?_
        refine zi_bipush M dX4_goOn_123 ⟨by decide, by decide⟩ ?_
        refine zi_imul M dX4_goOn_125 ?_
        refine lv_aload_n M.1 M.2.1 dX4_goOn_126 rfl (lv_at hl 6 rfl) ?_
        refine zi_get (ci := 4) (v := .int (iI yfr)) M hE hP 0 rfl rfl zu_X4 3 (by decide) zk_fl_RX4_21 rfl rfl dX4_goOn_127 ?_
        have hdv := divr (a := (dD ypl + dD (mvZ ea ypl (lenZ yL yan))) * 40) (b := yfr) (A := 80000) (by omega) (by omega) (by omega)
        refine zi_idiv M dX4_goOn_130 (by omega) (by omega) (by omega) (by omega) ?_
        refine zi_iadd M dX4_goOn_131 ?_
        refine zi_isub M dX4_goOn_132 ?_
        obtain ⟨w2, hw2⟩ : ∃ w : Int, w = yst - takZ dD sea ylg ypl (mvZ ea ypl (lenZ yL yan)) (lenZ yL yan) yfr := ⟨_, rfl⟩
        have hgn : gndZ sea ylg ypl = 0 := by unfold gndZ; first | exact if_pos (by assumption) | exact if_neg (by assumption)
        refine z_rw (b := w2) (by rw [hw2]; unfold takZ; rw [hgn]) ?_
        have htk := takZ_rg (sea := sea) (lg := ylg) g_dD hp1 hmv (lenZ_rg yL yan ha) hf
        refine zi_put (ci := 4) (ws' := ((rayW ad b cy ypl ydr yan yfr w2 ylg yle ydl) ++ ((airW ad b2 cy h su st sh fl cS cH dD dE dF) ++ (grdW ad b3 cy sea noi)))) M hE hP hD hS 0 rfl rfl zu_X4 4 (by decide) zk_fl_RX4_24 rfl rfl tyX4_ok nmX4 rfl rfl (Nat.le_of_ble_eq_true rfl) rfl dX4_goOn_133 (fun H locs hP hD hS => ?_)
        refine lv_aload_n M.1 M.2.1 dX4_goOn_136 rfl (lv_at hl 6 rfl) ?_
        refine zi_get (ci := 4) (v := .int (iI w2)) M hE hP 0 rfl rfl zu_X4 4 (by decide) zk_fl_RX4_24 rfl rfl dX4_goOn_137 ?_
        refine zi_if_ge (tgt := 145) M dX4_goOn_140 (by decide) (by omega) (fun c_11 => ?_) (fun c_11 => ?_)
        ·
          refine lv_aload_n M.1 M.2.1 dX4_goOn_145 rfl (lv_at hl 6 rfl) ?_
          refine lv_iload M.1 M.2.1 dX4_goOn_146 (lv_at hl 2 rfl) ?_
          refine zi_put (ci := 4) (ws' := ((rayW ad b cy (mvZ ea ypl (lenZ yL yan)) ydr yan yfr w2 ylg yle ydl) ++ ((airW ad b2 cy h su st sh fl cS cH dD dE dF) ++ (grdW ad b3 cy sea noi)))) M hE hP hD hS 0 rfl rfl zu_X4 0 (by decide) zk_fl_RX4_9 rfl rfl tyX4_ok nmX4 rfl rfl (Nat.le_of_ble_eq_true rfl) rfl dX4_goOn_148 (fun H locs hP hD hS => ?_)
          refine lv_aload_n M.1 M.2.1 dX4_goOn_151 rfl (lv_at hl 6 rfl) ?_
          refine lv_dup M.1 M.2.1 dX4_goOn_152 rfl ?_
          refine zi_get (ci := 4) (v := .int (iI ylg)) M hE hP 0 rfl rfl zu_X4 5 (by decide) zk_fl_RX4_27 rfl rfl dX4_goOn_153 ?_
          refine zi_push M dX4_goOn_156 ?_
          refine zi_iadd M dX4_goOn_157 ?_
          refine zi_put (ci := 4) (ws' := ((rayW ad b cy (mvZ ea ypl (lenZ yL yan)) ydr yan yfr w2 (ylg + 1) yle ydl) ++ ((airW ad b2 cy h su st sh fl cS cH dD dE dF) ++ (grdW ad b3 cy sea noi)))) M hE hP hD hS 0 rfl rfl zu_X4 5 (by decide) zk_fl_RX4_27 rfl rfl tyX4_ok nmX4 rfl rfl (Nat.le_of_ble_eq_true rfl) rfl dX4_goOn_158 (fun H locs hP hD hS => ?_)
          refine lv_iload M.1 M.2.1 dX4_goOn_161 (lv_at hl 4 rfl) ?_
          refine zi_push M dX4_goOn_163 ?_
          refine zi_icmp_ne (tgt := 177) M dX4_goOn_164 (by decide) (by omega) ⟨by decide, by decide⟩ (fun c_12 => ?_) (fun c_12 => ?_)
          ·
            refine lv_aload_n M.1 M.2.1 dX4_goOn_177 rfl (lv_at hl 6 rfl) ?_
            refine lv_dup M.1 M.2.1 dX4_goOn_178 rfl ?_
            refine zi_get (ci := 4) (v := .int (iI ydl)) M hE hP 0 rfl rfl zu_X4 7 (by decide) zk_fl_RX4_33 rfl rfl dX4_goOn_179 ?_
            refine zi_bipush M dX4_goOn_182 ⟨by decide, by decide⟩ ?_
            refine lv_iload M.1 M.2.1 dX4_goOn_184 (lv_at hl 3 rfl) ?_
            refine zi_imul M dX4_goOn_186 ?_
            refine lv_iload M.1 M.2.1 dX4_goOn_187 (lv_at hl 4 rfl) ?_
            refine zi_push M dX4_goOn_189 ?_
            refine zi_icmp_ne (tgt := 197) M dX4_goOn_190 (by decide) (by omega) ⟨by decide, by decide⟩ (fun _ => ?_) (fun q => absurd q c_12)
            refine zi_push M dX4_goOn_197 ?_
            refine zi_iadd M dX4_goOn_198 ?_
            refine zi_iadd M dX4_goOn_199 ?_
            refine zi_put (ci := 4) (ws' := ((rayW ad b cy (mvZ ea ypl (lenZ yL yan)) ydr yan yfr w2 (ylg + 1) yle (ydl + ((10 * (lenZ yL yan)) + 5))) ++ ((airW ad b2 cy h su st sh fl cS cH dD dE dF) ++ (grdW ad b3 cy sea noi)))) M hE hP hD hS 0 rfl rfl zu_X4 7 (by decide) zk_fl_RX4_33 rfl rfl tyX4_ok nmX4 rfl rfl (Nat.le_of_ble_eq_true rfl) rfl dX4_goOn_200 (fun H locs hP hD hS => ?_)
            refine zi_push M dX4_goOn_203 ?_
            have q1 : (if yL = 1 then (1 : Int) else 0) = 0 := if_neg (by assumption)
            have q2 : (if yL = 1 then (2 : Int) else 5) = 5 := if_neg (by assumption)
            have hP : va_P D vwCl ((rayW ad b cy ((u8 (mvZ ea ypl (lenZ yL yan)) ydr yan yfr w2 (ylg + 1) (yle + (if yL = 1 then 1 else 0)) (ydl + (10 * lenZ yL yan + (if yL = 1 then 2 else 5)))) 0) ((u8 (mvZ ea ypl (lenZ yL yan)) ydr yan yfr w2 (ylg + 1) (yle + (if yL = 1 then 1 else 0)) (ydl + (10 * lenZ yL yan + (if yL = 1 then 2 else 5)))) 1) ((u8 (mvZ ea ypl (lenZ yL yan)) ydr yan yfr w2 (ylg + 1) (yle + (if yL = 1 then 1 else 0)) (ydl + (10 * lenZ yL yan + (if yL = 1 then 2 else 5)))) 2) ((u8 (mvZ ea ypl (lenZ yL yan)) ydr yan yfr w2 (ylg + 1) (yle + (if yL = 1 then 1 else 0)) (ydl + (10 * lenZ yL yan + (if yL = 1 then 2 else 5)))) 3) ((u8 (mvZ ea ypl (lenZ yL yan)) ydr yan yfr w2 (ylg + 1) (yle + (if yL = 1 then 1 else 0)) (ydl + (10 * lenZ yL yan + (if yL = 1 then 2 else 5)))) 4) ((u8 (mvZ ea ypl (lenZ yL yan)) ydr yan yfr w2 (ylg + 1) (yle + (if yL = 1 then 1 else 0)) (ydl + (10 * lenZ yL yan + (if yL = 1 then 2 else 5)))) 5) ((u8 (mvZ ea ypl (lenZ yL yan)) ydr yan yfr w2 (ylg + 1) (yle + (if yL = 1 then 1 else 0)) (ydl + (10 * lenZ yL yan + (if yL = 1 then 2 else 5)))) 6) ((u8 (mvZ ea ypl (lenZ yL yan)) ydr yan yfr w2 (ylg + 1) (yle + (if yL = 1 then 1 else 0)) (ydl + (10 * lenZ yL yan + (if yL = 1 then 2 else 5)))) 7)) ++ ((airW ad b2 cy h su st sh fl cS cH dD dE dF) ++ (grdW ad b3 cy sea noi))) H := by rw [q1, q2, Int.add_zero]; exact hP
            exact zw_z M hr hlk (v := 1) (Or.inr rfl) (u8 (mvZ ea ypl (lenZ yL yan)) ydr yan yfr w2 (ylg + 1) (yle + (if yL = 1 then 1 else 0)) (ydl + (10 * lenZ yL yan + (if yL = 1 then 2 else 5)))) hP hS (by (refine Or.inl ⟨_, _, _, _, _, ?_, rfl, rfl⟩; unfold stepZ; rw [← hyL, if_neg (by omega), if_neg (by omega), hw2])) (by decide) (by decide) dX4_goOn_204
          ·
            refine lv_aload_n M.1 M.2.1 dX4_goOn_167 rfl (lv_at hl 6 rfl) ?_
            refine lv_dup M.1 M.2.1 dX4_goOn_168 rfl ?_
            refine zi_get (ci := 4) (v := .int (iI yle)) M hE hP 0 rfl rfl zu_X4 6 (by decide) zk_fl_RX4_30 rfl rfl dX4_goOn_169 ?_
            refine zi_push M dX4_goOn_172 ?_
            refine zi_iadd M dX4_goOn_173 ?_
            refine zi_put (ci := 4) (ws' := ((rayW ad b cy (mvZ ea ypl (lenZ yL yan)) ydr yan yfr w2 (ylg + 1) (yle + 1) ydl) ++ ((airW ad b2 cy h su st sh fl cS cH dD dE dF) ++ (grdW ad b3 cy sea noi)))) M hE hP hD hS 0 rfl rfl zu_X4 6 (by decide) zk_fl_RX4_30 rfl rfl tyX4_ok nmX4 rfl rfl (Nat.le_of_ble_eq_true rfl) rfl dX4_goOn_174 (fun H locs hP hD hS => ?_)
            refine lv_aload_n M.1 M.2.1 dX4_goOn_177 rfl (lv_at hl 6 rfl) ?_
            refine lv_dup M.1 M.2.1 dX4_goOn_178 rfl ?_
            refine zi_get (ci := 4) (v := .int (iI ydl)) M hE hP 0 rfl rfl zu_X4 7 (by decide) zk_fl_RX4_33 rfl rfl dX4_goOn_179 ?_
            refine zi_bipush M dX4_goOn_182 ⟨by decide, by decide⟩ ?_
            refine lv_iload M.1 M.2.1 dX4_goOn_184 (lv_at hl 3 rfl) ?_
            refine zi_imul M dX4_goOn_186 ?_
            refine lv_iload M.1 M.2.1 dX4_goOn_187 (lv_at hl 4 rfl) ?_
            refine zi_push M dX4_goOn_189 ?_
            refine zi_icmp_ne (tgt := 197) M dX4_goOn_190 (by decide) (by omega) ⟨by decide, by decide⟩ (fun q => absurd c_12 q) (fun _ => ?_)
            refine zi_push M dX4_goOn_193 ?_
            refine zi_goto (tgt := 198) M dX4_goOn_194 (by decide) ?_
            refine zi_iadd M dX4_goOn_198 ?_
            refine zi_iadd M dX4_goOn_199 ?_
            refine zi_put (ci := 4) (ws' := ((rayW ad b cy (mvZ ea ypl (lenZ yL yan)) ydr yan yfr w2 (ylg + 1) (yle + 1) (ydl + ((10 * (lenZ yL yan)) + 2))) ++ ((airW ad b2 cy h su st sh fl cS cH dD dE dF) ++ (grdW ad b3 cy sea noi)))) M hE hP hD hS 0 rfl rfl zu_X4 7 (by decide) zk_fl_RX4_33 rfl rfl tyX4_ok nmX4 rfl rfl (Nat.le_of_ble_eq_true rfl) rfl dX4_goOn_200 (fun H locs hP hD hS => ?_)
            refine zi_push M dX4_goOn_203 ?_
            have q1 : (if yL = 1 then (1 : Int) else 0) = 1 := if_pos (by assumption)
            have q2 : (if yL = 1 then (2 : Int) else 5) = 2 := if_pos (by assumption)
            have hP : va_P D vwCl ((rayW ad b cy ((u8 (mvZ ea ypl (lenZ yL yan)) ydr yan yfr w2 (ylg + 1) (yle + (if yL = 1 then 1 else 0)) (ydl + (10 * lenZ yL yan + (if yL = 1 then 2 else 5)))) 0) ((u8 (mvZ ea ypl (lenZ yL yan)) ydr yan yfr w2 (ylg + 1) (yle + (if yL = 1 then 1 else 0)) (ydl + (10 * lenZ yL yan + (if yL = 1 then 2 else 5)))) 1) ((u8 (mvZ ea ypl (lenZ yL yan)) ydr yan yfr w2 (ylg + 1) (yle + (if yL = 1 then 1 else 0)) (ydl + (10 * lenZ yL yan + (if yL = 1 then 2 else 5)))) 2) ((u8 (mvZ ea ypl (lenZ yL yan)) ydr yan yfr w2 (ylg + 1) (yle + (if yL = 1 then 1 else 0)) (ydl + (10 * lenZ yL yan + (if yL = 1 then 2 else 5)))) 3) ((u8 (mvZ ea ypl (lenZ yL yan)) ydr yan yfr w2 (ylg + 1) (yle + (if yL = 1 then 1 else 0)) (ydl + (10 * lenZ yL yan + (if yL = 1 then 2 else 5)))) 4) ((u8 (mvZ ea ypl (lenZ yL yan)) ydr yan yfr w2 (ylg + 1) (yle + (if yL = 1 then 1 else 0)) (ydl + (10 * lenZ yL yan + (if yL = 1 then 2 else 5)))) 5) ((u8 (mvZ ea ypl (lenZ yL yan)) ydr yan yfr w2 (ylg + 1) (yle + (if yL = 1 then 1 else 0)) (ydl + (10 * lenZ yL yan + (if yL = 1 then 2 else 5)))) 6) ((u8 (mvZ ea ypl (lenZ yL yan)) ydr yan yfr w2 (ylg + 1) (yle + (if yL = 1 then 1 else 0)) (ydl + (10 * lenZ yL yan + (if yL = 1 then 2 else 5)))) 7)) ++ ((airW ad b2 cy h su st sh fl cS cH dD dE dF) ++ (grdW ad b3 cy sea noi))) H := by rw [q1, q2]; exact hP
            exact zw_z M hr hlk (v := 1) (Or.inr rfl) (u8 (mvZ ea ypl (lenZ yL yan)) ydr yan yfr w2 (ylg + 1) (yle + (if yL = 1 then 1 else 0)) (ydl + (10 * lenZ yL yan + (if yL = 1 then 2 else 5)))) hP hS (by (refine Or.inl ⟨_, _, _, _, _, ?_, rfl, rfl⟩; unfold stepZ; rw [← hyL, if_neg (by omega), if_neg (by omega), hw2])) (by decide) (by decide) dX4_goOn_204
        ·
          refine zi_push M dX4_goOn_143 ?_
          have hP : va_P D vwCl ((rayW ad b cy ((u8 ypl ydr yan yfr w2 ylg yle ydl) 0) ((u8 ypl ydr yan yfr w2 ylg yle ydl) 1) ((u8 ypl ydr yan yfr w2 ylg yle ydl) 2) ((u8 ypl ydr yan yfr w2 ylg yle ydl) 3) ((u8 ypl ydr yan yfr w2 ylg yle ydl) 4) ((u8 ypl ydr yan yfr w2 ylg yle ydl) 5) ((u8 ypl ydr yan yfr w2 ylg yle ydl) 6) ((u8 ypl ydr yan yfr w2 ylg yle ydl) 7)) ++ ((airW ad b2 cy h su st sh fl cS cH dD dE dF) ++ (grdW ad b3 cy sea noi))) H := hP
          exact zw_z M hr hlk (v := 0) (Or.inl rfl) (u8 ypl ydr yan yfr w2 ylg yle ydl) hP hS (by (refine Or.inr ⟨?_, rfl⟩; unfold stepZ; rw [← hyL, if_neg (by omega), if_pos (by omega)])) (by decide) (by decide) dX4_goOn_144
    ·
      refine zi_push M dX4_goOn_38 ?_
      have hP : va_P D vwCl ((rayW ad b cy ((u8 ypl ydr yan yfr yst ylg yle ydl) 0) ((u8 ypl ydr yan yfr yst ylg yle ydl) 1) ((u8 ypl ydr yan yfr yst ylg yle ydl) 2) ((u8 ypl ydr yan yfr yst ylg yle ydl) 3) ((u8 ypl ydr yan yfr yst ylg yle ydl) 4) ((u8 ypl ydr yan yfr yst ylg yle ydl) 5) ((u8 ypl ydr yan yfr yst ylg yle ydl) 6) ((u8 ypl ydr yan yfr yst ylg yle ydl) 7)) ++ ((airW ad b2 cy h su st sh fl cS cH dD dE dF) ++ (grdW ad b3 cy sea noi))) s.heap := hP
      exact zw_z M hr hlk (v := 0) (Or.inl rfl) (u8 ypl ydr yan yfr yst ylg yle ydl) hP hS (by (refine Or.inr ⟨?_, rfl⟩; unfold stepZ; rw [← hyL, if_pos (by omega)])) (by decide) (by decide) dX4_goOn_39
  ·
    refine zi_push M dX4_goOn_7 ?_
    refine zi_goto (tgt := 12) M dX4_goOn_8 (by decide) ?_
    refine lv_istore_n (lv' := [(3, .int (iI 1)), (0, .ref (ad b)), (1, .ref (ad b2)), (2, .ref (ad b3))]) M.1 M.2.1 dX4_goOn_12 rfl hl (by decide) rfl (fun ls hl => ?_)
    refine lv_aload_n M.1 M.2.1 dX4_goOn_13 rfl (lv_at hl 2 rfl) ?_
    refine lv_aload_n M.1 M.2.1 dX4_goOn_14 rfl (lv_at hl 1 rfl) ?_
    refine zi_get (ci := 4) (v := .int (iI ypl)) M hE hP 0 rfl rfl zu_X4 0 (by decide) zk_fl_RX4_9 rfl rfl dX4_goOn_15 ?_
    refine lv_iload_n M.1 M.2.1 dX4_goOn_18 rfl (lv_at hl 0 rfl) ?_
    refine lv_aload_n M.1 M.2.1 dX4_goOn_19 rfl (lv_at hl 1 rfl) ?_
    refine zi_get (ci := 4) (v := .int (iI yan)) M hE hP 0 rfl rfl zu_X4 2 (by decide) zk_fl_RX4_18 rfl rfl dX4_goOn_20 ?_
    refine lv_aload_n M.1 M.2.1 dX4_goOn_23 rfl (lv_at hl 1 rfl) ?_
    refine zi_get (ci := 4) (v := .int (iI yfr)) M hE hP 0 rfl rfl zu_X4 3 (by decide) zk_fl_RX4_21 rfl rfl dX4_goOn_24 ?_
    refine z_cR (z_runV (As := [.int (iI ypl), .int (iI 1), .int (iI yan), .int (iI yfr)]) (rest := []) M (c_X0_bender l D cy z0 ad b2 h su st sh fl cS cH dD dE dF ypl ea 1 yan yfr g_dE g_dF (by omega) (by omega) (by omega) (by omega)) hE hS hAz (hP.sub [1, 2, 3, 4, 5, 6, 7] rfl) (zRc.of (ci := 0) (q0 := 1) hE hP rfl rfl) zk_cd_X0_bender zk_in_RX0 zk_im_X0_bender zk_se_X0_bender zk_ml_RX4_36 rfl rfl zd_X0_bender ⟨by decide, by decide⟩ rfl hl.1 rfl (Nat.le_of_ble_eq_true rfl) dX4_goOn_27 ⟨by decide, by decide⟩) ?_
    have hx_13 := bndZ_c dE dF ea ypl yan yfr
    obtain ⟨yL, hyL⟩ : ∃ y : Int, y = bndZ dE dF ea ypl yan yfr := ⟨_, rfl⟩
    refine z_rw (b := yL) hyL.symm ?_
    have hyc := bndZ_c dE dF ea ypl yan yfr
    rw [← hyL] at hyc
    refine lv_istore (lv' := [(4, .int (iI yL)), (3, .int (iI 1)), (0, .ref (ad b)), (1, .ref (ad b2)), (2, .ref (ad b3))]) M.1 M.2.1 dX4_goOn_30 hl (by decide) rfl (fun ls hl => ?_)
    refine lv_iload M.1 M.2.1 dX4_goOn_32 (lv_at hl 0 rfl) ?_
    refine zi_push M dX4_goOn_34 ?_
    refine zi_icmp_ne (tgt := 40) M dX4_goOn_35 (by decide) (by omega) ⟨by decide, by decide⟩ (fun c_14 => ?_) (fun c_14 => ?_)
    ·
      refine lv_iload M.1 M.2.1 dX4_goOn_40 (lv_at hl 0 rfl) ?_
      refine lv_aload_n M.1 M.2.1 dX4_goOn_42 rfl (lv_at hl 2 rfl) ?_
      refine zi_get (ci := 4) (v := .int (iI yan)) M hE hP 0 rfl rfl zu_X4 2 (by decide) zk_fl_RX4_18 rfl rfl dX4_goOn_43 ?_
      refine z_cR (z_runSN (As := [.int (iI yL), .int (iI yan)]) (rest := []) M (c_X6_lengthBy l D cy z0 yL yan (by omega) (by omega)) hE hS hAz trivial zk_cd_X6_lengthBy zk_in_RX6 zk_st_X6_lengthBy zk_mn_RX4_42 rfl rfl zd_X6_lengthBy ⟨by decide, by decide⟩ rfl hl.1 rfl (Nat.le_of_ble_eq_true rfl) dX4_goOn_46 ⟨by decide, by decide⟩) ?_
      have hx_15 := lenZ_rg yL yan (by omega)
      refine lv_istore (lv' := [(5, .int (iI (lenZ yL yan))), (4, .int (iI yL)), (3, .int (iI 1)), (0, .ref (ad b)), (1, .ref (ad b2)), (2, .ref (ad b3))]) M.1 M.2.1 dX4_goOn_49 hl (by decide) rfl (fun ls hl => ?_)
      refine lv_aload_n M.1 M.2.1 dX4_goOn_51 rfl (lv_at hl 3 rfl) ?_
      refine zi_get (ci := 4) (v := .int (iI ypl)) M hE hP 0 rfl rfl zu_X4 0 (by decide) zk_fl_RX4_9 rfl rfl dX4_goOn_52 ?_
      refine lv_iload_n M.1 M.2.1 dX4_goOn_55 rfl (lv_at hl 2 rfl) ?_
      refine lv_iload M.1 M.2.1 dX4_goOn_56 (lv_at hl 0 rfl) ?_
      refine zi_imul M dX4_goOn_58 ?_
      refine zi_iadd M dX4_goOn_59 ?_
      refine z_cR (z_runSN (As := [.int (iI (ypl + (1 * (lenZ yL yan))))]) (rest := []) M (c_X6_ring l D cy z0 (ypl + (1 * (lenZ yL yan))) (by omega)) hE hS hAz trivial zk_cd_X6_ring zk_in_RX6 zk_st_X6_ring zk_mn_RX4_46 rfl rfl zd_X6_ring ⟨by decide, by decide⟩ rfl hl.1 rfl (Nat.le_of_ble_eq_true rfl) dX4_goOn_60 ⟨by decide, by decide⟩) ?_
      refine z_rw (b := mvZ ea ypl (lenZ yL yan)) (by unfold mvZ; split <;> omega) ?_
      have hmv := mvZ_rg ea ypl (lenZ yL yan)
      refine lv_istore (lv' := [(6, .int (iI (mvZ ea ypl (lenZ yL yan)))), (5, .int (iI (lenZ yL yan))), (4, .int (iI yL)), (3, .int (iI 1)), (0, .ref (ad b)), (1, .ref (ad b2)), (2, .ref (ad b3))]) M.1 M.2.1 dX4_goOn_63 hl (by decide) rfl (fun ls hl => ?_)
      refine lv_aload_n M.1 M.2.1 dX4_goOn_65 rfl (lv_at hl 5 rfl) ?_
      refine zi_getN (ci := 0) (v := .ref (ad (b2 + 3))) M hE hP 1 rfl rfl zu_X0 7 (by decide) zk_fn_RX4_50 rfl rfl dX4_goOn_66 ?_
      refine zi_push M dX4_goOn_69 ?_
      refine zi_aald (n := 3) (f := fun i => ad (b2 + (4 + i))) M hE hP 4 rfl (by decide) (by decide) (by decide) dX4_goOn_70 ?_
      refine z_re (v := .ref (ad (b2 + 4))) rfl ?_
      refine lv_aload_n M.1 M.2.1 dX4_goOn_71 rfl (lv_at hl 4 rfl) ?_
      refine zi_get (ci := 4) (v := .int (iI ypl)) M hE hP 0 rfl rfl zu_X4 0 (by decide) zk_fl_RX4_9 rfl rfl dX4_goOn_72 ?_
      refine zi_iald M hE hP 5 (n := 48) (g := dD) rfl (Nat.le_of_ble_eq_true rfl) (by omega) (by omega) dX4_goOn_75 ?_
      have hr_16 := g_dD ypl (by omega) (by omega)
      refine lv_aload_n M.1 M.2.1 dX4_goOn_76 rfl (lv_at hl 5 rfl) ?_
      refine zi_getN (ci := 0) (v := .ref (ad (b2 + 3))) M hE hP 1 rfl rfl zu_X0 7 (by decide) zk_fn_RX4_50 rfl rfl dX4_goOn_77 ?_
      refine zi_push M dX4_goOn_80 ?_
      refine zi_aald (n := 3) (f := fun i => ad (b2 + (4 + i))) M hE hP 4 rfl (by decide) (by decide) (by decide) dX4_goOn_81 ?_
      refine z_re (v := .ref (ad (b2 + 4))) rfl ?_
      refine lv_iload M.1 M.2.1 dX4_goOn_82 (lv_at hl 0 rfl) ?_
      refine zi_iald M hE hP 5 (n := 48) (g := dD) rfl (Nat.le_of_ble_eq_true rfl) (by omega) (by omega) dX4_goOn_84 ?_
      have hr_17 := g_dD (mvZ ea ypl (lenZ yL yan)) (by omega) (by omega)
      refine zi_iadd M dX4_goOn_85 ?_
      refine lv_istore (lv' := [(7, .int (iI ((dD ypl) + (dD (mvZ ea ypl (lenZ yL yan)))))), (6, .int (iI (mvZ ea ypl (lenZ yL yan)))), (5, .int (iI (lenZ yL yan))), (4, .int (iI yL)), (3, .int (iI 1)), (0, .ref (ad b)), (1, .ref (ad b2)), (2, .ref (ad b3))]) M.1 M.2.1 dX4_goOn_86 hl (by decide) rfl (fun ls hl => ?_)
      refine lv_aload_n M.1 M.2.1 dX4_goOn_88 rfl (lv_at hl 5 rfl) ?_
      refine zi_get (ci := 4) (v := .int (iI ylg)) M hE hP 0 rfl rfl zu_X4 5 (by decide) zk_fl_RX4_27 rfl rfl dX4_goOn_89 ?_
      refine zi_if_ne (tgt := 99) M dX4_goOn_92 (by decide) (by omega) (fun c_18 => ?_) (fun c_18 => ?_)
      ·
        refine lv_aload_n M.1 M.2.1 dX4_goOn_99 rfl (lv_at hl 7 rfl) ?_
        refine lv_aload_n M.1 M.2.1 dX4_goOn_100 rfl (lv_at hl 5 rfl) ?_
        refine zi_get (ci := 4) (v := .int (iI ypl)) M hE hP 0 rfl rfl zu_X4 0 (by decide) zk_fl_RX4_9 rfl rfl dX4_goOn_101 ?_
        refine z_cR (z_runV (As := [.int (iI ypl)]) (rest := []) M (c_X3_takes l D cy z0 ad b3 sea noi ypl g_sea (by omega)) hE hS hAz (hP.sub [8, 9, 10] rfl) (zRc.of (ci := 3) (q0 := 8) hE hP rfl rfl) zk_cd_X3_takes zk_in_RX3 zk_im_X3_takes zk_se_X3_takes zk_ml_RX4_54 rfl rfl zd_X3_takes ⟨by decide, by decide⟩ rfl hl.1 rfl (Nat.le_of_ble_eq_true rfl) dX4_goOn_104 ⟨by decide, by decide⟩) ?_
        have hx_19 : (if sea ypl = 0 then (6 : Int) else 3) = 6 ∨ (if sea ypl = 0 then (6 : Int) else 3) = 3 := by split <;> simp
        refine lv_istore (lv' := [(8, .int (iI (if sea ypl = 0 then 6 else 3))), (7, .int (iI ((dD ypl) + (dD (mvZ ea ypl (lenZ yL yan)))))), (6, .int (iI (mvZ ea ypl (lenZ yL yan)))), (5, .int (iI (lenZ yL yan))), (4, .int (iI yL)), (3, .int (iI 1)), (0, .ref (ad b)), (1, .ref (ad b2)), (2, .ref (ad b3))]) M.1 M.2.1 dX4_goOn_107 hl (by decide) rfl (fun ls hl => ?_)
        refine lv_aload_n M.1 M.2.1 dX4_goOn_109 rfl (lv_at hl 6 rfl) ?_
        refine lv_dup M.1 M.2.1 dX4_goOn_110 rfl ?_
        refine zi_get (ci := 4) (v := .int (iI yst)) M hE hP 0 rfl rfl zu_X4 4 (by decide) zk_fl_RX4_24 rfl rfl dX4_goOn_111 ?_
        refine lv_iload M.1 M.2.1 dX4_goOn_114 (lv_at hl 0 rfl) ?_
        refine zi_push M dX4_goOn_116 ?_
        refine zi_iadd M dX4_goOn_117 ?_
        refine lv_iload M.1 M.2.1 dX4_goOn_118 (lv_at hl 3 rfl) ?_
        refine zi_iadd M dX4_goOn_120 ?_
        refine lv_iload M.1 M.2.1 dX4_goOn_121 (lv_at hl 1 rfl) ?_
        refine zi_bipush M dX4_goOn_123 ⟨by decide, by decide⟩ ?_
        refine zi_imul M dX4_goOn_125 ?_
        refine lv_aload_n M.1 M.2.1 dX4_goOn_126 rfl (lv_at hl 6 rfl) ?_
        refine zi_get (ci := 4) (v := .int (iI yfr)) M hE hP 0 rfl rfl zu_X4 3 (by decide) zk_fl_RX4_21 rfl rfl dX4_goOn_127 ?_
        have hdv := divr (a := (dD ypl + dD (mvZ ea ypl (lenZ yL yan))) * 40) (b := yfr) (A := 80000) (by omega) (by omega) (by omega)
        refine zi_idiv M dX4_goOn_130 (by omega) (by omega) (by omega) (by omega) ?_
        refine zi_iadd M dX4_goOn_131 ?_
        refine zi_isub M dX4_goOn_132 ?_
        obtain ⟨w2, hw2⟩ : ∃ w : Int, w = yst - takZ dD sea ylg ypl (mvZ ea ypl (lenZ yL yan)) (lenZ yL yan) yfr := ⟨_, rfl⟩
        have hgn : gndZ sea ylg ypl = (if sea ypl = 0 then 6 else 3) := by unfold gndZ; first | exact if_pos (by assumption) | exact if_neg (by assumption)
        refine z_rw (b := w2) (by rw [hw2]; unfold takZ; rw [hgn]) ?_
        have htk := takZ_rg (sea := sea) (lg := ylg) g_dD hp1 hmv (lenZ_rg yL yan ha) hf
        refine zi_put (ci := 4) (ws' := ((rayW ad b cy ypl ydr yan yfr w2 ylg yle ydl) ++ ((airW ad b2 cy h su st sh fl cS cH dD dE dF) ++ (grdW ad b3 cy sea noi)))) M hE hP hD hS 0 rfl rfl zu_X4 4 (by decide) zk_fl_RX4_24 rfl rfl tyX4_ok nmX4 rfl rfl (Nat.le_of_ble_eq_true rfl) rfl dX4_goOn_133 (fun H locs hP hD hS => ?_)
        refine lv_aload_n M.1 M.2.1 dX4_goOn_136 rfl (lv_at hl 6 rfl) ?_
        refine zi_get (ci := 4) (v := .int (iI w2)) M hE hP 0 rfl rfl zu_X4 4 (by decide) zk_fl_RX4_24 rfl rfl dX4_goOn_137 ?_
        refine zi_if_ge (tgt := 145) M dX4_goOn_140 (by decide) (by omega) (fun c_20 => ?_) (fun c_20 => ?_)
        ·
          refine lv_aload_n M.1 M.2.1 dX4_goOn_145 rfl (lv_at hl 6 rfl) ?_
          refine lv_iload M.1 M.2.1 dX4_goOn_146 (lv_at hl 2 rfl) ?_
          refine zi_put (ci := 4) (ws' := ((rayW ad b cy (mvZ ea ypl (lenZ yL yan)) ydr yan yfr w2 ylg yle ydl) ++ ((airW ad b2 cy h su st sh fl cS cH dD dE dF) ++ (grdW ad b3 cy sea noi)))) M hE hP hD hS 0 rfl rfl zu_X4 0 (by decide) zk_fl_RX4_9 rfl rfl tyX4_ok nmX4 rfl rfl (Nat.le_of_ble_eq_true rfl) rfl dX4_goOn_148 (fun H locs hP hD hS => ?_)
          refine lv_aload_n M.1 M.2.1 dX4_goOn_151 rfl (lv_at hl 6 rfl) ?_
          refine lv_dup M.1 M.2.1 dX4_goOn_152 rfl ?_
          refine zi_get (ci := 4) (v := .int (iI ylg)) M hE hP 0 rfl rfl zu_X4 5 (by decide) zk_fl_RX4_27 rfl rfl dX4_goOn_153 ?_
          refine zi_push M dX4_goOn_156 ?_
          refine zi_iadd M dX4_goOn_157 ?_
          refine zi_put (ci := 4) (ws' := ((rayW ad b cy (mvZ ea ypl (lenZ yL yan)) ydr yan yfr w2 (ylg + 1) yle ydl) ++ ((airW ad b2 cy h su st sh fl cS cH dD dE dF) ++ (grdW ad b3 cy sea noi)))) M hE hP hD hS 0 rfl rfl zu_X4 5 (by decide) zk_fl_RX4_27 rfl rfl tyX4_ok nmX4 rfl rfl (Nat.le_of_ble_eq_true rfl) rfl dX4_goOn_158 (fun H locs hP hD hS => ?_)
          refine lv_iload M.1 M.2.1 dX4_goOn_161 (lv_at hl 4 rfl) ?_
          refine zi_push M dX4_goOn_163 ?_
          refine zi_icmp_ne (tgt := 177) M dX4_goOn_164 (by decide) (by omega) ⟨by decide, by decide⟩ (fun c_21 => ?_) (fun c_21 => ?_)
          ·
            refine lv_aload_n M.1 M.2.1 dX4_goOn_177 rfl (lv_at hl 6 rfl) ?_
            refine lv_dup M.1 M.2.1 dX4_goOn_178 rfl ?_
            refine zi_get (ci := 4) (v := .int (iI ydl)) M hE hP 0 rfl rfl zu_X4 7 (by decide) zk_fl_RX4_33 rfl rfl dX4_goOn_179 ?_
            refine zi_bipush M dX4_goOn_182 ⟨by decide, by decide⟩ ?_
            refine lv_iload M.1 M.2.1 dX4_goOn_184 (lv_at hl 3 rfl) ?_
            refine zi_imul M dX4_goOn_186 ?_
            refine lv_iload M.1 M.2.1 dX4_goOn_187 (lv_at hl 4 rfl) ?_
            refine zi_push M dX4_goOn_189 ?_
            refine zi_icmp_ne (tgt := 197) M dX4_goOn_190 (by decide) (by omega) ⟨by decide, by decide⟩ (fun _ => ?_) (fun q => absurd q c_21)
            refine zi_push M dX4_goOn_197 ?_
            refine zi_iadd M dX4_goOn_198 ?_
            refine zi_iadd M dX4_goOn_199 ?_
            refine zi_put (ci := 4) (ws' := ((rayW ad b cy (mvZ ea ypl (lenZ yL yan)) ydr yan yfr w2 (ylg + 1) yle (ydl + ((10 * (lenZ yL yan)) + 5))) ++ ((airW ad b2 cy h su st sh fl cS cH dD dE dF) ++ (grdW ad b3 cy sea noi)))) M hE hP hD hS 0 rfl rfl zu_X4 7 (by decide) zk_fl_RX4_33 rfl rfl tyX4_ok nmX4 rfl rfl (Nat.le_of_ble_eq_true rfl) rfl dX4_goOn_200 (fun H locs hP hD hS => ?_)
            refine zi_push M dX4_goOn_203 ?_
            have q1 : (if yL = 1 then (1 : Int) else 0) = 0 := if_neg (by assumption)
            have q2 : (if yL = 1 then (2 : Int) else 5) = 5 := if_neg (by assumption)
            have hP : va_P D vwCl ((rayW ad b cy ((u8 (mvZ ea ypl (lenZ yL yan)) ydr yan yfr w2 (ylg + 1) (yle + (if yL = 1 then 1 else 0)) (ydl + (10 * lenZ yL yan + (if yL = 1 then 2 else 5)))) 0) ((u8 (mvZ ea ypl (lenZ yL yan)) ydr yan yfr w2 (ylg + 1) (yle + (if yL = 1 then 1 else 0)) (ydl + (10 * lenZ yL yan + (if yL = 1 then 2 else 5)))) 1) ((u8 (mvZ ea ypl (lenZ yL yan)) ydr yan yfr w2 (ylg + 1) (yle + (if yL = 1 then 1 else 0)) (ydl + (10 * lenZ yL yan + (if yL = 1 then 2 else 5)))) 2) ((u8 (mvZ ea ypl (lenZ yL yan)) ydr yan yfr w2 (ylg + 1) (yle + (if yL = 1 then 1 else 0)) (ydl + (10 * lenZ yL yan + (if yL = 1 then 2 else 5)))) 3) ((u8 (mvZ ea ypl (lenZ yL yan)) ydr yan yfr w2 (ylg + 1) (yle + (if yL = 1 then 1 else 0)) (ydl + (10 * lenZ yL yan + (if yL = 1 then 2 else 5)))) 4) ((u8 (mvZ ea ypl (lenZ yL yan)) ydr yan yfr w2 (ylg + 1) (yle + (if yL = 1 then 1 else 0)) (ydl + (10 * lenZ yL yan + (if yL = 1 then 2 else 5)))) 5) ((u8 (mvZ ea ypl (lenZ yL yan)) ydr yan yfr w2 (ylg + 1) (yle + (if yL = 1 then 1 else 0)) (ydl + (10 * lenZ yL yan + (if yL = 1 then 2 else 5)))) 6) ((u8 (mvZ ea ypl (lenZ yL yan)) ydr yan yfr w2 (ylg + 1) (yle + (if yL = 1 then 1 else 0)) (ydl + (10 * lenZ yL yan + (if yL = 1 then 2 else 5)))) 7)) ++ ((airW ad b2 cy h su st sh fl cS cH dD dE dF) ++ (grdW ad b3 cy sea noi))) H := by rw [q1, q2, Int.add_zero]; exact hP
            exact zw_z M hr hlk (v := 1) (Or.inr rfl) (u8 (mvZ ea ypl (lenZ yL yan)) ydr yan yfr w2 (ylg + 1) (yle + (if yL = 1 then 1 else 0)) (ydl + (10 * lenZ yL yan + (if yL = 1 then 2 else 5)))) hP hS (by (refine Or.inl ⟨_, _, _, _, _, ?_, rfl, rfl⟩; unfold stepZ; rw [← hyL, if_neg (by omega), if_neg (by omega), hw2])) (by decide) (by decide) dX4_goOn_204
          ·
            refine lv_aload_n M.1 M.2.1 dX4_goOn_167 rfl (lv_at hl 6 rfl) ?_
            refine lv_dup M.1 M.2.1 dX4_goOn_168 rfl ?_
            refine zi_get (ci := 4) (v := .int (iI yle)) M hE hP 0 rfl rfl zu_X4 6 (by decide) zk_fl_RX4_30 rfl rfl dX4_goOn_169 ?_
            refine zi_push M dX4_goOn_172 ?_
            refine zi_iadd M dX4_goOn_173 ?_
            refine zi_put (ci := 4) (ws' := ((rayW ad b cy (mvZ ea ypl (lenZ yL yan)) ydr yan yfr w2 (ylg + 1) (yle + 1) ydl) ++ ((airW ad b2 cy h su st sh fl cS cH dD dE dF) ++ (grdW ad b3 cy sea noi)))) M hE hP hD hS 0 rfl rfl zu_X4 6 (by decide) zk_fl_RX4_30 rfl rfl tyX4_ok nmX4 rfl rfl (Nat.le_of_ble_eq_true rfl) rfl dX4_goOn_174 (fun H locs hP hD hS => ?_)
            refine lv_aload_n M.1 M.2.1 dX4_goOn_177 rfl (lv_at hl 6 rfl) ?_
            refine lv_dup M.1 M.2.1 dX4_goOn_178 rfl ?_
            refine zi_get (ci := 4) (v := .int (iI ydl)) M hE hP 0 rfl rfl zu_X4 7 (by decide) zk_fl_RX4_33 rfl rfl dX4_goOn_179 ?_
            refine zi_bipush M dX4_goOn_182 ⟨by decide, by decide⟩ ?_
            refine lv_iload M.1 M.2.1 dX4_goOn_184 (lv_at hl 3 rfl) ?_
            refine zi_imul M dX4_goOn_186 ?_
            refine lv_iload M.1 M.2.1 dX4_goOn_187 (lv_at hl 4 rfl) ?_
            refine zi_push M dX4_goOn_189 ?_
            refine zi_icmp_ne (tgt := 197) M dX4_goOn_190 (by decide) (by omega) ⟨by decide, by decide⟩ (fun q => absurd c_21 q) (fun _ => ?_)
            refine zi_push M dX4_goOn_193 ?_
            refine zi_goto (tgt := 198) M dX4_goOn_194 (by decide) ?_
            refine zi_iadd M dX4_goOn_198 ?_
            refine zi_iadd M dX4_goOn_199 ?_
            refine zi_put (ci := 4) (ws' := ((rayW ad b cy (mvZ ea ypl (lenZ yL yan)) ydr yan yfr w2 (ylg + 1) (yle + 1) (ydl + ((10 * (lenZ yL yan)) + 2))) ++ ((airW ad b2 cy h su st sh fl cS cH dD dE dF) ++ (grdW ad b3 cy sea noi)))) M hE hP hD hS 0 rfl rfl zu_X4 7 (by decide) zk_fl_RX4_33 rfl rfl tyX4_ok nmX4 rfl rfl (Nat.le_of_ble_eq_true rfl) rfl dX4_goOn_200 (fun H locs hP hD hS => ?_)
            refine zi_push M dX4_goOn_203 ?_
            have q1 : (if yL = 1 then (1 : Int) else 0) = 1 := if_pos (by assumption)
            have q2 : (if yL = 1 then (2 : Int) else 5) = 2 := if_pos (by assumption)
            have hP : va_P D vwCl ((rayW ad b cy ((u8 (mvZ ea ypl (lenZ yL yan)) ydr yan yfr w2 (ylg + 1) (yle + (if yL = 1 then 1 else 0)) (ydl + (10 * lenZ yL yan + (if yL = 1 then 2 else 5)))) 0) ((u8 (mvZ ea ypl (lenZ yL yan)) ydr yan yfr w2 (ylg + 1) (yle + (if yL = 1 then 1 else 0)) (ydl + (10 * lenZ yL yan + (if yL = 1 then 2 else 5)))) 1) ((u8 (mvZ ea ypl (lenZ yL yan)) ydr yan yfr w2 (ylg + 1) (yle + (if yL = 1 then 1 else 0)) (ydl + (10 * lenZ yL yan + (if yL = 1 then 2 else 5)))) 2) ((u8 (mvZ ea ypl (lenZ yL yan)) ydr yan yfr w2 (ylg + 1) (yle + (if yL = 1 then 1 else 0)) (ydl + (10 * lenZ yL yan + (if yL = 1 then 2 else 5)))) 3) ((u8 (mvZ ea ypl (lenZ yL yan)) ydr yan yfr w2 (ylg + 1) (yle + (if yL = 1 then 1 else 0)) (ydl + (10 * lenZ yL yan + (if yL = 1 then 2 else 5)))) 4) ((u8 (mvZ ea ypl (lenZ yL yan)) ydr yan yfr w2 (ylg + 1) (yle + (if yL = 1 then 1 else 0)) (ydl + (10 * lenZ yL yan + (if yL = 1 then 2 else 5)))) 5) ((u8 (mvZ ea ypl (lenZ yL yan)) ydr yan yfr w2 (ylg + 1) (yle + (if yL = 1 then 1 else 0)) (ydl + (10 * lenZ yL yan + (if yL = 1 then 2 else 5)))) 6) ((u8 (mvZ ea ypl (lenZ yL yan)) ydr yan yfr w2 (ylg + 1) (yle + (if yL = 1 then 1 else 0)) (ydl + (10 * lenZ yL yan + (if yL = 1 then 2 else 5)))) 7)) ++ ((airW ad b2 cy h su st sh fl cS cH dD dE dF) ++ (grdW ad b3 cy sea noi))) H := by rw [q1, q2]; exact hP
            exact zw_z M hr hlk (v := 1) (Or.inr rfl) (u8 (mvZ ea ypl (lenZ yL yan)) ydr yan yfr w2 (ylg + 1) (yle + (if yL = 1 then 1 else 0)) (ydl + (10 * lenZ yL yan + (if yL = 1 then 2 else 5)))) hP hS (by (refine Or.inl ⟨_, _, _, _, _, ?_, rfl, rfl⟩; unfold stepZ; rw [← hyL, if_neg (by omega), if_neg (by omega), hw2])) (by decide) (by decide) dX4_goOn_204
        ·
          refine zi_push M dX4_goOn_143 ?_
          have hP : va_P D vwCl ((rayW ad b cy ((u8 ypl ydr yan yfr w2 ylg yle ydl) 0) ((u8 ypl ydr yan yfr w2 ylg yle ydl) 1) ((u8 ypl ydr yan yfr w2 ylg yle ydl) 2) ((u8 ypl ydr yan yfr w2 ylg yle ydl) 3) ((u8 ypl ydr yan yfr w2 ylg yle ydl) 4) ((u8 ypl ydr yan yfr w2 ylg yle ydl) 5) ((u8 ypl ydr yan yfr w2 ylg yle ydl) 6) ((u8 ypl ydr yan yfr w2 ylg yle ydl) 7)) ++ ((airW ad b2 cy h su st sh fl cS cH dD dE dF) ++ (grdW ad b3 cy sea noi))) H := hP
          exact zw_z M hr hlk (v := 0) (Or.inl rfl) (u8 ypl ydr yan yfr w2 ylg yle ydl) hP hS (by (refine Or.inr ⟨?_, rfl⟩; unfold stepZ; rw [← hyL, if_neg (by omega), if_pos (by omega)])) (by decide) (by decide) dX4_goOn_144
      ·
        refine zi_push M dX4_goOn_95 ?_
        refine zi_goto (tgt := 107) M dX4_goOn_96 (by decide) ?_
        refine lv_istore (lv' := [(8, .int (iI 0)), (7, .int (iI ((dD ypl) + (dD (mvZ ea ypl (lenZ yL yan)))))), (6, .int (iI (mvZ ea ypl (lenZ yL yan)))), (5, .int (iI (lenZ yL yan))), (4, .int (iI yL)), (3, .int (iI 1)), (0, .ref (ad b)), (1, .ref (ad b2)), (2, .ref (ad b3))]) M.1 M.2.1 dX4_goOn_107 hl (by decide) rfl (fun ls hl => ?_)
        refine lv_aload_n M.1 M.2.1 dX4_goOn_109 rfl (lv_at hl 6 rfl) ?_
        refine lv_dup M.1 M.2.1 dX4_goOn_110 rfl ?_
        refine zi_get (ci := 4) (v := .int (iI yst)) M hE hP 0 rfl rfl zu_X4 4 (by decide) zk_fl_RX4_24 rfl rfl dX4_goOn_111 ?_
        refine lv_iload M.1 M.2.1 dX4_goOn_114 (lv_at hl 0 rfl) ?_
        refine zi_push M dX4_goOn_116 ?_
        refine zi_iadd M dX4_goOn_117 ?_
        refine lv_iload M.1 M.2.1 dX4_goOn_118 (lv_at hl 3 rfl) ?_
        refine zi_iadd M dX4_goOn_120 ?_
        refine lv_iload M.1 M.2.1 dX4_goOn_121 (lv_at hl 1 rfl) ?_
        refine zi_bipush M dX4_goOn_123 ⟨by decide, by decide⟩ ?_
        refine zi_imul M dX4_goOn_125 ?_
        refine lv_aload_n M.1 M.2.1 dX4_goOn_126 rfl (lv_at hl 6 rfl) ?_
        refine zi_get (ci := 4) (v := .int (iI yfr)) M hE hP 0 rfl rfl zu_X4 3 (by decide) zk_fl_RX4_21 rfl rfl dX4_goOn_127 ?_
        have hdv := divr (a := (dD ypl + dD (mvZ ea ypl (lenZ yL yan))) * 40) (b := yfr) (A := 80000) (by omega) (by omega) (by omega)
        refine zi_idiv M dX4_goOn_130 (by omega) (by omega) (by omega) (by omega) ?_
        refine zi_iadd M dX4_goOn_131 ?_
        refine zi_isub M dX4_goOn_132 ?_
        obtain ⟨w2, hw2⟩ : ∃ w : Int, w = yst - takZ dD sea ylg ypl (mvZ ea ypl (lenZ yL yan)) (lenZ yL yan) yfr := ⟨_, rfl⟩
        have hgn : gndZ sea ylg ypl = 0 := by unfold gndZ; first | exact if_pos (by assumption) | exact if_neg (by assumption)
        refine z_rw (b := w2) (by rw [hw2]; unfold takZ; rw [hgn]) ?_
        have htk := takZ_rg (sea := sea) (lg := ylg) g_dD hp1 hmv (lenZ_rg yL yan ha) hf
        refine zi_put (ci := 4) (ws' := ((rayW ad b cy ypl ydr yan yfr w2 ylg yle ydl) ++ ((airW ad b2 cy h su st sh fl cS cH dD dE dF) ++ (grdW ad b3 cy sea noi)))) M hE hP hD hS 0 rfl rfl zu_X4 4 (by decide) zk_fl_RX4_24 rfl rfl tyX4_ok nmX4 rfl rfl (Nat.le_of_ble_eq_true rfl) rfl dX4_goOn_133 (fun H locs hP hD hS => ?_)
        refine lv_aload_n M.1 M.2.1 dX4_goOn_136 rfl (lv_at hl 6 rfl) ?_
        refine zi_get (ci := 4) (v := .int (iI w2)) M hE hP 0 rfl rfl zu_X4 4 (by decide) zk_fl_RX4_24 rfl rfl dX4_goOn_137 ?_
        refine zi_if_ge (tgt := 145) M dX4_goOn_140 (by decide) (by omega) (fun c_22 => ?_) (fun c_22 => ?_)
        ·
          refine lv_aload_n M.1 M.2.1 dX4_goOn_145 rfl (lv_at hl 6 rfl) ?_
          refine lv_iload M.1 M.2.1 dX4_goOn_146 (lv_at hl 2 rfl) ?_
          refine zi_put (ci := 4) (ws' := ((rayW ad b cy (mvZ ea ypl (lenZ yL yan)) ydr yan yfr w2 ylg yle ydl) ++ ((airW ad b2 cy h su st sh fl cS cH dD dE dF) ++ (grdW ad b3 cy sea noi)))) M hE hP hD hS 0 rfl rfl zu_X4 0 (by decide) zk_fl_RX4_9 rfl rfl tyX4_ok nmX4 rfl rfl (Nat.le_of_ble_eq_true rfl) rfl dX4_goOn_148 (fun H locs hP hD hS => ?_)
          refine lv_aload_n M.1 M.2.1 dX4_goOn_151 rfl (lv_at hl 6 rfl) ?_
          refine lv_dup M.1 M.2.1 dX4_goOn_152 rfl ?_
          refine zi_get (ci := 4) (v := .int (iI ylg)) M hE hP 0 rfl rfl zu_X4 5 (by decide) zk_fl_RX4_27 rfl rfl dX4_goOn_153 ?_
          refine zi_push M dX4_goOn_156 ?_
          refine zi_iadd M dX4_goOn_157 ?_
          refine zi_put (ci := 4) (ws' := ((rayW ad b cy (mvZ ea ypl (lenZ yL yan)) ydr yan yfr w2 (ylg + 1) yle ydl) ++ ((airW ad b2 cy h su st sh fl cS cH dD dE dF) ++ (grdW ad b3 cy sea noi)))) M hE hP hD hS 0 rfl rfl zu_X4 5 (by decide) zk_fl_RX4_27 rfl rfl tyX4_ok nmX4 rfl rfl (Nat.le_of_ble_eq_true rfl) rfl dX4_goOn_158 (fun H locs hP hD hS => ?_)
          refine lv_iload M.1 M.2.1 dX4_goOn_161 (lv_at hl 4 rfl) ?_
          refine zi_push M dX4_goOn_163 ?_
          refine zi_icmp_ne (tgt := 177) M dX4_goOn_164 (by decide) (by omega) ⟨by decide, by decide⟩ (fun c_23 => ?_) (fun c_23 => ?_)
          ·
            refine lv_aload_n M.1 M.2.1 dX4_goOn_177 rfl (lv_at hl 6 rfl) ?_
            refine lv_dup M.1 M.2.1 dX4_goOn_178 rfl ?_
            refine zi_get (ci := 4) (v := .int (iI ydl)) M hE hP 0 rfl rfl zu_X4 7 (by decide) zk_fl_RX4_33 rfl rfl dX4_goOn_179 ?_
            refine zi_bipush M dX4_goOn_182 ⟨by decide, by decide⟩ ?_
            refine lv_iload M.1 M.2.1 dX4_goOn_184 (lv_at hl 3 rfl) ?_
            refine zi_imul M dX4_goOn_186 ?_
            refine lv_iload M.1 M.2.1 dX4_goOn_187 (lv_at hl 4 rfl) ?_
            refine zi_push M dX4_goOn_189 ?_
            refine zi_icmp_ne (tgt := 197) M dX4_goOn_190 (by decide) (by omega) ⟨by decide, by decide⟩ (fun _ => ?_) (fun q => absurd q c_23)
            refine zi_push M dX4_goOn_197 ?_
            refine zi_iadd M dX4_goOn_198 ?_
            refine zi_iadd M dX4_goOn_199 ?_
            refine zi_put (ci := 4) (ws' := ((rayW ad b cy (mvZ ea ypl (lenZ yL yan)) ydr yan yfr w2 (ylg + 1) yle (ydl + ((10 * (lenZ yL yan)) + 5))) ++ ((airW ad b2 cy h su st sh fl cS cH dD dE dF) ++ (grdW ad b3 cy sea noi)))) M hE hP hD hS 0 rfl rfl zu_X4 7 (by decide) zk_fl_RX4_33 rfl rfl tyX4_ok nmX4 rfl rfl (Nat.le_of_ble_eq_true rfl) rfl dX4_goOn_200 (fun H locs hP hD hS => ?_)
            refine zi_push M dX4_goOn_203 ?_
            have q1 : (if yL = 1 then (1 : Int) else 0) = 0 := if_neg (by assumption)
            have q2 : (if yL = 1 then (2 : Int) else 5) = 5 := if_neg (by assumption)
            have hP : va_P D vwCl ((rayW ad b cy ((u8 (mvZ ea ypl (lenZ yL yan)) ydr yan yfr w2 (ylg + 1) (yle + (if yL = 1 then 1 else 0)) (ydl + (10 * lenZ yL yan + (if yL = 1 then 2 else 5)))) 0) ((u8 (mvZ ea ypl (lenZ yL yan)) ydr yan yfr w2 (ylg + 1) (yle + (if yL = 1 then 1 else 0)) (ydl + (10 * lenZ yL yan + (if yL = 1 then 2 else 5)))) 1) ((u8 (mvZ ea ypl (lenZ yL yan)) ydr yan yfr w2 (ylg + 1) (yle + (if yL = 1 then 1 else 0)) (ydl + (10 * lenZ yL yan + (if yL = 1 then 2 else 5)))) 2) ((u8 (mvZ ea ypl (lenZ yL yan)) ydr yan yfr w2 (ylg + 1) (yle + (if yL = 1 then 1 else 0)) (ydl + (10 * lenZ yL yan + (if yL = 1 then 2 else 5)))) 3) ((u8 (mvZ ea ypl (lenZ yL yan)) ydr yan yfr w2 (ylg + 1) (yle + (if yL = 1 then 1 else 0)) (ydl + (10 * lenZ yL yan + (if yL = 1 then 2 else 5)))) 4) ((u8 (mvZ ea ypl (lenZ yL yan)) ydr yan yfr w2 (ylg + 1) (yle + (if yL = 1 then 1 else 0)) (ydl + (10 * lenZ yL yan + (if yL = 1 then 2 else 5)))) 5) ((u8 (mvZ ea ypl (lenZ yL yan)) ydr yan yfr w2 (ylg + 1) (yle + (if yL = 1 then 1 else 0)) (ydl + (10 * lenZ yL yan + (if yL = 1 then 2 else 5)))) 6) ((u8 (mvZ ea ypl (lenZ yL yan)) ydr yan yfr w2 (ylg + 1) (yle + (if yL = 1 then 1 else 0)) (ydl + (10 * lenZ yL yan + (if yL = 1 then 2 else 5)))) 7)) ++ ((airW ad b2 cy h su st sh fl cS cH dD dE dF) ++ (grdW ad b3 cy sea noi))) H := by rw [q1, q2, Int.add_zero]; exact hP
            exact zw_z M hr hlk (v := 1) (Or.inr rfl) (u8 (mvZ ea ypl (lenZ yL yan)) ydr yan yfr w2 (ylg + 1) (yle + (if yL = 1 then 1 else 0)) (ydl + (10 * lenZ yL yan + (if yL = 1 then 2 else 5)))) hP hS (by (refine Or.inl ⟨_, _, _, _, _, ?_, rfl, rfl⟩; unfold stepZ; rw [← hyL, if_neg (by omega), if_neg (by omega), hw2])) (by decide) (by decide) dX4_goOn_204
          ·
            refine lv_aload_n M.1 M.2.1 dX4_goOn_167 rfl (lv_at hl 6 rfl) ?_
            refine lv_dup M.1 M.2.1 dX4_goOn_168 rfl ?_
            refine zi_get (ci := 4) (v := .int (iI yle)) M hE hP 0 rfl rfl zu_X4 6 (by decide) zk_fl_RX4_30 rfl rfl dX4_goOn_169 ?_
            refine zi_push M dX4_goOn_172 ?_
            refine zi_iadd M dX4_goOn_173 ?_
            refine zi_put (ci := 4) (ws' := ((rayW ad b cy (mvZ ea ypl (lenZ yL yan)) ydr yan yfr w2 (ylg + 1) (yle + 1) ydl) ++ ((airW ad b2 cy h su st sh fl cS cH dD dE dF) ++ (grdW ad b3 cy sea noi)))) M hE hP hD hS 0 rfl rfl zu_X4 6 (by decide) zk_fl_RX4_30 rfl rfl tyX4_ok nmX4 rfl rfl (Nat.le_of_ble_eq_true rfl) rfl dX4_goOn_174 (fun H locs hP hD hS => ?_)
            refine lv_aload_n M.1 M.2.1 dX4_goOn_177 rfl (lv_at hl 6 rfl) ?_
            refine lv_dup M.1 M.2.1 dX4_goOn_178 rfl ?_
            refine zi_get (ci := 4) (v := .int (iI ydl)) M hE hP 0 rfl rfl zu_X4 7 (by decide) zk_fl_RX4_33 rfl rfl dX4_goOn_179 ?_
            refine zi_bipush M dX4_goOn_182 ⟨by decide, by decide⟩ ?_
            refine lv_iload M.1 M.2.1 dX4_goOn_184 (lv_at hl 3 rfl) ?_
            refine zi_imul M dX4_goOn_186 ?_
            refine lv_iload M.1 M.2.1 dX4_goOn_187 (lv_at hl 4 rfl) ?_
            refine zi_push M dX4_goOn_189 ?_
            refine zi_icmp_ne (tgt := 197) M dX4_goOn_190 (by decide) (by omega) ⟨by decide, by decide⟩ (fun q => absurd c_23 q) (fun _ => ?_)
            refine zi_push M dX4_goOn_193 ?_
            refine zi_goto (tgt := 198) M dX4_goOn_194 (by decide) ?_
            refine zi_iadd M dX4_goOn_198 ?_
            refine zi_iadd M dX4_goOn_199 ?_
            refine zi_put (ci := 4) (ws' := ((rayW ad b cy (mvZ ea ypl (lenZ yL yan)) ydr yan yfr w2 (ylg + 1) (yle + 1) (ydl + ((10 * (lenZ yL yan)) + 2))) ++ ((airW ad b2 cy h su st sh fl cS cH dD dE dF) ++ (grdW ad b3 cy sea noi)))) M hE hP hD hS 0 rfl rfl zu_X4 7 (by decide) zk_fl_RX4_33 rfl rfl tyX4_ok nmX4 rfl rfl (Nat.le_of_ble_eq_true rfl) rfl dX4_goOn_200 (fun H locs hP hD hS => ?_)
            refine zi_push M dX4_goOn_203 ?_
            have q1 : (if yL = 1 then (1 : Int) else 0) = 1 := if_pos (by assumption)
            have q2 : (if yL = 1 then (2 : Int) else 5) = 2 := if_pos (by assumption)
            have hP : va_P D vwCl ((rayW ad b cy ((u8 (mvZ ea ypl (lenZ yL yan)) ydr yan yfr w2 (ylg + 1) (yle + (if yL = 1 then 1 else 0)) (ydl + (10 * lenZ yL yan + (if yL = 1 then 2 else 5)))) 0) ((u8 (mvZ ea ypl (lenZ yL yan)) ydr yan yfr w2 (ylg + 1) (yle + (if yL = 1 then 1 else 0)) (ydl + (10 * lenZ yL yan + (if yL = 1 then 2 else 5)))) 1) ((u8 (mvZ ea ypl (lenZ yL yan)) ydr yan yfr w2 (ylg + 1) (yle + (if yL = 1 then 1 else 0)) (ydl + (10 * lenZ yL yan + (if yL = 1 then 2 else 5)))) 2) ((u8 (mvZ ea ypl (lenZ yL yan)) ydr yan yfr w2 (ylg + 1) (yle + (if yL = 1 then 1 else 0)) (ydl + (10 * lenZ yL yan + (if yL = 1 then 2 else 5)))) 3) ((u8 (mvZ ea ypl (lenZ yL yan)) ydr yan yfr w2 (ylg + 1) (yle + (if yL = 1 then 1 else 0)) (ydl + (10 * lenZ yL yan + (if yL = 1 then 2 else 5)))) 4) ((u8 (mvZ ea ypl (lenZ yL yan)) ydr yan yfr w2 (ylg + 1) (yle + (if yL = 1 then 1 else 0)) (ydl + (10 * lenZ yL yan + (if yL = 1 then 2 else 5)))) 5) ((u8 (mvZ ea ypl (lenZ yL yan)) ydr yan yfr w2 (ylg + 1) (yle + (if yL = 1 then 1 else 0)) (ydl + (10 * lenZ yL yan + (if yL = 1 then 2 else 5)))) 6) ((u8 (mvZ ea ypl (lenZ yL yan)) ydr yan yfr w2 (ylg + 1) (yle + (if yL = 1 then 1 else 0)) (ydl + (10 * lenZ yL yan + (if yL = 1 then 2 else 5)))) 7)) ++ ((airW ad b2 cy h su st sh fl cS cH dD dE dF) ++ (grdW ad b3 cy sea noi))) H := by rw [q1, q2]; exact hP
            exact zw_z M hr hlk (v := 1) (Or.inr rfl) (u8 (mvZ ea ypl (lenZ yL yan)) ydr yan yfr w2 (ylg + 1) (yle + (if yL = 1 then 1 else 0)) (ydl + (10 * lenZ yL yan + (if yL = 1 then 2 else 5)))) hP hS (by (refine Or.inl ⟨_, _, _, _, _, ?_, rfl, rfl⟩; unfold stepZ; rw [← hyL, if_neg (by omega), if_neg (by omega), hw2])) (by decide) (by decide) dX4_goOn_204
        ·
          refine zi_push M dX4_goOn_143 ?_
          have hP : va_P D vwCl ((rayW ad b cy ((u8 ypl ydr yan yfr w2 ylg yle ydl) 0) ((u8 ypl ydr yan yfr w2 ylg yle ydl) 1) ((u8 ypl ydr yan yfr w2 ylg yle ydl) 2) ((u8 ypl ydr yan yfr w2 ylg yle ydl) 3) ((u8 ypl ydr yan yfr w2 ylg yle ydl) 4) ((u8 ypl ydr yan yfr w2 ylg yle ydl) 5) ((u8 ypl ydr yan yfr w2 ylg yle ydl) 6) ((u8 ypl ydr yan yfr w2 ylg yle ydl) 7)) ++ ((airW ad b2 cy h su st sh fl cS cH dD dE dF) ++ (grdW ad b3 cy sea noi))) H := hP
          exact zw_z M hr hlk (v := 0) (Or.inl rfl) (u8 ypl ydr yan yfr w2 ylg yle ydl) hP hS (by (refine Or.inr ⟨?_, rfl⟩; unfold stepZ; rw [← hyL, if_neg (by omega), if_pos (by omega)])) (by decide) (by decide) dX4_goOn_144
    ·
      refine zi_push M dX4_goOn_38 ?_
      have hP : va_P D vwCl ((rayW ad b cy ((u8 ypl ydr yan yfr yst ylg yle ydl) 0) ((u8 ypl ydr yan yfr yst ylg yle ydl) 1) ((u8 ypl ydr yan yfr yst ylg yle ydl) 2) ((u8 ypl ydr yan yfr yst ylg yle ydl) 3) ((u8 ypl ydr yan yfr yst ylg yle ydl) 4) ((u8 ypl ydr yan yfr yst ylg yle ydl) 5) ((u8 ypl ydr yan yfr yst ylg yle ydl) 6) ((u8 ypl ydr yan yfr yst ylg yle ydl) 7)) ++ ((airW ad b2 cy h su st sh fl cS cH dD dE dF) ++ (grdW ad b3 cy sea noi))) s.heap := hP
      exact zw_z M hr hlk (v := 0) (Or.inl rfl) (u8 ypl ydr yan yfr yst ylg yle ydl) hP hS (by (refine Or.inr ⟨?_, rfl⟩; unfold stepZ; rw [← hyL, if_pos (by omega)])) (by decide) (by decide) dX4_goOn_39

set_option maxRecDepth 100000 in
set_option maxHeartbeats 4000000 in
theorem c_X6_reaches (l : Launch) (D : va_G) (cy : Nat → ClassId) (z0 : Nat) (ad : Nat → Nat) (b : Nat) (fm fr h su st sh fl ypl ydr yan yfr yst ylg yle ydl : Int) (cS cH dD dE dF sea noi : Int → Int) (q : Int) (t : Int) (n : Int) (f : Int) (w : Int) (g_dD : zrg 48 0 1000 dD) (g_dE : zrg 48 0 1000 dE) (g_dF : zrg 48 0 1000 dF) (g_sea : zrg 48 0 1 sea) (hq : 0 ≤ q ∧ q < 48) (ht0 : 0 ≤ t ∧ t < 48) (hn : 0 ≤ n ∧ n < 18) (hf : 10 ≤ f ∧ f ≤ 300) (hw : 0 ≤ w ∧ w ≤ 200) : Met l yX6_reaches [.code yX6_reaches cX6_reaches 8 (some .boolean)] (zRm 3 0 0 76) (zPc [.ref (ad 0), .ref (ad b), .int (iI q), .int (iI t), .int (iI n), .int (iI f), .int (iI w)] D cy z0 (zWl D z0 ((rooW ad 0 cy fm fr) ++ ((airW ad b cy h su st sh fl cS cH dD dE dF) ++ ((grdW ad 15 cy sea noi) ++ (rayW ad 18 cy ypl ydr yan yfr yst ylg yle ydl)))))) (zQ1 D ((rooW ad 0 cy fm fr) ++ ((airW ad b cy h su st sh fl cS cH dD dE dF) ++ ((grdW ad 15 cy sea noi) ++ (rayW ad 18 cy ypl ydr yan yfr yst ylg yle ydl)))) (fun (r : Int32) (u : Nat → Int) => (∃ w2 lg2 le2 dl2 : Int, rayZ dE dF dD sea q t f w n = some (w2, lg2, le2, dl2) ∧ r = iI 1 ∧ u = u8 t (drZ n) (n % 9 + 1) f w2 lg2 le2 dl2) ∨ (rayZ dE dF dD sea q t f w n = none ∧ r = iI 0)) (fun (u : Nat → Int) => ((rooW ad 0 cy fm fr) ++ ((airW ad b cy h su st sh fl cS cH dD dE dF) ++ ((grdW ad 15 cy sea noi) ++ (rayW ad 18 cy (u 0) (u 1) (u 2) (u 3) (u 4) (u 5) (u 6) (u 7))))))) 0 0 (zIn ((rooW ad 0 cy fm fr) ++ ((airW ad b cy h su st sh fl cS cH dD dE dF) ++ ((grdW ad 15 cy sea noi) ++ (rayW ad 18 cy ypl ydr yan yfr yst ylg yle ydl))))) := by
  refine z_of (by decide) (Nat.le_of_ble_eq_true rfl) ?_
  intro p e s m args below meth c M hr hlk hini hargs hP0 hE ls hl
  have hP : va_P D vwCl ((rooW ad 0 cy fm fr) ++ ((airW ad b cy h su st sh fl cS cH dD dE dF) ++ ((grdW ad 15 cy sea noi) ++ (rayW ad 18 cy ypl ydr yan yfr yst ylg yle ydl)))) s.heap := hP0.1
  have hD : va_D (zIn ((rooW ad 0 cy fm fr) ++ ((airW ad b cy h su st sh fl cS cH dD dE dF) ++ ((grdW ad 15 cy sea noi) ++ (rayW ad 18 cy ypl ydr yan yfr yst ylg yle ydl))))) ((rooW ad 0 cy fm fr) ++ ((airW ad b cy h su st sh fl cS cH dD dE dF) ++ ((grdW ad 15 cy sea noi) ++ (rayW ad 18 cy ypl ydr yan yfr yst ylg yle ydl)))) := hP0.self
  have hAz := hP0.A
  have hS : va_S (zIn ((rooW ad 0 cy fm fr) ++ ((airW ad b cy h su st sh fl cS cH dD dE dF) ++ ((grdW ad 15 cy sea noi) ++ (rayW ad 18 cy ypl ydr yan yfr yst ylg yle ydl))))) s.heap s.heap [] := va_S.rf
  have hl : lv_has ls 8 [(0, .ref (ad 0)), (1, .ref (ad b)), (2, .int (iI q)), (3, .int (iI t)), (4, .int (iI n)), (5, .int (iI f)), (6, .int (iI w))] := hl
  have hdc := drZ_c n
  refine lv_aload_n M.1 M.2.1 dX6_reaches_0 rfl (lv_at hl 0 rfl) ?_
  refine zi_get (ci := 6) (v := .ref (ad 18)) M hE hP 0 rfl rfl zu_X6 3 (by decide) zk_fl_RX6_29 rfl rfl dX6_reaches_1 ?_
  refine lv_iload_n M.1 M.2.1 dX6_reaches_4 rfl (lv_at hl 2 rfl) ?_
  refine lv_iload M.1 M.2.1 dX6_reaches_5 (lv_at hl 4 rfl) ?_
  refine z_cR (z_runS (As := [.int (iI n)]) (rest := [.int (iI q), .ref (ad 18)]) M (c_X6_directionOf l D cy z0 n (by omega)) hE hS hAz trivial zk_cd_X6_directionOf zk_in_RX6 zk_st_X6_directionOf zk_ml_RX6_288 rfl rfl zd_X6_directionOf ⟨by decide, by decide⟩ rfl hl.1 rfl (Nat.le_of_ble_eq_true rfl) dX6_reaches_7 ⟨by decide, by decide⟩) ?_
  have hx_1 := drZ_c n
  refine lv_iload M.1 M.2.1 dX6_reaches_10 (lv_at hl 4 rfl) ?_
  refine z_cR (z_runS (As := [.int (iI n)]) (rest := [.int (iI (drZ n)), .int (iI q), .ref (ad 18)]) M (c_X6_angleOf l D cy z0 n (by omega)) hE hS hAz trivial zk_cd_X6_angleOf zk_in_RX6 zk_st_X6_angleOf zk_ml_RX6_291 rfl rfl zd_X6_angleOf ⟨by decide, by decide⟩ rfl hl.1 rfl (Nat.le_of_ble_eq_true rfl) dX6_reaches_12 ⟨by decide, by decide⟩) ?_
  refine lv_iload M.1 M.2.1 dX6_reaches_15 (lv_at hl 5 rfl) ?_
  refine lv_iload M.1 M.2.1 dX6_reaches_17 (lv_at hl 6 rfl) ?_
  refine z_cV (z_runV (As := [.int (iI q), .int (iI (drZ n)), .int (iI (n % 9 + 1)), .int (iI f), .int (iI w)]) (rest := []) M (c_X4_leave l D cy z0 ad 18 ypl ydr yan yfr yst ylg yle ydl q (drZ n) (n % 9 + 1) f w) hE hS hAz (z_cut hP hD hAz [11] rfl (by decide +kernel)) (zRc.of (ci := 4) (q0 := 11) hE hP rfl rfl) zk_cd_X4_leave zk_in_RX4 zk_im_X4_leave zk_se_X4_leave zk_ml_RX6_294 rfl rfl zd_X4_leave ⟨by decide, by decide⟩ rfl hl.1 rfl (Nat.le_of_ble_eq_true rfl) dX6_reaches_19 ⟨by decide, by decide⟩) hP hD hS [11] rfl (fun _ => rfl) (fun u_2 H locs hp_2 hP hD hS => ?_)
  have hP : va_P D vwCl ((rooW ad 0 cy fm fr) ++ ((airW ad b cy h su st sh fl cS cH dD dE dF) ++ ((grdW ad 15 cy sea noi) ++ (rayW ad 18 cy q (drZ n) (n % 9 + 1) f w 0 0 0)))) H := hP
  have hD : va_D (zIn ((rooW ad 0 cy fm fr) ++ ((airW ad b cy h su st sh fl cS cH dD dE dF) ++ ((grdW ad 15 cy sea noi) ++ (rayW ad 18 cy ypl ydr yan yfr yst ylg yle ydl))))) ((rooW ad 0 cy fm fr) ++ ((airW ad b cy h su st sh fl cS cH dD dE dF) ++ ((grdW ad 15 cy sea noi) ++ (rayW ad 18 cy q (drZ n) (n % 9 + 1) f w 0 0 0)))) := hD
  refine zi_push M dX6_reaches_22 ?_
  refine lv_istore (lv' := [(7, .int (iI 0)), (0, .ref (ad 0)), (1, .ref (ad b)), (2, .int (iI q)), (3, .int (iI t)), (4, .int (iI n)), (5, .int (iI f)), (6, .int (iI w))]) M.1 M.2.1 dX6_reaches_23 hl (by decide) rfl (fun ls hl => ?_)
  have L_25 : ∀ (k_25 : Nat) (i : Int) (xp : Int) (xw : Int) (xg : Int) (xe : Int) (xd : Int) (hi : 0 ≤ i ∧ i ≤ 10) (hgo : rayZ dE dF dD sea q t f w n = goZ dE dF dD sea (eaZ n) (n % 9 + 1) f t (10 - i).toNat xp xw xg xe xd) (hxp : 0 ≤ xp ∧ xp < 48) (hxw : 0 ≤ xw ∧ xw ≤ 200) (hxg : xg = i) (hm : 10 - i < (k_25 : Int)) (H : Heap) (locs : List Loc) (hP : va_P D vwCl ((rooW ad 0 cy fm fr) ++ ((airW ad b cy h su st sh fl cS cH dD dE dF) ++ ((grdW ad 15 cy sea noi) ++ (rayW ad 18 cy xp (drZ n) (n % 9 + 1) f xw xg xe xd)))) H) (hD : va_D (zIn ((rooW ad 0 cy fm fr) ++ ((airW ad b cy h su st sh fl cS cH dD dE dF) ++ ((grdW ad 15 cy sea noi) ++ (rayW ad 18 cy ypl ydr yan yfr yst ylg yle ydl))))) ((rooW ad 0 cy fm fr) ++ ((airW ad b cy h su st sh fl cS cH dD dE dF) ++ ((grdW ad 15 cy sea noi) ++ (rayW ad 18 cy xp (drZ n) (n % 9 + 1) f xw xg xe xd))))) (hS : va_S (zIn ((rooW ad 0 cy fm fr) ++ ((airW ad b cy h su st sh fl cS cH dD dE dF) ++ ((grdW ad 15 cy sea noi) ++ (rayW ad 18 cy ypl ydr yan yfr yst ylg yle ydl))))) s.heap H locs) (ls : Array Slot) (hl : lv_has ls 8 [(0, .ref (ad 0)), (1, .ref (ad b)), (2, .int (iI q)), (3, .int (iI t)), (4, .int (iI n)), (5, .int (iI f)), (6, .int (iI w)), (7, .int (iI i))]), W p l e (zRm 3 0 0 76) s m args below meth c H locs 0 0 (MQ below (zQ1 D ((rooW ad 0 cy fm fr) ++ ((airW ad b cy h su st sh fl cS cH dD dE dF) ++ ((grdW ad 15 cy sea noi) ++ (rayW ad 18 cy ypl ydr yan yfr yst ylg yle ydl)))) (fun (r : Int32) (u : Nat → Int) => (∃ w2 lg2 le2 dl2 : Int, rayZ dE dF dD sea q t f w n = some (w2, lg2, le2, dl2) ∧ r = iI 1 ∧ u = u8 t (drZ n) (n % 9 + 1) f w2 lg2 le2 dl2) ∨ (rayZ dE dF dD sea q t f w n = none ∧ r = iI 0)) (fun (u : Nat → Int) => ((rooW ad 0 cy fm fr) ++ ((airW ad b cy h su st sh fl cS cH dD dE dF) ++ ((grdW ad 15 cy sea noi) ++ (rayW ad 18 cy (u 0) (u 1) (u 2) (u 3) (u 4) (u 5) (u 6) (u 7))))))) args s 0 0 (zIn ((rooW ad 0 cy fm fr) ++ ((airW ad b cy h su st sh fl cS cH dD dE dF) ++ ((grdW ad 15 cy sea noi) ++ (rayW ad 18 cy ypl ydr yan yfr yst ylg yle ydl)))))) (F0 m 25 ls []) := by
    intro k_25
    induction k_25 with
    | zero =>
      intro i xp xw xg xe xd hi hgo hxp hxw hxg hm H locs hP hD hS ls hl
      exact absurd hm (by omega)
    | succ k_25 ih_25 =>
      intro i xp xw xg xe xd hi hgo hxp hxw hxg hm H locs hP hD hS ls hl
      refine lv_iload M.1 M.2.1 dX6_reaches_25 (lv_at hl 7 rfl) ?_
      refine zi_bipush M dX6_reaches_27 ⟨by decide, by decide⟩ ?_
      refine zi_icmp_ge (tgt := 68) M dX6_reaches_29 (by decide) (by omega) ⟨by decide, by decide⟩ (fun c_3 => ?_) (fun c_3 => ?_)
      ·
        have hz0 := hgo
        rw [show (10 - i).toNat = 0 from by omega] at hz0
        refine zi_push M dX6_reaches_68 ?_
        have hP : va_P D vwCl ((rooW ad 0 cy fm fr) ++ ((airW ad b cy h su st sh fl cS cH dD dE dF) ++ ((grdW ad 15 cy sea noi) ++ (rayW ad 18 cy ((u8 xp (drZ n) (n % 9 + 1) f xw xg xe xd) 0) ((u8 xp (drZ n) (n % 9 + 1) f xw xg xe xd) 1) ((u8 xp (drZ n) (n % 9 + 1) f xw xg xe xd) 2) ((u8 xp (drZ n) (n % 9 + 1) f xw xg xe xd) 3) ((u8 xp (drZ n) (n % 9 + 1) f xw xg xe xd) 4) ((u8 xp (drZ n) (n % 9 + 1) f xw xg xe xd) 5) ((u8 xp (drZ n) (n % 9 + 1) f xw xg xe xd) 6) ((u8 xp (drZ n) (n % 9 + 1) f xw xg xe xd) 7))))) H := hP
        exact zw_z M hr hlk (v := 0) (Or.inl rfl) (u8 xp (drZ n) (n % 9 + 1) f xw xg xe xd) hP hS (by (exact Or.inr ⟨hz0, rfl⟩)) (by decide) (by decide) dX6_reaches_69
      ·
        refine lv_aload_n M.1 M.2.1 dX6_reaches_32 rfl (lv_at hl 0 rfl) ?_
        refine zi_get (ci := 6) (v := .ref (ad 18)) M hE hP 0 rfl rfl zu_X6 3 (by decide) zk_fl_RX6_29 rfl rfl dX6_reaches_33 ?_
        refine lv_aload_n M.1 M.2.1 dX6_reaches_36 rfl (lv_at hl 1 rfl) ?_
        refine lv_aload_n M.1 M.2.1 dX6_reaches_37 rfl (lv_at hl 0 rfl) ?_
        refine zi_get (ci := 6) (v := .ref (ad 15)) M hE hP 0 rfl rfl zu_X6 2 (by decide) zk_fl_RX6_22 rfl rfl dX6_reaches_38 ?_
        refine z_cW (z_runV (As := [.ref (ad b), .ref (ad 15)]) (rest := []) M (c_X4_goOn l D cy z0 ad 18 b 15 xp (drZ n) (n % 9 + 1) f xw xg xe xd h su st sh fl cS cH dD dE dF sea noi (eaZ n) g_dD g_dE g_dF g_sea (by omega) (by omega) (by omega) (by omega) (by omega) (by omega)) hE hS hAz (z_cut hP hD hAz [11, 1, 2, 3, 4, 5, 6, 7, 8, 9, 10] rfl (by decide +kernel)) (zRc.of (ci := 4) (q0 := 11) hE hP rfl rfl) zk_cd_X4_goOn zk_in_RX4 zk_im_X4_goOn zk_se_X4_goOn zk_ml_RX6_297 rfl rfl zd_X4_goOn ⟨by decide, by decide⟩ rfl hl.1 rfl (Nat.le_of_ble_eq_true rfl) dX6_reaches_41 ⟨by decide, by decide⟩) hP hD hS [11, 1, 2, 3, 4, 5, 6, 7, 8, 9, 10] rfl (fun _ => rfl) (fun r_4 u_4 H locs hp_4 hP hD hS => ?_)
        have hP : va_P D vwCl ((rooW ad 0 cy fm fr) ++ ((airW ad b cy h su st sh fl cS cH dD dE dF) ++ ((grdW ad 15 cy sea noi) ++ (rayW ad 18 cy (u_4 0) (u_4 1) (u_4 2) (u_4 3) (u_4 4) (u_4 5) (u_4 6) (u_4 7))))) H := hP
        have hD : va_D (zIn ((rooW ad 0 cy fm fr) ++ ((airW ad b cy h su st sh fl cS cH dD dE dF) ++ ((grdW ad 15 cy sea noi) ++ (rayW ad 18 cy ypl ydr yan yfr yst ylg yle ydl))))) ((rooW ad 0 cy fm fr) ++ ((airW ad b cy h su st sh fl cS cH dD dE dF) ++ ((grdW ad 15 cy sea noi) ++ (rayW ad 18 cy (u_4 0) (u_4 1) (u_4 2) (u_4 3) (u_4 4) (u_4 5) (u_4 6) (u_4 7))))) := hD
        rcases hp_4 with ⟨q_4, w_4, lg_4, le_4, dl_4, hs_4, rfl, rfl⟩ | ⟨hs_4, rfl⟩
        ·
          have hP : va_P D vwCl ((rooW ad 0 cy fm fr) ++ ((airW ad b cy h su st sh fl cS cH dD dE dF) ++ ((grdW ad 15 cy sea noi) ++ (rayW ad 18 cy q_4 (drZ n) (n % 9 + 1) f w_4 lg_4 le_4 dl_4)))) H := hP
          have hD : va_D (zIn ((rooW ad 0 cy fm fr) ++ ((airW ad b cy h su st sh fl cS cH dD dE dF) ++ ((grdW ad 15 cy sea noi) ++ (rayW ad 18 cy ypl ydr yan yfr yst ylg yle ydl))))) ((rooW ad 0 cy fm fr) ++ ((airW ad b cy h su st sh fl cS cH dD dE dF) ++ ((grdW ad 15 cy sea noi) ++ (rayW ad 18 cy q_4 (drZ n) (n % 9 + 1) f w_4 lg_4 le_4 dl_4)))) := hD
          refine zi_if_ne (tgt := 49) M dX6_reaches_44 (by decide) ⟨by decide, by decide⟩ (fun _ => ?_) (fun q => absurd q (by decide))
          have hb_4 := stepZ_rg g_dD hxp (by omega) hf hs_4
          refine lv_aload_n M.1 M.2.1 dX6_reaches_49 rfl (lv_at hl 0 rfl) ?_
          refine zi_get (ci := 6) (v := .ref (ad 18)) M hE hP 0 rfl rfl zu_X6 3 (by decide) zk_fl_RX6_29 rfl rfl dX6_reaches_50 ?_
          refine zi_getN (ci := 4) (v := .int (iI q_4)) M hE hP 11 rfl rfl zu_X4 0 (by decide) zk_fn_RX6_301 rfl rfl dX6_reaches_53 ?_
          refine lv_iload_n M.1 M.2.1 dX6_reaches_56 rfl (lv_at hl 3 rfl) ?_
          refine zi_icmp_ne (tgt := 62) M dX6_reaches_57 (by decide) (by omega) (by omega) (fun c_5 => ?_) (fun c_5 => ?_)
          ·
            refine zi_iinc (lv' := [(7, .int (iI (i + 1))), (0, .ref (ad 0)), (1, .ref (ad b)), (2, .int (iI q)), (3, .int (iI t)), (4, .int (iI n)), (5, .int (iI f)), (6, .int (iI w))]) M dX6_reaches_62 hl 7 rfl (by decide) rfl (fun ls hl => ?_)
            refine zi_goto (tgt := 25) M dX6_reaches_65 (by decide) ?_
            exact ih_25 (i + 1) q_4 w_4 lg_4 le_4 dl_4 (by omega) (by rw [hgo, show (10 - i).toNat = (10 - (i + 1)).toNat + 1 from by omega, goZ_s hs_4, if_neg c_5]) hb_4.1 (by have := hb_4; omega) (by have := hb_4; omega) (by omega) _ _ hP hD hS ls (lv_sub hl [1, 2, 3, 4, 5, 6, 7, 0] rfl)
          ·
            have hz0 := hgo
            rw [show (10 - i).toNat = (10 - (i + 1)).toNat + 1 from by omega, goZ_s hs_4, if_pos c_5] at hz0
            refine zi_push M dX6_reaches_60 ?_
            subst c_5
            have hP : va_P D vwCl ((rooW ad 0 cy fm fr) ++ ((airW ad b cy h su st sh fl cS cH dD dE dF) ++ ((grdW ad 15 cy sea noi) ++ (rayW ad 18 cy ((u8 q_4 (drZ n) (n % 9 + 1) f w_4 lg_4 le_4 dl_4) 0) ((u8 q_4 (drZ n) (n % 9 + 1) f w_4 lg_4 le_4 dl_4) 1) ((u8 q_4 (drZ n) (n % 9 + 1) f w_4 lg_4 le_4 dl_4) 2) ((u8 q_4 (drZ n) (n % 9 + 1) f w_4 lg_4 le_4 dl_4) 3) ((u8 q_4 (drZ n) (n % 9 + 1) f w_4 lg_4 le_4 dl_4) 4) ((u8 q_4 (drZ n) (n % 9 + 1) f w_4 lg_4 le_4 dl_4) 5) ((u8 q_4 (drZ n) (n % 9 + 1) f w_4 lg_4 le_4 dl_4) 6) ((u8 q_4 (drZ n) (n % 9 + 1) f w_4 lg_4 le_4 dl_4) 7))))) H := hP
            exact zw_z M hr hlk (v := 1) (Or.inr rfl) (u8 q_4 (drZ n) (n % 9 + 1) f w_4 lg_4 le_4 dl_4) hP hS (by (exact Or.inl ⟨_, _, _, _, hz0, rfl, rfl⟩)) (by decide) (by decide) dX6_reaches_61
        ·
          refine zi_if_ne (tgt := 49) M dX6_reaches_44 (by decide) ⟨by decide, by decide⟩ (fun q => absurd q (by decide)) (fun _ => ?_)
          have hz0 := hgo
          rw [show (10 - i).toNat = (10 - (i + 1)).toNat + 1 from by omega, goZ_n hs_4] at hz0
          refine zi_push M dX6_reaches_47 ?_
          have hP : va_P D vwCl ((rooW ad 0 cy fm fr) ++ ((airW ad b cy h su st sh fl cS cH dD dE dF) ++ ((grdW ad 15 cy sea noi) ++ (rayW ad 18 cy ((u8 (u_4 0) (u_4 1) (u_4 2) (u_4 3) (u_4 4) (u_4 5) (u_4 6) (u_4 7)) 0) ((u8 (u_4 0) (u_4 1) (u_4 2) (u_4 3) (u_4 4) (u_4 5) (u_4 6) (u_4 7)) 1) ((u8 (u_4 0) (u_4 1) (u_4 2) (u_4 3) (u_4 4) (u_4 5) (u_4 6) (u_4 7)) 2) ((u8 (u_4 0) (u_4 1) (u_4 2) (u_4 3) (u_4 4) (u_4 5) (u_4 6) (u_4 7)) 3) ((u8 (u_4 0) (u_4 1) (u_4 2) (u_4 3) (u_4 4) (u_4 5) (u_4 6) (u_4 7)) 4) ((u8 (u_4 0) (u_4 1) (u_4 2) (u_4 3) (u_4 4) (u_4 5) (u_4 6) (u_4 7)) 5) ((u8 (u_4 0) (u_4 1) (u_4 2) (u_4 3) (u_4 4) (u_4 5) (u_4 6) (u_4 7)) 6) ((u8 (u_4 0) (u_4 1) (u_4 2) (u_4 3) (u_4 4) (u_4 5) (u_4 6) (u_4 7)) 7))))) H := hP
          exact zw_z M hr hlk (v := 0) (Or.inl rfl) (u8 (u_4 0) (u_4 1) (u_4 2) (u_4 3) (u_4 4) (u_4 5) (u_4 6) (u_4 7)) hP hS (by (exact Or.inr ⟨hz0, rfl⟩)) (by decide) (by decide) dX6_reaches_48
  exact L_25 (Int.toNat (10 - 0) + 1) 0 q w 0 0 0 (by omega) rfl hq hw rfl (by omega) _ _ hP hD hS ls (lv_sub hl [1, 2, 3, 4, 5, 6, 7, 0] rfl)
