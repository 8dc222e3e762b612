/-! contracts: listening -/
set_option maxRecDepth 100000 in
set_option maxHeartbeats 4000000 in
theorem c_X6_listen (l : Launch) (hst : l.stackTraces = false) (D : va_G) (cy : Nat → ClassId) (z0 : Nat) (ad : Nat → Nat) (fm fr h su st sh fl kh ksu kst ksh kfl ypl ydr yan yfr yst ylg yle ydl bsm : Int) (cS cH dD dE dF kcS kcH kdD kdE kdF sea noi bpl bpw ban bhd bfq : Int → Int) (q : Int) (r_q : r32 q) (g_dD : zrg 48 0 1000 dD) (g_dE : zrg 48 0 1000 dE) (g_dF : zrg 48 0 1000 dF) (g_kdD : zrg 48 0 1000 kdD) (g_kdE : zrg 48 0 1000 kdE) (g_kdF : zrg 48 0 1000 kdF) (g_sea : zrg 48 0 1 sea) (g_noi : zrg 48 0 40 noi) (g_bpl : zrg 6 0 47 bpl) (g_bpw : zrg 6 0 80 bpw) (g_ban : zrg 6 0 2 ban) (g_bhd : zrg 6 0 2 bhd) (hbm : 0 ≤ bsm ∧ bsm ≤ 6) (h_h : 0 ≤ h ∧ h ≤ 5000) (hbfq : ∀ n : Int, 0 ≤ n → n < bsm → 10 ≤ bfq n ∧ bfq n ≤ 300) : vx_Met l yX6_listen [.code yX6_listen cX6_listen 7 (some .int)] (zRm 7 1 6 131) (zPc [.ref (ad 0), .int (iI q)] D cy z0 (zWl D z0 ((rooW ad 0 cy fm fr) ++ ((airW ad 1 cy h su st sh fl cS cH dD dE dF) ++ ((airW ad 8 cy kh ksu kst ksh kfl kcS kcH kdD kdE kdF) ++ ((grdW ad 15 cy sea noi) ++ ((rayW ad 18 cy ypl ydr yan yfr yst ylg yle ydl) ++ (sndW ad 25 cy 6 bsm bpl bpw ban bhd bfq)))))))) (zQ1 D ((rooW ad 0 cy fm fr) ++ ((airW ad 1 cy h su st sh fl cS cH dD dE dF) ++ ((airW ad 8 cy kh ksu kst ksh kfl kcS kcH kdD kdE kdF) ++ ((grdW ad 15 cy sea noi) ++ ((rayW ad 18 cy ypl ydr yan yfr yst ylg yle ydl) ++ (sndW ad 25 cy 6 bsm bpl bpw ban bhd bfq)))))) (fun (r : Int32) (u : Nat → Int) => ((0 ≤ q ∧ q < 48)) ∧ r = iI (liF dE dF dD sea noi h bpl bpw ban bhd bfq q bsm.toNat)) (fun (u : Nat → Int) => ((rooW ad 0 cy (fm + bsm) (fr + lrF dE dF dD kdE kdF kdD sea noi h bpl bpw ban bhd bfq q bsm.toNat)) ++ ((airW ad 1 cy h su st sh fl cS cH dD dE dF) ++ ((airW ad 8 cy kh ksu kst ksh kfl kcS kcH kdD kdE kdF) ++ ((grdW ad 15 cy sea noi) ++ ((rayW ad 18 cy (u 0) (u 1) (u 2) (u 3) (u 4) (u 5) (u 6) (u 7)) ++ (sndW ad 25 cy 6 bsm bpl bpw ban bhd bfq)))))))) (zXC (fun E => (E = eIB ∧ (¬ (0 ≤ q ∧ q < 48))))) 1 6 (zIn ((rooW ad 0 cy fm fr) ++ ((airW ad 1 cy h su st sh fl cS cH dD dE dF) ++ ((airW ad 8 cy kh ksu kst ksh kfl kcS kcH kdD kdE kdF) ++ ((grdW ad 15 cy sea noi) ++ ((rayW ad 18 cy ypl ydr yan yfr yst ylg yle ydl) ++ (sndW ad 25 cy 6 bsm bpl bpw ban bhd bfq))))))) := by
  refine z_ofX (by decide) (Nat.le_of_ble_eq_true rfl) ?_
  intro p e s m args below meth c M hr hlk ht hargs hP0 hE ls hl
  have hP : va_P D vwCl ((rooW ad 0 cy fm fr) ++ ((airW ad 1 cy h su st sh fl cS cH dD dE dF) ++ ((airW ad 8 cy kh ksu kst ksh kfl kcS kcH kdD kdE kdF) ++ ((grdW ad 15 cy sea noi) ++ ((rayW ad 18 cy ypl ydr yan yfr yst ylg yle ydl) ++ (sndW ad 25 cy 6 bsm bpl bpw ban bhd bfq)))))) s.heap := hP0.1
  have hD : va_D (zIn ((rooW ad 0 cy fm fr) ++ ((airW ad 1 cy h su st sh fl cS cH dD dE dF) ++ ((airW ad 8 cy kh ksu kst ksh kfl kcS kcH kdD kdE kdF) ++ ((grdW ad 15 cy sea noi) ++ ((rayW ad 18 cy ypl ydr yan yfr yst ylg yle ydl) ++ (sndW ad 25 cy 6 bsm bpl bpw ban bhd bfq))))))) ((rooW ad 0 cy fm fr) ++ ((airW ad 1 cy h su st sh fl cS cH dD dE dF) ++ ((airW ad 8 cy kh ksu kst ksh kfl kcS kcH kdD kdE kdF) ++ ((grdW ad 15 cy sea noi) ++ ((rayW ad 18 cy ypl ydr yan yfr yst ylg yle ydl) ++ (sndW ad 25 cy 6 bsm bpl bpw ban bhd bfq)))))) := hP0.self
  have hAz := hP0.A
  have hS : va_S (zIn ((rooW ad 0 cy fm fr) ++ ((airW ad 1 cy h su st sh fl cS cH dD dE dF) ++ ((airW ad 8 cy kh ksu kst ksh kfl kcS kcH kdD kdE kdF) ++ ((grdW ad 15 cy sea noi) ++ ((rayW ad 18 cy ypl ydr yan yfr yst ylg yle ydl) ++ (sndW ad 25 cy 6 bsm bpl bpw ban bhd bfq))))))) s.heap s.heap [] := va_S.rf
  have hl : lv_has ls 7 [(0, .ref (ad 0)), (1, .int (iI q))] := hl
  refine lv_iload_n M.1 M.2.1 dX6_listen_0 rfl (lv_at hl 1 rfl) ?_
  refine zx_need (zx_runS (As := [.int (iI q)]) (rest := []) M (c_X6_needPlace l hst D cy z0 q (by omega)) hE hS hAz trivial zk_cd_X6_needPlace zk_in_RX6 zk_st_X6_needPlace zk_ml_RX6_80 rfl rfl zd_X6_needPlace ⟨by decide, by decide⟩ rfl hl.1 rfl (Nat.le_of_ble_eq_true rfl) dX6_listen_1 ⟨by decide, by decide⟩) ht hlk (by decide) (by decide) (fun E t hA9 hC hz hq => ⟨by obtain ⟨rfl, h9⟩ := hC; exact ⟨rfl, by omega⟩, hz, hq⟩) (fun hn_1 => ?_)
  refine zi_push M dX6_listen_4 ?_
  refine lv_istore_n (lv' := [(2, .int (iI 0)), (0, .ref (ad 0)), (1, .int (iI q))]) M.1 M.2.1 dX6_listen_5 rfl hl (by decide) rfl (fun ls hl => ?_)
  refine zi_push M dX6_listen_6 ?_
  refine lv_istore_n (lv' := [(3, .int (iI 0)), (2, .int (iI 0)), (0, .ref (ad 0)), (1, .int (iI q))]) M.1 M.2.1 dX6_listen_7 rfl hl (by decide) rfl (fun ls hl => ?_)
  have L_8 : ∀ (k_8 : Nat) (ln : Int) (i : Int) (ur : Nat → Int) (xm : Int) (xr : Int) (hi : 0 ≤ i ∧ i ≤ bsm) (hb : ln = liF dE dF dD sea noi h bpl bpw ban bhd bfq q i.toNat) (hrr : xr = fr + lrF dE dF dD kdE kdF kdD sea noi h bpl bpw ban bhd bfq q i.toNat) (hxm : xm = fm + i) (hm : bsm - i < (k_8 : Int)) (H : Heap) (locs : List Loc) (hP : va_P D vwCl ((rooW ad 0 cy xm xr) ++ ((airW ad 1 cy h su st sh fl cS cH dD dE dF) ++ ((airW ad 8 cy kh ksu kst ksh kfl kcS kcH kdD kdE kdF) ++ ((grdW ad 15 cy sea noi) ++ ((rayW ad 18 cy (ur 0) (ur 1) (ur 2) (ur 3) (ur 4) (ur 5) (ur 6) (ur 7)) ++ (sndW ad 25 cy 6 bsm bpl bpw ban bhd bfq)))))) H) (hD : va_D (zIn ((rooW ad 0 cy fm fr) ++ ((airW ad 1 cy h su st sh fl cS cH dD dE dF) ++ ((airW ad 8 cy kh ksu kst ksh kfl kcS kcH kdD kdE kdF) ++ ((grdW ad 15 cy sea noi) ++ ((rayW ad 18 cy ypl ydr yan yfr yst ylg yle ydl) ++ (sndW ad 25 cy 6 bsm bpl bpw ban bhd bfq))))))) ((rooW ad 0 cy xm xr) ++ ((airW ad 1 cy h su st sh fl cS cH dD dE dF) ++ ((airW ad 8 cy kh ksu kst ksh kfl kcS kcH kdD kdE kdF) ++ ((grdW ad 15 cy sea noi) ++ ((rayW ad 18 cy (ur 0) (ur 1) (ur 2) (ur 3) (ur 4) (ur 5) (ur 6) (ur 7)) ++ (sndW ad 25 cy 6 bsm bpl bpw ban bhd bfq))))))) (hS : va_S (zIn ((rooW ad 0 cy fm fr) ++ ((airW ad 1 cy h su st sh fl cS cH dD dE dF) ++ ((airW ad 8 cy kh ksu kst ksh kfl kcS kcH kdD kdE kdF) ++ ((grdW ad 15 cy sea noi) ++ ((rayW ad 18 cy ypl ydr yan yfr yst ylg yle ydl) ++ (sndW ad 25 cy 6 bsm bpl bpw ban bhd bfq))))))) s.heap H locs) (ls : Array Slot) (hl : lv_has ls 7 [(0, .ref (ad 0)), (1, .int (iI q)), (2, .int (iI ln)), (3, .int (iI i))]), W p l e (zRm 7 1 6 131) s m args below meth c H locs 1 6 (vx_MQ below (zQ1 D ((rooW ad 0 cy fm fr) ++ ((airW ad 1 cy h su st sh fl cS cH dD dE dF) ++ ((airW ad 8 cy kh ksu kst ksh kfl kcS kcH kdD kdE kdF) ++ ((grdW ad 15 cy sea noi) ++ ((rayW ad 18 cy ypl ydr yan yfr yst ylg yle ydl) ++ (sndW ad 25 cy 6 bsm bpl bpw ban bhd bfq)))))) (fun (r : Int32) (u : Nat → Int) => ((0 ≤ q ∧ q < 48)) ∧ r = iI (liF dE dF dD sea noi h bpl bpw ban bhd bfq q bsm.toNat)) (fun (u : Nat → Int) => ((rooW ad 0 cy (fm + bsm) (fr + lrF dE dF dD kdE kdF kdD sea noi h bpl bpw ban bhd bfq q bsm.toNat)) ++ ((airW ad 1 cy h su st sh fl cS cH dD dE dF) ++ ((airW ad 8 cy kh ksu kst ksh kfl kcS kcH kdD kdE kdF) ++ ((grdW ad 15 cy sea noi) ++ ((rayW ad 18 cy (u 0) (u 1) (u 2) (u 3) (u 4) (u 5) (u 6) (u 7)) ++ (sndW ad 25 cy 6 bsm bpl bpw ban bhd bfq)))))))) (zXC (fun E => (E = eIB ∧ (¬ (0 ≤ q ∧ q < 48))))) args s 1 6 (zIn ((rooW ad 0 cy fm fr) ++ ((airW ad 1 cy h su st sh fl cS cH dD dE dF) ++ ((airW ad 8 cy kh ksu kst ksh kfl kcS kcH kdD kdE kdF) ++ ((grdW ad 15 cy sea noi) ++ ((rayW ad 18 cy ypl ydr yan yfr yst ylg yle ydl) ++ (sndW ad 25 cy 6 bsm bpl bpw ban bhd bfq)))))))) (F0 m 8 ls []) := by
    intro k_8
    induction k_8 with
    | zero =>
      intro ln i ur xm xr hi hb hrr hxm hm H locs hP hD hS ls hl
      exact absurd hm (by omega)
    | succ k_8 ih_8 =>
      intro ln i ur xm xr hi hb hrr hxm hm H locs hP hD hS ls hl
      have hlr := liF_rg (dE := dE) (dF := dF) (dD := dD) (sea := sea) (noi := noi) (h := h) (bpl := bpl) (bpw := bpw) (ban := ban) (bhd := bhd) (bfq := bfq) (q := q) i.toNat (by omega)
      rw [← hb] at hlr
      refine lv_iload_n M.1 M.2.1 dX6_listen_8 rfl (lv_at hl 3 rfl) ?_
      refine lv_aload_n M.1 M.2.1 dX6_listen_9 rfl (lv_at hl 0 rfl) ?_
      refine zi_get (ci := 6) (v := .ref (ad 25)) M hE hP 0 rfl rfl zu_X6 5 (by decide) zk_fl_RX6_42 rfl rfl dX6_listen_10 ?_
      refine zi_getN (ci := 5) (v := .int (iI bsm)) M hE hP 19 rfl rfl zu_X5 5 (by decide) zk_fn_RX6_148 rfl rfl dX6_listen_13 ?_
      refine zi_icmp_ge (tgt := 126) M dX6_listen_16 (by decide) (by omega) (by omega) (fun c_2 => ?_) (fun c_2 => ?_)
      ·
        refine lv_iload_n M.1 M.2.1 dX6_listen_126 rfl (lv_at hl 2 rfl) ?_
        have hib : i = bsm := by omega
        rw [hib] at hxm hrr hb
        subst hxm hrr
        have hP : va_P D vwCl ((rooW ad 0 cy (fm + bsm) (fr + lrF dE dF dD kdE kdF kdD sea noi h bpl bpw ban bhd bfq q bsm.toNat)) ++ ((airW ad 1 cy h su st sh fl cS cH dD dE dF) ++ ((airW ad 8 cy kh ksu kst ksh kfl kcS kcH kdD kdE kdF) ++ ((grdW ad 15 cy sea noi) ++ ((rayW ad 18 cy (ur 0) (ur 1) (ur 2) (ur 3) (ur 4) (ur 5) (ur 6) (ur 7)) ++ (sndW ad 25 cy 6 bsm bpl bpw ban bhd bfq)))))) H := hP
        exact vx_ret (zw_i M hr hlk ur hP hS (by exact ⟨by omega, congrArg iI (show (ln : Int) = liF dE dF dD sea noi h bpl bpw ban bhd bfq q bsm.toNat by exact hb)⟩) (by decide) (by decide) dX6_listen_127)
      ·
        refine lv_aload_n M.1 M.2.1 dX6_listen_19 rfl (lv_at hl 0 rfl) ?_
        refine zi_get (ci := 6) (v := .ref (ad 25)) M hE hP 0 rfl rfl zu_X6 5 (by decide) zk_fl_RX6_42 rfl rfl dX6_listen_20 ?_
        refine zi_getN (ci := 5) (v := .ref (ad (25 + 5))) M hE hP 19 rfl rfl zu_X5 4 (by decide) zk_fn_RX6_151 rfl rfl dX6_listen_23 ?_
        refine lv_iload_n M.1 M.2.1 dX6_listen_26 rfl (lv_at hl 3 rfl) ?_
        refine zi_iald M hE hP 24 (n := 6) (g := bfq) rfl (Nat.le_of_ble_eq_true rfl) (by omega) (by omega) dX6_listen_27 ?_
        have hbf := hbfq i (by omega) (by omega)
        have hpl_i := g_bpl i (by omega) (by omega)
        have hpw_i := g_bpw i (by omega) (by omega)
        refine lv_istore (lv' := [(4, .int (iI (bfq i))), (0, .ref (ad 0)), (1, .int (iI q)), (2, .int (iI ln)), (3, .int (iI i))]) M.1 M.2.1 dX6_listen_28 hl (by decide) rfl (fun ls hl => ?_)
        refine lv_aload_n M.1 M.2.1 dX6_listen_30 rfl (lv_at hl 1 rfl) ?_
        refine lv_aload_n M.1 M.2.1 dX6_listen_31 rfl (lv_at hl 1 rfl) ?_
        refine zi_get (ci := 6) (v := .ref (ad 1)) M hE hP 0 rfl rfl zu_X6 0 (by decide) zk_fl_RX6_12 rfl rfl dX6_listen_32 ?_
        refine lv_aload_n M.1 M.2.1 dX6_listen_35 rfl (lv_at hl 1 rfl) ?_
        refine zi_get (ci := 6) (v := .ref (ad 25)) M hE hP 0 rfl rfl zu_X6 5 (by decide) zk_fl_RX6_42 rfl rfl dX6_listen_36 ?_
        refine lv_iload_n M.1 M.2.1 dX6_listen_39 rfl (lv_at hl 4 rfl) ?_
        refine lv_iload M.1 M.2.1 dX6_listen_40 (lv_at hl 0 rfl) ?_
        refine lv_iload_n M.1 M.2.1 dX6_listen_42 rfl (lv_at hl 2 rfl) ?_
        refine z_cW (z_runV (As := [.ref (ad 1), .ref (ad 25), .int (iI i), .int (iI (bfq i)), .int (iI q)]) (rest := []) M (c_X6_signalAt l D cy z0 ad 25 6 xm xr h su st sh fl (ur 0) (ur 1) (ur 2) (ur 3) (ur 4) (ur 5) (ur 6) (ur 7) bsm cS cH dD dE dF sea noi bpl bpw ban bhd bfq i (bfq i) q g_dD g_dE g_dF g_sea g_noi g_bpl g_bpw g_ban g_bhd (by omega) (by omega) (by omega) (by omega) (by omega)) hE hS hAz (z_cut hP hD hAz [0, 1, 2, 3, 4, 5, 6, 7, 15, 16, 17, 18, 19, 20, 21, 22, 23, 24] rfl (by decide +kernel)) (zRc.of (ci := 6) (q0 := 0) hE hP rfl rfl) zk_cd_X6_signalAt zk_in_RX6 zk_im_X6_signalAt zk_se_X6_signalAt zk_ml_RX6_154 rfl rfl zd_X6_signalAt ⟨by decide, by decide⟩ rfl hl.1 rfl (Nat.le_of_ble_eq_true rfl) dX6_listen_43 ⟨by decide, by decide⟩) hP hD hS [0, 1, 2, 3, 4, 5, 6, 7, 15, 16, 17, 18, 19, 20, 21, 22, 23, 24] rfl (fun _ => rfl) (fun r_3 u_3 H locs hp_3 hP hD hS => ?_)
        have hP : va_P D vwCl ((rooW ad 0 cy xm xr) ++ ((airW ad 1 cy h su st sh fl cS cH dD dE dF) ++ ((airW ad 8 cy kh ksu kst ksh kfl kcS kcH kdD kdE kdF) ++ ((grdW ad 15 cy sea noi) ++ ((rayW ad 18 cy (u_3 0) (u_3 1) (u_3 2) (u_3 3) (u_3 4) (u_3 5) (u_3 6) (u_3 7)) ++ (sndW ad 25 cy 6 bsm bpl bpw ban bhd bfq)))))) H := hP
        have hD : va_D (zIn ((rooW ad 0 cy fm fr) ++ ((airW ad 1 cy h su st sh fl cS cH dD dE dF) ++ ((airW ad 8 cy kh ksu kst ksh kfl kcS kcH kdD kdE kdF) ++ ((grdW ad 15 cy sea noi) ++ ((rayW ad 18 cy ypl ydr yan yfr yst ylg yle ydl) ++ (sndW ad 25 cy 6 bsm bpl bpw ban bhd bfq))))))) ((rooW ad 0 cy xm xr) ++ ((airW ad 1 cy h su st sh fl cS cH dD dE dF) ++ ((airW ad 8 cy kh ksu kst ksh kfl kcS kcH kdD kdE kdF) ++ ((grdW ad 15 cy sea noi) ++ ((rayW ad 18 cy (u_3 0) (u_3 1) (u_3 2) (u_3 3) (u_3 4) (u_3 5) (u_3 6) (u_3 7)) ++ (sndW ad 25 cy 6 bsm bpl bpw ban bhd bfq)))))) := hD
        subst hp_3
        have hsg_3 : -1000 ≤ sigZ dE dF dD sea noi h (bpl i) q (bfq i) (bpw i) (ban i) (bhd i) ∧ sigZ dE dF dD sea noi h (bpl i) q (bfq i) (bpw i) (ban i) (bhd i) ≤ 88 := sigZ_rg g_dD g_noi hbf (by omega) (by omega) (by omega)
        refine zi_if_lt (tgt := 53) M dX6_listen_46 (by decide) (by omega) (fun c_4 => ?_) (fun c_4 => ?_)
        ·
          refine zi_push M dX6_listen_53 ?_
          refine lv_istore (lv' := [(5, .int (iI 0)), (4, .int (iI (bfq i))), (0, .ref (ad 0)), (1, .int (iI q)), (2, .int (iI ln)), (3, .int (iI i))]) M.1 M.2.1 dX6_listen_54 hl (by decide) rfl (fun ls hl => ?_)
          refine lv_aload_n M.1 M.2.1 dX6_listen_56 rfl (lv_at hl 2 rfl) ?_
          refine lv_aload_n M.1 M.2.1 dX6_listen_57 rfl (lv_at hl 2 rfl) ?_
          refine zi_get (ci := 6) (v := .ref (ad 8)) M hE hP 0 rfl rfl zu_X6 1 (by decide) zk_fl_RX6_16 rfl rfl dX6_listen_58 ?_
          refine lv_aload_n M.1 M.2.1 dX6_listen_61 rfl (lv_at hl 2 rfl) ?_
          refine zi_get (ci := 6) (v := .ref (ad 25)) M hE hP 0 rfl rfl zu_X6 5 (by decide) zk_fl_RX6_42 rfl rfl dX6_listen_62 ?_
          refine lv_iload_n M.1 M.2.1 dX6_listen_65 rfl (lv_at hl 5 rfl) ?_
          refine lv_iload M.1 M.2.1 dX6_listen_66 (lv_at hl 1 rfl) ?_
          refine lv_iload_n M.1 M.2.1 dX6_listen_68 rfl (lv_at hl 3 rfl) ?_
          refine z_cW (z_runV (As := [.ref (ad 8), .ref (ad 25), .int (iI i), .int (iI (bfq i)), .int (iI q)]) (rest := []) M (c_X6_signalAtC l D cy z0 ad 25 6 xm xr h su st sh fl kh ksu kst ksh kfl (u_3 0) (u_3 1) (u_3 2) (u_3 3) (u_3 4) (u_3 5) (u_3 6) (u_3 7) bsm cS cH dD dE dF kcS kcH kdD kdE kdF sea noi bpl bpw ban bhd bfq i (bfq i) q g_kdD g_kdE g_kdF g_sea g_noi g_bpl g_bpw g_ban g_bhd (by omega) (by omega) (by omega) (by omega) (by omega)) hE hS hAz (z_cut hP hD hAz [0, 1, 2, 3, 4, 5, 6, 7, 8, 9, 10, 11, 12, 13, 14, 15, 16, 17, 18, 19, 20, 21, 22, 23, 24] rfl (by decide +kernel)) (zRc.of (ci := 6) (q0 := 0) hE hP rfl rfl) zk_cd_X6_signalAt zk_in_RX6 zk_im_X6_signalAt zk_se_X6_signalAt zk_ml_RX6_154 rfl rfl zd_X6_signalAt ⟨by decide, by decide⟩ rfl hl.1 rfl (Nat.le_of_ble_eq_true rfl) dX6_listen_69 ⟨by decide, by decide⟩) hP hD hS [0, 1, 2, 3, 4, 5, 6, 7, 8, 9, 10, 11, 12, 13, 14, 15, 16, 17, 18, 19, 20, 21, 22, 23, 24] rfl (fun _ => rfl) (fun r_5 u_5 H locs hp_5 hP hD hS => ?_)
          have hP : va_P D vwCl ((rooW ad 0 cy xm xr) ++ ((airW ad 1 cy h su st sh fl cS cH dD dE dF) ++ ((airW ad 8 cy kh ksu kst ksh kfl kcS kcH kdD kdE kdF) ++ ((grdW ad 15 cy sea noi) ++ ((rayW ad 18 cy (u_5 0) (u_5 1) (u_5 2) (u_5 3) (u_5 4) (u_5 5) (u_5 6) (u_5 7)) ++ (sndW ad 25 cy 6 bsm bpl bpw ban bhd bfq)))))) H := hP
          have hD : va_D (zIn ((rooW ad 0 cy fm fr) ++ ((airW ad 1 cy h su st sh fl cS cH dD dE dF) ++ ((airW ad 8 cy kh ksu kst ksh kfl kcS kcH kdD kdE kdF) ++ ((grdW ad 15 cy sea noi) ++ ((rayW ad 18 cy ypl ydr yan yfr yst ylg yle ydl) ++ (sndW ad 25 cy 6 bsm bpl bpw ban bhd bfq))))))) ((rooW ad 0 cy xm xr) ++ ((airW ad 1 cy h su st sh fl cS cH dD dE dF) ++ ((airW ad 8 cy kh ksu kst ksh kfl kcS kcH kdD kdE kdF) ++ ((grdW ad 15 cy sea noi) ++ ((rayW ad 18 cy (u_5 0) (u_5 1) (u_5 2) (u_5 3) (u_5 4) (u_5 5) (u_5 6) (u_5 7)) ++ (sndW ad 25 cy 6 bsm bpl bpw ban bhd bfq)))))) := hD
          subst hp_5
          have hsg_5 : -1000 ≤ sigZ kdE kdF kdD sea noi h (bpl i) q (bfq i) (bpw i) (ban i) (bhd i) ∧ sigZ kdE kdF kdD sea noi h (bpl i) q (bfq i) (bpw i) (ban i) (bhd i) ≤ 88 := sigZ_rg g_kdD g_noi hbf (by omega) (by omega) (by omega)
          refine zi_if_lt (tgt := 79) M dX6_listen_72 (by decide) (by omega) (fun c_6 => ?_) (fun c_6 => ?_)
          ·
            refine zi_push M dX6_listen_79 ?_
            refine lv_istore (lv' := [(6, .int (iI 0)), (5, .int (iI 0)), (4, .int (iI (bfq i))), (0, .ref (ad 0)), (1, .int (iI q)), (2, .int (iI ln)), (3, .int (iI i))]) M.1 M.2.1 dX6_listen_80 hl (by decide) rfl (fun ls hl => ?_)
            refine lv_iload M.1 M.2.1 dX6_listen_82 (lv_at hl 1 rfl) ?_
            refine zi_if_eq (tgt := 93) M dX6_listen_84 (by decide) ⟨by decide, by decide⟩ (fun _ => ?_) (fun q => absurd q (by decide))
            refine lv_iload M.1 M.2.1 dX6_listen_93 (lv_at hl 1 rfl) ?_
            refine lv_iload M.1 M.2.1 dX6_listen_95 (lv_at hl 0 rfl) ?_
            refine zi_icmp_ne (tgt := 110) M dX6_listen_97 (by decide) ⟨by decide, by decide⟩ ⟨by decide, by decide⟩ (fun q => absurd q (by decide)) (fun _ => ?_)
            refine lv_aload_n M.1 M.2.1 dX6_listen_100 rfl (lv_at hl 3 rfl) ?_
            refine lv_dup M.1 M.2.1 dX6_listen_101 rfl ?_
            refine zi_get (ci := 6) (v := .int (iI xr)) M hE hP 0 rfl rfl zu_X6 9 (by decide) zk_fl_RX6_158 rfl rfl dX6_listen_102 ?_
            refine zi_push M dX6_listen_105 ?_
            refine zi_iadd M dX6_listen_106 ?_
            refine zi_put (ci := 6) (ws' := ((rooW ad 0 cy xm (xr + 1)) ++ ((airW ad 1 cy h su st sh fl cS cH dD dE dF) ++ ((airW ad 8 cy kh ksu kst ksh kfl kcS kcH kdD kdE kdF) ++ ((grdW ad 15 cy sea noi) ++ ((rayW ad 18 cy (u_5 0) (u_5 1) (u_5 2) (u_5 3) (u_5 4) (u_5 5) (u_5 6) (u_5 7)) ++ (sndW ad 25 cy 6 bsm bpl bpw ban bhd bfq))))))) M hE hP hD hS 0 rfl rfl zu_X6 9 (by decide) zk_fl_RX6_158 rfl rfl tyX6_ok nmX6 rfl rfl (Nat.le_of_ble_eq_true rfl) rfl dX6_listen_107 (fun H locs hP hD hS => ?_)
            refine lv_aload_n M.1 M.2.1 dX6_listen_110 rfl (lv_at hl 3 rfl) ?_
            refine lv_dup M.1 M.2.1 dX6_listen_111 rfl ?_
            refine zi_get (ci := 6) (v := .int (iI xm)) M hE hP 0 rfl rfl zu_X6 8 (by decide) zk_fl_RX6_161 rfl rfl dX6_listen_112 ?_
            refine zi_push M dX6_listen_115 ?_
            refine zi_iadd M dX6_listen_116 ?_
            refine zi_put (ci := 6) (ws' := ((rooW ad 0 cy (xm + 1) (xr + 1)) ++ ((airW ad 1 cy h su st sh fl cS cH dD dE dF) ++ ((airW ad 8 cy kh ksu kst ksh kfl kcS kcH kdD kdE kdF) ++ ((grdW ad 15 cy sea noi) ++ ((rayW ad 18 cy (u_5 0) (u_5 1) (u_5 2) (u_5 3) (u_5 4) (u_5 5) (u_5 6) (u_5 7)) ++ (sndW ad 25 cy 6 bsm bpl bpw ban bhd bfq))))))) M hE hP hD hS 0 rfl rfl zu_X6 8 (by decide) zk_fl_RX6_161 rfl rfl tyX6_ok nmX6 rfl rfl (Nat.le_of_ble_eq_true rfl) rfl dX6_listen_117 (fun H locs hP hD hS => ?_)
            refine zi_iinc (lv' := [(3, .int (iI (i + 1))), (6, .int (iI 0)), (5, .int (iI 0)), (4, .int (iI (bfq i))), (0, .ref (ad 0)), (1, .int (iI q)), (2, .int (iI ln))]) M dX6_listen_120 hl 6 rfl (by decide) rfl (fun ls hl => ?_)
            refine zi_goto (tgt := 8) M dX6_listen_123 (by decide) ?_
            exact ih_8 ln (i + 1) u_5 (xm + 1) (xr + 1) (by omega) (liF_n hi.1 hb (by unfold hrP; omega)) (lrF_s hi.1 hrr (by unfold hrP; omega)) (by omega) (by omega) _ _ hP hD hS ls (lv_sub hl [4, 5, 6, 0] rfl)
          ·
            refine zi_push M dX6_listen_75 ?_
            refine zi_goto (tgt := 80) M dX6_listen_76 (by decide) ?_
            refine lv_istore (lv' := [(6, .int (iI 1)), (5, .int (iI 0)), (4, .int (iI (bfq i))), (0, .ref (ad 0)), (1, .int (iI q)), (2, .int (iI ln)), (3, .int (iI i))]) M.1 M.2.1 dX6_listen_80 hl (by decide) rfl (fun ls hl => ?_)
            refine lv_iload M.1 M.2.1 dX6_listen_82 (lv_at hl 1 rfl) ?_
            refine zi_if_eq (tgt := 93) M dX6_listen_84 (by decide) ⟨by decide, by decide⟩ (fun _ => ?_) (fun q => absurd q (by decide))
            refine lv_iload M.1 M.2.1 dX6_listen_93 (lv_at hl 1 rfl) ?_
            refine lv_iload M.1 M.2.1 dX6_listen_95 (lv_at hl 0 rfl) ?_
            refine zi_icmp_ne (tgt := 110) M dX6_listen_97 (by decide) ⟨by decide, by decide⟩ ⟨by decide, by decide⟩ (fun _ => ?_) (fun q => absurd q (by decide))
            refine lv_aload_n M.1 M.2.1 dX6_listen_110 rfl (lv_at hl 3 rfl) ?_
            refine lv_dup M.1 M.2.1 dX6_listen_111 rfl ?_
            refine zi_get (ci := 6) (v := .int (iI xm)) M hE hP 0 rfl rfl zu_X6 8 (by decide) zk_fl_RX6_161 rfl rfl dX6_listen_112 ?_
            refine zi_push M dX6_listen_115 ?_
            refine zi_iadd M dX6_listen_116 ?_
            refine zi_put (ci := 6) (ws' := ((rooW ad 0 cy (xm + 1) xr) ++ ((airW ad 1 cy h su st sh fl cS cH dD dE dF) ++ ((airW ad 8 cy kh ksu kst ksh kfl kcS kcH kdD kdE kdF) ++ ((grdW ad 15 cy sea noi) ++ ((rayW ad 18 cy (u_5 0) (u_5 1) (u_5 2) (u_5 3) (u_5 4) (u_5 5) (u_5 6) (u_5 7)) ++ (sndW ad 25 cy 6 bsm bpl bpw ban bhd bfq))))))) M hE hP hD hS 0 rfl rfl zu_X6 8 (by decide) zk_fl_RX6_161 rfl rfl tyX6_ok nmX6 rfl rfl (Nat.le_of_ble_eq_true rfl) rfl dX6_listen_117 (fun H locs hP hD hS => ?_)
            refine zi_iinc (lv' := [(3, .int (iI (i + 1))), (6, .int (iI 1)), (5, .int (iI 0)), (4, .int (iI (bfq i))), (0, .ref (ad 0)), (1, .int (iI q)), (2, .int (iI ln))]) M dX6_listen_120 hl 6 rfl (by decide) rfl (fun ls hl => ?_)
            refine zi_goto (tgt := 8) M dX6_listen_123 (by decide) ?_
            exact ih_8 ln (i + 1) u_5 (xm + 1) xr (by omega) (liF_n hi.1 hb (by unfold hrP; omega)) (lrF_n hi.1 hrr (by unfold hrP; omega)) (by omega) (by omega) _ _ hP hD hS ls (lv_sub hl [4, 5, 6, 0] rfl)
        ·
          refine zi_push M dX6_listen_49 ?_
          refine zi_goto (tgt := 54) M dX6_listen_50 (by decide) ?_
          refine lv_istore (lv' := [(5, .int (iI 1)), (4, .int (iI (bfq i))), (0, .ref (ad 0)), (1, .int (iI q)), (2, .int (iI ln)), (3, .int (iI i))]) M.1 M.2.1 dX6_listen_54 hl (by decide) rfl (fun ls hl => ?_)
          refine lv_aload_n M.1 M.2.1 dX6_listen_56 rfl (lv_at hl 2 rfl) ?_
          refine lv_aload_n M.1 M.2.1 dX6_listen_57 rfl (lv_at hl 2 rfl) ?_
          refine zi_get (ci := 6) (v := .ref (ad 8)) M hE hP 0 rfl rfl zu_X6 1 (by decide) zk_fl_RX6_16 rfl rfl dX6_listen_58 ?_
          refine lv_aload_n M.1 M.2.1 dX6_listen_61 rfl (lv_at hl 2 rfl) ?_
          refine zi_get (ci := 6) (v := .ref (ad 25)) M hE hP 0 rfl rfl zu_X6 5 (by decide) zk_fl_RX6_42 rfl rfl dX6_listen_62 ?_
          refine lv_iload_n M.1 M.2.1 dX6_listen_65 rfl (lv_at hl 5 rfl) ?_
          refine lv_iload M.1 M.2.1 dX6_listen_66 (lv_at hl 1 rfl) ?_
          refine lv_iload_n M.1 M.2.1 dX6_listen_68 rfl (lv_at hl 3 rfl) ?_
          refine z_cW (z_runV (As := [.ref (ad 8), .ref (ad 25), .int (iI i), .int (iI (bfq i)), .int (iI q)]) (rest := []) M (c_X6_signalAtC l D cy z0 ad 25 6 xm xr h su st sh fl kh ksu kst ksh kfl (u_3 0) (u_3 1) (u_3 2) (u_3 3) (u_3 4) (u_3 5) (u_3 6) (u_3 7) bsm cS cH dD dE dF kcS kcH kdD kdE kdF sea noi bpl bpw ban bhd bfq i (bfq i) q g_kdD g_kdE g_kdF g_sea g_noi g_bpl g_bpw g_ban g_bhd (by omega) (by omega) (by omega) (by omega) (by omega)) hE hS hAz (z_cut hP hD hAz [0, 1, 2, 3, 4, 5, 6, 7, 8, 9, 10, 11, 12, 13, 14, 15, 16, 17, 18, 19, 20, 21, 22, 23, 24] rfl (by decide +kernel)) (zRc.of (ci := 6) (q0 := 0) hE hP rfl rfl) zk_cd_X6_signalAt zk_in_RX6 zk_im_X6_signalAt zk_se_X6_signalAt zk_ml_RX6_154 rfl rfl zd_X6_signalAt ⟨by decide, by decide⟩ rfl hl.1 rfl (Nat.le_of_ble_eq_true rfl) dX6_listen_69 ⟨by decide, by decide⟩) hP hD hS [0, 1, 2, 3, 4, 5, 6, 7, 8, 9, 10, 11, 12, 13, 14, 15, 16, 17, 18, 19, 20, 21, 22, 23, 24] rfl (fun _ => rfl) (fun r_7 u_7 H locs hp_7 hP hD hS => ?_)
          have hP : va_P D vwCl ((rooW ad 0 cy xm xr) ++ ((airW ad 1 cy h su st sh fl cS cH dD dE dF) ++ ((airW ad 8 cy kh ksu kst ksh kfl kcS kcH kdD kdE kdF) ++ ((grdW ad 15 cy sea noi) ++ ((rayW ad 18 cy (u_7 0) (u_7 1) (u_7 2) (u_7 3) (u_7 4) (u_7 5) (u_7 6) (u_7 7)) ++ (sndW ad 25 cy 6 bsm bpl bpw ban bhd bfq)))))) H := hP
          have hD : va_D (zIn ((rooW ad 0 cy fm fr) ++ ((airW ad 1 cy h su st sh fl cS cH dD dE dF) ++ ((airW ad 8 cy kh ksu kst ksh kfl kcS kcH kdD kdE kdF) ++ ((grdW ad 15 cy sea noi) ++ ((rayW ad 18 cy ypl ydr yan yfr yst ylg yle ydl) ++ (sndW ad 25 cy 6 bsm bpl bpw ban bhd bfq))))))) ((rooW ad 0 cy xm xr) ++ ((airW ad 1 cy h su st sh fl cS cH dD dE dF) ++ ((airW ad 8 cy kh ksu kst ksh kfl kcS kcH kdD kdE kdF) ++ ((grdW ad 15 cy sea noi) ++ ((rayW ad 18 cy (u_7 0) (u_7 1) (u_7 2) (u_7 3) (u_7 4) (u_7 5) (u_7 6) (u_7 7)) ++ (sndW ad 25 cy 6 bsm bpl bpw ban bhd bfq)))))) := hD
          subst hp_7
          have hsg_7 : -1000 ≤ sigZ kdE kdF kdD sea noi h (bpl i) q (bfq i) (bpw i) (ban i) (bhd i) ∧ sigZ kdE kdF kdD sea noi h (bpl i) q (bfq i) (bpw i) (ban i) (bhd i) ≤ 88 := sigZ_rg g_kdD g_noi hbf (by omega) (by omega) (by omega)
          refine zi_if_lt (tgt := 79) M dX6_listen_72 (by decide) (by omega) (fun c_8 => ?_) (fun c_8 => ?_)
          ·
            refine zi_push M dX6_listen_79 ?_
            refine lv_istore (lv' := [(6, .int (iI 0)), (5, .int (iI 1)), (4, .int (iI (bfq i))), (0, .ref (ad 0)), (1, .int (iI q)), (2, .int (iI ln)), (3, .int (iI i))]) M.1 M.2.1 dX6_listen_80 hl (by decide) rfl (fun ls hl => ?_)
            refine lv_iload M.1 M.2.1 dX6_listen_82 (lv_at hl 1 rfl) ?_
            refine zi_if_eq (tgt := 93) M dX6_listen_84 (by decide) ⟨by decide, by decide⟩ (fun q => absurd q (by decide)) (fun _ => ?_)
            refine lv_iload_n M.1 M.2.1 dX6_listen_87 rfl (lv_at hl 5 rfl) ?_
            refine zi_push M dX6_listen_88 ?_
            refine lv_iload_n M.1 M.2.1 dX6_listen_89 rfl (lv_at hl 6 rfl) ?_
            refine zi_orshl M hlr (by omega) dX6_listen_90 dX6_listen_91 ?_
            refine lv_istore_n (lv' := [(2, .int (iI (orZ ln i))), (6, .int (iI 0)), (5, .int (iI 1)), (4, .int (iI (bfq i))), (0, .ref (ad 0)), (1, .int (iI q)), (3, .int (iI i))]) M.1 M.2.1 dX6_listen_92 rfl hl (by decide) rfl (fun ls hl => ?_)
            refine lv_iload M.1 M.2.1 dX6_listen_93 (lv_at hl 2 rfl) ?_
            refine lv_iload M.1 M.2.1 dX6_listen_95 (lv_at hl 1 rfl) ?_
            refine zi_icmp_ne (tgt := 110) M dX6_listen_97 (by decide) ⟨by decide, by decide⟩ ⟨by decide, by decide⟩ (fun _ => ?_) (fun q => absurd q (by decide))
            refine lv_aload_n M.1 M.2.1 dX6_listen_110 rfl (lv_at hl 4 rfl) ?_
            refine lv_dup M.1 M.2.1 dX6_listen_111 rfl ?_
            refine zi_get (ci := 6) (v := .int (iI xm)) M hE hP 0 rfl rfl zu_X6 8 (by decide) zk_fl_RX6_161 rfl rfl dX6_listen_112 ?_
            refine zi_push M dX6_listen_115 ?_
            refine zi_iadd M dX6_listen_116 ?_
            refine zi_put (ci := 6) (ws' := ((rooW ad 0 cy (xm + 1) xr) ++ ((airW ad 1 cy h su st sh fl cS cH dD dE dF) ++ ((airW ad 8 cy kh ksu kst ksh kfl kcS kcH kdD kdE kdF) ++ ((grdW ad 15 cy sea noi) ++ ((rayW ad 18 cy (u_7 0) (u_7 1) (u_7 2) (u_7 3) (u_7 4) (u_7 5) (u_7 6) (u_7 7)) ++ (sndW ad 25 cy 6 bsm bpl bpw ban bhd bfq))))))) M hE hP hD hS 0 rfl rfl zu_X6 8 (by decide) zk_fl_RX6_161 rfl rfl tyX6_ok nmX6 rfl rfl (Nat.le_of_ble_eq_true rfl) rfl dX6_listen_117 (fun H locs hP hD hS => ?_)
            refine zi_iinc (lv' := [(3, .int (iI (i + 1))), (2, .int (iI (orZ ln i))), (6, .int (iI 0)), (5, .int (iI 1)), (4, .int (iI (bfq i))), (0, .ref (ad 0)), (1, .int (iI q))]) M dX6_listen_120 hl 6 rfl (by decide) rfl (fun ls hl => ?_)
            refine zi_goto (tgt := 8) M dX6_listen_123 (by decide) ?_
            exact ih_8 (orZ ln i) (i + 1) u_7 (xm + 1) xr (by omega) (liF_s hi.1 hb (by unfold hrP; omega)) (lrF_n hi.1 hrr (by unfold hrP; omega)) (by omega) (by omega) _ _ hP hD hS ls (lv_sub hl [5, 6, 1, 0] rfl)
          ·
            refine zi_push M dX6_listen_75 ?_
            refine zi_goto (tgt := 80) M dX6_listen_76 (by decide) ?_
            refine lv_istore (lv' := [(6, .int (iI 1)), (5, .int (iI 1)), (4, .int (iI (bfq i))), (0, .ref (ad 0)), (1, .int (iI q)), (2, .int (iI ln)), (3, .int (iI i))]) M.1 M.2.1 dX6_listen_80 hl (by decide) rfl (fun ls hl => ?_)
            refine lv_iload M.1 M.2.1 dX6_listen_82 (lv_at hl 1 rfl) ?_
            refine zi_if_eq (tgt := 93) M dX6_listen_84 (by decide) ⟨by decide, by decide⟩ (fun q => absurd q (by decide)) (fun _ => ?_)
            refine lv_iload_n M.1 M.2.1 dX6_listen_87 rfl (lv_at hl 5 rfl) ?_
            refine zi_push M dX6_listen_88 ?_
            refine lv_iload_n M.1 M.2.1 dX6_listen_89 rfl (lv_at hl 6 rfl) ?_
            refine zi_orshl M hlr (by omega) dX6_listen_90 dX6_listen_91 ?_
            refine lv_istore_n (lv' := [(2, .int (iI (orZ ln i))), (6, .int (iI 1)), (5, .int (iI 1)), (4, .int (iI (bfq i))), (0, .ref (ad 0)), (1, .int (iI q)), (3, .int (iI i))]) M.1 M.2.1 dX6_listen_92 rfl hl (by decide) rfl (fun ls hl => ?_)
            refine lv_iload M.1 M.2.1 dX6_listen_93 (lv_at hl 2 rfl) ?_
            refine lv_iload M.1 M.2.1 dX6_listen_95 (lv_at hl 1 rfl) ?_
            refine zi_icmp_ne (tgt := 110) M dX6_listen_97 (by decide) ⟨by decide, by decide⟩ ⟨by decide, by decide⟩ (fun q => absurd q (by decide)) (fun _ => ?_)
            refine lv_aload_n M.1 M.2.1 dX6_listen_100 rfl (lv_at hl 4 rfl) ?_
            refine lv_dup M.1 M.2.1 dX6_listen_101 rfl ?_
            refine zi_get (ci := 6) (v := .int (iI xr)) M hE hP 0 rfl rfl zu_X6 9 (by decide) zk_fl_RX6_158 rfl rfl dX6_listen_102 ?_
            refine zi_push M dX6_listen_105 ?_
            refine zi_iadd M dX6_listen_106 ?_
            refine zi_put (ci := 6) (ws' := ((rooW ad 0 cy xm (xr + 1)) ++ ((airW ad 1 cy h su st sh fl cS cH dD dE dF) ++ ((airW ad 8 cy kh ksu kst ksh kfl kcS kcH kdD kdE kdF) ++ ((grdW ad 15 cy sea noi) ++ ((rayW ad 18 cy (u_7 0) (u_7 1) (u_7 2) (u_7 3) (u_7 4) (u_7 5) (u_7 6) (u_7 7)) ++ (sndW ad 25 cy 6 bsm bpl bpw ban bhd bfq))))))) M hE hP hD hS 0 rfl rfl zu_X6 9 (by decide) zk_fl_RX6_158 rfl rfl tyX6_ok nmX6 rfl rfl (Nat.le_of_ble_eq_true rfl) rfl dX6_listen_107 (fun H locs hP hD hS => ?_)
            refine lv_aload_n M.1 M.2.1 dX6_listen_110 rfl (lv_at hl 4 rfl) ?_
            refine lv_dup M.1 M.2.1 dX6_listen_111 rfl ?_
            refine zi_get (ci := 6) (v := .int (iI xm)) M hE hP 0 rfl rfl zu_X6 8 (by decide) zk_fl_RX6_161 rfl rfl dX6_listen_112 ?_
            refine zi_push M dX6_listen_115 ?_
            refine zi_iadd M dX6_listen_116 ?_
            refine zi_put (ci := 6) (ws' := ((rooW ad 0 cy (xm + 1) (xr + 1)) ++ ((airW ad 1 cy h su st sh fl cS cH dD dE dF) ++ ((airW ad 8 cy kh ksu kst ksh kfl kcS kcH kdD kdE kdF) ++ ((grdW ad 15 cy sea noi) ++ ((rayW ad 18 cy (u_7 0) (u_7 1) (u_7 2) (u_7 3) (u_7 4) (u_7 5) (u_7 6) (u_7 7)) ++ (sndW ad 25 cy 6 bsm bpl bpw ban bhd bfq))))))) M hE hP hD hS 0 rfl rfl zu_X6 8 (by decide) zk_fl_RX6_161 rfl rfl tyX6_ok nmX6 rfl rfl (Nat.le_of_ble_eq_true rfl) rfl dX6_listen_117 (fun H locs hP hD hS => ?_)
            refine zi_iinc (lv' := [(3, .int (iI (i + 1))), (2, .int (iI (orZ ln i))), (6, .int (iI 1)), (5, .int (iI 1)), (4, .int (iI (bfq i))), (0, .ref (ad 0)), (1, .int (iI q))]) M dX6_listen_120 hl 6 rfl (by decide) rfl (fun ls hl => ?_)
            refine zi_goto (tgt := 8) M dX6_listen_123 (by decide) ?_
            exact ih_8 (orZ ln i) (i + 1) u_7 (xm + 1) (xr + 1) (by omega) (liF_s hi.1 hb (by unfold hrP; omega)) (lrF_s hi.1 hrr (by unfold hrP; omega)) (by omega) (by omega) _ _ hP hD hS ls (lv_sub hl [5, 6, 1, 0] rfl)
  exact L_8 (Int.toNat (bsm - 0) + 1) 0 0 (u8 ypl ydr yan yfr yst ylg yle ydl) fm fr (by omega) rfl (by show fr = fr + 0; omega) (by omega) (by omega) _ _ hP hD hS ls (lv_sub hl [2, 3, 1, 0] rfl)
