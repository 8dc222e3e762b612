/-! contracts: signals, calm -/
set_option maxRecDepth 100000 in
set_option maxHeartbeats 4000000 in
theorem c_X6_signalAtC (l : Launch) (D : va_G) (cy : Nat → ClassId) (z0 : Nat) (ad : Nat → Nat) (b2 : Nat) (nn : Nat) (fm fr h su st sh fl kh ksu kst ksh kfl ypl ydr yan yfr yst ylg yle ydl sm : Int) (cS cH dD dE dF kcS kcH kdD kdE kdF sea noi pl pw an hd fq : Int → Int) (k : Int) (f : Int) (t : Int) (g_kdD : zrg 48 0 1000 kdD) (g_kdE : zrg 48 0 1000 kdE) (g_kdF : zrg 48 0 1000 kdF) (g_sea : zrg 48 0 1 sea) (g_noi : zrg 48 0 40 noi) (g_pl : zrg nn 0 47 pl) (g_pw : zrg nn 0 80 pw) (g_an : zrg nn 0 2 an) (g_hd : zrg nn 0 2 hd) (hnn : nn ≤ 2147483647) (hk : 0 ≤ k ∧ k < (nn : Int)) (hf : 10 ≤ f ∧ f ≤ 300) (ht0 : 0 ≤ t ∧ t < 48) (hh : 0 ≤ h ∧ h ≤ 5000) : Met l yX6_signalAt [.code yX6_signalAt cX6_signalAt 9 (some .int)] (zRm 4 0 0 103) (zPc [.ref (ad 0), .ref (ad 8), .ref (ad b2), .int (iI k), .int (iI f), .int (iI t)] D cy z0 (zWl D z0 ((rooW ad 0 cy fm fr) ++ ((airW ad 1 cy h su st sh fl cS cH dD dE dF) ++ ((airW ad 8 cy kh ksu kst ksh kfl kcS kcH kdD kdE kdF) ++ ((grdW ad 15 cy sea noi) ++ ((rayW ad 18 cy ypl ydr yan yfr yst ylg yle ydl) ++ (sndW ad b2 cy nn sm pl pw an hd fq)))))))) (zQ1 D ((rooW ad 0 cy fm fr) ++ ((airW ad 1 cy h su st sh fl cS cH dD dE dF) ++ ((airW ad 8 cy kh ksu kst ksh kfl kcS kcH kdD kdE kdF) ++ ((grdW ad 15 cy sea noi) ++ ((rayW ad 18 cy ypl ydr yan yfr yst ylg yle ydl) ++ (sndW ad b2 cy nn sm pl pw an hd fq)))))) (fun (r : Int32) (u : Nat → Int) => r = iI (sigZ kdE kdF kdD sea noi h (pl k) t f (pw k) (an k) (hd k))) (fun (u : Nat → Int) => ((rooW ad 0 cy fm fr) ++ ((airW ad 1 cy h su st sh fl cS cH dD dE dF) ++ ((airW ad 8 cy kh ksu kst ksh kfl kcS kcH kdD kdE kdF) ++ ((grdW ad 15 cy sea noi) ++ ((rayW ad 18 cy (u 0) (u 1) (u 2) (u 3) (u 4) (u 5) (u 6) (u 7)) ++ (sndW ad b2 cy nn sm pl pw an hd fq)))))))) 0 0 (zIn ((rooW ad 0 cy fm fr) ++ ((airW ad 1 cy h su st sh fl cS cH dD dE dF) ++ ((airW ad 8 cy kh ksu kst ksh kfl kcS kcH kdD kdE kdF) ++ ((grdW ad 15 cy sea noi) ++ ((rayW ad 18 cy ypl ydr yan yfr yst ylg yle ydl) ++ (sndW ad b2 cy nn sm pl pw an hd fq))))))) := by
  refine z_of (by decide) (Nat.le_of_ble_eq_true rfl) ?_
  intro p e s m args below meth c M hr hlk hini hargs hP0 hE ls hl
  have hP : va_P D vwCl ((rooW ad 0 cy fm fr) ++ ((airW ad 1 cy h su st sh fl cS cH dD dE dF) ++ ((airW ad 8 cy kh ksu kst ksh kfl kcS kcH kdD kdE kdF) ++ ((grdW ad 15 cy sea noi) ++ ((rayW ad 18 cy ypl ydr yan yfr yst ylg yle ydl) ++ (sndW ad b2 cy nn sm pl pw an hd fq)))))) s.heap := hP0.1
  have hD : va_D (zIn ((rooW ad 0 cy fm fr) ++ ((airW ad 1 cy h su st sh fl cS cH dD dE dF) ++ ((airW ad 8 cy kh ksu kst ksh kfl kcS kcH kdD kdE kdF) ++ ((grdW ad 15 cy sea noi) ++ ((rayW ad 18 cy ypl ydr yan yfr yst ylg yle ydl) ++ (sndW ad b2 cy nn sm pl pw an hd fq))))))) ((rooW ad 0 cy fm fr) ++ ((airW ad 1 cy h su st sh fl cS cH dD dE dF) ++ ((airW ad 8 cy kh ksu kst ksh kfl kcS kcH kdD kdE kdF) ++ ((grdW ad 15 cy sea noi) ++ ((rayW ad 18 cy ypl ydr yan yfr yst ylg yle ydl) ++ (sndW ad b2 cy nn sm pl pw an hd fq)))))) := hP0.self
  have hAz := hP0.A
  have hS : va_S (zIn ((rooW ad 0 cy fm fr) ++ ((airW ad 1 cy h su st sh fl cS cH dD dE dF) ++ ((airW ad 8 cy kh ksu kst ksh kfl kcS kcH kdD kdE kdF) ++ ((grdW ad 15 cy sea noi) ++ ((rayW ad 18 cy ypl ydr yan yfr yst ylg yle ydl) ++ (sndW ad b2 cy nn sm pl pw an hd fq))))))) s.heap s.heap [] := va_S.rf
  have hl : lv_has ls 9 [(0, .ref (ad 0)), (1, .ref (ad 8)), (2, .ref (ad b2)), (3, .int (iI k)), (4, .int (iI f)), (5, .int (iI t))] := hl
  have hpl := g_pl k hk.1 hk.2
  have hpw := g_pw k hk.1 hk.2
  refine zi_push M dX6_signalAt_0 ?_
  refine lv_istore (lv' := [(6, .int (iI (-1))), (0, .ref (ad 0)), (1, .ref (ad 8)), (2, .ref (ad b2)), (3, .int (iI k)), (4, .int (iI f)), (5, .int (iI t))]) M.1 M.2.1 dX6_signalAt_1 hl (by decide) rfl (fun ls hl => ?_)
  refine zi_push M dX6_signalAt_3 ?_
  refine lv_istore (lv' := [(7, .int (iI 0)), (6, .int (iI (-1))), (0, .ref (ad 0)), (1, .ref (ad 8)), (2, .ref (ad b2)), (3, .int (iI k)), (4, .int (iI f)), (5, .int (iI t))]) M.1 M.2.1 dX6_signalAt_4 hl (by decide) rfl (fun ls hl => ?_)
  have L_6 : ∀ (k_6 : Nat) (i : Int) (bs : Int) (ur : Nat → Int) (hi : 0 ≤ i ∧ i ≤ 18) (hbs : bs = bestZ kdE kdF kdD sea (pl k) t f (pw k) (an k) (hd k) i.toNat) (hm : 18 - i < (k_6 : Int)) (H : Heap) (locs : List Loc) (hP : va_P D vwCl ((rooW ad 0 cy fm fr) ++ ((airW ad 1 cy h su st sh fl cS cH dD dE dF) ++ ((airW ad 8 cy kh ksu kst ksh kfl kcS kcH kdD kdE kdF) ++ ((grdW ad 15 cy sea noi) ++ ((rayW ad 18 cy (ur 0) (ur 1) (ur 2) (ur 3) (ur 4) (ur 5) (ur 6) (ur 7)) ++ (sndW ad b2 cy nn sm pl pw an hd fq)))))) H) (hD : va_D (zIn ((rooW ad 0 cy fm fr) ++ ((airW ad 1 cy h su st sh fl cS cH dD dE dF) ++ ((airW ad 8 cy kh ksu kst ksh kfl kcS kcH kdD kdE kdF) ++ ((grdW ad 15 cy sea noi) ++ ((rayW ad 18 cy ypl ydr yan yfr yst ylg yle ydl) ++ (sndW ad b2 cy nn sm pl pw an hd fq))))))) ((rooW ad 0 cy fm fr) ++ ((airW ad 1 cy h su st sh fl cS cH dD dE dF) ++ ((airW ad 8 cy kh ksu kst ksh kfl kcS kcH kdD kdE kdF) ++ ((grdW ad 15 cy sea noi) ++ ((rayW ad 18 cy (ur 0) (ur 1) (ur 2) (ur 3) (ur 4) (ur 5) (ur 6) (ur 7)) ++ (sndW ad b2 cy nn sm pl pw an hd fq))))))) (hS : va_S (zIn ((rooW ad 0 cy fm fr) ++ ((airW ad 1 cy h su st sh fl cS cH dD dE dF) ++ ((airW ad 8 cy kh ksu kst ksh kfl kcS kcH kdD kdE kdF) ++ ((grdW ad 15 cy sea noi) ++ ((rayW ad 18 cy ypl ydr yan yfr yst ylg yle ydl) ++ (sndW ad b2 cy nn sm pl pw an hd fq))))))) s.heap H locs) (ls : Array Slot) (hl : lv_has ls 9 [(0, .ref (ad 0)), (1, .ref (ad 8)), (2, .ref (ad b2)), (3, .int (iI k)), (4, .int (iI f)), (5, .int (iI t)), (6, .int (iI bs)), (7, .int (iI i))]), W p l e (zRm 4 0 0 103) s m args below meth c H locs 0 0 (MQ below (zQ1 D ((rooW ad 0 cy fm fr) ++ ((airW ad 1 cy h su st sh fl cS cH dD dE dF) ++ ((airW ad 8 cy kh ksu kst ksh kfl kcS kcH kdD kdE kdF) ++ ((grdW ad 15 cy sea noi) ++ ((rayW ad 18 cy ypl ydr yan yfr yst ylg yle ydl) ++ (sndW ad b2 cy nn sm pl pw an hd fq)))))) (fun (r : Int32) (u : Nat → Int) => r = iI (sigZ kdE kdF kdD sea noi h (pl k) t f (pw k) (an k) (hd k))) (fun (u : Nat → Int) => ((rooW ad 0 cy fm fr) ++ ((airW ad 1 cy h su st sh fl cS cH dD dE dF) ++ ((airW ad 8 cy kh ksu kst ksh kfl kcS kcH kdD kdE kdF) ++ ((grdW ad 15 cy sea noi) ++ ((rayW ad 18 cy (u 0) (u 1) (u 2) (u 3) (u 4) (u 5) (u 6) (u 7)) ++ (sndW ad b2 cy nn sm pl pw an hd fq)))))))) args s 0 0 (zIn ((rooW ad 0 cy fm fr) ++ ((airW ad 1 cy h su st sh fl cS cH dD dE dF) ++ ((airW ad 8 cy kh ksu kst ksh kfl kcS kcH kdD kdE kdF) ++ ((grdW ad 15 cy sea noi) ++ ((rayW ad 18 cy ypl ydr yan yfr yst ylg yle ydl) ++ (sndW ad b2 cy nn sm pl pw an hd fq)))))))) (F0 m 6 ls []) := by
    intro k_6
    induction k_6 with
    | zero =>
      intro i bs ur hi hbs hm H locs hP hD hS ls hl
      exact absurd hm (by omega)
    | succ k_6 ih_6 =>
      intro i bs ur hi hbs hm H locs hP hD hS ls hl
      have hbr0 := bestZ_rg (t := t) (an := an k) (hd := hd k) (dE := kdE) (dF := kdF) (sea := sea) g_kdD hf (fr := pl k) (by omega) hpw i.toNat
      rw [← hbs] at hbr0
      refine lv_iload M.1 M.2.1 dX6_signalAt_6 (lv_at hl 7 rfl) ?_
      refine zi_bipush M dX6_signalAt_8 ⟨by decide, by decide⟩ ?_
      refine zi_icmp_ge (tgt := 77) M dX6_signalAt_10 (by decide) (by omega) ⟨by decide, by decide⟩ (fun c_1 => ?_) (fun c_1 => ?_)
      ·
        have h18 : i = 18 := by omega
        subst h18
        have hbs2 : bs = bestZ kdE kdF kdD sea (pl k) t f (pw k) (an k) (hd k) 18 := hbs
        refine lv_iload M.1 M.2.1 dX6_signalAt_77 (lv_at hl 6 rfl) ?_
        refine zi_push M dX6_signalAt_79 ?_
        refine zi_icmp_ne (tgt := 89) M dX6_signalAt_80 (by decide) (by omega) ⟨by decide, by decide⟩ (fun c_2 => ?_) (fun c_2 => ?_)
        ·
          refine lv_iload M.1 M.2.1 dX6_signalAt_89 (lv_at hl 6 rfl) ?_
          refine lv_aload_n M.1 M.2.1 dX6_signalAt_91 rfl (lv_at hl 0 rfl) ?_
          refine lv_iload M.1 M.2.1 dX6_signalAt_92 (lv_at hl 5 rfl) ?_
          refine z_cR (z_runV (As := [.int (iI t)]) (rest := [.int (iI bs)]) M (c_X6_noiseNow l D cy z0 ad fm fr h su st sh fl cS cH dD dE dF sea noi t g_noi (by omega) (by omega)) hE hS hAz (hP.sub [0, 1, 2, 3, 4, 5, 6, 7, 15, 16, 17] rfl) (zRc.of (ci := 6) (q0 := 0) hE hP rfl rfl) zk_cd_X6_noiseNow zk_in_RX6 zk_im_X6_noiseNow zk_se_X6_noiseNow zk_ml_RX6_309 rfl rfl zd_X6_noiseNow ⟨by decide, by decide⟩ rfl hl.1 rfl (Nat.le_of_ble_eq_true rfl) dX6_signalAt_94 ⟨by decide, by decide⟩) ?_
          refine zi_isub M dX6_signalAt_97 ?_
          have hP : va_P D vwCl ((rooW ad 0 cy fm fr) ++ ((airW ad 1 cy h su st sh fl cS cH dD dE dF) ++ ((airW ad 8 cy kh ksu kst ksh kfl kcS kcH kdD kdE kdF) ++ ((grdW ad 15 cy sea noi) ++ ((rayW ad 18 cy (ur 0) (ur 1) (ur 2) (ur 3) (ur 4) (ur 5) (ur 6) (ur 7)) ++ (sndW ad b2 cy nn sm pl pw an hd fq)))))) H := hP
          exact zw_i M hr hlk ur hP hS (congrArg iI (show ((bs - (noi t + (if lightZ h t = 0 then 3 else 0))) : Int) = sigZ kdE kdF kdD sea noi h (pl k) t f (pw k) (an k) (hd k) by (unfold sigZ; rw [← hbs2]; first | exact (if_pos c_2).symm | exact (if_neg c_2).symm))) (by decide) (by decide) dX6_signalAt_98
        ·
          refine zi_sipush M dX6_signalAt_83 ⟨by decide, by decide⟩ ?_
          refine zi_goto (tgt := 98) M dX6_signalAt_86 (by decide) ?_
          have hP : va_P D vwCl ((rooW ad 0 cy fm fr) ++ ((airW ad 1 cy h su st sh fl cS cH dD dE dF) ++ ((airW ad 8 cy kh ksu kst ksh kfl kcS kcH kdD kdE kdF) ++ ((grdW ad 15 cy sea noi) ++ ((rayW ad 18 cy (ur 0) (ur 1) (ur 2) (ur 3) (ur 4) (ur 5) (ur 6) (ur 7)) ++ (sndW ad b2 cy nn sm pl pw an hd fq)))))) H := hP
          exact zw_i M hr hlk ur hP hS (congrArg iI (show ((-1000) : Int) = sigZ kdE kdF kdD sea noi h (pl k) t f (pw k) (an k) (hd k) by (unfold sigZ; rw [← hbs2]; first | exact (if_pos c_2).symm | exact (if_neg c_2).symm))) (by decide) (by decide) dX6_signalAt_98
      ·
        refine lv_aload_n M.1 M.2.1 dX6_signalAt_13 rfl (lv_at hl 2 rfl) ?_
        refine lv_iload_n M.1 M.2.1 dX6_signalAt_14 rfl (lv_at hl 3 rfl) ?_
        refine lv_iload M.1 M.2.1 dX6_signalAt_15 (lv_at hl 7 rfl) ?_
        refine z_cR (z_runS (As := [.int (iI i)]) (rest := [.int (iI k), .ref (ad b2)]) M (c_X6_directionOf l D cy z0 i (by omega)) hE hS hAz trivial zk_cd_X6_directionOf zk_in_RX6 zk_st_X6_directionOf zk_ml_RX6_288 rfl rfl zd_X6_directionOf ⟨by decide, by decide⟩ rfl hl.1 rfl (Nat.le_of_ble_eq_true rfl) dX6_signalAt_17 ⟨by decide, by decide⟩) ?_
        have hx_3 := drZ_c i
        refine lv_iload M.1 M.2.1 dX6_signalAt_20 (lv_at hl 7 rfl) ?_
        refine z_cR (z_runS (As := [.int (iI i)]) (rest := [.int (iI (drZ i)), .int (iI k), .ref (ad b2)]) M (c_X6_angleOf l D cy z0 i (by omega)) hE hS hAz trivial zk_cd_X6_angleOf zk_in_RX6 zk_st_X6_angleOf zk_ml_RX6_291 rfl rfl zd_X6_angleOf ⟨by decide, by decide⟩ rfl hl.1 rfl (Nat.le_of_ble_eq_true rfl) dX6_signalAt_22 ⟨by decide, by decide⟩) ?_
        refine z_cR (z_runV (As := [.int (iI k), .int (iI (drZ i)), .int (iI (i % 9 + 1))]) (rest := []) M (c_X5_strengthAtFirst l D cy z0 ad b2 nn sm pl pw an hd fq k (drZ i) (i % 9 + 1) g_pw g_an g_hd (by omega) (by omega) (by omega) (by omega)) hE hS hAz (hP.sub [19, 20, 21, 22, 23, 24] rfl) (zRc.of (ci := 5) (q0 := 19) hE hP rfl rfl) zk_cd_X5_strengthAtFirst zk_in_RX5 zk_im_X5_strengthAtFirst zk_se_X5_strengthAtFirst zk_ml_RX6_303 rfl rfl zd_X5_strengthAtFirst ⟨by decide, by decide⟩ rfl hl.1 rfl (Nat.le_of_ble_eq_true rfl) dX6_signalAt_25 ⟨by decide, by decide⟩) ?_
        have hx_4 := gainZ_rg (an k) (i % 9 + 1) (by omega)
        have hx_5 := asideZ_rg (hd k) (drZ i)
        refine lv_istore (lv' := [(8, .int (iI (pw k + gainZ (an k) (i % 9 + 1) - asideZ (hd k) (drZ i)))), (0, .ref (ad 0)), (1, .ref (ad 8)), (2, .ref (ad b2)), (3, .int (iI k)), (4, .int (iI f)), (5, .int (iI t)), (6, .int (iI bs)), (7, .int (iI i))]) M.1 M.2.1 dX6_signalAt_28 hl (by decide) rfl (fun ls hl => ?_)
        have hbz : (pw k + gainZ (an k) (i % 9 + 1) - asideZ (hd k) (drZ i)) = begZ (pw k) (an k) (hd k) i := rfl
        have hbr := begZ_rg (an := an k) (hd := hd k) (n := i) hpw
        refine lv_iload M.1 M.2.1 dX6_signalAt_30 (lv_at hl 0 rfl) ?_
        refine zi_if_lt (tgt := 71) M dX6_signalAt_32 (by decide) (by omega) (fun c_6 => ?_) (fun c_6 => ?_)
        ·
          refine zi_iinc (lv' := [(7, .int (iI (i + 1))), (8, .int (iI (pw k + gainZ (an k) (i % 9 + 1) - asideZ (hd k) (drZ i)))), (0, .ref (ad 0)), (1, .ref (ad 8)), (2, .ref (ad b2)), (3, .int (iI k)), (4, .int (iI f)), (5, .int (iI t)), (6, .int (iI bs))]) M dX6_signalAt_71 hl 8 rfl (by decide) rfl (fun ls hl => ?_)
          refine zi_goto (tgt := 6) M dX6_signalAt_74 (by decide) ?_
          exact ih_6 (i + 1) bs ur (by omega) (bestZ_i hi.1 hbs (by rw [sgZ_b (by rw [← hbz]; assumption)]; omega)) (by omega) _ _ hP hD hS ls (lv_sub hl [2, 3, 4, 5, 6, 7, 8, 0] rfl)
        ·
          refine lv_aload_n M.1 M.2.1 dX6_signalAt_35 rfl (lv_at hl 1 rfl) ?_
          refine lv_aload_n M.1 M.2.1 dX6_signalAt_36 rfl (lv_at hl 2 rfl) ?_
          refine lv_aload_n M.1 M.2.1 dX6_signalAt_37 rfl (lv_at hl 3 rfl) ?_
          refine zi_getN (ci := 5) (v := .ref (ad (b2 + 1))) M hE hP 19 rfl rfl zu_X5 0 (by decide) zk_fn_RX6_248 rfl rfl dX6_signalAt_38 ?_
          refine lv_iload_n M.1 M.2.1 dX6_signalAt_41 rfl (lv_at hl 4 rfl) ?_
          refine zi_iald M hE hP 20 (n := nn) (g := pl) rfl hnn (by omega) (by omega) dX6_signalAt_42 ?_
          have hr_7 := g_pl k (by omega) (by omega)
          refine lv_iload M.1 M.2.1 dX6_signalAt_43 (lv_at hl 6 rfl) ?_
          refine lv_iload M.1 M.2.1 dX6_signalAt_45 (lv_at hl 8 rfl) ?_
          refine lv_iload M.1 M.2.1 dX6_signalAt_47 (lv_at hl 5 rfl) ?_
          refine lv_iload M.1 M.2.1 dX6_signalAt_49 (lv_at hl 0 rfl) ?_
          refine z_cW (z_runV (As := [.ref (ad 8), .int (iI (pl k)), .int (iI t), .int (iI i), .int (iI f), .int (iI (pw k + gainZ (an k) (i % 9 + 1) - asideZ (hd k) (drZ i)))]) (rest := []) M (c_X6_reaches l D cy z0 ad 8 fm fr kh ksu kst ksh kfl (ur 0) (ur 1) (ur 2) (ur 3) (ur 4) (ur 5) (ur 6) (ur 7) kcS kcH kdD kdE kdF sea noi (pl k) t i f (pw k + gainZ (an k) (i % 9 + 1) - asideZ (hd k) (drZ i)) g_kdD g_kdE g_kdF g_sea (by omega) (by omega) (by omega) (by omega) (by omega)) hE hS hAz (z_cut hP hD hAz [0, 8, 9, 10, 11, 12, 13, 14, 15, 16, 17, 18] rfl (by decide +kernel)) (zRc.of (ci := 6) (q0 := 0) hE hP rfl rfl) zk_cd_X6_reaches zk_in_RX6 zk_im_X6_reaches zk_se_X6_reaches zk_ml_RX6_196 rfl rfl zd_X6_reaches ⟨by decide, by decide⟩ rfl hl.1 rfl (Nat.le_of_ble_eq_true rfl) dX6_signalAt_51 ⟨by decide, by decide⟩) hP hD hS [0, 8, 9, 10, 11, 12, 13, 14, 15, 16, 17, 18] rfl (fun _ => rfl) (fun r_8 u_8 H locs hp_8 hP hD hS => ?_)
          have hP : va_P D vwCl ((rooW ad 0 cy fm fr) ++ ((airW ad 1 cy h su st sh fl cS cH dD dE dF) ++ ((airW ad 8 cy kh ksu kst ksh kfl kcS kcH kdD kdE kdF) ++ ((grdW ad 15 cy sea noi) ++ ((rayW ad 18 cy (u_8 0) (u_8 1) (u_8 2) (u_8 3) (u_8 4) (u_8 5) (u_8 6) (u_8 7)) ++ (sndW ad b2 cy nn sm pl pw an hd fq)))))) H := hP
          have hD : va_D (zIn ((rooW ad 0 cy fm fr) ++ ((airW ad 1 cy h su st sh fl cS cH dD dE dF) ++ ((airW ad 8 cy kh ksu kst ksh kfl kcS kcH kdD kdE kdF) ++ ((grdW ad 15 cy sea noi) ++ ((rayW ad 18 cy ypl ydr yan yfr yst ylg yle ydl) ++ (sndW ad b2 cy nn sm pl pw an hd fq))))))) ((rooW ad 0 cy fm fr) ++ ((airW ad 1 cy h su st sh fl cS cH dD dE dF) ++ ((airW ad 8 cy kh ksu kst ksh kfl kcS kcH kdD kdE kdF) ++ ((grdW ad 15 cy sea noi) ++ ((rayW ad 18 cy (u_8 0) (u_8 1) (u_8 2) (u_8 3) (u_8 4) (u_8 5) (u_8 6) (u_8 7)) ++ (sndW ad b2 cy nn sm pl pw an hd fq)))))) := hD
          rcases hp_8 with ⟨w_8, lg_8, le_8, dl_8, hs_8, rfl, rfl⟩ | ⟨hs_8, rfl⟩
          ·
            have hP : va_P D vwCl ((rooW ad 0 cy fm fr) ++ ((airW ad 1 cy h su st sh fl cS cH dD dE dF) ++ ((airW ad 8 cy kh ksu kst ksh kfl kcS kcH kdD kdE kdF) ++ ((grdW ad 15 cy sea noi) ++ ((rayW ad 18 cy t (drZ i) (i % 9 + 1) f w_8 lg_8 le_8 dl_8) ++ (sndW ad b2 cy nn sm pl pw an hd fq)))))) H := hP
            have hD : va_D (zIn ((rooW ad 0 cy fm fr) ++ ((airW ad 1 cy h su st sh fl cS cH dD dE dF) ++ ((airW ad 8 cy kh ksu kst ksh kfl kcS kcH kdD kdE kdF) ++ ((grdW ad 15 cy sea noi) ++ ((rayW ad 18 cy ypl ydr yan yfr yst ylg yle ydl) ++ (sndW ad b2 cy nn sm pl pw an hd fq))))))) ((rooW ad 0 cy fm fr) ++ ((airW ad 1 cy h su st sh fl cS cH dD dE dF) ++ ((airW ad 8 cy kh ksu kst ksh kfl kcS kcH kdD kdE kdF) ++ ((grdW ad 15 cy sea noi) ++ ((rayW ad 18 cy t (drZ i) (i % 9 + 1) f w_8 lg_8 le_8 dl_8) ++ (sndW ad b2 cy nn sm pl pw an hd fq)))))) := hD
            have hb_8 := rayZ_rg g_kdD (by omega) (by omega) hs_8
            refine zi_if_eq (tgt := 71) M dX6_signalAt_54 (by decide) ⟨by decide, by decide⟩ (fun q => absurd q (by decide)) (fun _ => ?_)
            refine lv_iload M.1 M.2.1 dX6_signalAt_57 (lv_at hl 7 rfl) ?_
            refine lv_aload_n M.1 M.2.1 dX6_signalAt_59 rfl (lv_at hl 1 rfl) ?_
            refine zi_get (ci := 6) (v := .ref (ad 18)) M hE hP 0 rfl rfl zu_X6 3 (by decide) zk_fl_RX6_29 rfl rfl dX6_signalAt_60 ?_
            refine zi_getN (ci := 4) (v := .int (iI w_8)) M hE hP 18 rfl rfl zu_X4 4 (by decide) zk_fn_RX6_306 rfl rfl dX6_signalAt_63 ?_
            refine zi_max M hl.1 zk_ml_RX6_226 (by decide) (Nat.le_of_ble_eq_true rfl) (by decide) (by decide) (by omega) (by omega) dX6_signalAt_66 ?_
            refine lv_istore (lv' := [(6, .int (iI (max bs w_8))), (8, .int (iI (pw k + gainZ (an k) (i % 9 + 1) - asideZ (hd k) (drZ i)))), (0, .ref (ad 0)), (1, .ref (ad 8)), (2, .ref (ad b2)), (3, .int (iI k)), (4, .int (iI f)), (5, .int (iI t)), (7, .int (iI i))]) M.1 M.2.1 dX6_signalAt_69 hl (by decide) rfl (fun ls hl => ?_)
            refine zi_iinc (lv' := [(7, .int (iI (i + 1))), (6, .int (iI (max bs w_8))), (8, .int (iI (pw k + gainZ (an k) (i % 9 + 1) - asideZ (hd k) (drZ i)))), (0, .ref (ad 0)), (1, .ref (ad 8)), (2, .ref (ad b2)), (3, .int (iI k)), (4, .int (iI f)), (5, .int (iI t))]) M dX6_signalAt_71 hl 8 rfl (by decide) rfl (fun ls hl => ?_)
            refine zi_goto (tgt := 6) M dX6_signalAt_74 (by decide) ?_
            exact ih_6 (i + 1) (max bs w_8) (u8 t (drZ i) (i % 9 + 1) f w_8 lg_8 le_8 dl_8) (by omega) (bestZ_i hi.1 hbs (by rw [sgZ_s (by rw [← hbz]; assumption) hs_8])) (by omega) _ _ hP hD hS ls (lv_sub hl [3, 4, 5, 6, 7, 8, 1, 0] rfl)
          ·
            refine zi_if_eq (tgt := 71) M dX6_signalAt_54 (by decide) ⟨by decide, by decide⟩ (fun _ => ?_) (fun q => absurd q (by decide))
            refine zi_iinc (lv' := [(7, .int (iI (i + 1))), (8, .int (iI (pw k + gainZ (an k) (i % 9 + 1) - asideZ (hd k) (drZ i)))), (0, .ref (ad 0)), (1, .ref (ad 8)), (2, .ref (ad b2)), (3, .int (iI k)), (4, .int (iI f)), (5, .int (iI t)), (6, .int (iI bs))]) M dX6_signalAt_71 hl 8 rfl (by decide) rfl (fun ls hl => ?_)
            refine zi_goto (tgt := 6) M dX6_signalAt_74 (by decide) ?_
            exact ih_6 (i + 1) bs u_8 (by omega) (bestZ_i hi.1 hbs (by rw [sgZ_n hs_8]; omega)) (by omega) _ _ hP hD hS ls (lv_sub hl [2, 3, 4, 5, 6, 7, 8, 0] rfl)
  exact L_6 (Int.toNat (18 - 0) + 1) 0 (-1) (u8 ypl ydr yan yfr yst ylg yle ydl) (by omega) rfl (by omega) _ _ hP hD hS ls (lv_sub hl [2, 3, 4, 5, 6, 7, 1, 0] rfl)
