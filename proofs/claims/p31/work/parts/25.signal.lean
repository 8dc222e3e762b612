/-! contracts: paths -/
set_option maxRecDepth 100000 in
set_option maxHeartbeats 4000000 in
theorem c_X6_hasPath (l : Launch) (D : va_G) (cy : Nat → ClassId) (z0 : Nat) (ad : Nat → Nat) (fm fr h su st sh fl ypl ydr yan yfr yst ylg yle ydl : Int) (cS cH dD dE dF sea noi : Int → Int) (q : Int) (t : Int) (f : Int) (w : Int) (g_dD : zrg 48 0 1000 dD) (g_dE : zrg 48 0 1000 dE) (g_dF : zrg 48 0 1000 dF) (g_sea : zrg 48 0 1 sea) (hq : 0 ≤ q ∧ q < 48) (ht0 : 0 ≤ t ∧ t < 48) (hf : 10 ≤ f ∧ f ≤ 300) (hw : 0 ≤ w ∧ w ≤ 200) : Met l yX6_hasPath [.code yX6_hasPath cX6_hasPath 6 (some .boolean)] (zRm 4 0 0 103) (zPc [.ref (ad 0), .int (iI q), .int (iI t), .int (iI f), .int (iI w)] D cy z0 (zWl D z0 ((rooW ad 0 cy fm fr) ++ ((airW ad 1 cy h su st sh fl cS cH dD dE dF) ++ ((grdW ad 15 cy sea noi) ++ (rayW ad 18 cy ypl ydr yan yfr yst ylg yle ydl)))))) (zQ1 D ((rooW ad 0 cy fm fr) ++ ((airW ad 1 cy h su st sh fl cS cH dD dE dF) ++ ((grdW ad 15 cy sea noi) ++ (rayW ad 18 cy ypl ydr yan yfr yst ylg yle ydl)))) (fun (r : Int32) (u : Nat → Int) => (hasZ dE dF dD sea q t f w ∧ r = iI 1) ∨ (¬ hasZ dE dF dD sea q t f w ∧ r = iI 0)) (fun (u : Nat → Int) => ((rooW ad 0 cy fm fr) ++ ((airW ad 1 cy h su st sh fl cS cH dD dE dF) ++ ((grdW ad 15 cy sea noi) ++ (rayW ad 18 cy (u 0) (u 1) (u 2) (u 3) (u 4) (u 5) (u 6) (u 7))))))) 0 0 (zIn ((rooW ad 0 cy fm fr) ++ ((airW ad 1 cy h su st sh fl cS cH dD dE dF) ++ ((grdW ad 15 cy sea noi) ++ (rayW ad 18 cy ypl ydr yan yfr yst ylg yle ydl))))) := by
  refine z_of (by decide) (Nat.le_of_ble_eq_true rfl) ?_
  intro p e s m args below meth c M hr hlk hini hargs hP0 hE ls hl
  have hP : va_P D vwCl ((rooW ad 0 cy fm fr) ++ ((airW ad 1 cy h su st sh fl cS cH dD dE dF) ++ ((grdW ad 15 cy sea noi) ++ (rayW ad 18 cy ypl ydr yan yfr yst ylg yle ydl)))) s.heap := hP0.1
  have hD : va_D (zIn ((rooW ad 0 cy fm fr) ++ ((airW ad 1 cy h su st sh fl cS cH dD dE dF) ++ ((grdW ad 15 cy sea noi) ++ (rayW ad 18 cy ypl ydr yan yfr yst ylg yle ydl))))) ((rooW ad 0 cy fm fr) ++ ((airW ad 1 cy h su st sh fl cS cH dD dE dF) ++ ((grdW ad 15 cy sea noi) ++ (rayW ad 18 cy ypl ydr yan yfr yst ylg yle ydl)))) := hP0.self
  have hAz := hP0.A
  have hS : va_S (zIn ((rooW ad 0 cy fm fr) ++ ((airW ad 1 cy h su st sh fl cS cH dD dE dF) ++ ((grdW ad 15 cy sea noi) ++ (rayW ad 18 cy ypl ydr yan yfr yst ylg yle ydl))))) s.heap s.heap [] := va_S.rf
  have hl : lv_has ls 6 [(0, .ref (ad 0)), (1, .int (iI q)), (2, .int (iI t)), (3, .int (iI f)), (4, .int (iI w))] := hl
  refine zi_push M dX6_hasPath_0 ?_
  refine lv_istore (lv' := [(5, .int (iI 0)), (0, .ref (ad 0)), (1, .int (iI q)), (2, .int (iI t)), (3, .int (iI f)), (4, .int (iI w))]) M.1 M.2.1 dX6_hasPath_1 hl (by decide) rfl (fun ls hl => ?_)
  have L_3 : ∀ (k_3 : Nat) (i : Int) (ur : Nat → Int) (hi : 0 ≤ i ∧ i ≤ 18) (hno : ∀ j : Int, 0 ≤ j → j < i → rayZ dE dF dD sea q t f w j = none) (hm : 18 - i < (k_3 : Int)) (H : Heap) (locs : List Loc) (hP : va_P D vwCl ((rooW ad 0 cy fm fr) ++ ((airW ad 1 cy h su st sh fl cS cH dD dE dF) ++ ((grdW ad 15 cy sea noi) ++ (rayW ad 18 cy (ur 0) (ur 1) (ur 2) (ur 3) (ur 4) (ur 5) (ur 6) (ur 7))))) H) (hD : va_D (zIn ((rooW ad 0 cy fm fr) ++ ((airW ad 1 cy h su st sh fl cS cH dD dE dF) ++ ((grdW ad 15 cy sea noi) ++ (rayW ad 18 cy ypl ydr yan yfr yst ylg yle ydl))))) ((rooW ad 0 cy fm fr) ++ ((airW ad 1 cy h su st sh fl cS cH dD dE dF) ++ ((grdW ad 15 cy sea noi) ++ (rayW ad 18 cy (ur 0) (ur 1) (ur 2) (ur 3) (ur 4) (ur 5) (ur 6) (ur 7)))))) (hS : va_S (zIn ((rooW ad 0 cy fm fr) ++ ((airW ad 1 cy h su st sh fl cS cH dD dE dF) ++ ((grdW ad 15 cy sea noi) ++ (rayW ad 18 cy ypl ydr yan yfr yst ylg yle ydl))))) s.heap H locs) (ls : Array Slot) (hl : lv_has ls 6 [(0, .ref (ad 0)), (1, .int (iI q)), (2, .int (iI t)), (3, .int (iI f)), (4, .int (iI w)), (5, .int (iI i))]), W p l e (zRm 4 0 0 103) s m args below meth c H locs 0 0 (MQ below (zQ1 D ((rooW ad 0 cy fm fr) ++ ((airW ad 1 cy h su st sh fl cS cH dD dE dF) ++ ((grdW ad 15 cy sea noi) ++ (rayW ad 18 cy ypl ydr yan yfr yst ylg yle ydl)))) (fun (r : Int32) (u : Nat → Int) => (hasZ dE dF dD sea q t f w ∧ r = iI 1) ∨ (¬ hasZ dE dF dD sea q t f w ∧ r = iI 0)) (fun (u : Nat → Int) => ((rooW ad 0 cy fm fr) ++ ((airW ad 1 cy h su st sh fl cS cH dD dE dF) ++ ((grdW ad 15 cy sea noi) ++ (rayW ad 18 cy (u 0) (u 1) (u 2) (u 3) (u 4) (u 5) (u 6) (u 7))))))) args s 0 0 (zIn ((rooW ad 0 cy fm fr) ++ ((airW ad 1 cy h su st sh fl cS cH dD dE dF) ++ ((grdW ad 15 cy sea noi) ++ (rayW ad 18 cy ypl ydr yan yfr yst ylg yle ydl)))))) (F0 m 3 ls []) := by
    intro k_3
    induction k_3 with
    | zero =>
      intro i ur hi hno hm H locs hP hD hS ls hl
      exact absurd hm (by omega)
    | succ k_3 ih_3 =>
      intro i ur hi hno hm H locs hP hD hS ls hl
      refine lv_iload M.1 M.2.1 dX6_hasPath_3 (lv_at hl 5 rfl) ?_
      refine zi_bipush M dX6_hasPath_5 ⟨by decide, by decide⟩ ?_
      refine zi_icmp_ge (tgt := 36) M dX6_hasPath_7 (by decide) (by omega) ⟨by decide, by decide⟩ (fun c_1 => ?_) (fun c_1 => ?_)
      ·
        refine zi_push M dX6_hasPath_36 ?_
        have hP : va_P D vwCl ((rooW ad 0 cy fm fr) ++ ((airW ad 1 cy h su st sh fl cS cH dD dE dF) ++ ((grdW ad 15 cy sea noi) ++ (rayW ad 18 cy (ur 0) (ur 1) (ur 2) (ur 3) (ur 4) (ur 5) (ur 6) (ur 7))))) H := hP
        exact zw_z M hr hlk (v := 0) (Or.inl rfl) ur hP hS (by (exact Or.inr ⟨fun ⟨n, a, b, h⟩ => h (hno n a (by omega)), rfl⟩)) (by decide) (by decide) dX6_hasPath_37
      ·
        refine lv_aload_n M.1 M.2.1 dX6_hasPath_10 rfl (lv_at hl 0 rfl) ?_
        refine lv_aload_n M.1 M.2.1 dX6_hasPath_11 rfl (lv_at hl 0 rfl) ?_
        refine zi_get (ci := 6) (v := .ref (ad 1)) M hE hP 0 rfl rfl zu_X6 0 (by decide) zk_fl_RX6_12 rfl rfl dX6_hasPath_12 ?_
        refine lv_iload_n M.1 M.2.1 dX6_hasPath_15 rfl (lv_at hl 1 rfl) ?_
        refine lv_iload_n M.1 M.2.1 dX6_hasPath_16 rfl (lv_at hl 2 rfl) ?_
        refine lv_iload M.1 M.2.1 dX6_hasPath_17 (lv_at hl 5 rfl) ?_
        refine lv_iload_n M.1 M.2.1 dX6_hasPath_19 rfl (lv_at hl 3 rfl) ?_
        refine lv_iload M.1 M.2.1 dX6_hasPath_20 (lv_at hl 4 rfl) ?_
        refine z_cW (z_runV (As := [.ref (ad 1), .int (iI q), .int (iI t), .int (iI i), .int (iI f), .int (iI w)]) (rest := []) M (c_X6_reaches l D cy z0 ad 1 fm fr h su st sh fl (ur 0) (ur 1) (ur 2) (ur 3) (ur 4) (ur 5) (ur 6) (ur 7) cS cH dD dE dF sea noi q t i f w g_dD g_dE g_dF g_sea (by omega) (by omega) (by omega) (by omega) (by omega)) hE hS hAz (z_cut hP hD hAz [0, 1, 2, 3, 4, 5, 6, 7, 8, 9, 10, 11] rfl (by decide +kernel)) (zRc.of (ci := 6) (q0 := 0) hE hP rfl rfl) zk_cd_X6_reaches zk_in_RX6 zk_im_X6_reaches zk_se_X6_reaches zk_ml_RX6_196 rfl rfl zd_X6_reaches ⟨by decide, by decide⟩ rfl hl.1 rfl (Nat.le_of_ble_eq_true rfl) dX6_hasPath_22 ⟨by decide, by decide⟩) hP hD hS [0, 1, 2, 3, 4, 5, 6, 7, 8, 9, 10, 11] rfl (fun _ => rfl) (fun r_2 u_2 H locs hp_2 hP hD hS => ?_)
        have hP : va_P D vwCl ((rooW ad 0 cy fm fr) ++ ((airW ad 1 cy h su st sh fl cS cH dD dE dF) ++ ((grdW ad 15 cy sea noi) ++ (rayW ad 18 cy (u_2 0) (u_2 1) (u_2 2) (u_2 3) (u_2 4) (u_2 5) (u_2 6) (u_2 7))))) H := hP
        have hD : va_D (zIn ((rooW ad 0 cy fm fr) ++ ((airW ad 1 cy h su st sh fl cS cH dD dE dF) ++ ((grdW ad 15 cy sea noi) ++ (rayW ad 18 cy ypl ydr yan yfr yst ylg yle ydl))))) ((rooW ad 0 cy fm fr) ++ ((airW ad 1 cy h su st sh fl cS cH dD dE dF) ++ ((grdW ad 15 cy sea noi) ++ (rayW ad 18 cy (u_2 0) (u_2 1) (u_2 2) (u_2 3) (u_2 4) (u_2 5) (u_2 6) (u_2 7))))) := hD
        rcases hp_2 with ⟨w_2, lg_2, le_2, dl_2, hs_2, rfl, rfl⟩ | ⟨hs_2, rfl⟩
        ·
          have hP : va_P D vwCl ((rooW ad 0 cy fm fr) ++ ((airW ad 1 cy h su st sh fl cS cH dD dE dF) ++ ((grdW ad 15 cy sea noi) ++ (rayW ad 18 cy t (drZ i) (i % 9 + 1) f w_2 lg_2 le_2 dl_2)))) H := hP
          have hD : va_D (zIn ((rooW ad 0 cy fm fr) ++ ((airW ad 1 cy h su st sh fl cS cH dD dE dF) ++ ((grdW ad 15 cy sea noi) ++ (rayW ad 18 cy ypl ydr yan yfr yst ylg yle ydl))))) ((rooW ad 0 cy fm fr) ++ ((airW ad 1 cy h su st sh fl cS cH dD dE dF) ++ ((grdW ad 15 cy sea noi) ++ (rayW ad 18 cy t (drZ i) (i % 9 + 1) f w_2 lg_2 le_2 dl_2)))) := hD
          have hb_2 := rayZ_rg g_dD (by omega) (by omega) hs_2
          refine zi_if_eq (tgt := 30) M dX6_hasPath_25 (by decide) ⟨by decide, by decide⟩ (fun q => absurd q (by decide)) (fun _ => ?_)
          refine zi_push M dX6_hasPath_28 ?_
          have hP : va_P D vwCl ((rooW ad 0 cy fm fr) ++ ((airW ad 1 cy h su st sh fl cS cH dD dE dF) ++ ((grdW ad 15 cy sea noi) ++ (rayW ad 18 cy ((u8 t (drZ i) (i % 9 + 1) f w_2 lg_2 le_2 dl_2) 0) ((u8 t (drZ i) (i % 9 + 1) f w_2 lg_2 le_2 dl_2) 1) ((u8 t (drZ i) (i % 9 + 1) f w_2 lg_2 le_2 dl_2) 2) ((u8 t (drZ i) (i % 9 + 1) f w_2 lg_2 le_2 dl_2) 3) ((u8 t (drZ i) (i % 9 + 1) f w_2 lg_2 le_2 dl_2) 4) ((u8 t (drZ i) (i % 9 + 1) f w_2 lg_2 le_2 dl_2) 5) ((u8 t (drZ i) (i % 9 + 1) f w_2 lg_2 le_2 dl_2) 6) ((u8 t (drZ i) (i % 9 + 1) f w_2 lg_2 le_2 dl_2) 7))))) H := hP
          exact zw_z M hr hlk (v := 1) (Or.inr rfl) (u8 t (drZ i) (i % 9 + 1) f w_2 lg_2 le_2 dl_2) hP hS (by (exact Or.inl ⟨⟨i, by omega, by omega, by rw [hs_2]; exact fun h => nomatch h⟩, rfl⟩)) (by decide) (by decide) dX6_hasPath_29
        ·
          refine zi_if_eq (tgt := 30) M dX6_hasPath_25 (by decide) ⟨by decide, by decide⟩ (fun _ => ?_) (fun q => absurd q (by decide))
          refine zi_iinc (lv' := [(5, .int (iI (i + 1))), (0, .ref (ad 0)), (1, .int (iI q)), (2, .int (iI t)), (3, .int (iI f)), (4, .int (iI w))]) M dX6_hasPath_30 hl 5 rfl (by decide) rfl (fun ls hl => ?_)
          refine zi_goto (tgt := 3) M dX6_hasPath_33 (by decide) ?_
          exact ih_3 (i + 1) u_2 (by omega) (fun j h0 h1 => by rcases Int.lt_or_le j i with hj | hj; exact hno j h0 hj; (have hji : j = i := (by omega)); subst hji; exact hs_2) (by omega) _ _ hP hD hS ls (lv_sub hl [1, 2, 3, 4, 5, 0] rfl)
  exact L_3 (Int.toNat (18 - 0) + 1) 0 (u8 ypl ydr yan yfr yst ylg yle ydl) (by omega) (fun j h0 h1 => absurd h1 (by omega)) (by omega) _ _ hP hD hS ls (lv_sub hl [1, 2, 3, 4, 5, 0] rfl)

set_option maxRecDepth 100000 in
set_option maxHeartbeats 4000000 in
theorem c_X6_noiseNow (l : Launch) (D : va_G) (cy : Nat → ClassId) (z0 : Nat) (ad : Nat → Nat) (fm fr h su st sh fl : Int) (cS cH dD dE dF sea noi : Int → Int) (q : Int) (g_noi : zrg 48 0 40 noi) (hh : 0 ≤ h ∧ h ≤ 5000) (hq : 0 ≤ q ∧ q < 48) : Met l yX6_noiseNow [.code yX6_noiseNow cX6_noiseNow 3 (some .int)] (zRm 2 0 0 43) (zPc [.ref (ad 0), .int (iI q)] D cy z0 (fun H => va_P D vwCl ((rooW ad 0 cy fm fr) ++ ((airW ad 1 cy h su st sh fl cS cH dD dE dF) ++ (grdW ad 15 cy sea noi))) H)) (QcRead (iI (noi q + (if lightZ h q = 0 then 3 else 0)))) 0 0 (fun _ => False) := by
  refine z_of (by decide) (Nat.le_of_ble_eq_true rfl) ?_
  intro p e s m args below meth c M hr hlk _ hargs hP hE ls hl
  have hS : va_S (fun q => z0 ≤ q) s.heap s.heap [] := va_S.rf
  have hAz : ∀ q : Nat, (fun q => z0 ≤ q) q → z0 ≤ q := fun _ h => h
  have hl : lv_has ls 3 [(0, .ref (ad 0)), (1, .int (iI q))] := hl
  refine lv_aload_n M.1 M.2.1 dX6_noiseNow_0 rfl (lv_at hl 0 rfl) ?_
  refine zi_get (ci := 6) (v := .ref (ad 1)) M hE hP 0 rfl rfl zu_X6 0 (by decide) zk_fl_RX6_12 rfl rfl dX6_noiseNow_1 ?_
  refine zi_getN (ci := 0) (v := .int (iI h)) M hE hP 1 rfl rfl zu_X0 0 (by decide) zk_fn_RX6_94 rfl rfl dX6_noiseNow_4 ?_
  refine lv_iload_n M.1 M.2.1 dX6_noiseNow_7 rfl (lv_at hl 1 rfl) ?_
  refine z_cR (z_runS (As := [.int (iI h), .int (iI q)]) (rest := []) M (c_X6_lightIn l D cy z0 h q (by omega) (by omega)) hE hS hAz trivial zk_cd_X6_lightIn zk_in_RX6 zk_st_X6_lightIn zk_ml_RX6_164 rfl rfl zd_X6_lightIn ⟨by decide, by decide⟩ rfl hl.1 rfl (Nat.le_of_ble_eq_true rfl) dX6_noiseNow_8 ⟨by decide, by decide⟩) ?_
  have hx_1 := lightZ_rg h q
  refine zi_if_ne (tgt := 18) M dX6_noiseNow_11 (by decide) (by omega) (fun c_2 => ?_) (fun c_2 => ?_)
  ·
    refine zi_push M dX6_noiseNow_18 ?_
    refine lv_istore_n (lv' := [(2, .int (iI 0)), (0, .ref (ad 0)), (1, .int (iI q))]) M.1 M.2.1 dX6_noiseNow_19 rfl hl (by decide) rfl (fun ls hl => ?_)
    refine lv_aload_n M.1 M.2.1 dX6_noiseNow_20 rfl (lv_at hl 1 rfl) ?_
    refine zi_get (ci := 6) (v := .ref (ad 15)) M hE hP 0 rfl rfl zu_X6 2 (by decide) zk_fl_RX6_22 rfl rfl dX6_noiseNow_21 ?_
    refine zi_getN (ci := 3) (v := .ref (ad (15 + 2))) M hE hP 8 rfl rfl zu_X3 1 (by decide) zk_fn_RX6_90 rfl rfl dX6_noiseNow_24 ?_
    refine lv_iload_n M.1 M.2.1 dX6_noiseNow_27 rfl (lv_at hl 2 rfl) ?_
    refine zi_iald M hE hP 10 (n := 48) (g := noi) rfl (Nat.le_of_ble_eq_true rfl) (by omega) (by omega) dX6_noiseNow_28 ?_
    have hr_3 := g_noi q (by omega) (by omega)
    refine lv_iload_n M.1 M.2.1 dX6_noiseNow_29 rfl (lv_at hl 0 rfl) ?_
    refine zi_iadd M dX6_noiseNow_30 ?_
    exact zr_i M hr hlk (congrArg iI (show (((noi q) + 0) : Int) = noi q + (if lightZ h q = 0 then 3 else 0) by (first | rw [if_pos (by assumption)] | rw [if_neg (by assumption)]))) dX6_noiseNow_31
  ·
    refine zi_push M dX6_noiseNow_14 ?_
    refine zi_goto (tgt := 19) M dX6_noiseNow_15 (by decide) ?_
    refine lv_istore_n (lv' := [(2, .int (iI 3)), (0, .ref (ad 0)), (1, .int (iI q))]) M.1 M.2.1 dX6_noiseNow_19 rfl hl (by decide) rfl (fun ls hl => ?_)
    refine lv_aload_n M.1 M.2.1 dX6_noiseNow_20 rfl (lv_at hl 1 rfl) ?_
    refine zi_get (ci := 6) (v := .ref (ad 15)) M hE hP 0 rfl rfl zu_X6 2 (by decide) zk_fl_RX6_22 rfl rfl dX6_noiseNow_21 ?_
    refine zi_getN (ci := 3) (v := .ref (ad (15 + 2))) M hE hP 8 rfl rfl zu_X3 1 (by decide) zk_fn_RX6_90 rfl rfl dX6_noiseNow_24 ?_
    refine lv_iload_n M.1 M.2.1 dX6_noiseNow_27 rfl (lv_at hl 2 rfl) ?_
    refine zi_iald M hE hP 10 (n := 48) (g := noi) rfl (Nat.le_of_ble_eq_true rfl) (by omega) (by omega) dX6_noiseNow_28 ?_
    have hr_4 := g_noi q (by omega) (by omega)
    refine lv_iload_n M.1 M.2.1 dX6_noiseNow_29 rfl (lv_at hl 0 rfl) ?_
    refine zi_iadd M dX6_noiseNow_30 ?_
    exact zr_i M hr hlk (congrArg iI (show (((noi q) + 3) : Int) = noi q + (if lightZ h q = 0 then 3 else 0) by (first | rw [if_pos (by assumption)] | rw [if_neg (by assumption)]))) dX6_noiseNow_31
