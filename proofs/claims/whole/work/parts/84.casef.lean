/-! the law, case by case -/
set_option maxRecDepth 100000 in
set_option maxHeartbeats 8000000 in
theorem lw_case18 (l : Launch) (D : va_G) (cy : Nat → ClassId) (z0 : Nat) (ad bd od : Nat → Nat) (p : Program) (e : Env) (s : State) (m : MethodId) (args : Array Value) (below : List Frame) (meth : Method) (c : Code) (b : Nat) (i : Int) (Q : State → Prop) (cells slots : Nat) (hst : l.stackTraces = false) (hL7 : ∀ q : Nat, q = 0 → True) (b_L : Nat) (xs : Nat → Int32) (M : zM p s m args c cL_law RL 7) (hE : zE D cy z0 s) (hN : zNc s) (hL : b_L ≤ 3584) (hX : va_X b b_L xs s s.heap) (hbl : b < s.heap.size) (hbA : ¬ z0 ≤ b) (hi : 0 ≤ i ∧ i + 7 ≤ b_L) (hc : cells + 6 ≤ 601024) (hs : slots + 36 ≤ 7293034) (hback : lwB l D cy z0 ad bd od p e s m args below meth c b i Q cells slots) (h su st sh fl sn bn cm em ep fm fr th o lg le lf dl : Int) (cS cH sea noi pl pw an hd fq bp bw ban bhd bo c1 c2 c3 c4 c5 e1 e2 e3 e4 e5 : Int → Int) (ur : Nat → Int) (h_h : 0 ≤ h ∧ h ≤ 5000) (h_su : 0 ≤ su ∧ su ≤ 100) (h_st : 0 ≤ st ∧ st ≤ 60) (h_sh : 0 ≤ sh ∧ sh ≤ 72) (h_fl : 0 ≤ fl ∧ fl ≤ 80) (h_sn : 0 ≤ sn ∧ sn ≤ 12) (h_bn : 0 ≤ bn ∧ bn ≤ 6) (h_cm : 0 ≤ cm ∧ cm ≤ 60) (h_em : 0 ≤ em ∧ em ≤ 80) (g_cS : zrg 48 0 100 cS) (g_cH : zrg 48 0 24 cH) (g_sea : zrg 48 0 1 sea) (g_noi : zrg 48 0 40 noi) (g_pl : zrg 12 0 47 pl) (g_pw : zrg 12 0 80 pw) (g_an : zrg 12 0 2 an) (g_hd : zrg 12 0 2 hd) (g_bp : zrg 6 0 47 bp) (g_bw : zrg 6 0 80 bw) (g_ban : zrg 6 0 2 ban) (g_bhd : zrg 6 0 2 bhd) (g_c1 : zrg 60 0 11 c1) (g_c2 : zrg 60 0 11 c2) (g_c3 : zrg 60 0 300 c3) (g_c4 : zrg 60 0 2 c4) (g_c5 : zrg 60 0 5000 c5) (g_e1 : zrg 80 0 11 e1) (g_e2 : zrg 80 0 11 e2) (g_e3 : zrg 80 0 300 e3) (g_e4 : zrg 80 0 5000 e4) (g_e5 : zrg 80 (-1) 79 e5) (hbo : ∀ n : Int, 0 ≤ n → n < bn → (10 ≤ bo n ∧ bo n ≤ 300) ∧ ban n = 2 ∧ bhd n = 2) (hep : ep = prF e5 em.toNat) (H : Heap) (locs : List Loc) (hP : va_P D vwCl ((rooW ad 0 cy fm fr) ++ ((airW ad 1 cy h su st sh fl cS cH (dnD h fl) (dnE h cS) (dnF h su st)) ++ ((airW ad 8 cy h su 0 0 0 (fun _ => 0) (fun _ => 0) (dnD h 0) (dnE h (fun _ => 0)) (dnF h su 0)) ++ ((grdW ad 15 cy sea noi) ++ ((rayW ad 18 cy (ur 0) (ur 1) (ur 2) (ur 3) (ur 4) (ur 5) (ur 6) (ur 7)) ++ ((sndW ad 19 cy 12 sn pl pw an hd fq) ++ ((sndW ad 25 cy 6 bn bp bw ban bhd bo) ++ ((conW ad 31 cy cm c1 c2 c3 c4 c5) ++ ((entW ad 37 cy em ep e1 e2 e3 e4 e5) ++ (outW od 0 cy o)))))))))) H) (hPm : va_P D vwCl (mdlW bd 0 cy th h su st sh fl 0 sn bn fm fr cm em lg le lf dl cS cH sea noi pl pw an hd bp bo bw c1 c2 c3 c4 c5 e1 e2 e3 e4 e5) H) (hD : va_D (fun q => z0 ≤ q) (((rooW ad 0 cy fm fr) ++ ((airW ad 1 cy h su st sh fl cS cH (dnD h fl) (dnE h cS) (dnF h su st)) ++ ((airW ad 8 cy h su 0 0 0 (fun _ => 0) (fun _ => 0) (dnD h 0) (dnE h (fun _ => 0)) (dnF h su 0)) ++ ((grdW ad 15 cy sea noi) ++ ((rayW ad 18 cy (ur 0) (ur 1) (ur 2) (ur 3) (ur 4) (ur 5) (ur 6) (ur 7)) ++ ((sndW ad 19 cy 12 sn pl pw an hd fq) ++ ((sndW ad 25 cy 6 bn bp bw ban bhd bo) ++ ((conW ad 31 cy cm c1 c2 c3 c4 c5) ++ ((entW ad 37 cy em ep e1 e2 e3 e4 e5) ++ (outW od 0 cy o)))))))))) ++ (mdlW bd 0 cy th h su st sh fl 0 sn bn fm fr cm em lg le lf dl cS cH sea noi pl pw an hd bp bo bw c1 c2 c3 c4 c5 e1 e2 e3 e4 e5))) (hS : va_S (fun q => z0 ≤ q) s.heap H locs) (ls : Array Slot) (hl : lv_has ls 7 [(0, .ref b), (1, .ref (ad 0)), (2, .ref (bd 0)), (3, .ref (od 0)), (4, .int (iI i))]) : W p l e room_1 s m args below meth c H locs (cells) (slots) Q (F0 m 1491 ls []) := by
  have hAz : ∀ q : Nat, (fun q => z0 ≤ q) q → z0 ≤ q := fun _ h => h
  refine lv_aload_n M.1 M.2.1 dL_law_1491 rfl (lv_at hl 1 rfl) ?_
  refine lv_aload_n M.1 M.2.1 dL_law_1492 rfl (lv_at hl 0 rfl) ?_
  refine lv_iload M.1 M.2.1 dL_law_1493 (lv_at hl 4 rfl) ?_
  refine zi_push M dL_law_1495 ?_
  refine zi_iadd M dL_law_1496 ?_
  refine zi_sld M hX hbl hbA hS hL (by omega) (by omega) dL_law_1497 ?_
  have hx_1 := xZ_rg xs (i + 1)
  refine lv_aload_n M.1 M.2.1 dL_law_1498 rfl (lv_at hl 0 rfl) ?_
  refine lv_iload M.1 M.2.1 dL_law_1499 (lv_at hl 4 rfl) ?_
  refine zi_push M dL_law_1501 ?_
  refine zi_iadd M dL_law_1502 ?_
  refine zi_sld M hX hbl hbA hS hL (by omega) (by omega) dL_law_1503 ?_
  have hx_2 := xZ_rg xs (i + 2)
  refine lv_aload_n M.1 M.2.1 dL_law_1504 rfl (lv_at hl 0 rfl) ?_
  refine lv_iload M.1 M.2.1 dL_law_1505 (lv_at hl 4 rfl) ?_
  refine zi_push M dL_law_1507 ?_
  refine zi_iadd M dL_law_1508 ?_
  refine zi_sld M hX hbl hbA hS hL (by omega) (by omega) dL_law_1509 ?_
  have hx_3 := xZ_rg xs (i + 3)
  refine lv_aload_n M.1 M.2.1 dL_law_1510 rfl (lv_at hl 0 rfl) ?_
  refine lv_iload M.1 M.2.1 dL_law_1511 (lv_at hl 4 rfl) ?_
  refine zi_push M dL_law_1513 ?_
  refine zi_iadd M dL_law_1514 ?_
  refine zi_sld M hX hbl hbA hS hL (by omega) (by omega) dL_law_1515 ?_
  have hx_4 := xZ_rg xs (i + 4)
  refine lv_aload_n M.1 M.2.1 dL_law_1516 rfl (lv_at hl 0 rfl) ?_
  refine lv_iload M.1 M.2.1 dL_law_1517 (lv_at hl 4 rfl) ?_
  refine zi_push M dL_law_1519 ?_
  refine zi_iadd M dL_law_1520 ?_
  refine zi_sld M hX hbl hbA hS hL (by omega) (by omega) dL_law_1521 ?_
  have hx_5 := xZ_rg xs (i + 5)
  refine lv_aload_n M.1 M.2.1 dL_law_1522 rfl (lv_at hl 0 rfl) ?_
  refine lv_iload M.1 M.2.1 dL_law_1523 (lv_at hl 4 rfl) ?_
  refine zi_bipush M dL_law_1525 ⟨by decide, by decide⟩ ?_
  refine zi_iadd M dL_law_1527 ?_
  refine zi_sld M hX hbl hbA hS hL (by omega) (by omega) dL_law_1528 ?_
  have hx_6 := xZ_rg xs (i + 6)
  refine lv_aload_n M.1 M.2.1 dL_law_1529 rfl (lv_at hl 3 rfl) ?_
  refine z_cW2 (zx_runH (As := [.ref (ad 0), .int (iI (xZ xs (i + 1))), .int (iI (xZ xs (i + 2))), .int (iI (xZ xs (i + 3))), .int (iI (xZ xs (i + 4))), .int (iI (xZ xs (i + 5))), .int (iI (xZ xs (i + 6))), .ref (od 0)]) (rest := []) M (c_L_path l hst D cy z0 ad od fm fr h su st sh fl (ur 0) (ur 1) (ur 2) (ur 3) (ur 4) (ur 5) (ur 6) (ur 7) o cS cH (dnD h fl) (dnE h cS) (dnF h su st) sea noi (xZ xs (i + 1)) (xZ xs (i + 2)) (xZ xs (i + 3)) (xZ xs (i + 4)) (xZ xs (i + 5)) (xZ xs (i + 6)) (by omega) (by omega) (by omega) (by omega) (by omega) (by omega) (dnD_rg h_fl) (dnE_rg g_cS) (dnF_rg h_su h_st) g_sea) hE hN hS hAz (z_cut hP (zD_l hD) hAz [0, 1, 2, 3, 4, 5, 6, 7, 15, 16, 17, 18, 43] rfl (by decide +kernel)) zk_cw_L_path zk_in_RL zk_st_L_path zk_ml_RL_179 rfl rfl zd_L_path ⟨by decide, by decide⟩ rfl hl.1 rfl (Nat.le_of_ble_eq_true rfl) dL_law_1530 ⟨by show _ ≤ 601024; omega, by show _ ≤ 7293034; omega⟩) hP hPm hD hS [0, 1, 2, 3, 4, 5, 6, 7, 15, 16, 17, 18, 43] rfl (fun _ => by simp only [List.map_append, airW_adr, grdW_adr, outW_adr, rayW_adr, rooW_adr]) (fun r_7 u_7 H locs hp_7 hP hPm hD hS => ?_)
  have hP : va_P D vwCl ((rooW ad 0 cy fm fr) ++ ((airW ad 1 cy h su st sh fl cS cH (dnD h fl) (dnE h cS) (dnF h su st)) ++ ((airW ad 8 cy h su 0 0 0 (fun _ => 0) (fun _ => 0) (dnD h 0) (dnE h (fun _ => 0)) (dnF h su 0)) ++ ((grdW ad 15 cy sea noi) ++ ((rayW ad 18 cy (u_7.2.2 0) (u_7.2.2 1) (u_7.2.2 2) (u_7.2.2 3) (u_7.2.2 4) (u_7.2.2 5) (u_7.2.2 6) (u_7.2.2 7)) ++ ((sndW ad 19 cy 12 sn pl pw an hd fq) ++ ((sndW ad 25 cy 6 bn bp bw ban bhd bo) ++ ((conW ad 31 cy cm c1 c2 c3 c4 c5) ++ ((entW ad 37 cy em ep e1 e2 e3 e4 e5) ++ (outW od 0 cy u_7.2.1)))))))))) H := hP
  have hD : va_D (fun q => z0 ≤ q) (((rooW ad 0 cy fm fr) ++ ((airW ad 1 cy h su st sh fl cS cH (dnD h fl) (dnE h cS) (dnF h su st)) ++ ((airW ad 8 cy h su 0 0 0 (fun _ => 0) (fun _ => 0) (dnD h 0) (dnE h (fun _ => 0)) (dnF h su 0)) ++ ((grdW ad 15 cy sea noi) ++ ((rayW ad 18 cy (u_7.2.2 0) (u_7.2.2 1) (u_7.2.2 2) (u_7.2.2 3) (u_7.2.2 4) (u_7.2.2 5) (u_7.2.2 6) (u_7.2.2 7)) ++ ((sndW ad 19 cy 12 sn pl pw an hd fq) ++ ((sndW ad 25 cy 6 bn bp bw ban bhd bo) ++ ((conW ad 31 cy cm c1 c2 c3 c4 c5) ++ ((entW ad 37 cy em ep e1 e2 e3 e4 e5) ++ (outW od 0 cy u_7.2.1)))))))))) ++ (mdlW bd 0 cy th h su st sh fl 0 sn bn fm fr cm em lg le lf dl cS cH sea noi pl pw an hd bp bo bw c1 c2 c3 c4 c5 e1 e2 e3 e4 e5)) := hD
  obtain ⟨u1_7, u2_7, u3_7⟩ := u_7
  dsimp only at hp_7
  rcases hp_7 with ⟨rfl, rfl, hN_7, n_7, w_7, g_7, k_7, d_7, hq_7, hv_7⟩ | ⟨rfl, rfl, hN_7, hv_7⟩ | ⟨rfl, rfl, hN_7, hv_7⟩ | ⟨rfl, rfl, hN_7, hv_7⟩
  ·
    subst hv_7
    have hP : va_P D vwCl ((rooW ad 0 cy fm fr) ++ ((airW ad 1 cy h su st sh fl cS cH (dnD h fl) (dnE h cS) (dnF h su st)) ++ ((airW ad 8 cy h su 0 0 0 (fun _ => 0) (fun _ => 0) (dnD h 0) (dnE h (fun _ => 0)) (dnF h su 0)) ++ ((grdW ad 15 cy sea noi) ++ ((rayW ad 18 cy (u3_7 0) (u3_7 1) (u3_7 2) (u3_7 3) (u3_7 4) (u3_7 5) (u3_7 6) (u3_7 7)) ++ ((sndW ad 19 cy 12 sn pl pw an hd fq) ++ ((sndW ad 25 cy 6 bn bp bw ban bhd bo) ++ ((conW ad 31 cy cm c1 c2 c3 c4 c5) ++ ((entW ad 37 cy em ep e1 e2 e3 e4 e5) ++ (outW od 0 cy (tell6 (drZ n_7) (n_7 % 9 + 1) g_7 k_7 w_7 d_7 (xZ xs (i + 6))))))))))))) H := hP
    have hD : va_D (fun q => z0 ≤ q) (((rooW ad 0 cy fm fr) ++ ((airW ad 1 cy h su st sh fl cS cH (dnD h fl) (dnE h cS) (dnF h su st)) ++ ((airW ad 8 cy h su 0 0 0 (fun _ => 0) (fun _ => 0) (dnD h 0) (dnE h (fun _ => 0)) (dnF h su 0)) ++ ((grdW ad 15 cy sea noi) ++ ((rayW ad 18 cy (u3_7 0) (u3_7 1) (u3_7 2) (u3_7 3) (u3_7 4) (u3_7 5) (u3_7 6) (u3_7 7)) ++ ((sndW ad 19 cy 12 sn pl pw an hd fq) ++ ((sndW ad 25 cy 6 bn bp bw ban bhd bo) ++ ((conW ad 31 cy cm c1 c2 c3 c4 c5) ++ ((entW ad 37 cy em ep e1 e2 e3 e4 e5) ++ (outW od 0 cy (tell6 (drZ n_7) (n_7 % 9 + 1) g_7 k_7 w_7 d_7 (xZ xs (i + 6))))))))))))) ++ (mdlW bd 0 cy th h su st sh fl 0 sn bn fm fr cm em lg le lf dl cS cH sea noi pl pw an hd bp bo bw c1 c2 c3 c4 c5 e1 e2 e3 e4 e5)) := hD
    refine lv_istore (lv' := [(5, .int (iI 0)), (0, .ref (b)), (1, .ref (ad 0)), (2, .ref (bd 0)), (3, .ref (od 0)), (4, .int (iI i))]) M.1 M.2.1 dL_law_1533 hl (by decide) rfl (fun ls hl => ?_)
    refine lv_aload_n M.1 M.2.1 dL_law_1535 rfl (lv_at hl 3 rfl) ?_
    refine lv_aload_n M.1 M.2.1 dL_law_1536 rfl (lv_at hl 1 rfl) ?_
    refine lv_iload M.1 M.2.1 dL_law_1537 (lv_at hl 5 rfl) ?_
    refine zi_push M dL_law_1539 ?_
    refine zi_iadd M dL_law_1540 ?_
    refine zi_sld M hX hbl hbA hS hL (by omega) (by omega) dL_law_1541 ?_
    have hx_8 := xZ_rg xs (i + 1)
    refine lv_aload_n M.1 M.2.1 dL_law_1542 rfl (lv_at hl 1 rfl) ?_
    refine lv_iload M.1 M.2.1 dL_law_1543 (lv_at hl 5 rfl) ?_
    refine zi_push M dL_law_1545 ?_
    refine zi_iadd M dL_law_1546 ?_
    refine zi_sld M hX hbl hbA hS hL (by omega) (by omega) dL_law_1547 ?_
    have hx_9 := xZ_rg xs (i + 2)
    refine lv_aload_n M.1 M.2.1 dL_law_1548 rfl (lv_at hl 1 rfl) ?_
    refine lv_iload M.1 M.2.1 dL_law_1549 (lv_at hl 5 rfl) ?_
    refine zi_push M dL_law_1551 ?_
    refine zi_iadd M dL_law_1552 ?_
    refine zi_sld M hX hbl hbA hS hL (by omega) (by omega) dL_law_1553 ?_
    have hx_10 := xZ_rg xs (i + 3)
    refine lv_aload_n M.1 M.2.1 dL_law_1554 rfl (lv_at hl 1 rfl) ?_
    refine lv_iload M.1 M.2.1 dL_law_1555 (lv_at hl 5 rfl) ?_
    refine zi_push M dL_law_1557 ?_
    refine zi_iadd M dL_law_1558 ?_
    refine zi_sld M hX hbl hbA hS hL (by omega) (by omega) dL_law_1559 ?_
    have hx_11 := xZ_rg xs (i + 4)
    refine lv_aload_n M.1 M.2.1 dL_law_1560 rfl (lv_at hl 1 rfl) ?_
    refine lv_iload M.1 M.2.1 dL_law_1561 (lv_at hl 5 rfl) ?_
    refine zi_push M dL_law_1563 ?_
    refine zi_iadd M dL_law_1564 ?_
    refine zi_sld M hX hbl hbA hS hL (by omega) (by omega) dL_law_1565 ?_
    have hx_12 := xZ_rg xs (i + 5)
    refine lv_aload_n M.1 M.2.1 dL_law_1566 rfl (lv_at hl 1 rfl) ?_
    refine lv_iload M.1 M.2.1 dL_law_1567 (lv_at hl 5 rfl) ?_
    refine zi_bipush M dL_law_1569 ⟨by decide, by decide⟩ ?_
    refine zi_iadd M dL_law_1571 ?_
    refine zi_sld M hX hbl hbA hS hL (by omega) (by omega) dL_law_1572 ?_
    have hx_13 := xZ_rg xs (i + 6)
    have hPx := hP
    have hP := hPm
    have hPm := hPx
    have hD := zD_c hD
    refine z_cW2 (z_runV (As := [.int (iI (xZ xs (i + 1))), .int (iI (xZ xs (i + 2))), .int (iI (xZ xs (i + 3))), .int (iI (xZ xs (i + 4))), .int (iI (xZ xs (i + 5))), .int (iI (xZ xs (i + 6)))]) (rest := []) M (c_X7_path l D cy z0 bd th h su st sh fl 0 sn bn fm fr cm em lg le lf dl cS cH sea noi pl pw an hd bp bo bw c1 c2 c3 c4 c5 e1 e2 e3 e4 e5 (xZ xs (i + 1)) (xZ xs (i + 2)) (xZ xs (i + 3)) (xZ xs (i + 4)) (xZ xs (i + 5)) (xZ xs (i + 6)) (by omega) (by omega) (by omega) (by omega) (by omega) (by omega) (by omega) (by omega) (by omega) (by omega) g_cS (by omega) g_sea) hE hS hAz (z_cut hP (zD_l hD) hAz [0, 1, 2, 3, 4, 5, 6, 7, 8, 9, 10, 11, 12, 13, 14, 15, 16, 17, 18, 19, 20, 21] rfl (by decide +kernel)) (zRc.of (ci := 7) (q0 := 0) hE hP rfl rfl) zk_cd_X7_path zk_in_RX7 zk_im_X7_path zk_se_X7_path zk_ml_RL_182 rfl rfl zd_X7_path ⟨by decide, by decide⟩ rfl hl.1 rfl (Nat.le_of_ble_eq_true rfl) dL_law_1573 ⟨by show _ ≤ 601024; omega, by show _ ≤ 7293034; omega⟩) hP hPm hD hS [0, 1, 2, 3, 4, 5, 6, 7, 8, 9, 10, 11, 12, 13, 14, 15, 16, 17, 18, 19, 20, 21] rfl (fun _ => by simp only [List.map_append, mdlW_adr]) (fun r_14 u_14 H locs hp_14 hP hPm hD hS => ?_)
    try simp only [mdD_0, mdE_0, mdF_0, mdD_1, mdE_1, mdF_1] at hp_14
    have hP : va_P D vwCl (mdlW bd 0 cy (u_14 4) h su st sh fl 0 sn bn fm fr cm em (u_14 0) (u_14 1) (u_14 2) (u_14 3) cS cH sea noi pl pw an hd bp bo bw c1 c2 c3 c4 c5 e1 e2 e3 e4 e5) H := hP
    have hD : va_D (fun q => z0 ≤ q) ((mdlW bd 0 cy (u_14 4) h su st sh fl 0 sn bn fm fr cm em (u_14 0) (u_14 1) (u_14 2) (u_14 3) cS cH sea noi pl pw an hd bp bo bw c1 c2 c3 c4 c5 e1 e2 e3 e4 e5) ++ ((rooW ad 0 cy fm fr) ++ ((airW ad 1 cy h su st sh fl cS cH (dnD h fl) (dnE h cS) (dnF h su st)) ++ ((airW ad 8 cy h su 0 0 0 (fun _ => 0) (fun _ => 0) (dnD h 0) (dnE h (fun _ => 0)) (dnF h su 0)) ++ ((grdW ad 15 cy sea noi) ++ ((rayW ad 18 cy (u3_7 0) (u3_7 1) (u3_7 2) (u3_7 3) (u3_7 4) (u3_7 5) (u3_7 6) (u3_7 7)) ++ ((sndW ad 19 cy 12 sn pl pw an hd fq) ++ ((sndW ad 25 cy 6 bn bp bw ban bhd bo) ++ ((conW ad 31 cy cm c1 c2 c3 c4 c5) ++ ((entW ad 37 cy em ep e1 e2 e3 e4 e5) ++ (outW od 0 cy (tell6 (drZ n_7) (n_7 % 9 + 1) g_7 k_7 w_7 d_7 (xZ xs (i + 6)))))))))))))) := hD
    rcases hp_14 with ⟨xa_14, xb_14, xc_14, xd_14, rfl, hN_14, n_14, w_14, g_14, k_14, d_14, hq_14, rfl⟩ | ⟨rfl, hN_14, rfl⟩ | ⟨rfl, hN_14, rfl⟩ | ⟨xa_14, xb_14, xc_14, xd_14, rfl, hN_14, rfl⟩
    ·
      have hP : va_P D vwCl (mdlW bd 0 cy 0 h su st sh fl 0 sn bn fm fr cm em xa_14 xb_14 xc_14 xd_14 cS cH sea noi pl pw an hd bp bo bw c1 c2 c3 c4 c5 e1 e2 e3 e4 e5) H := hP
      have hD : va_D (fun q => z0 ≤ q) ((mdlW bd 0 cy 0 h su st sh fl 0 sn bn fm fr cm em xa_14 xb_14 xc_14 xd_14 cS cH sea noi pl pw an hd bp bo bw c1 c2 c3 c4 c5 e1 e2 e3 e4 e5) ++ ((rooW ad 0 cy fm fr) ++ ((airW ad 1 cy h su st sh fl cS cH (dnD h fl) (dnE h cS) (dnF h su st)) ++ ((airW ad 8 cy h su 0 0 0 (fun _ => 0) (fun _ => 0) (dnD h 0) (dnE h (fun _ => 0)) (dnF h su 0)) ++ ((grdW ad 15 cy sea noi) ++ ((rayW ad 18 cy (u3_7 0) (u3_7 1) (u3_7 2) (u3_7 3) (u3_7 4) (u3_7 5) (u3_7 6) (u3_7 7)) ++ ((sndW ad 19 cy 12 sn pl pw an hd fq) ++ ((sndW ad 25 cy 6 bn bp bw ban bhd bo) ++ ((conW ad 31 cy cm c1 c2 c3 c4 c5) ++ ((entW ad 37 cy em ep e1 e2 e3 e4 e5) ++ (outW od 0 cy (tell6 (drZ n_7) (n_7 % 9 + 1) g_7 k_7 w_7 d_7 (xZ xs (i + 6)))))))))))))) := hD
      obtain ⟨hy1, hy2, hy3, hy4, hy5⟩ := pthP_uniq hq_7 hq_14
      subst hy1
      subst hy2
      subst hy3
      subst hy4
      subst hy5
      refine lv_istore (lv' := [(6, .int (iI (tell6 (drZ n_7) (n_7 % 9 + 1) g_7 k_7 w_7 d_7 (xZ xs (i + 6))))), (5, .int (iI 0)), (0, .ref (b)), (1, .ref (ad 0)), (2, .ref (bd 0)), (3, .ref (od 0)), (4, .int (iI i))]) M.1 M.2.1 dL_law_1576 hl (by decide) rfl (fun ls hl => ?_)
      refine lv_aload_n M.1 M.2.1 dL_law_1578 rfl (lv_at hl 4 rfl) ?_
      refine z_cR (z_runV (As := []) (rest := []) M (c_X7_thrown l D cy z0 bd 0 h su st sh fl 0 sn bn fm fr cm em xa_14 xb_14 xc_14 xd_14 cS cH sea noi pl pw an hd bp bo bw c1 c2 c3 c4 c5 e1 e2 e3 e4 e5) hE hS hAz hP (zRc.of (ci := 7) (q0 := 0) hE hP rfl rfl) zk_cd_X7_thrown zk_in_RX7 zk_im_X7_thrown zk_se_X7_thrown zk_ml_RL_116 rfl rfl zd_X7_thrown ⟨by decide, by decide⟩ rfl hl.1 rfl (Nat.le_of_ble_eq_true rfl) dL_law_1579 ⟨by show _ ≤ 601024; omega, by show _ ≤ 7293034; omega⟩) ?_
      refine lv_iload M.1 M.2.1 dL_law_1582 (lv_at hl 1 rfl) ?_
      refine zi_same (tgt := 1589) M dL_law_1584 (by decide) ?_
      refine lv_iload M.1 M.2.1 dL_law_1589 (lv_at hl 1 rfl) ?_
      refine zi_if_ne (tgt := 1606) M dL_law_1591 (by decide) ⟨by decide, by decide⟩ (fun q => absurd q (by decide)) (fun _ => ?_)
      refine lv_aload_n M.1 M.2.1 dL_law_1594 rfl (lv_at hl 5 rfl) ?_
      refine zi_push M dL_law_1595 ?_
      refine zi_lald M hE hPm 43 rfl dL_law_1596 ?_
      refine lv_iload M.1 M.2.1 dL_law_1597 (lv_at hl 0 rfl) ?_
      refine zi_i2l M dL_law_1599 ?_
      refine zi_lcmpE M dL_law_1600 ?_
      refine zi_if_eq (tgt := 1606) M dL_law_1601 (by decide) ⟨by decide, by decide⟩ (fun _ => ?_) (fun q => absurd q (by decide))
      refine zi_goto (tgt := 2286) M dL_law_1606 (by decide) ?_
      have hPx := hP
      have hP := hPm
      have hPm := hPx
      have hD := zD_c hD
      refine W.widen (k := cells + 6) (n := slots + 36) (by omega) (by omega) ?_
      exact hback h su st sh fl sn bn cm em ep fm fr 0 (tell6 (drZ n_7) (n_7 % 9 + 1) g_7 k_7 w_7 d_7 (xZ xs (i + 6))) xa_14 xb_14 xc_14 xd_14 cS cH sea noi pl pw an hd fq bp bw ban bhd bo c1 c2 c3 c4 c5 e1 e2 e3 e4 e5 u3_7 h_h h_su h_st h_sh h_fl h_sn h_bn h_cm h_em g_cS g_cH g_sea g_noi g_pl g_pw g_an g_hd g_bp g_bw g_ban g_bhd g_c1 g_c2 g_c3 g_c4 g_c5 g_e1 g_e2 g_e3 g_e4 g_e5 hbo hep H locs hP hPm hD hS ls (lv_sub hl [2, 3, 4, 5, 6] rfl)
    ·
      have hP : va_P D vwCl (mdlW bd 0 cy 1 h su st sh fl 0 sn bn fm fr cm em lg le lf dl cS cH sea noi pl pw an hd bp bo bw c1 c2 c3 c4 c5 e1 e2 e3 e4 e5) H := hP
      have hD : va_D (fun q => z0 ≤ q) ((mdlW bd 0 cy 1 h su st sh fl 0 sn bn fm fr cm em lg le lf dl cS cH sea noi pl pw an hd bp bo bw c1 c2 c3 c4 c5 e1 e2 e3 e4 e5) ++ ((rooW ad 0 cy fm fr) ++ ((airW ad 1 cy h su st sh fl cS cH (dnD h fl) (dnE h cS) (dnF h su st)) ++ ((airW ad 8 cy h su 0 0 0 (fun _ => 0) (fun _ => 0) (dnD h 0) (dnE h (fun _ => 0)) (dnF h su 0)) ++ ((grdW ad 15 cy sea noi) ++ ((rayW ad 18 cy (u3_7 0) (u3_7 1) (u3_7 2) (u3_7 3) (u3_7 4) (u3_7 5) (u3_7 6) (u3_7 7)) ++ ((sndW ad 19 cy 12 sn pl pw an hd fq) ++ ((sndW ad 25 cy 6 bn bp bw ban bhd bo) ++ ((conW ad 31 cy cm c1 c2 c3 c4 c5) ++ ((entW ad 37 cy em ep e1 e2 e3 e4 e5) ++ (outW od 0 cy (tell6 (drZ n_7) (n_7 % 9 + 1) g_7 k_7 w_7 d_7 (xZ xs (i + 6)))))))))))))) := hD
      exfalso
      omega
    ·
      have hP : va_P D vwCl (mdlW bd 0 cy 2 h su st sh fl 0 sn bn fm fr cm em lg le lf dl cS cH sea noi pl pw an hd bp bo bw c1 c2 c3 c4 c5 e1 e2 e3 e4 e5) H := hP
      have hD : va_D (fun q => z0 ≤ q) ((mdlW bd 0 cy 2 h su st sh fl 0 sn bn fm fr cm em lg le lf dl cS cH sea noi pl pw an hd bp bo bw c1 c2 c3 c4 c5 e1 e2 e3 e4 e5) ++ ((rooW ad 0 cy fm fr) ++ ((airW ad 1 cy h su st sh fl cS cH (dnD h fl) (dnE h cS) (dnF h su st)) ++ ((airW ad 8 cy h su 0 0 0 (fun _ => 0) (fun _ => 0) (dnD h 0) (dnE h (fun _ => 0)) (dnF h su 0)) ++ ((grdW ad 15 cy sea noi) ++ ((rayW ad 18 cy (u3_7 0) (u3_7 1) (u3_7 2) (u3_7 3) (u3_7 4) (u3_7 5) (u3_7 6) (u3_7 7)) ++ ((sndW ad 19 cy 12 sn pl pw an hd fq) ++ ((sndW ad 25 cy 6 bn bp bw ban bhd bo) ++ ((conW ad 31 cy cm c1 c2 c3 c4 c5) ++ ((entW ad 37 cy em ep e1 e2 e3 e4 e5) ++ (outW od 0 cy (tell6 (drZ n_7) (n_7 % 9 + 1) g_7 k_7 w_7 d_7 (xZ xs (i + 6)))))))))))))) := hD
      exfalso
      omega
    ·
      have hP : va_P D vwCl (mdlW bd 0 cy 1 h su st sh fl 0 sn bn fm fr cm em xa_14 xb_14 xc_14 xd_14 cS cH sea noi pl pw an hd bp bo bw c1 c2 c3 c4 c5 e1 e2 e3 e4 e5) H := hP
      have hD : va_D (fun q => z0 ≤ q) ((mdlW bd 0 cy 1 h su st sh fl 0 sn bn fm fr cm em xa_14 xb_14 xc_14 xd_14 cS cH sea noi pl pw an hd bp bo bw c1 c2 c3 c4 c5 e1 e2 e3 e4 e5) ++ ((rooW ad 0 cy fm fr) ++ ((airW ad 1 cy h su st sh fl cS cH (dnD h fl) (dnE h cS) (dnF h su st)) ++ ((airW ad 8 cy h su 0 0 0 (fun _ => 0) (fun _ => 0) (dnD h 0) (dnE h (fun _ => 0)) (dnF h su 0)) ++ ((grdW ad 15 cy sea noi) ++ ((rayW ad 18 cy (u3_7 0) (u3_7 1) (u3_7 2) (u3_7 3) (u3_7 4) (u3_7 5) (u3_7 6) (u3_7 7)) ++ ((sndW ad 19 cy 12 sn pl pw an hd fq) ++ ((sndW ad 25 cy 6 bn bp bw ban bhd bo) ++ ((conW ad 31 cy cm c1 c2 c3 c4 c5) ++ ((entW ad 37 cy em ep e1 e2 e3 e4 e5) ++ (outW od 0 cy (tell6 (drZ n_7) (n_7 % 9 + 1) g_7 k_7 w_7 d_7 (xZ xs (i + 6)))))))))))))) := hD
      exfalso
      omega
  ·
    have hw_7 := hv_7.symm
    subst hw_7
    have hP : va_P D vwCl ((rooW ad 0 cy fm fr) ++ ((airW ad 1 cy h su st sh fl cS cH (dnD h fl) (dnE h cS) (dnF h su st)) ++ ((airW ad 8 cy h su 0 0 0 (fun _ => 0) (fun _ => 0) (dnD h 0) (dnE h (fun _ => 0)) (dnF h su 0)) ++ ((grdW ad 15 cy sea noi) ++ ((rayW ad 18 cy (u3_7 0) (u3_7 1) (u3_7 2) (u3_7 3) (u3_7 4) (u3_7 5) (u3_7 6) (u3_7 7)) ++ ((sndW ad 19 cy 12 sn pl pw an hd fq) ++ ((sndW ad 25 cy 6 bn bp bw ban bhd bo) ++ ((conW ad 31 cy cm c1 c2 c3 c4 c5) ++ ((entW ad 37 cy em ep e1 e2 e3 e4 e5) ++ (outW od 0 cy o)))))))))) H := hP
    have hD : va_D (fun q => z0 ≤ q) (((rooW ad 0 cy fm fr) ++ ((airW ad 1 cy h su st sh fl cS cH (dnD h fl) (dnE h cS) (dnF h su st)) ++ ((airW ad 8 cy h su 0 0 0 (fun _ => 0) (fun _ => 0) (dnD h 0) (dnE h (fun _ => 0)) (dnF h su 0)) ++ ((grdW ad 15 cy sea noi) ++ ((rayW ad 18 cy (u3_7 0) (u3_7 1) (u3_7 2) (u3_7 3) (u3_7 4) (u3_7 5) (u3_7 6) (u3_7 7)) ++ ((sndW ad 19 cy 12 sn pl pw an hd fq) ++ ((sndW ad 25 cy 6 bn bp bw ban bhd bo) ++ ((conW ad 31 cy cm c1 c2 c3 c4 c5) ++ ((entW ad 37 cy em ep e1 e2 e3 e4 e5) ++ (outW od 0 cy o)))))))))) ++ (mdlW bd 0 cy th h su st sh fl 0 sn bn fm fr cm em lg le lf dl cS cH sea noi pl pw an hd bp bo bw c1 c2 c3 c4 c5 e1 e2 e3 e4 e5)) := hD
    refine lv_istore (lv' := [(5, .int (iI 1)), (0, .ref (b)), (1, .ref (ad 0)), (2, .ref (bd 0)), (3, .ref (od 0)), (4, .int (iI i))]) M.1 M.2.1 dL_law_1533 hl (by decide) rfl (fun ls hl => ?_)
    refine lv_aload_n M.1 M.2.1 dL_law_1535 rfl (lv_at hl 3 rfl) ?_
    refine lv_aload_n M.1 M.2.1 dL_law_1536 rfl (lv_at hl 1 rfl) ?_
    refine lv_iload M.1 M.2.1 dL_law_1537 (lv_at hl 5 rfl) ?_
    refine zi_push M dL_law_1539 ?_
    refine zi_iadd M dL_law_1540 ?_
    refine zi_sld M hX hbl hbA hS hL (by omega) (by omega) dL_law_1541 ?_
    have hx_15 := xZ_rg xs (i + 1)
    refine lv_aload_n M.1 M.2.1 dL_law_1542 rfl (lv_at hl 1 rfl) ?_
    refine lv_iload M.1 M.2.1 dL_law_1543 (lv_at hl 5 rfl) ?_
    refine zi_push M dL_law_1545 ?_
    refine zi_iadd M dL_law_1546 ?_
    refine zi_sld M hX hbl hbA hS hL (by omega) (by omega) dL_law_1547 ?_
    have hx_16 := xZ_rg xs (i + 2)
    refine lv_aload_n M.1 M.2.1 dL_law_1548 rfl (lv_at hl 1 rfl) ?_
    refine lv_iload M.1 M.2.1 dL_law_1549 (lv_at hl 5 rfl) ?_
    refine zi_push M dL_law_1551 ?_
    refine zi_iadd M dL_law_1552 ?_
    refine zi_sld M hX hbl hbA hS hL (by omega) (by omega) dL_law_1553 ?_
    have hx_17 := xZ_rg xs (i + 3)
    refine lv_aload_n M.1 M.2.1 dL_law_1554 rfl (lv_at hl 1 rfl) ?_
    refine lv_iload M.1 M.2.1 dL_law_1555 (lv_at hl 5 rfl) ?_
    refine zi_push M dL_law_1557 ?_
    refine zi_iadd M dL_law_1558 ?_
    refine zi_sld M hX hbl hbA hS hL (by omega) (by omega) dL_law_1559 ?_
    have hx_18 := xZ_rg xs (i + 4)
    refine lv_aload_n M.1 M.2.1 dL_law_1560 rfl (lv_at hl 1 rfl) ?_
    refine lv_iload M.1 M.2.1 dL_law_1561 (lv_at hl 5 rfl) ?_
    refine zi_push M dL_law_1563 ?_
    refine zi_iadd M dL_law_1564 ?_
    refine zi_sld M hX hbl hbA hS hL (by omega) (by omega) dL_law_1565 ?_
    have hx_19 := xZ_rg xs (i + 5)
    refine lv_aload_n M.1 M.2.1 dL_law_1566 rfl (lv_at hl 1 rfl) ?_
    refine lv_iload M.1 M.2.1 dL_law_1567 (lv_at hl 5 rfl) ?_
    refine zi_bipush M dL_law_1569 ⟨by decide, by decide⟩ ?_
    refine zi_iadd M dL_law_1571 ?_
    refine zi_sld M hX hbl hbA hS hL (by omega) (by omega) dL_law_1572 ?_
    have hx_20 := xZ_rg xs (i + 6)
    have hPx := hP
    have hP := hPm
    have hPm := hPx
    have hD := zD_c hD
    refine z_cW2 (z_runV (As := [.int (iI (xZ xs (i + 1))), .int (iI (xZ xs (i + 2))), .int (iI (xZ xs (i + 3))), .int (iI (xZ xs (i + 4))), .int (iI (xZ xs (i + 5))), .int (iI (xZ xs (i + 6)))]) (rest := []) M (c_X7_path l D cy z0 bd th h su st sh fl 0 sn bn fm fr cm em lg le lf dl cS cH sea noi pl pw an hd bp bo bw c1 c2 c3 c4 c5 e1 e2 e3 e4 e5 (xZ xs (i + 1)) (xZ xs (i + 2)) (xZ xs (i + 3)) (xZ xs (i + 4)) (xZ xs (i + 5)) (xZ xs (i + 6)) (by omega) (by omega) (by omega) (by omega) (by omega) (by omega) (by omega) (by omega) (by omega) (by omega) g_cS (by omega) g_sea) hE hS hAz (z_cut hP (zD_l hD) hAz [0, 1, 2, 3, 4, 5, 6, 7, 8, 9, 10, 11, 12, 13, 14, 15, 16, 17, 18, 19, 20, 21] rfl (by decide +kernel)) (zRc.of (ci := 7) (q0 := 0) hE hP rfl rfl) zk_cd_X7_path zk_in_RX7 zk_im_X7_path zk_se_X7_path zk_ml_RL_182 rfl rfl zd_X7_path ⟨by decide, by decide⟩ rfl hl.1 rfl (Nat.le_of_ble_eq_true rfl) dL_law_1573 ⟨by show _ ≤ 601024; omega, by show _ ≤ 7293034; omega⟩) hP hPm hD hS [0, 1, 2, 3, 4, 5, 6, 7, 8, 9, 10, 11, 12, 13, 14, 15, 16, 17, 18, 19, 20, 21] rfl (fun _ => by simp only [List.map_append, mdlW_adr]) (fun r_21 u_21 H locs hp_21 hP hPm hD hS => ?_)
    try simp only [mdD_0, mdE_0, mdF_0, mdD_1, mdE_1, mdF_1] at hp_21
    have hP : va_P D vwCl (mdlW bd 0 cy (u_21 4) h su st sh fl 0 sn bn fm fr cm em (u_21 0) (u_21 1) (u_21 2) (u_21 3) cS cH sea noi pl pw an hd bp bo bw c1 c2 c3 c4 c5 e1 e2 e3 e4 e5) H := hP
    have hD : va_D (fun q => z0 ≤ q) ((mdlW bd 0 cy (u_21 4) h su st sh fl 0 sn bn fm fr cm em (u_21 0) (u_21 1) (u_21 2) (u_21 3) cS cH sea noi pl pw an hd bp bo bw c1 c2 c3 c4 c5 e1 e2 e3 e4 e5) ++ ((rooW ad 0 cy fm fr) ++ ((airW ad 1 cy h su st sh fl cS cH (dnD h fl) (dnE h cS) (dnF h su st)) ++ ((airW ad 8 cy h su 0 0 0 (fun _ => 0) (fun _ => 0) (dnD h 0) (dnE h (fun _ => 0)) (dnF h su 0)) ++ ((grdW ad 15 cy sea noi) ++ ((rayW ad 18 cy (u3_7 0) (u3_7 1) (u3_7 2) (u3_7 3) (u3_7 4) (u3_7 5) (u3_7 6) (u3_7 7)) ++ ((sndW ad 19 cy 12 sn pl pw an hd fq) ++ ((sndW ad 25 cy 6 bn bp bw ban bhd bo) ++ ((conW ad 31 cy cm c1 c2 c3 c4 c5) ++ ((entW ad 37 cy em ep e1 e2 e3 e4 e5) ++ (outW od 0 cy o))))))))))) := hD
    rcases hp_21 with ⟨xa_21, xb_21, xc_21, xd_21, rfl, hN_21, n_21, w_21, g_21, k_21, d_21, hq_21, rfl⟩ | ⟨rfl, hN_21, rfl⟩ | ⟨rfl, hN_21, rfl⟩ | ⟨xa_21, xb_21, xc_21, xd_21, rfl, hN_21, rfl⟩
    ·
      have hP : va_P D vwCl (mdlW bd 0 cy 0 h su st sh fl 0 sn bn fm fr cm em xa_21 xb_21 xc_21 xd_21 cS cH sea noi pl pw an hd bp bo bw c1 c2 c3 c4 c5 e1 e2 e3 e4 e5) H := hP
      have hD : va_D (fun q => z0 ≤ q) ((mdlW bd 0 cy 0 h su st sh fl 0 sn bn fm fr cm em xa_21 xb_21 xc_21 xd_21 cS cH sea noi pl pw an hd bp bo bw c1 c2 c3 c4 c5 e1 e2 e3 e4 e5) ++ ((rooW ad 0 cy fm fr) ++ ((airW ad 1 cy h su st sh fl cS cH (dnD h fl) (dnE h cS) (dnF h su st)) ++ ((airW ad 8 cy h su 0 0 0 (fun _ => 0) (fun _ => 0) (dnD h 0) (dnE h (fun _ => 0)) (dnF h su 0)) ++ ((grdW ad 15 cy sea noi) ++ ((rayW ad 18 cy (u3_7 0) (u3_7 1) (u3_7 2) (u3_7 3) (u3_7 4) (u3_7 5) (u3_7 6) (u3_7 7)) ++ ((sndW ad 19 cy 12 sn pl pw an hd fq) ++ ((sndW ad 25 cy 6 bn bp bw ban bhd bo) ++ ((conW ad 31 cy cm c1 c2 c3 c4 c5) ++ ((entW ad 37 cy em ep e1 e2 e3 e4 e5) ++ (outW od 0 cy o))))))))))) := hD
      exfalso
      omega
    ·
      have hP : va_P D vwCl (mdlW bd 0 cy 1 h su st sh fl 0 sn bn fm fr cm em lg le lf dl cS cH sea noi pl pw an hd bp bo bw c1 c2 c3 c4 c5 e1 e2 e3 e4 e5) H := hP
      have hD : va_D (fun q => z0 ≤ q) ((mdlW bd 0 cy 1 h su st sh fl 0 sn bn fm fr cm em lg le lf dl cS cH sea noi pl pw an hd bp bo bw c1 c2 c3 c4 c5 e1 e2 e3 e4 e5) ++ ((rooW ad 0 cy fm fr) ++ ((airW ad 1 cy h su st sh fl cS cH (dnD h fl) (dnE h cS) (dnF h su st)) ++ ((airW ad 8 cy h su 0 0 0 (fun _ => 0) (fun _ => 0) (dnD h 0) (dnE h (fun _ => 0)) (dnF h su 0)) ++ ((grdW ad 15 cy sea noi) ++ ((rayW ad 18 cy (u3_7 0) (u3_7 1) (u3_7 2) (u3_7 3) (u3_7 4) (u3_7 5) (u3_7 6) (u3_7 7)) ++ ((sndW ad 19 cy 12 sn pl pw an hd fq) ++ ((sndW ad 25 cy 6 bn bp bw ban bhd bo) ++ ((conW ad 31 cy cm c1 c2 c3 c4 c5) ++ ((entW ad 37 cy em ep e1 e2 e3 e4 e5) ++ (outW od 0 cy o))))))))))) := hD
      refine lv_istore (lv' := [(6, .int (iI 0)), (5, .int (iI 1)), (0, .ref (b)), (1, .ref (ad 0)), (2, .ref (bd 0)), (3, .ref (od 0)), (4, .int (iI i))]) M.1 M.2.1 dL_law_1576 hl (by decide) rfl (fun ls hl => ?_)
      refine lv_aload_n M.1 M.2.1 dL_law_1578 rfl (lv_at hl 4 rfl) ?_
      refine z_cR (z_runV (As := []) (rest := []) M (c_X7_thrown l D cy z0 bd 1 h su st sh fl 0 sn bn fm fr cm em lg le lf dl cS cH sea noi pl pw an hd bp bo bw c1 c2 c3 c4 c5 e1 e2 e3 e4 e5) hE hS hAz hP (zRc.of (ci := 7) (q0 := 0) hE hP rfl rfl) zk_cd_X7_thrown zk_in_RX7 zk_im_X7_thrown zk_se_X7_thrown zk_ml_RL_116 rfl rfl zd_X7_thrown ⟨by decide, by decide⟩ rfl hl.1 rfl (Nat.le_of_ble_eq_true rfl) dL_law_1579 ⟨by show _ ≤ 601024; omega, by show _ ≤ 7293034; omega⟩) ?_
      refine lv_iload M.1 M.2.1 dL_law_1582 (lv_at hl 1 rfl) ?_
      refine zi_same (tgt := 1589) M dL_law_1584 (by decide) ?_
      refine lv_iload M.1 M.2.1 dL_law_1589 (lv_at hl 1 rfl) ?_
      refine zi_if_ne (tgt := 1606) M dL_law_1591 (by decide) ⟨by decide, by decide⟩ (fun _ => ?_) (fun q => absurd q (by decide))
      refine zi_goto (tgt := 2286) M dL_law_1606 (by decide) ?_
      have hPx := hP
      have hP := hPm
      have hPm := hPx
      have hD := zD_c hD
      refine W.widen (k := cells + 6) (n := slots + 36) (by omega) (by omega) ?_
      exact hback h su st sh fl sn bn cm em ep fm fr 1 o lg le lf dl cS cH sea noi pl pw an hd fq bp bw ban bhd bo c1 c2 c3 c4 c5 e1 e2 e3 e4 e5 u3_7 h_h h_su h_st h_sh h_fl h_sn h_bn h_cm h_em g_cS g_cH g_sea g_noi g_pl g_pw g_an g_hd g_bp g_bw g_ban g_bhd g_c1 g_c2 g_c3 g_c4 g_c5 g_e1 g_e2 g_e3 g_e4 g_e5 hbo hep H locs hP hPm hD hS ls (lv_sub hl [2, 3, 4, 5, 6] rfl)
    ·
      have hP : va_P D vwCl (mdlW bd 0 cy 2 h su st sh fl 0 sn bn fm fr cm em lg le lf dl cS cH sea noi pl pw an hd bp bo bw c1 c2 c3 c4 c5 e1 e2 e3 e4 e5) H := hP
      have hD : va_D (fun q => z0 ≤ q) ((mdlW bd 0 cy 2 h su st sh fl 0 sn bn fm fr cm em lg le lf dl cS cH sea noi pl pw an hd bp bo bw c1 c2 c3 c4 c5 e1 e2 e3 e4 e5) ++ ((rooW ad 0 cy fm fr) ++ ((airW ad 1 cy h su st sh fl cS cH (dnD h fl) (dnE h cS) (dnF h su st)) ++ ((airW ad 8 cy h su 0 0 0 (fun _ => 0) (fun _ => 0) (dnD h 0) (dnE h (fun _ => 0)) (dnF h su 0)) ++ ((grdW ad 15 cy sea noi) ++ ((rayW ad 18 cy (u3_7 0) (u3_7 1) (u3_7 2) (u3_7 3) (u3_7 4) (u3_7 5) (u3_7 6) (u3_7 7)) ++ ((sndW ad 19 cy 12 sn pl pw an hd fq) ++ ((sndW ad 25 cy 6 bn bp bw ban bhd bo) ++ ((conW ad 31 cy cm c1 c2 c3 c4 c5) ++ ((entW ad 37 cy em ep e1 e2 e3 e4 e5) ++ (outW od 0 cy o))))))))))) := hD
      exfalso
      omega
    ·
      have hP : va_P D vwCl (mdlW bd 0 cy 1 h su st sh fl 0 sn bn fm fr cm em xa_21 xb_21 xc_21 xd_21 cS cH sea noi pl pw an hd bp bo bw c1 c2 c3 c4 c5 e1 e2 e3 e4 e5) H := hP
      have hD : va_D (fun q => z0 ≤ q) ((mdlW bd 0 cy 1 h su st sh fl 0 sn bn fm fr cm em xa_21 xb_21 xc_21 xd_21 cS cH sea noi pl pw an hd bp bo bw c1 c2 c3 c4 c5 e1 e2 e3 e4 e5) ++ ((rooW ad 0 cy fm fr) ++ ((airW ad 1 cy h su st sh fl cS cH (dnD h fl) (dnE h cS) (dnF h su st)) ++ ((airW ad 8 cy h su 0 0 0 (fun _ => 0) (fun _ => 0) (dnD h 0) (dnE h (fun _ => 0)) (dnF h su 0)) ++ ((grdW ad 15 cy sea noi) ++ ((rayW ad 18 cy (u3_7 0) (u3_7 1) (u3_7 2) (u3_7 3) (u3_7 4) (u3_7 5) (u3_7 6) (u3_7 7)) ++ ((sndW ad 19 cy 12 sn pl pw an hd fq) ++ ((sndW ad 25 cy 6 bn bp bw ban bhd bo) ++ ((conW ad 31 cy cm c1 c2 c3 c4 c5) ++ ((entW ad 37 cy em ep e1 e2 e3 e4 e5) ++ (outW od 0 cy o))))))))))) := hD
      exfalso
      omega
  ·
    have hw_7 := hv_7.symm
    subst hw_7
    have hP : va_P D vwCl ((rooW ad 0 cy fm fr) ++ ((airW ad 1 cy h su st sh fl cS cH (dnD h fl) (dnE h cS) (dnF h su st)) ++ ((airW ad 8 cy h su 0 0 0 (fun _ => 0) (fun _ => 0) (dnD h 0) (dnE h (fun _ => 0)) (dnF h su 0)) ++ ((grdW ad 15 cy sea noi) ++ ((rayW ad 18 cy (u3_7 0) (u3_7 1) (u3_7 2) (u3_7 3) (u3_7 4) (u3_7 5) (u3_7 6) (u3_7 7)) ++ ((sndW ad 19 cy 12 sn pl pw an hd fq) ++ ((sndW ad 25 cy 6 bn bp bw ban bhd bo) ++ ((conW ad 31 cy cm c1 c2 c3 c4 c5) ++ ((entW ad 37 cy em ep e1 e2 e3 e4 e5) ++ (outW od 0 cy o)))))))))) H := hP
    have hD : va_D (fun q => z0 ≤ q) (((rooW ad 0 cy fm fr) ++ ((airW ad 1 cy h su st sh fl cS cH (dnD h fl) (dnE h cS) (dnF h su st)) ++ ((airW ad 8 cy h su 0 0 0 (fun _ => 0) (fun _ => 0) (dnD h 0) (dnE h (fun _ => 0)) (dnF h su 0)) ++ ((grdW ad 15 cy sea noi) ++ ((rayW ad 18 cy (u3_7 0) (u3_7 1) (u3_7 2) (u3_7 3) (u3_7 4) (u3_7 5) (u3_7 6) (u3_7 7)) ++ ((sndW ad 19 cy 12 sn pl pw an hd fq) ++ ((sndW ad 25 cy 6 bn bp bw ban bhd bo) ++ ((conW ad 31 cy cm c1 c2 c3 c4 c5) ++ ((entW ad 37 cy em ep e1 e2 e3 e4 e5) ++ (outW od 0 cy o)))))))))) ++ (mdlW bd 0 cy th h su st sh fl 0 sn bn fm fr cm em lg le lf dl cS cH sea noi pl pw an hd bp bo bw c1 c2 c3 c4 c5 e1 e2 e3 e4 e5)) := hD
    refine lv_istore (lv' := [(5, .int (iI 2)), (0, .ref (b)), (1, .ref (ad 0)), (2, .ref (bd 0)), (3, .ref (od 0)), (4, .int (iI i))]) M.1 M.2.1 dL_law_1533 hl (by decide) rfl (fun ls hl => ?_)
    refine lv_aload_n M.1 M.2.1 dL_law_1535 rfl (lv_at hl 3 rfl) ?_
    refine lv_aload_n M.1 M.2.1 dL_law_1536 rfl (lv_at hl 1 rfl) ?_
    refine lv_iload M.1 M.2.1 dL_law_1537 (lv_at hl 5 rfl) ?_
    refine zi_push M dL_law_1539 ?_
    refine zi_iadd M dL_law_1540 ?_
    refine zi_sld M hX hbl hbA hS hL (by omega) (by omega) dL_law_1541 ?_
    have hx_22 := xZ_rg xs (i + 1)
    refine lv_aload_n M.1 M.2.1 dL_law_1542 rfl (lv_at hl 1 rfl) ?_
    refine lv_iload M.1 M.2.1 dL_law_1543 (lv_at hl 5 rfl) ?_
    refine zi_push M dL_law_1545 ?_
    refine zi_iadd M dL_law_1546 ?_
    refine zi_sld M hX hbl hbA hS hL (by omega) (by omega) dL_law_1547 ?_
    have hx_23 := xZ_rg xs (i + 2)
    refine lv_aload_n M.1 M.2.1 dL_law_1548 rfl (lv_at hl 1 rfl) ?_
    refine lv_iload M.1 M.2.1 dL_law_1549 (lv_at hl 5 rfl) ?_
    refine zi_push M dL_law_1551 ?_
    refine zi_iadd M dL_law_1552 ?_
    refine zi_sld M hX hbl hbA hS hL (by omega) (by omega) dL_law_1553 ?_
    have hx_24 := xZ_rg xs (i + 3)
    refine lv_aload_n M.1 M.2.1 dL_law_1554 rfl (lv_at hl 1 rfl) ?_
    refine lv_iload M.1 M.2.1 dL_law_1555 (lv_at hl 5 rfl) ?_
    refine zi_push M dL_law_1557 ?_
    refine zi_iadd M dL_law_1558 ?_
    refine zi_sld M hX hbl hbA hS hL (by omega) (by omega) dL_law_1559 ?_
    have hx_25 := xZ_rg xs (i + 4)
    refine lv_aload_n M.1 M.2.1 dL_law_1560 rfl (lv_at hl 1 rfl) ?_
    refine lv_iload M.1 M.2.1 dL_law_1561 (lv_at hl 5 rfl) ?_
    refine zi_push M dL_law_1563 ?_
    refine zi_iadd M dL_law_1564 ?_
    refine zi_sld M hX hbl hbA hS hL (by omega) (by omega) dL_law_1565 ?_
    have hx_26 := xZ_rg xs (i + 5)
    refine lv_aload_n M.1 M.2.1 dL_law_1566 rfl (lv_at hl 1 rfl) ?_
    refine lv_iload M.1 M.2.1 dL_law_1567 (lv_at hl 5 rfl) ?_
    refine zi_bipush M dL_law_1569 ⟨by decide, by decide⟩ ?_
    refine zi_iadd M dL_law_1571 ?_
    refine zi_sld M hX hbl hbA hS hL (by omega) (by omega) dL_law_1572 ?_
    have hx_27 := xZ_rg xs (i + 6)
    have hPx := hP
    have hP := hPm
    have hPm := hPx
    have hD := zD_c hD
    refine z_cW2 (z_runV (As := [.int (iI (xZ xs (i + 1))), .int (iI (xZ xs (i + 2))), .int (iI (xZ xs (i + 3))), .int (iI (xZ xs (i + 4))), .int (iI (xZ xs (i + 5))), .int (iI (xZ xs (i + 6)))]) (rest := []) M (c_X7_path l D cy z0 bd th h su st sh fl 0 sn bn fm fr cm em lg le lf dl cS cH sea noi pl pw an hd bp bo bw c1 c2 c3 c4 c5 e1 e2 e3 e4 e5 (xZ xs (i + 1)) (xZ xs (i + 2)) (xZ xs (i + 3)) (xZ xs (i + 4)) (xZ xs (i + 5)) (xZ xs (i + 6)) (by omega) (by omega) (by omega) (by omega) (by omega) (by omega) (by omega) (by omega) (by omega) (by omega) g_cS (by omega) g_sea) hE hS hAz (z_cut hP (zD_l hD) hAz [0, 1, 2, 3, 4, 5, 6, 7, 8, 9, 10, 11, 12, 13, 14, 15, 16, 17, 18, 19, 20, 21] rfl (by decide +kernel)) (zRc.of (ci := 7) (q0 := 0) hE hP rfl rfl) zk_cd_X7_path zk_in_RX7 zk_im_X7_path zk_se_X7_path zk_ml_RL_182 rfl rfl zd_X7_path ⟨by decide, by decide⟩ rfl hl.1 rfl (Nat.le_of_ble_eq_true rfl) dL_law_1573 ⟨by show _ ≤ 601024; omega, by show _ ≤ 7293034; omega⟩) hP hPm hD hS [0, 1, 2, 3, 4, 5, 6, 7, 8, 9, 10, 11, 12, 13, 14, 15, 16, 17, 18, 19, 20, 21] rfl (fun _ => by simp only [List.map_append, mdlW_adr]) (fun r_28 u_28 H locs hp_28 hP hPm hD hS => ?_)
    try simp only [mdD_0, mdE_0, mdF_0, mdD_1, mdE_1, mdF_1] at hp_28
    have hP : va_P D vwCl (mdlW bd 0 cy (u_28 4) h su st sh fl 0 sn bn fm fr cm em (u_28 0) (u_28 1) (u_28 2) (u_28 3) cS cH sea noi pl pw an hd bp bo bw c1 c2 c3 c4 c5 e1 e2 e3 e4 e5) H := hP
    have hD : va_D (fun q => z0 ≤ q) ((mdlW bd 0 cy (u_28 4) h su st sh fl 0 sn bn fm fr cm em (u_28 0) (u_28 1) (u_28 2) (u_28 3) cS cH sea noi pl pw an hd bp bo bw c1 c2 c3 c4 c5 e1 e2 e3 e4 e5) ++ ((rooW ad 0 cy fm fr) ++ ((airW ad 1 cy h su st sh fl cS cH (dnD h fl) (dnE h cS) (dnF h su st)) ++ ((airW ad 8 cy h su 0 0 0 (fun _ => 0) (fun _ => 0) (dnD h 0) (dnE h (fun _ => 0)) (dnF h su 0)) ++ ((grdW ad 15 cy sea noi) ++ ((rayW ad 18 cy (u3_7 0) (u3_7 1) (u3_7 2) (u3_7 3) (u3_7 4) (u3_7 5) (u3_7 6) (u3_7 7)) ++ ((sndW ad 19 cy 12 sn pl pw an hd fq) ++ ((sndW ad 25 cy 6 bn bp bw ban bhd bo) ++ ((conW ad 31 cy cm c1 c2 c3 c4 c5) ++ ((entW ad 37 cy em ep e1 e2 e3 e4 e5) ++ (outW od 0 cy o))))))))))) := hD
    rcases hp_28 with ⟨xa_28, xb_28, xc_28, xd_28, rfl, hN_28, n_28, w_28, g_28, k_28, d_28, hq_28, rfl⟩ | ⟨rfl, hN_28, rfl⟩ | ⟨rfl, hN_28, rfl⟩ | ⟨xa_28, xb_28, xc_28, xd_28, rfl, hN_28, rfl⟩
    ·
      have hP : va_P D vwCl (mdlW bd 0 cy 0 h su st sh fl 0 sn bn fm fr cm em xa_28 xb_28 xc_28 xd_28 cS cH sea noi pl pw an hd bp bo bw c1 c2 c3 c4 c5 e1 e2 e3 e4 e5) H := hP
      have hD : va_D (fun q => z0 ≤ q) ((mdlW bd 0 cy 0 h su st sh fl 0 sn bn fm fr cm em xa_28 xb_28 xc_28 xd_28 cS cH sea noi pl pw an hd bp bo bw c1 c2 c3 c4 c5 e1 e2 e3 e4 e5) ++ ((rooW ad 0 cy fm fr) ++ ((airW ad 1 cy h su st sh fl cS cH (dnD h fl) (dnE h cS) (dnF h su st)) ++ ((airW ad 8 cy h su 0 0 0 (fun _ => 0) (fun _ => 0) (dnD h 0) (dnE h (fun _ => 0)) (dnF h su 0)) ++ ((grdW ad 15 cy sea noi) ++ ((rayW ad 18 cy (u3_7 0) (u3_7 1) (u3_7 2) (u3_7 3) (u3_7 4) (u3_7 5) (u3_7 6) (u3_7 7)) ++ ((sndW ad 19 cy 12 sn pl pw an hd fq) ++ ((sndW ad 25 cy 6 bn bp bw ban bhd bo) ++ ((conW ad 31 cy cm c1 c2 c3 c4 c5) ++ ((entW ad 37 cy em ep e1 e2 e3 e4 e5) ++ (outW od 0 cy o))))))))))) := hD
      exfalso
      omega
    ·
      have hP : va_P D vwCl (mdlW bd 0 cy 1 h su st sh fl 0 sn bn fm fr cm em lg le lf dl cS cH sea noi pl pw an hd bp bo bw c1 c2 c3 c4 c5 e1 e2 e3 e4 e5) H := hP
      have hD : va_D (fun q => z0 ≤ q) ((mdlW bd 0 cy 1 h su st sh fl 0 sn bn fm fr cm em lg le lf dl cS cH sea noi pl pw an hd bp bo bw c1 c2 c3 c4 c5 e1 e2 e3 e4 e5) ++ ((rooW ad 0 cy fm fr) ++ ((airW ad 1 cy h su st sh fl cS cH (dnD h fl) (dnE h cS) (dnF h su st)) ++ ((airW ad 8 cy h su 0 0 0 (fun _ => 0) (fun _ => 0) (dnD h 0) (dnE h (fun _ => 0)) (dnF h su 0)) ++ ((grdW ad 15 cy sea noi) ++ ((rayW ad 18 cy (u3_7 0) (u3_7 1) (u3_7 2) (u3_7 3) (u3_7 4) (u3_7 5) (u3_7 6) (u3_7 7)) ++ ((sndW ad 19 cy 12 sn pl pw an hd fq) ++ ((sndW ad 25 cy 6 bn bp bw ban bhd bo) ++ ((conW ad 31 cy cm c1 c2 c3 c4 c5) ++ ((entW ad 37 cy em ep e1 e2 e3 e4 e5) ++ (outW od 0 cy o))))))))))) := hD
      exfalso
      omega
    ·
      have hP : va_P D vwCl (mdlW bd 0 cy 2 h su st sh fl 0 sn bn fm fr cm em lg le lf dl cS cH sea noi pl pw an hd bp bo bw c1 c2 c3 c4 c5 e1 e2 e3 e4 e5) H := hP
      have hD : va_D (fun q => z0 ≤ q) ((mdlW bd 0 cy 2 h su st sh fl 0 sn bn fm fr cm em lg le lf dl cS cH sea noi pl pw an hd bp bo bw c1 c2 c3 c4 c5 e1 e2 e3 e4 e5) ++ ((rooW ad 0 cy fm fr) ++ ((airW ad 1 cy h su st sh fl cS cH (dnD h fl) (dnE h cS) (dnF h su st)) ++ ((airW ad 8 cy h su 0 0 0 (fun _ => 0) (fun _ => 0) (dnD h 0) (dnE h (fun _ => 0)) (dnF h su 0)) ++ ((grdW ad 15 cy sea noi) ++ ((rayW ad 18 cy (u3_7 0) (u3_7 1) (u3_7 2) (u3_7 3) (u3_7 4) (u3_7 5) (u3_7 6) (u3_7 7)) ++ ((sndW ad 19 cy 12 sn pl pw an hd fq) ++ ((sndW ad 25 cy 6 bn bp bw ban bhd bo) ++ ((conW ad 31 cy cm c1 c2 c3 c4 c5) ++ ((entW ad 37 cy em ep e1 e2 e3 e4 e5) ++ (outW od 0 cy o))))))))))) := hD
      refine lv_istore (lv' := [(6, .int (iI 0)), (5, .int (iI 2)), (0, .ref (b)), (1, .ref (ad 0)), (2, .ref (bd 0)), (3, .ref (od 0)), (4, .int (iI i))]) M.1 M.2.1 dL_law_1576 hl (by decide) rfl (fun ls hl => ?_)
      refine lv_aload_n M.1 M.2.1 dL_law_1578 rfl (lv_at hl 4 rfl) ?_
      refine z_cR (z_runV (As := []) (rest := []) M (c_X7_thrown l D cy z0 bd 2 h su st sh fl 0 sn bn fm fr cm em lg le lf dl cS cH sea noi pl pw an hd bp bo bw c1 c2 c3 c4 c5 e1 e2 e3 e4 e5) hE hS hAz hP (zRc.of (ci := 7) (q0 := 0) hE hP rfl rfl) zk_cd_X7_thrown zk_in_RX7 zk_im_X7_thrown zk_se_X7_thrown zk_ml_RL_116 rfl rfl zd_X7_thrown ⟨by decide, by decide⟩ rfl hl.1 rfl (Nat.le_of_ble_eq_true rfl) dL_law_1579 ⟨by show _ ≤ 601024; omega, by show _ ≤ 7293034; omega⟩) ?_
      refine lv_iload M.1 M.2.1 dL_law_1582 (lv_at hl 1 rfl) ?_
      refine zi_same (tgt := 1589) M dL_law_1584 (by decide) ?_
      refine lv_iload M.1 M.2.1 dL_law_1589 (lv_at hl 1 rfl) ?_
      refine zi_if_ne (tgt := 1606) M dL_law_1591 (by decide) ⟨by decide, by decide⟩ (fun _ => ?_) (fun q => absurd q (by decide))
      refine zi_goto (tgt := 2286) M dL_law_1606 (by decide) ?_
      have hPx := hP
      have hP := hPm
      have hPm := hPx
      have hD := zD_c hD
      refine W.widen (k := cells + 6) (n := slots + 36) (by omega) (by omega) ?_
      exact hback h su st sh fl sn bn cm em ep fm fr 2 o lg le lf dl cS cH sea noi pl pw an hd fq bp bw ban bhd bo c1 c2 c3 c4 c5 e1 e2 e3 e4 e5 u3_7 h_h h_su h_st h_sh h_fl h_sn h_bn h_cm h_em g_cS g_cH g_sea g_noi g_pl g_pw g_an g_hd g_bp g_bw g_ban g_bhd g_c1 g_c2 g_c3 g_c4 g_c5 g_e1 g_e2 g_e3 g_e4 g_e5 hbo hep H locs hP hPm hD hS ls (lv_sub hl [2, 3, 4, 5, 6] rfl)
    ·
      have hP : va_P D vwCl (mdlW bd 0 cy 1 h su st sh fl 0 sn bn fm fr cm em xa_28 xb_28 xc_28 xd_28 cS cH sea noi pl pw an hd bp bo bw c1 c2 c3 c4 c5 e1 e2 e3 e4 e5) H := hP
      have hD : va_D (fun q => z0 ≤ q) ((mdlW bd 0 cy 1 h su st sh fl 0 sn bn fm fr cm em xa_28 xb_28 xc_28 xd_28 cS cH sea noi pl pw an hd bp bo bw c1 c2 c3 c4 c5 e1 e2 e3 e4 e5) ++ ((rooW ad 0 cy fm fr) ++ ((airW ad 1 cy h su st sh fl cS cH (dnD h fl) (dnE h cS) (dnF h su st)) ++ ((airW ad 8 cy h su 0 0 0 (fun _ => 0) (fun _ => 0) (dnD h 0) (dnE h (fun _ => 0)) (dnF h su 0)) ++ ((grdW ad 15 cy sea noi) ++ ((rayW ad 18 cy (u3_7 0) (u3_7 1) (u3_7 2) (u3_7 3) (u3_7 4) (u3_7 5) (u3_7 6) (u3_7 7)) ++ ((sndW ad 19 cy 12 sn pl pw an hd fq) ++ ((sndW ad 25 cy 6 bn bp bw ban bhd bo) ++ ((conW ad 31 cy cm c1 c2 c3 c4 c5) ++ ((entW ad 37 cy em ep e1 e2 e3 e4 e5) ++ (outW od 0 cy o))))))))))) := hD
      exfalso
      omega
  ·
    have hw_7 := hv_7.symm
    subst hw_7
    have hP : va_P D vwCl ((rooW ad 0 cy fm fr) ++ ((airW ad 1 cy h su st sh fl cS cH (dnD h fl) (dnE h cS) (dnF h su st)) ++ ((airW ad 8 cy h su 0 0 0 (fun _ => 0) (fun _ => 0) (dnD h 0) (dnE h (fun _ => 0)) (dnF h su 0)) ++ ((grdW ad 15 cy sea noi) ++ ((rayW ad 18 cy (u3_7 0) (u3_7 1) (u3_7 2) (u3_7 3) (u3_7 4) (u3_7 5) (u3_7 6) (u3_7 7)) ++ ((sndW ad 19 cy 12 sn pl pw an hd fq) ++ ((sndW ad 25 cy 6 bn bp bw ban bhd bo) ++ ((conW ad 31 cy cm c1 c2 c3 c4 c5) ++ ((entW ad 37 cy em ep e1 e2 e3 e4 e5) ++ (outW od 0 cy o)))))))))) H := hP
    have hD : va_D (fun q => z0 ≤ q) (((rooW ad 0 cy fm fr) ++ ((airW ad 1 cy h su st sh fl cS cH (dnD h fl) (dnE h cS) (dnF h su st)) ++ ((airW ad 8 cy h su 0 0 0 (fun _ => 0) (fun _ => 0) (dnD h 0) (dnE h (fun _ => 0)) (dnF h su 0)) ++ ((grdW ad 15 cy sea noi) ++ ((rayW ad 18 cy (u3_7 0) (u3_7 1) (u3_7 2) (u3_7 3) (u3_7 4) (u3_7 5) (u3_7 6) (u3_7 7)) ++ ((sndW ad 19 cy 12 sn pl pw an hd fq) ++ ((sndW ad 25 cy 6 bn bp bw ban bhd bo) ++ ((conW ad 31 cy cm c1 c2 c3 c4 c5) ++ ((entW ad 37 cy em ep e1 e2 e3 e4 e5) ++ (outW od 0 cy o)))))))))) ++ (mdlW bd 0 cy th h su st sh fl 0 sn bn fm fr cm em lg le lf dl cS cH sea noi pl pw an hd bp bo bw c1 c2 c3 c4 c5 e1 e2 e3 e4 e5)) := hD
    refine lv_istore (lv' := [(5, .int (iI 1)), (0, .ref (b)), (1, .ref (ad 0)), (2, .ref (bd 0)), (3, .ref (od 0)), (4, .int (iI i))]) M.1 M.2.1 dL_law_1533 hl (by decide) rfl (fun ls hl => ?_)
    refine lv_aload_n M.1 M.2.1 dL_law_1535 rfl (lv_at hl 3 rfl) ?_
    refine lv_aload_n M.1 M.2.1 dL_law_1536 rfl (lv_at hl 1 rfl) ?_
    refine lv_iload M.1 M.2.1 dL_law_1537 (lv_at hl 5 rfl) ?_
    refine zi_push M dL_law_1539 ?_
    refine zi_iadd M dL_law_1540 ?_
    refine zi_sld M hX hbl hbA hS hL (by omega) (by omega) dL_law_1541 ?_
    have hx_29 := xZ_rg xs (i + 1)
    refine lv_aload_n M.1 M.2.1 dL_law_1542 rfl (lv_at hl 1 rfl) ?_
    refine lv_iload M.1 M.2.1 dL_law_1543 (lv_at hl 5 rfl) ?_
    refine zi_push M dL_law_1545 ?_
    refine zi_iadd M dL_law_1546 ?_
    refine zi_sld M hX hbl hbA hS hL (by omega) (by omega) dL_law_1547 ?_
    have hx_30 := xZ_rg xs (i + 2)
    refine lv_aload_n M.1 M.2.1 dL_law_1548 rfl (lv_at hl 1 rfl) ?_
    refine lv_iload M.1 M.2.1 dL_law_1549 (lv_at hl 5 rfl) ?_
    refine zi_push M dL_law_1551 ?_
    refine zi_iadd M dL_law_1552 ?_
    refine zi_sld M hX hbl hbA hS hL (by omega) (by omega) dL_law_1553 ?_
    have hx_31 := xZ_rg xs (i + 3)
    refine lv_aload_n M.1 M.2.1 dL_law_1554 rfl (lv_at hl 1 rfl) ?_
    refine lv_iload M.1 M.2.1 dL_law_1555 (lv_at hl 5 rfl) ?_
    refine zi_push M dL_law_1557 ?_
    refine zi_iadd M dL_law_1558 ?_
    refine zi_sld M hX hbl hbA hS hL (by omega) (by omega) dL_law_1559 ?_
    have hx_32 := xZ_rg xs (i + 4)
    refine lv_aload_n M.1 M.2.1 dL_law_1560 rfl (lv_at hl 1 rfl) ?_
    refine lv_iload M.1 M.2.1 dL_law_1561 (lv_at hl 5 rfl) ?_
    refine zi_push M dL_law_1563 ?_
    refine zi_iadd M dL_law_1564 ?_
    refine zi_sld M hX hbl hbA hS hL (by omega) (by omega) dL_law_1565 ?_
    have hx_33 := xZ_rg xs (i + 5)
    refine lv_aload_n M.1 M.2.1 dL_law_1566 rfl (lv_at hl 1 rfl) ?_
    refine lv_iload M.1 M.2.1 dL_law_1567 (lv_at hl 5 rfl) ?_
    refine zi_bipush M dL_law_1569 ⟨by decide, by decide⟩ ?_
    refine zi_iadd M dL_law_1571 ?_
    refine zi_sld M hX hbl hbA hS hL (by omega) (by omega) dL_law_1572 ?_
    have hx_34 := xZ_rg xs (i + 6)
    have hPx := hP
    have hP := hPm
    have hPm := hPx
    have hD := zD_c hD
    refine z_cW2 (z_runV (As := [.int (iI (xZ xs (i + 1))), .int (iI (xZ xs (i + 2))), .int (iI (xZ xs (i + 3))), .int (iI (xZ xs (i + 4))), .int (iI (xZ xs (i + 5))), .int (iI (xZ xs (i + 6)))]) (rest := []) M (c_X7_path l D cy z0 bd th h su st sh fl 0 sn bn fm fr cm em lg le lf dl cS cH sea noi pl pw an hd bp bo bw c1 c2 c3 c4 c5 e1 e2 e3 e4 e5 (xZ xs (i + 1)) (xZ xs (i + 2)) (xZ xs (i + 3)) (xZ xs (i + 4)) (xZ xs (i + 5)) (xZ xs (i + 6)) (by omega) (by omega) (by omega) (by omega) (by omega) (by omega) (by omega) (by omega) (by omega) (by omega) g_cS (by omega) g_sea) hE hS hAz (z_cut hP (zD_l hD) hAz [0, 1, 2, 3, 4, 5, 6, 7, 8, 9, 10, 11, 12, 13, 14, 15, 16, 17, 18, 19, 20, 21] rfl (by decide +kernel)) (zRc.of (ci := 7) (q0 := 0) hE hP rfl rfl) zk_cd_X7_path zk_in_RX7 zk_im_X7_path zk_se_X7_path zk_ml_RL_182 rfl rfl zd_X7_path ⟨by decide, by decide⟩ rfl hl.1 rfl (Nat.le_of_ble_eq_true rfl) dL_law_1573 ⟨by show _ ≤ 601024; omega, by show _ ≤ 7293034; omega⟩) hP hPm hD hS [0, 1, 2, 3, 4, 5, 6, 7, 8, 9, 10, 11, 12, 13, 14, 15, 16, 17, 18, 19, 20, 21] rfl (fun _ => by simp only [List.map_append, mdlW_adr]) (fun r_35 u_35 H locs hp_35 hP hPm hD hS => ?_)
    try simp only [mdD_0, mdE_0, mdF_0, mdD_1, mdE_1, mdF_1] at hp_35
    have hP : va_P D vwCl (mdlW bd 0 cy (u_35 4) h su st sh fl 0 sn bn fm fr cm em (u_35 0) (u_35 1) (u_35 2) (u_35 3) cS cH sea noi pl pw an hd bp bo bw c1 c2 c3 c4 c5 e1 e2 e3 e4 e5) H := hP
    have hD : va_D (fun q => z0 ≤ q) ((mdlW bd 0 cy (u_35 4) h su st sh fl 0 sn bn fm fr cm em (u_35 0) (u_35 1) (u_35 2) (u_35 3) cS cH sea noi pl pw an hd bp bo bw c1 c2 c3 c4 c5 e1 e2 e3 e4 e5) ++ ((rooW ad 0 cy fm fr) ++ ((airW ad 1 cy h su st sh fl cS cH (dnD h fl) (dnE h cS) (dnF h su st)) ++ ((airW ad 8 cy h su 0 0 0 (fun _ => 0) (fun _ => 0) (dnD h 0) (dnE h (fun _ => 0)) (dnF h su 0)) ++ ((grdW ad 15 cy sea noi) ++ ((rayW ad 18 cy (u3_7 0) (u3_7 1) (u3_7 2) (u3_7 3) (u3_7 4) (u3_7 5) (u3_7 6) (u3_7 7)) ++ ((sndW ad 19 cy 12 sn pl pw an hd fq) ++ ((sndW ad 25 cy 6 bn bp bw ban bhd bo) ++ ((conW ad 31 cy cm c1 c2 c3 c4 c5) ++ ((entW ad 37 cy em ep e1 e2 e3 e4 e5) ++ (outW od 0 cy o))))))))))) := hD
    rcases hp_35 with ⟨xa_35, xb_35, xc_35, xd_35, rfl, hN_35, n_35, w_35, g_35, k_35, d_35, hq_35, rfl⟩ | ⟨rfl, hN_35, rfl⟩ | ⟨rfl, hN_35, rfl⟩ | ⟨xa_35, xb_35, xc_35, xd_35, rfl, hN_35, rfl⟩
    ·
      have hP : va_P D vwCl (mdlW bd 0 cy 0 h su st sh fl 0 sn bn fm fr cm em xa_35 xb_35 xc_35 xd_35 cS cH sea noi pl pw an hd bp bo bw c1 c2 c3 c4 c5 e1 e2 e3 e4 e5) H := hP
      have hD : va_D (fun q => z0 ≤ q) ((mdlW bd 0 cy 0 h su st sh fl 0 sn bn fm fr cm em xa_35 xb_35 xc_35 xd_35 cS cH sea noi pl pw an hd bp bo bw c1 c2 c3 c4 c5 e1 e2 e3 e4 e5) ++ ((rooW ad 0 cy fm fr) ++ ((airW ad 1 cy h su st sh fl cS cH (dnD h fl) (dnE h cS) (dnF h su st)) ++ ((airW ad 8 cy h su 0 0 0 (fun _ => 0) (fun _ => 0) (dnD h 0) (dnE h (fun _ => 0)) (dnF h su 0)) ++ ((grdW ad 15 cy sea noi) ++ ((rayW ad 18 cy (u3_7 0) (u3_7 1) (u3_7 2) (u3_7 3) (u3_7 4) (u3_7 5) (u3_7 6) (u3_7 7)) ++ ((sndW ad 19 cy 12 sn pl pw an hd fq) ++ ((sndW ad 25 cy 6 bn bp bw ban bhd bo) ++ ((conW ad 31 cy cm c1 c2 c3 c4 c5) ++ ((entW ad 37 cy em ep e1 e2 e3 e4 e5) ++ (outW od 0 cy o))))))))))) := hD
      exfalso
      omega
    ·
      have hP : va_P D vwCl (mdlW bd 0 cy 1 h su st sh fl 0 sn bn fm fr cm em lg le lf dl cS cH sea noi pl pw an hd bp bo bw c1 c2 c3 c4 c5 e1 e2 e3 e4 e5) H := hP
      have hD : va_D (fun q => z0 ≤ q) ((mdlW bd 0 cy 1 h su st sh fl 0 sn bn fm fr cm em lg le lf dl cS cH sea noi pl pw an hd bp bo bw c1 c2 c3 c4 c5 e1 e2 e3 e4 e5) ++ ((rooW ad 0 cy fm fr) ++ ((airW ad 1 cy h su st sh fl cS cH (dnD h fl) (dnE h cS) (dnF h su st)) ++ ((airW ad 8 cy h su 0 0 0 (fun _ => 0) (fun _ => 0) (dnD h 0) (dnE h (fun _ => 0)) (dnF h su 0)) ++ ((grdW ad 15 cy sea noi) ++ ((rayW ad 18 cy (u3_7 0) (u3_7 1) (u3_7 2) (u3_7 3) (u3_7 4) (u3_7 5) (u3_7 6) (u3_7 7)) ++ ((sndW ad 19 cy 12 sn pl pw an hd fq) ++ ((sndW ad 25 cy 6 bn bp bw ban bhd bo) ++ ((conW ad 31 cy cm c1 c2 c3 c4 c5) ++ ((entW ad 37 cy em ep e1 e2 e3 e4 e5) ++ (outW od 0 cy o))))))))))) := hD
      exfalso
      omega
    ·
      have hP : va_P D vwCl (mdlW bd 0 cy 2 h su st sh fl 0 sn bn fm fr cm em lg le lf dl cS cH sea noi pl pw an hd bp bo bw c1 c2 c3 c4 c5 e1 e2 e3 e4 e5) H := hP
      have hD : va_D (fun q => z0 ≤ q) ((mdlW bd 0 cy 2 h su st sh fl 0 sn bn fm fr cm em lg le lf dl cS cH sea noi pl pw an hd bp bo bw c1 c2 c3 c4 c5 e1 e2 e3 e4 e5) ++ ((rooW ad 0 cy fm fr) ++ ((airW ad 1 cy h su st sh fl cS cH (dnD h fl) (dnE h cS) (dnF h su st)) ++ ((airW ad 8 cy h su 0 0 0 (fun _ => 0) (fun _ => 0) (dnD h 0) (dnE h (fun _ => 0)) (dnF h su 0)) ++ ((grdW ad 15 cy sea noi) ++ ((rayW ad 18 cy (u3_7 0) (u3_7 1) (u3_7 2) (u3_7 3) (u3_7 4) (u3_7 5) (u3_7 6) (u3_7 7)) ++ ((sndW ad 19 cy 12 sn pl pw an hd fq) ++ ((sndW ad 25 cy 6 bn bp bw ban bhd bo) ++ ((conW ad 31 cy cm c1 c2 c3 c4 c5) ++ ((entW ad 37 cy em ep e1 e2 e3 e4 e5) ++ (outW od 0 cy o))))))))))) := hD
      exfalso
      omega
    ·
      have hP : va_P D vwCl (mdlW bd 0 cy 1 h su st sh fl 0 sn bn fm fr cm em xa_35 xb_35 xc_35 xd_35 cS cH sea noi pl pw an hd bp bo bw c1 c2 c3 c4 c5 e1 e2 e3 e4 e5) H := hP
      have hD : va_D (fun q => z0 ≤ q) ((mdlW bd 0 cy 1 h su st sh fl 0 sn bn fm fr cm em xa_35 xb_35 xc_35 xd_35 cS cH sea noi pl pw an hd bp bo bw c1 c2 c3 c4 c5 e1 e2 e3 e4 e5) ++ ((rooW ad 0 cy fm fr) ++ ((airW ad 1 cy h su st sh fl cS cH (dnD h fl) (dnE h cS) (dnF h su st)) ++ ((airW ad 8 cy h su 0 0 0 (fun _ => 0) (fun _ => 0) (dnD h 0) (dnE h (fun _ => 0)) (dnF h su 0)) ++ ((grdW ad 15 cy sea noi) ++ ((rayW ad 18 cy (u3_7 0) (u3_7 1) (u3_7 2) (u3_7 3) (u3_7 4) (u3_7 5) (u3_7 6) (u3_7 7)) ++ ((sndW ad 19 cy 12 sn pl pw an hd fq) ++ ((sndW ad 25 cy 6 bn bp bw ban bhd bo) ++ ((conW ad 31 cy cm c1 c2 c3 c4 c5) ++ ((entW ad 37 cy em ep e1 e2 e3 e4 e5) ++ (outW od 0 cy o))))))))))) := hD
      refine lv_istore (lv' := [(6, .int (iI 0)), (5, .int (iI 1)), (0, .ref (b)), (1, .ref (ad 0)), (2, .ref (bd 0)), (3, .ref (od 0)), (4, .int (iI i))]) M.1 M.2.1 dL_law_1576 hl (by decide) rfl (fun ls hl => ?_)
      refine lv_aload_n M.1 M.2.1 dL_law_1578 rfl (lv_at hl 4 rfl) ?_
      refine z_cR (z_runV (As := []) (rest := []) M (c_X7_thrown l D cy z0 bd 1 h su st sh fl 0 sn bn fm fr cm em xa_35 xb_35 xc_35 xd_35 cS cH sea noi pl pw an hd bp bo bw c1 c2 c3 c4 c5 e1 e2 e3 e4 e5) hE hS hAz hP (zRc.of (ci := 7) (q0 := 0) hE hP rfl rfl) zk_cd_X7_thrown zk_in_RX7 zk_im_X7_thrown zk_se_X7_thrown zk_ml_RL_116 rfl rfl zd_X7_thrown ⟨by decide, by decide⟩ rfl hl.1 rfl (Nat.le_of_ble_eq_true rfl) dL_law_1579 ⟨by show _ ≤ 601024; omega, by show _ ≤ 7293034; omega⟩) ?_
      refine lv_iload M.1 M.2.1 dL_law_1582 (lv_at hl 1 rfl) ?_
      refine zi_same (tgt := 1589) M dL_law_1584 (by decide) ?_
      refine lv_iload M.1 M.2.1 dL_law_1589 (lv_at hl 1 rfl) ?_
      refine zi_if_ne (tgt := 1606) M dL_law_1591 (by decide) ⟨by decide, by decide⟩ (fun _ => ?_) (fun q => absurd q (by decide))
      refine zi_goto (tgt := 2286) M dL_law_1606 (by decide) ?_
      have hPx := hP
      have hP := hPm
      have hPm := hPx
      have hD := zD_c hD
      refine W.widen (k := cells + 6) (n := slots + 36) (by omega) (by omega) ?_
      exact hback h su st sh fl sn bn cm em ep fm fr 1 o xa_35 xb_35 xc_35 xd_35 cS cH sea noi pl pw an hd fq bp bw ban bhd bo c1 c2 c3 c4 c5 e1 e2 e3 e4 e5 u3_7 h_h h_su h_st h_sh h_fl h_sn h_bn h_cm h_em g_cS g_cH g_sea g_noi g_pl g_pw g_an g_hd g_bp g_bw g_ban g_bhd g_c1 g_c2 g_c3 g_c4 g_c5 g_e1 g_e2 g_e3 g_e4 g_e5 hbo hep H locs hP hPm hD hS ls (lv_sub hl [2, 3, 4, 5, 6] rfl)

set_option maxRecDepth 100000 in
set_option maxHeartbeats 8000000 in
theorem lw_case19 (l : Launch) (D : va_G) (cy : Nat → ClassId) (z0 : Nat) (ad bd od : Nat → Nat) (p : Program) (e : Env) (s : State) (m : MethodId) (args : Array Value) (below : List Frame) (meth : Method) (c : Code) (b : Nat) (i : Int) (Q : State → Prop) (cells slots : Nat) (hst : l.stackTraces = false) (hL7 : ∀ q : Nat, q = 0 → True) (b_L : Nat) (xs : Nat → Int32) (M : zM p s m args c cL_law RL 7) (hE : zE D cy z0 s) (hN : zNc s) (hL : b_L ≤ 3584) (hX : va_X b b_L xs s s.heap) (hbl : b < s.heap.size) (hbA : ¬ z0 ≤ b) (hi : 0 ≤ i ∧ i + 7 ≤ b_L) (hc : cells + 6 ≤ 601024) (hs : slots + 36 ≤ 7293034) (hback : lwB l D cy z0 ad bd od p e s m args below meth c b i Q cells slots) (h su st sh fl sn bn cm em ep fm fr th o lg le lf dl : Int) (cS cH sea noi pl pw an hd fq bp bw ban bhd bo c1 c2 c3 c4 c5 e1 e2 e3 e4 e5 : Int → Int) (ur : Nat → Int) (h_h : 0 ≤ h ∧ h ≤ 5000) (h_su : 0 ≤ su ∧ su ≤ 100) (h_st : 0 ≤ st ∧ st ≤ 60) (h_sh : 0 ≤ sh ∧ sh ≤ 72) (h_fl : 0 ≤ fl ∧ fl ≤ 80) (h_sn : 0 ≤ sn ∧ sn ≤ 12) (h_bn : 0 ≤ bn ∧ bn ≤ 6) (h_cm : 0 ≤ cm ∧ cm ≤ 60) (h_em : 0 ≤ em ∧ em ≤ 80) (g_cS : zrg 48 0 100 cS) (g_cH : zrg 48 0 24 cH) (g_sea : zrg 48 0 1 sea) (g_noi : zrg 48 0 40 noi) (g_pl : zrg 12 0 47 pl) (g_pw : zrg 12 0 80 pw) (g_an : zrg 12 0 2 an) (g_hd : zrg 12 0 2 hd) (g_bp : zrg 6 0 47 bp) (g_bw : zrg 6 0 80 bw) (g_ban : zrg 6 0 2 ban) (g_bhd : zrg 6 0 2 bhd) (g_c1 : zrg 60 0 11 c1) (g_c2 : zrg 60 0 11 c2) (g_c3 : zrg 60 0 300 c3) (g_c4 : zrg 60 0 2 c4) (g_c5 : zrg 60 0 5000 c5) (g_e1 : zrg 80 0 11 e1) (g_e2 : zrg 80 0 11 e2) (g_e3 : zrg 80 0 300 e3) (g_e4 : zrg 80 0 5000 e4) (g_e5 : zrg 80 (-1) 79 e5) (hbo : ∀ n : Int, 0 ≤ n → n < bn → (10 ≤ bo n ∧ bo n ≤ 300) ∧ ban n = 2 ∧ bhd n = 2) (hep : ep = prF e5 em.toNat) (H : Heap) (locs : List Loc) (hP : va_P D vwCl ((rooW ad 0 cy fm fr) ++ ((airW ad 1 cy h su st sh fl cS cH (dnD h fl) (dnE h cS) (dnF h su st)) ++ ((airW ad 8 cy h su 0 0 0 (fun _ => 0) (fun _ => 0) (dnD h 0) (dnE h (fun _ => 0)) (dnF h su 0)) ++ ((grdW ad 15 cy sea noi) ++ ((rayW ad 18 cy (ur 0) (ur 1) (ur 2) (ur 3) (ur 4) (ur 5) (ur 6) (ur 7)) ++ ((sndW ad 19 cy 12 sn pl pw an hd fq) ++ ((sndW ad 25 cy 6 bn bp bw ban bhd bo) ++ ((conW ad 31 cy cm c1 c2 c3 c4 c5) ++ ((entW ad 37 cy em ep e1 e2 e3 e4 e5) ++ (outW od 0 cy o)))))))))) H) (hPm : va_P D vwCl (mdlW bd 0 cy th h su st sh fl 0 sn bn fm fr cm em lg le lf dl cS cH sea noi pl pw an hd bp bo bw c1 c2 c3 c4 c5 e1 e2 e3 e4 e5) H) (hD : va_D (fun q => z0 ≤ q) (((rooW ad 0 cy fm fr) ++ ((airW ad 1 cy h su st sh fl cS cH (dnD h fl) (dnE h cS) (dnF h su st)) ++ ((airW ad 8 cy h su 0 0 0 (fun _ => 0) (fun _ => 0) (dnD h 0) (dnE h (fun _ => 0)) (dnF h su 0)) ++ ((grdW ad 15 cy sea noi) ++ ((rayW ad 18 cy (ur 0) (ur 1) (ur 2) (ur 3) (ur 4) (ur 5) (ur 6) (ur 7)) ++ ((sndW ad 19 cy 12 sn pl pw an hd fq) ++ ((sndW ad 25 cy 6 bn bp bw ban bhd bo) ++ ((conW ad 31 cy cm c1 c2 c3 c4 c5) ++ ((entW ad 37 cy em ep e1 e2 e3 e4 e5) ++ (outW od 0 cy o)))))))))) ++ (mdlW bd 0 cy th h su st sh fl 0 sn bn fm fr cm em lg le lf dl cS cH sea noi pl pw an hd bp bo bw c1 c2 c3 c4 c5 e1 e2 e3 e4 e5))) (hS : va_S (fun q => z0 ≤ q) s.heap H locs) (ls : Array Slot) (hl : lv_has ls 7 [(0, .ref b), (1, .ref (ad 0)), (2, .ref (bd 0)), (3, .ref (od 0)), (4, .int (iI i))]) : W p l e room_1 s m args below meth c H locs (cells) (slots) Q (F0 m 1609 ls []) := by
  have hAz : ∀ q : Nat, (fun q => z0 ≤ q) q → z0 ≤ q := fun _ h => h
  refine lv_aload_n M.1 M.2.1 dL_law_1609 rfl (lv_at hl 1 rfl) ?_
  refine lv_aload_n M.1 M.2.1 dL_law_1610 rfl (lv_at hl 0 rfl) ?_
  refine lv_iload M.1 M.2.1 dL_law_1611 (lv_at hl 4 rfl) ?_
  refine zi_push M dL_law_1613 ?_
  refine zi_iadd M dL_law_1614 ?_
  refine zi_sld M hX hbl hbA hS hL (by omega) (by omega) dL_law_1615 ?_
  have hx_1 := xZ_rg xs (i + 1)
  refine lv_aload_n M.1 M.2.1 dL_law_1616 rfl (lv_at hl 0 rfl) ?_
  refine lv_iload M.1 M.2.1 dL_law_1617 (lv_at hl 4 rfl) ?_
  refine zi_push M dL_law_1619 ?_
  refine zi_iadd M dL_law_1620 ?_
  refine zi_sld M hX hbl hbA hS hL (by omega) (by omega) dL_law_1621 ?_
  have hx_2 := xZ_rg xs (i + 2)
  refine lv_aload_n M.1 M.2.1 dL_law_1622 rfl (lv_at hl 0 rfl) ?_
  refine lv_iload M.1 M.2.1 dL_law_1623 (lv_at hl 4 rfl) ?_
  refine zi_push M dL_law_1625 ?_
  refine zi_iadd M dL_law_1626 ?_
  refine zi_sld M hX hbl hbA hS hL (by omega) (by omega) dL_law_1627 ?_
  have hx_3 := xZ_rg xs (i + 3)
  refine lv_aload_n M.1 M.2.1 dL_law_1628 rfl (lv_at hl 0 rfl) ?_
  refine lv_iload M.1 M.2.1 dL_law_1629 (lv_at hl 4 rfl) ?_
  refine zi_push M dL_law_1631 ?_
  refine zi_iadd M dL_law_1632 ?_
  refine zi_sld M hX hbl hbA hS hL (by omega) (by omega) dL_law_1633 ?_
  have hx_4 := xZ_rg xs (i + 4)
  refine lv_aload_n M.1 M.2.1 dL_law_1634 rfl (lv_at hl 0 rfl) ?_
  refine lv_iload M.1 M.2.1 dL_law_1635 (lv_at hl 4 rfl) ?_
  refine zi_push M dL_law_1637 ?_
  refine zi_iadd M dL_law_1638 ?_
  refine zi_sld M hX hbl hbA hS hL (by omega) (by omega) dL_law_1639 ?_
  have hx_5 := xZ_rg xs (i + 5)
  refine lv_aload_n M.1 M.2.1 dL_law_1640 rfl (lv_at hl 3 rfl) ?_
  refine z_cW2 (zx_runH (As := [.ref (ad 0), .int (iI (xZ xs (i + 1))), .int (iI (xZ xs (i + 2))), .int (iI (xZ xs (i + 3))), .int (iI (xZ xs (i + 4))), .int (iI (xZ xs (i + 5))), .ref (od 0)]) (rest := []) M (c_L_explain l hst D cy z0 ad od fm fr h su st sh fl (ur 0) (ur 1) (ur 2) (ur 3) (ur 4) (ur 5) (ur 6) (ur 7) o cS cH (dnD h fl) (dnE h cS) (dnF h su st) sea noi (xZ xs (i + 1)) (xZ xs (i + 2)) (xZ xs (i + 3)) (xZ xs (i + 4)) (xZ xs (i + 5)) (by omega) (by omega) (by omega) (by omega) (by omega) (dnD_rg h_fl) (dnE_rg g_cS) (dnF_rg h_su h_st) g_sea) hE hN hS hAz (z_cut hP (zD_l hD) hAz [0, 1, 2, 3, 4, 5, 6, 7, 15, 16, 17, 18, 43] rfl (by decide +kernel)) zk_cw_L_explain zk_in_RL zk_st_L_explain zk_ml_RL_183 rfl rfl zd_L_explain ⟨by decide, by decide⟩ rfl hl.1 rfl (Nat.le_of_ble_eq_true rfl) dL_law_1641 ⟨by show _ ≤ 601024; omega, by show _ ≤ 7293034; omega⟩) hP hPm hD hS [0, 1, 2, 3, 4, 5, 6, 7, 15, 16, 17, 18, 43] rfl (fun _ => by simp only [List.map_append, airW_adr, grdW_adr, outW_adr, rayW_adr, rooW_adr]) (fun r_6 u_6 H locs hp_6 hP hPm hD hS => ?_)
  have hP : va_P D vwCl ((rooW ad 0 cy fm fr) ++ ((airW ad 1 cy h su st sh fl cS cH (dnD h fl) (dnE h cS) (dnF h su st)) ++ ((airW ad 8 cy h su 0 0 0 (fun _ => 0) (fun _ => 0) (dnD h 0) (dnE h (fun _ => 0)) (dnF h su 0)) ++ ((grdW ad 15 cy sea noi) ++ ((rayW ad 18 cy (u_6.2.2 0) (u_6.2.2 1) (u_6.2.2 2) (u_6.2.2 3) (u_6.2.2 4) (u_6.2.2 5) (u_6.2.2 6) (u_6.2.2 7)) ++ ((sndW ad 19 cy 12 sn pl pw an hd fq) ++ ((sndW ad 25 cy 6 bn bp bw ban bhd bo) ++ ((conW ad 31 cy cm c1 c2 c3 c4 c5) ++ ((entW ad 37 cy em ep e1 e2 e3 e4 e5) ++ (outW od 0 cy u_6.2.1)))))))))) H := hP
  have hD : va_D (fun q => z0 ≤ q) (((rooW ad 0 cy fm fr) ++ ((airW ad 1 cy h su st sh fl cS cH (dnD h fl) (dnE h cS) (dnF h su st)) ++ ((airW ad 8 cy h su 0 0 0 (fun _ => 0) (fun _ => 0) (dnD h 0) (dnE h (fun _ => 0)) (dnF h su 0)) ++ ((grdW ad 15 cy sea noi) ++ ((rayW ad 18 cy (u_6.2.2 0) (u_6.2.2 1) (u_6.2.2 2) (u_6.2.2 3) (u_6.2.2 4) (u_6.2.2 5) (u_6.2.2 6) (u_6.2.2 7)) ++ ((sndW ad 19 cy 12 sn pl pw an hd fq) ++ ((sndW ad 25 cy 6 bn bp bw ban bhd bo) ++ ((conW ad 31 cy cm c1 c2 c3 c4 c5) ++ ((entW ad 37 cy em ep e1 e2 e3 e4 e5) ++ (outW od 0 cy u_6.2.1)))))))))) ++ (mdlW bd 0 cy th h su st sh fl 0 sn bn fm fr cm em lg le lf dl cS cH sea noi pl pw an hd bp bo bw c1 c2 c3 c4 c5 e1 e2 e3 e4 e5)) := hD
  obtain ⟨u1_6, u2_6, u3_6⟩ := u_6
  dsimp only at hp_6
  rcases hp_6 with ⟨rfl, rfl, hN_6, hv_6⟩ | ⟨rfl, rfl, hN_6, hv_6⟩ | ⟨rfl, rfl, hN_6, hv_6⟩
  ·
    have hw_6 := hv_6.symm
    subst hw_6
    have hP : va_P D vwCl ((rooW ad 0 cy fm fr) ++ ((airW ad 1 cy h su st sh fl cS cH (dnD h fl) (dnE h cS) (dnF h su st)) ++ ((airW ad 8 cy h su 0 0 0 (fun _ => 0) (fun _ => 0) (dnD h 0) (dnE h (fun _ => 0)) (dnF h su 0)) ++ ((grdW ad 15 cy sea noi) ++ ((rayW ad 18 cy (u3_6 0) (u3_6 1) (u3_6 2) (u3_6 3) (u3_6 4) (u3_6 5) (u3_6 6) (u3_6 7)) ++ ((sndW ad 19 cy 12 sn pl pw an hd fq) ++ ((sndW ad 25 cy 6 bn bp bw ban bhd bo) ++ ((conW ad 31 cy cm c1 c2 c3 c4 c5) ++ ((entW ad 37 cy em ep e1 e2 e3 e4 e5) ++ (outW od 0 cy ((exF (dnE h cS) (dnF h su st) (dnD h fl) sea (xZ xs (i + 1)) (xZ xs (i + 2)) (xZ xs (i + 3)) (xZ xs (i + 4)) (xZ xs (i + 5)) 18).2.1))))))))))) H := hP
    have hD : va_D (fun q => z0 ≤ q) (((rooW ad 0 cy fm fr) ++ ((airW ad 1 cy h su st sh fl cS cH (dnD h fl) (dnE h cS) (dnF h su st)) ++ ((airW ad 8 cy h su 0 0 0 (fun _ => 0) (fun _ => 0) (dnD h 0) (dnE h (fun _ => 0)) (dnF h su 0)) ++ ((grdW ad 15 cy sea noi) ++ ((rayW ad 18 cy (u3_6 0) (u3_6 1) (u3_6 2) (u3_6 3) (u3_6 4) (u3_6 5) (u3_6 6) (u3_6 7)) ++ ((sndW ad 19 cy 12 sn pl pw an hd fq) ++ ((sndW ad 25 cy 6 bn bp bw ban bhd bo) ++ ((conW ad 31 cy cm c1 c2 c3 c4 c5) ++ ((entW ad 37 cy em ep e1 e2 e3 e4 e5) ++ (outW od 0 cy ((exF (dnE h cS) (dnF h su st) (dnD h fl) sea (xZ xs (i + 1)) (xZ xs (i + 2)) (xZ xs (i + 3)) (xZ xs (i + 4)) (xZ xs (i + 5)) 18).2.1))))))))))) ++ (mdlW bd 0 cy th h su st sh fl 0 sn bn fm fr cm em lg le lf dl cS cH sea noi pl pw an hd bp bo bw c1 c2 c3 c4 c5 e1 e2 e3 e4 e5)) := hD
    refine lv_istore (lv' := [(5, .int (iI 0)), (0, .ref (b)), (1, .ref (ad 0)), (2, .ref (bd 0)), (3, .ref (od 0)), (4, .int (iI i))]) M.1 M.2.1 dL_law_1644 hl (by decide) rfl (fun ls hl => ?_)
    refine lv_aload_n M.1 M.2.1 dL_law_1646 rfl (lv_at hl 3 rfl) ?_
    refine lv_aload_n M.1 M.2.1 dL_law_1647 rfl (lv_at hl 1 rfl) ?_
    refine lv_iload M.1 M.2.1 dL_law_1648 (lv_at hl 5 rfl) ?_
    refine zi_push M dL_law_1650 ?_
    refine zi_iadd M dL_law_1651 ?_
    refine zi_sld M hX hbl hbA hS hL (by omega) (by omega) dL_law_1652 ?_
    have hx_7 := xZ_rg xs (i + 1)
    refine lv_aload_n M.1 M.2.1 dL_law_1653 rfl (lv_at hl 1 rfl) ?_
    refine lv_iload M.1 M.2.1 dL_law_1654 (lv_at hl 5 rfl) ?_
    refine zi_push M dL_law_1656 ?_
    refine zi_iadd M dL_law_1657 ?_
    refine zi_sld M hX hbl hbA hS hL (by omega) (by omega) dL_law_1658 ?_
    have hx_8 := xZ_rg xs (i + 2)
    refine lv_aload_n M.1 M.2.1 dL_law_1659 rfl (lv_at hl 1 rfl) ?_
    refine lv_iload M.1 M.2.1 dL_law_1660 (lv_at hl 5 rfl) ?_
    refine zi_push M dL_law_1662 ?_
    refine zi_iadd M dL_law_1663 ?_
    refine zi_sld M hX hbl hbA hS hL (by omega) (by omega) dL_law_1664 ?_
    have hx_9 := xZ_rg xs (i + 3)
    refine lv_aload_n M.1 M.2.1 dL_law_1665 rfl (lv_at hl 1 rfl) ?_
    refine lv_iload M.1 M.2.1 dL_law_1666 (lv_at hl 5 rfl) ?_
    refine zi_push M dL_law_1668 ?_
    refine zi_iadd M dL_law_1669 ?_
    refine zi_sld M hX hbl hbA hS hL (by omega) (by omega) dL_law_1670 ?_
    have hx_10 := xZ_rg xs (i + 4)
    refine lv_aload_n M.1 M.2.1 dL_law_1671 rfl (lv_at hl 1 rfl) ?_
    refine lv_iload M.1 M.2.1 dL_law_1672 (lv_at hl 5 rfl) ?_
    refine zi_push M dL_law_1674 ?_
    refine zi_iadd M dL_law_1675 ?_
    refine zi_sld M hX hbl hbA hS hL (by omega) (by omega) dL_law_1676 ?_
    have hx_11 := xZ_rg xs (i + 5)
    have hPx := hP
    have hP := hPm
    have hPm := hPx
    have hD := zD_c hD
    refine z_cW2 (z_runV (As := [.int (iI (xZ xs (i + 1))), .int (iI (xZ xs (i + 2))), .int (iI (xZ xs (i + 3))), .int (iI (xZ xs (i + 4))), .int (iI (xZ xs (i + 5)))]) (rest := []) M (c_X7_explain l D cy z0 bd th h su st sh fl 0 sn bn fm fr cm em lg le lf dl cS cH sea noi pl pw an hd bp bo bw c1 c2 c3 c4 c5 e1 e2 e3 e4 e5 (xZ xs (i + 1)) (xZ xs (i + 2)) (xZ xs (i + 3)) (xZ xs (i + 4)) (xZ xs (i + 5)) (by omega) (by omega) (by omega) (by omega) (by omega) (by omega) (by omega) (by omega) (by omega) g_cS (by omega) g_sea) hE hS hAz (z_cut hP (zD_l hD) hAz [0, 1, 2, 3, 4, 5, 6, 7, 8, 9, 10, 11, 12, 13, 14, 15, 16, 17, 18, 19, 20, 21] rfl (by decide +kernel)) (zRc.of (ci := 7) (q0 := 0) hE hP rfl rfl) zk_cd_X7_explain zk_in_RX7 zk_im_X7_explain zk_se_X7_explain zk_ml_RL_186 rfl rfl zd_X7_explain ⟨by decide, by decide⟩ rfl hl.1 rfl (Nat.le_of_ble_eq_true rfl) dL_law_1677 ⟨by show _ ≤ 601024; omega, by show _ ≤ 7293034; omega⟩) hP hPm hD hS [0, 1, 2, 3, 4, 5, 6, 7, 8, 9, 10, 11, 12, 13, 14, 15, 16, 17, 18, 19, 20, 21] rfl (fun _ => by simp only [List.map_append, mdlW_adr]) (fun r_12 u_12 H locs hp_12 hP hPm hD hS => ?_)
    try simp only [mdD_0, mdE_0, mdF_0, mdD_1, mdE_1, mdF_1] at hp_12
    have hP : va_P D vwCl (mdlW bd 0 cy (u_12 4) h su st sh fl 0 sn bn fm fr cm em (u_12 0) (u_12 1) (u_12 2) (u_12 3) cS cH sea noi pl pw an hd bp bo bw c1 c2 c3 c4 c5 e1 e2 e3 e4 e5) H := hP
    have hD : va_D (fun q => z0 ≤ q) ((mdlW bd 0 cy (u_12 4) h su st sh fl 0 sn bn fm fr cm em (u_12 0) (u_12 1) (u_12 2) (u_12 3) cS cH sea noi pl pw an hd bp bo bw c1 c2 c3 c4 c5 e1 e2 e3 e4 e5) ++ ((rooW ad 0 cy fm fr) ++ ((airW ad 1 cy h su st sh fl cS cH (dnD h fl) (dnE h cS) (dnF h su st)) ++ ((airW ad 8 cy h su 0 0 0 (fun _ => 0) (fun _ => 0) (dnD h 0) (dnE h (fun _ => 0)) (dnF h su 0)) ++ ((grdW ad 15 cy sea noi) ++ ((rayW ad 18 cy (u3_6 0) (u3_6 1) (u3_6 2) (u3_6 3) (u3_6 4) (u3_6 5) (u3_6 6) (u3_6 7)) ++ ((sndW ad 19 cy 12 sn pl pw an hd fq) ++ ((sndW ad 25 cy 6 bn bp bw ban bhd bo) ++ ((conW ad 31 cy cm c1 c2 c3 c4 c5) ++ ((entW ad 37 cy em ep e1 e2 e3 e4 e5) ++ (outW od 0 cy ((exF (dnE h cS) (dnF h su st) (dnD h fl) sea (xZ xs (i + 1)) (xZ xs (i + 2)) (xZ xs (i + 3)) (xZ xs (i + 4)) (xZ xs (i + 5)) 18).2.1)))))))))))) := hD
    rcases hp_12 with ⟨xa_12, xb_12, xc_12, xd_12, rfl, hN_12, rfl⟩ | ⟨rfl, hN_12, rfl⟩ | ⟨rfl, hN_12, rfl⟩
    ·
      have hP : va_P D vwCl (mdlW bd 0 cy 0 h su st sh fl 0 sn bn fm fr cm em xa_12 xb_12 xc_12 xd_12 cS cH sea noi pl pw an hd bp bo bw c1 c2 c3 c4 c5 e1 e2 e3 e4 e5) H := hP
      have hD : va_D (fun q => z0 ≤ q) ((mdlW bd 0 cy 0 h su st sh fl 0 sn bn fm fr cm em xa_12 xb_12 xc_12 xd_12 cS cH sea noi pl pw an hd bp bo bw c1 c2 c3 c4 c5 e1 e2 e3 e4 e5) ++ ((rooW ad 0 cy fm fr) ++ ((airW ad 1 cy h su st sh fl cS cH (dnD h fl) (dnE h cS) (dnF h su st)) ++ ((airW ad 8 cy h su 0 0 0 (fun _ => 0) (fun _ => 0) (dnD h 0) (dnE h (fun _ => 0)) (dnF h su 0)) ++ ((grdW ad 15 cy sea noi) ++ ((rayW ad 18 cy (u3_6 0) (u3_6 1) (u3_6 2) (u3_6 3) (u3_6 4) (u3_6 5) (u3_6 6) (u3_6 7)) ++ ((sndW ad 19 cy 12 sn pl pw an hd fq) ++ ((sndW ad 25 cy 6 bn bp bw ban bhd bo) ++ ((conW ad 31 cy cm c1 c2 c3 c4 c5) ++ ((entW ad 37 cy em ep e1 e2 e3 e4 e5) ++ (outW od 0 cy ((exF (dnE h cS) (dnF h su st) (dnD h fl) sea (xZ xs (i + 1)) (xZ xs (i + 2)) (xZ xs (i + 3)) (xZ xs (i + 4)) (xZ xs (i + 5)) 18).2.1)))))))))))) := hD
      refine lv_istore (lv' := [(6, .int (iI ((exF (dnE h cS) (dnF h su st) (dnD h fl) sea (xZ xs (i + 1)) (xZ xs (i + 2)) (xZ xs (i + 3)) (xZ xs (i + 4)) (xZ xs (i + 5)) 18).2.1))), (5, .int (iI 0)), (0, .ref (b)), (1, .ref (ad 0)), (2, .ref (bd 0)), (3, .ref (od 0)), (4, .int (iI i))]) M.1 M.2.1 dL_law_1680 hl (by decide) rfl (fun ls hl => ?_)
      refine lv_aload_n M.1 M.2.1 dL_law_1682 rfl (lv_at hl 4 rfl) ?_
      refine z_cR (z_runV (As := []) (rest := []) M (c_X7_thrown l D cy z0 bd 0 h su st sh fl 0 sn bn fm fr cm em xa_12 xb_12 xc_12 xd_12 cS cH sea noi pl pw an hd bp bo bw c1 c2 c3 c4 c5 e1 e2 e3 e4 e5) hE hS hAz hP (zRc.of (ci := 7) (q0 := 0) hE hP rfl rfl) zk_cd_X7_thrown zk_in_RX7 zk_im_X7_thrown zk_se_X7_thrown zk_ml_RL_116 rfl rfl zd_X7_thrown ⟨by decide, by decide⟩ rfl hl.1 rfl (Nat.le_of_ble_eq_true rfl) dL_law_1683 ⟨by show _ ≤ 601024; omega, by show _ ≤ 7293034; omega⟩) ?_
      refine lv_iload M.1 M.2.1 dL_law_1686 (lv_at hl 1 rfl) ?_
      refine zi_same (tgt := 1693) M dL_law_1688 (by decide) ?_
      refine lv_iload M.1 M.2.1 dL_law_1693 (lv_at hl 1 rfl) ?_
      refine zi_if_ne (tgt := 1710) M dL_law_1695 (by decide) ⟨by decide, by decide⟩ (fun q => absurd q (by decide)) (fun _ => ?_)
      refine lv_aload_n M.1 M.2.1 dL_law_1698 rfl (lv_at hl 5 rfl) ?_
      refine zi_push M dL_law_1699 ?_
      refine zi_lald M hE hPm 43 rfl dL_law_1700 ?_
      refine lv_iload M.1 M.2.1 dL_law_1701 (lv_at hl 0 rfl) ?_
      refine zi_i2l M dL_law_1703 ?_
      refine zi_lcmpE M dL_law_1704 ?_
      refine zi_if_eq (tgt := 1710) M dL_law_1705 (by decide) ⟨by decide, by decide⟩ (fun _ => ?_) (fun q => absurd q (by decide))
      refine zi_goto (tgt := 2286) M dL_law_1710 (by decide) ?_
      have hPx := hP
      have hP := hPm
      have hPm := hPx
      have hD := zD_c hD
      refine W.widen (k := cells + 6) (n := slots + 36) (by omega) (by omega) ?_
      exact hback h su st sh fl sn bn cm em ep fm fr 0 ((exF (dnE h cS) (dnF h su st) (dnD h fl) sea (xZ xs (i + 1)) (xZ xs (i + 2)) (xZ xs (i + 3)) (xZ xs (i + 4)) (xZ xs (i + 5)) 18).2.1) xa_12 xb_12 xc_12 xd_12 cS cH sea noi pl pw an hd fq bp bw ban bhd bo c1 c2 c3 c4 c5 e1 e2 e3 e4 e5 u3_6 h_h h_su h_st h_sh h_fl h_sn h_bn h_cm h_em g_cS g_cH g_sea g_noi g_pl g_pw g_an g_hd g_bp g_bw g_ban g_bhd g_c1 g_c2 g_c3 g_c4 g_c5 g_e1 g_e2 g_e3 g_e4 g_e5 hbo hep H locs hP hPm hD hS ls (lv_sub hl [2, 3, 4, 5, 6] rfl)
    ·
      have hP : va_P D vwCl (mdlW bd 0 cy 1 h su st sh fl 0 sn bn fm fr cm em lg le lf dl cS cH sea noi pl pw an hd bp bo bw c1 c2 c3 c4 c5 e1 e2 e3 e4 e5) H := hP
      have hD : va_D (fun q => z0 ≤ q) ((mdlW bd 0 cy 1 h su st sh fl 0 sn bn fm fr cm em lg le lf dl cS cH sea noi pl pw an hd bp bo bw c1 c2 c3 c4 c5 e1 e2 e3 e4 e5) ++ ((rooW ad 0 cy fm fr) ++ ((airW ad 1 cy h su st sh fl cS cH (dnD h fl) (dnE h cS) (dnF h su st)) ++ ((airW ad 8 cy h su 0 0 0 (fun _ => 0) (fun _ => 0) (dnD h 0) (dnE h (fun _ => 0)) (dnF h su 0)) ++ ((grdW ad 15 cy sea noi) ++ ((rayW ad 18 cy (u3_6 0) (u3_6 1) (u3_6 2) (u3_6 3) (u3_6 4) (u3_6 5) (u3_6 6) (u3_6 7)) ++ ((sndW ad 19 cy 12 sn pl pw an hd fq) ++ ((sndW ad 25 cy 6 bn bp bw ban bhd bo) ++ ((conW ad 31 cy cm c1 c2 c3 c4 c5) ++ ((entW ad 37 cy em ep e1 e2 e3 e4 e5) ++ (outW od 0 cy ((exF (dnE h cS) (dnF h su st) (dnD h fl) sea (xZ xs (i + 1)) (xZ xs (i + 2)) (xZ xs (i + 3)) (xZ xs (i + 4)) (xZ xs (i + 5)) 18).2.1)))))))))))) := hD
      exfalso
      omega
    ·
      have hP : va_P D vwCl (mdlW bd 0 cy 2 h su st sh fl 0 sn bn fm fr cm em lg le lf dl cS cH sea noi pl pw an hd bp bo bw c1 c2 c3 c4 c5 e1 e2 e3 e4 e5) H := hP
      have hD : va_D (fun q => z0 ≤ q) ((mdlW bd 0 cy 2 h su st sh fl 0 sn bn fm fr cm em lg le lf dl cS cH sea noi pl pw an hd bp bo bw c1 c2 c3 c4 c5 e1 e2 e3 e4 e5) ++ ((rooW ad 0 cy fm fr) ++ ((airW ad 1 cy h su st sh fl cS cH (dnD h fl) (dnE h cS) (dnF h su st)) ++ ((airW ad 8 cy h su 0 0 0 (fun _ => 0) (fun _ => 0) (dnD h 0) (dnE h (fun _ => 0)) (dnF h su 0)) ++ ((grdW ad 15 cy sea noi) ++ ((rayW ad 18 cy (u3_6 0) (u3_6 1) (u3_6 2) (u3_6 3) (u3_6 4) (u3_6 5) (u3_6 6) (u3_6 7)) ++ ((sndW ad 19 cy 12 sn pl pw an hd fq) ++ ((sndW ad 25 cy 6 bn bp bw ban bhd bo) ++ ((conW ad 31 cy cm c1 c2 c3 c4 c5) ++ ((entW ad 37 cy em ep e1 e2 e3 e4 e5) ++ (outW od 0 cy ((exF (dnE h cS) (dnF h su st) (dnD h fl) sea (xZ xs (i + 1)) (xZ xs (i + 2)) (xZ xs (i + 3)) (xZ xs (i + 4)) (xZ xs (i + 5)) 18).2.1)))))))))))) := hD
      exfalso
      omega
  ·
    have hw_6 := hv_6.symm
    subst hw_6
    have hP : va_P D vwCl ((rooW ad 0 cy fm fr) ++ ((airW ad 1 cy h su st sh fl cS cH (dnD h fl) (dnE h cS) (dnF h su st)) ++ ((airW ad 8 cy h su 0 0 0 (fun _ => 0) (fun _ => 0) (dnD h 0) (dnE h (fun _ => 0)) (dnF h su 0)) ++ ((grdW ad 15 cy sea noi) ++ ((rayW ad 18 cy (u3_6 0) (u3_6 1) (u3_6 2) (u3_6 3) (u3_6 4) (u3_6 5) (u3_6 6) (u3_6 7)) ++ ((sndW ad 19 cy 12 sn pl pw an hd fq) ++ ((sndW ad 25 cy 6 bn bp bw ban bhd bo) ++ ((conW ad 31 cy cm c1 c2 c3 c4 c5) ++ ((entW ad 37 cy em ep e1 e2 e3 e4 e5) ++ (outW od 0 cy o)))))))))) H := hP
    have hD : va_D (fun q => z0 ≤ q) (((rooW ad 0 cy fm fr) ++ ((airW ad 1 cy h su st sh fl cS cH (dnD h fl) (dnE h cS) (dnF h su st)) ++ ((airW ad 8 cy h su 0 0 0 (fun _ => 0) (fun _ => 0) (dnD h 0) (dnE h (fun _ => 0)) (dnF h su 0)) ++ ((grdW ad 15 cy sea noi) ++ ((rayW ad 18 cy (u3_6 0) (u3_6 1) (u3_6 2) (u3_6 3) (u3_6 4) (u3_6 5) (u3_6 6) (u3_6 7)) ++ ((sndW ad 19 cy 12 sn pl pw an hd fq) ++ ((sndW ad 25 cy 6 bn bp bw ban bhd bo) ++ ((conW ad 31 cy cm c1 c2 c3 c4 c5) ++ ((entW ad 37 cy em ep e1 e2 e3 e4 e5) ++ (outW od 0 cy o)))))))))) ++ (mdlW bd 0 cy th h su st sh fl 0 sn bn fm fr cm em lg le lf dl cS cH sea noi pl pw an hd bp bo bw c1 c2 c3 c4 c5 e1 e2 e3 e4 e5)) := hD
    refine lv_istore (lv' := [(5, .int (iI 1)), (0, .ref (b)), (1, .ref (ad 0)), (2, .ref (bd 0)), (3, .ref (od 0)), (4, .int (iI i))]) M.1 M.2.1 dL_law_1644 hl (by decide) rfl (fun ls hl => ?_)
    refine lv_aload_n M.1 M.2.1 dL_law_1646 rfl (lv_at hl 3 rfl) ?_
    refine lv_aload_n M.1 M.2.1 dL_law_1647 rfl (lv_at hl 1 rfl) ?_
    refine lv_iload M.1 M.2.1 dL_law_1648 (lv_at hl 5 rfl) ?_
    refine zi_push M dL_law_1650 ?_
    refine zi_iadd M dL_law_1651 ?_
    refine zi_sld M hX hbl hbA hS hL (by omega) (by omega) dL_law_1652 ?_
    have hx_13 := xZ_rg xs (i + 1)
    refine lv_aload_n M.1 M.2.1 dL_law_1653 rfl (lv_at hl 1 rfl) ?_
    refine lv_iload M.1 M.2.1 dL_law_1654 (lv_at hl 5 rfl) ?_
    refine zi_push M dL_law_1656 ?_
    refine zi_iadd M dL_law_1657 ?_
    refine zi_sld M hX hbl hbA hS hL (by omega) (by omega) dL_law_1658 ?_
    have hx_14 := xZ_rg xs (i + 2)
    refine lv_aload_n M.1 M.2.1 dL_law_1659 rfl (lv_at hl 1 rfl) ?_
    refine lv_iload M.1 M.2.1 dL_law_1660 (lv_at hl 5 rfl) ?_
    refine zi_push M dL_law_1662 ?_
    refine zi_iadd M dL_law_1663 ?_
    refine zi_sld M hX hbl hbA hS hL (by omega) (by omega) dL_law_1664 ?_
    have hx_15 := xZ_rg xs (i + 3)
    refine lv_aload_n M.1 M.2.1 dL_law_1665 rfl (lv_at hl 1 rfl) ?_
    refine lv_iload M.1 M.2.1 dL_law_1666 (lv_at hl 5 rfl) ?_
    refine zi_push M dL_law_1668 ?_
    refine zi_iadd M dL_law_1669 ?_
    refine zi_sld M hX hbl hbA hS hL (by omega) (by omega) dL_law_1670 ?_
    have hx_16 := xZ_rg xs (i + 4)
    refine lv_aload_n M.1 M.2.1 dL_law_1671 rfl (lv_at hl 1 rfl) ?_
    refine lv_iload M.1 M.2.1 dL_law_1672 (lv_at hl 5 rfl) ?_
    refine zi_push M dL_law_1674 ?_
    refine zi_iadd M dL_law_1675 ?_
    refine zi_sld M hX hbl hbA hS hL (by omega) (by omega) dL_law_1676 ?_
    have hx_17 := xZ_rg xs (i + 5)
    have hPx := hP
    have hP := hPm
    have hPm := hPx
    have hD := zD_c hD
    refine z_cW2 (z_runV (As := [.int (iI (xZ xs (i + 1))), .int (iI (xZ xs (i + 2))), .int (iI (xZ xs (i + 3))), .int (iI (xZ xs (i + 4))), .int (iI (xZ xs (i + 5)))]) (rest := []) M (c_X7_explain l D cy z0 bd th h su st sh fl 0 sn bn fm fr cm em lg le lf dl cS cH sea noi pl pw an hd bp bo bw c1 c2 c3 c4 c5 e1 e2 e3 e4 e5 (xZ xs (i + 1)) (xZ xs (i + 2)) (xZ xs (i + 3)) (xZ xs (i + 4)) (xZ xs (i + 5)) (by omega) (by omega) (by omega) (by omega) (by omega) (by omega) (by omega) (by omega) (by omega) g_cS (by omega) g_sea) hE hS hAz (z_cut hP (zD_l hD) hAz [0, 1, 2, 3, 4, 5, 6, 7, 8, 9, 10, 11, 12, 13, 14, 15, 16, 17, 18, 19, 20, 21] rfl (by decide +kernel)) (zRc.of (ci := 7) (q0 := 0) hE hP rfl rfl) zk_cd_X7_explain zk_in_RX7 zk_im_X7_explain zk_se_X7_explain zk_ml_RL_186 rfl rfl zd_X7_explain ⟨by decide, by decide⟩ rfl hl.1 rfl (Nat.le_of_ble_eq_true rfl) dL_law_1677 ⟨by show _ ≤ 601024; omega, by show _ ≤ 7293034; omega⟩) hP hPm hD hS [0, 1, 2, 3, 4, 5, 6, 7, 8, 9, 10, 11, 12, 13, 14, 15, 16, 17, 18, 19, 20, 21] rfl (fun _ => by simp only [List.map_append, mdlW_adr]) (fun r_18 u_18 H locs hp_18 hP hPm hD hS => ?_)
    try simp only [mdD_0, mdE_0, mdF_0, mdD_1, mdE_1, mdF_1] at hp_18
    have hP : va_P D vwCl (mdlW bd 0 cy (u_18 4) h su st sh fl 0 sn bn fm fr cm em (u_18 0) (u_18 1) (u_18 2) (u_18 3) cS cH sea noi pl pw an hd bp bo bw c1 c2 c3 c4 c5 e1 e2 e3 e4 e5) H := hP
    have hD : va_D (fun q => z0 ≤ q) ((mdlW bd 0 cy (u_18 4) h su st sh fl 0 sn bn fm fr cm em (u_18 0) (u_18 1) (u_18 2) (u_18 3) cS cH sea noi pl pw an hd bp bo bw c1 c2 c3 c4 c5 e1 e2 e3 e4 e5) ++ ((rooW ad 0 cy fm fr) ++ ((airW ad 1 cy h su st sh fl cS cH (dnD h fl) (dnE h cS) (dnF h su st)) ++ ((airW ad 8 cy h su 0 0 0 (fun _ => 0) (fun _ => 0) (dnD h 0) (dnE h (fun _ => 0)) (dnF h su 0)) ++ ((grdW ad 15 cy sea noi) ++ ((rayW ad 18 cy (u3_6 0) (u3_6 1) (u3_6 2) (u3_6 3) (u3_6 4) (u3_6 5) (u3_6 6) (u3_6 7)) ++ ((sndW ad 19 cy 12 sn pl pw an hd fq) ++ ((sndW ad 25 cy 6 bn bp bw ban bhd bo) ++ ((conW ad 31 cy cm c1 c2 c3 c4 c5) ++ ((entW ad 37 cy em ep e1 e2 e3 e4 e5) ++ (outW od 0 cy o))))))))))) := hD
    rcases hp_18 with ⟨xa_18, xb_18, xc_18, xd_18, rfl, hN_18, rfl⟩ | ⟨rfl, hN_18, rfl⟩ | ⟨rfl, hN_18, rfl⟩
    ·
      have hP : va_P D vwCl (mdlW bd 0 cy 0 h su st sh fl 0 sn bn fm fr cm em xa_18 xb_18 xc_18 xd_18 cS cH sea noi pl pw an hd bp bo bw c1 c2 c3 c4 c5 e1 e2 e3 e4 e5) H := hP
      have hD : va_D (fun q => z0 ≤ q) ((mdlW bd 0 cy 0 h su st sh fl 0 sn bn fm fr cm em xa_18 xb_18 xc_18 xd_18 cS cH sea noi pl pw an hd bp bo bw c1 c2 c3 c4 c5 e1 e2 e3 e4 e5) ++ ((rooW ad 0 cy fm fr) ++ ((airW ad 1 cy h su st sh fl cS cH (dnD h fl) (dnE h cS) (dnF h su st)) ++ ((airW ad 8 cy h su 0 0 0 (fun _ => 0) (fun _ => 0) (dnD h 0) (dnE h (fun _ => 0)) (dnF h su 0)) ++ ((grdW ad 15 cy sea noi) ++ ((rayW ad 18 cy (u3_6 0) (u3_6 1) (u3_6 2) (u3_6 3) (u3_6 4) (u3_6 5) (u3_6 6) (u3_6 7)) ++ ((sndW ad 19 cy 12 sn pl pw an hd fq) ++ ((sndW ad 25 cy 6 bn bp bw ban bhd bo) ++ ((conW ad 31 cy cm c1 c2 c3 c4 c5) ++ ((entW ad 37 cy em ep e1 e2 e3 e4 e5) ++ (outW od 0 cy o))))))))))) := hD
      exfalso
      omega
    ·
      have hP : va_P D vwCl (mdlW bd 0 cy 1 h su st sh fl 0 sn bn fm fr cm em lg le lf dl cS cH sea noi pl pw an hd bp bo bw c1 c2 c3 c4 c5 e1 e2 e3 e4 e5) H := hP
      have hD : va_D (fun q => z0 ≤ q) ((mdlW bd 0 cy 1 h su st sh fl 0 sn bn fm fr cm em lg le lf dl cS cH sea noi pl pw an hd bp bo bw c1 c2 c3 c4 c5 e1 e2 e3 e4 e5) ++ ((rooW ad 0 cy fm fr) ++ ((airW ad 1 cy h su st sh fl cS cH (dnD h fl) (dnE h cS) (dnF h su st)) ++ ((airW ad 8 cy h su 0 0 0 (fun _ => 0) (fun _ => 0) (dnD h 0) (dnE h (fun _ => 0)) (dnF h su 0)) ++ ((grdW ad 15 cy sea noi) ++ ((rayW ad 18 cy (u3_6 0) (u3_6 1) (u3_6 2) (u3_6 3) (u3_6 4) (u3_6 5) (u3_6 6) (u3_6 7)) ++ ((sndW ad 19 cy 12 sn pl pw an hd fq) ++ ((sndW ad 25 cy 6 bn bp bw ban bhd bo) ++ ((conW ad 31 cy cm c1 c2 c3 c4 c5) ++ ((entW ad 37 cy em ep e1 e2 e3 e4 e5) ++ (outW od 0 cy o))))))))))) := hD
      refine lv_istore (lv' := [(6, .int (iI 0)), (5, .int (iI 1)), (0, .ref (b)), (1, .ref (ad 0)), (2, .ref (bd 0)), (3, .ref (od 0)), (4, .int (iI i))]) M.1 M.2.1 dL_law_1680 hl (by decide) rfl (fun ls hl => ?_)
      refine lv_aload_n M.1 M.2.1 dL_law_1682 rfl (lv_at hl 4 rfl) ?_
      refine z_cR (z_runV (As := []) (rest := []) M (c_X7_thrown l D cy z0 bd 1 h su st sh fl 0 sn bn fm fr cm em lg le lf dl cS cH sea noi pl pw an hd bp bo bw c1 c2 c3 c4 c5 e1 e2 e3 e4 e5) hE hS hAz hP (zRc.of (ci := 7) (q0 := 0) hE hP rfl rfl) zk_cd_X7_thrown zk_in_RX7 zk_im_X7_thrown zk_se_X7_thrown zk_ml_RL_116 rfl rfl zd_X7_thrown ⟨by decide, by decide⟩ rfl hl.1 rfl (Nat.le_of_ble_eq_true rfl) dL_law_1683 ⟨by show _ ≤ 601024; omega, by show _ ≤ 7293034; omega⟩) ?_
      refine lv_iload M.1 M.2.1 dL_law_1686 (lv_at hl 1 rfl) ?_
      refine zi_same (tgt := 1693) M dL_law_1688 (by decide) ?_
      refine lv_iload M.1 M.2.1 dL_law_1693 (lv_at hl 1 rfl) ?_
      refine zi_if_ne (tgt := 1710) M dL_law_1695 (by decide) ⟨by decide, by decide⟩ (fun _ => ?_) (fun q => absurd q (by decide))
      refine zi_goto (tgt := 2286) M dL_law_1710 (by decide) ?_
      have hPx := hP
      have hP := hPm
      have hPm := hPx
      have hD := zD_c hD
      refine W.widen (k := cells + 6) (n := slots + 36) (by omega) (by omega) ?_
      exact hback h su st sh fl sn bn cm em ep fm fr 1 o lg le lf dl cS cH sea noi pl pw an hd fq bp bw ban bhd bo c1 c2 c3 c4 c5 e1 e2 e3 e4 e5 u3_6 h_h h_su h_st h_sh h_fl h_sn h_bn h_cm h_em g_cS g_cH g_sea g_noi g_pl g_pw g_an g_hd g_bp g_bw g_ban g_bhd g_c1 g_c2 g_c3 g_c4 g_c5 g_e1 g_e2 g_e3 g_e4 g_e5 hbo hep H locs hP hPm hD hS ls (lv_sub hl [2, 3, 4, 5, 6] rfl)
    ·
      have hP : va_P D vwCl (mdlW bd 0 cy 2 h su st sh fl 0 sn bn fm fr cm em lg le lf dl cS cH sea noi pl pw an hd bp bo bw c1 c2 c3 c4 c5 e1 e2 e3 e4 e5) H := hP
      have hD : va_D (fun q => z0 ≤ q) ((mdlW bd 0 cy 2 h su st sh fl 0 sn bn fm fr cm em lg le lf dl cS cH sea noi pl pw an hd bp bo bw c1 c2 c3 c4 c5 e1 e2 e3 e4 e5) ++ ((rooW ad 0 cy fm fr) ++ ((airW ad 1 cy h su st sh fl cS cH (dnD h fl) (dnE h cS) (dnF h su st)) ++ ((airW ad 8 cy h su 0 0 0 (fun _ => 0) (fun _ => 0) (dnD h 0) (dnE h (fun _ => 0)) (dnF h su 0)) ++ ((grdW ad 15 cy sea noi) ++ ((rayW ad 18 cy (u3_6 0) (u3_6 1) (u3_6 2) (u3_6 3) (u3_6 4) (u3_6 5) (u3_6 6) (u3_6 7)) ++ ((sndW ad 19 cy 12 sn pl pw an hd fq) ++ ((sndW ad 25 cy 6 bn bp bw ban bhd bo) ++ ((conW ad 31 cy cm c1 c2 c3 c4 c5) ++ ((entW ad 37 cy em ep e1 e2 e3 e4 e5) ++ (outW od 0 cy o))))))))))) := hD
      exfalso
      omega
  ·
    have hw_6 := hv_6.symm
    subst hw_6
    have hP : va_P D vwCl ((rooW ad 0 cy fm fr) ++ ((airW ad 1 cy h su st sh fl cS cH (dnD h fl) (dnE h cS) (dnF h su st)) ++ ((airW ad 8 cy h su 0 0 0 (fun _ => 0) (fun _ => 0) (dnD h 0) (dnE h (fun _ => 0)) (dnF h su 0)) ++ ((grdW ad 15 cy sea noi) ++ ((rayW ad 18 cy (u3_6 0) (u3_6 1) (u3_6 2) (u3_6 3) (u3_6 4) (u3_6 5) (u3_6 6) (u3_6 7)) ++ ((sndW ad 19 cy 12 sn pl pw an hd fq) ++ ((sndW ad 25 cy 6 bn bp bw ban bhd bo) ++ ((conW ad 31 cy cm c1 c2 c3 c4 c5) ++ ((entW ad 37 cy em ep e1 e2 e3 e4 e5) ++ (outW od 0 cy o)))))))))) H := hP
    have hD : va_D (fun q => z0 ≤ q) (((rooW ad 0 cy fm fr) ++ ((airW ad 1 cy h su st sh fl cS cH (dnD h fl) (dnE h cS) (dnF h su st)) ++ ((airW ad 8 cy h su 0 0 0 (fun _ => 0) (fun _ => 0) (dnD h 0) (dnE h (fun _ => 0)) (dnF h su 0)) ++ ((grdW ad 15 cy sea noi) ++ ((rayW ad 18 cy (u3_6 0) (u3_6 1) (u3_6 2) (u3_6 3) (u3_6 4) (u3_6 5) (u3_6 6) (u3_6 7)) ++ ((sndW ad 19 cy 12 sn pl pw an hd fq) ++ ((sndW ad 25 cy 6 bn bp bw ban bhd bo) ++ ((conW ad 31 cy cm c1 c2 c3 c4 c5) ++ ((entW ad 37 cy em ep e1 e2 e3 e4 e5) ++ (outW od 0 cy o)))))))))) ++ (mdlW bd 0 cy th h su st sh fl 0 sn bn fm fr cm em lg le lf dl cS cH sea noi pl pw an hd bp bo bw c1 c2 c3 c4 c5 e1 e2 e3 e4 e5)) := hD
    refine lv_istore (lv' := [(5, .int (iI 2)), (0, .ref (b)), (1, .ref (ad 0)), (2, .ref (bd 0)), (3, .ref (od 0)), (4, .int (iI i))]) M.1 M.2.1 dL_law_1644 hl (by decide) rfl (fun ls hl => ?_)
    refine lv_aload_n M.1 M.2.1 dL_law_1646 rfl (lv_at hl 3 rfl) ?_
    refine lv_aload_n M.1 M.2.1 dL_law_1647 rfl (lv_at hl 1 rfl) ?_
    refine lv_iload M.1 M.2.1 dL_law_1648 (lv_at hl 5 rfl) ?_
    refine zi_push M dL_law_1650 ?_
    refine zi_iadd M dL_law_1651 ?_
    refine zi_sld M hX hbl hbA hS hL (by omega) (by omega) dL_law_1652 ?_
    have hx_19 := xZ_rg xs (i + 1)
    refine lv_aload_n M.1 M.2.1 dL_law_1653 rfl (lv_at hl 1 rfl) ?_
    refine lv_iload M.1 M.2.1 dL_law_1654 (lv_at hl 5 rfl) ?_
    refine zi_push M dL_law_1656 ?_
    refine zi_iadd M dL_law_1657 ?_
    refine zi_sld M hX hbl hbA hS hL (by omega) (by omega) dL_law_1658 ?_
    have hx_20 := xZ_rg xs (i + 2)
    refine lv_aload_n M.1 M.2.1 dL_law_1659 rfl (lv_at hl 1 rfl) ?_
    refine lv_iload M.1 M.2.1 dL_law_1660 (lv_at hl 5 rfl) ?_
    refine zi_push M dL_law_1662 ?_
    refine zi_iadd M dL_law_1663 ?_
    refine zi_sld M hX hbl hbA hS hL (by omega) (by omega) dL_law_1664 ?_
    have hx_21 := xZ_rg xs (i + 3)
    refine lv_aload_n M.1 M.2.1 dL_law_1665 rfl (lv_at hl 1 rfl) ?_
    refine lv_iload M.1 M.2.1 dL_law_1666 (lv_at hl 5 rfl) ?_
    refine zi_push M dL_law_1668 ?_
    refine zi_iadd M dL_law_1669 ?_
    refine zi_sld M hX hbl hbA hS hL (by omega) (by omega) dL_law_1670 ?_
    have hx_22 := xZ_rg xs (i + 4)
    refine lv_aload_n M.1 M.2.1 dL_law_1671 rfl (lv_at hl 1 rfl) ?_
    refine lv_iload M.1 M.2.1 dL_law_1672 (lv_at hl 5 rfl) ?_
    refine zi_push M dL_law_1674 ?_
    refine zi_iadd M dL_law_1675 ?_
    refine zi_sld M hX hbl hbA hS hL (by omega) (by omega) dL_law_1676 ?_
    have hx_23 := xZ_rg xs (i + 5)
    have hPx := hP
    have hP := hPm
    have hPm := hPx
    have hD := zD_c hD
    refine z_cW2 (z_runV (As := [.int (iI (xZ xs (i + 1))), .int (iI (xZ xs (i + 2))), .int (iI (xZ xs (i + 3))), .int (iI (xZ xs (i + 4))), .int (iI (xZ xs (i + 5)))]) (rest := []) M (c_X7_explain l D cy z0 bd th h su st sh fl 0 sn bn fm fr cm em lg le lf dl cS cH sea noi pl pw an hd bp bo bw c1 c2 c3 c4 c5 e1 e2 e3 e4 e5 (xZ xs (i + 1)) (xZ xs (i + 2)) (xZ xs (i + 3)) (xZ xs (i + 4)) (xZ xs (i + 5)) (by omega) (by omega) (by omega) (by omega) (by omega) (by omega) (by omega) (by omega) (by omega) g_cS (by omega) g_sea) hE hS hAz (z_cut hP (zD_l hD) hAz [0, 1, 2, 3, 4, 5, 6, 7, 8, 9, 10, 11, 12, 13, 14, 15, 16, 17, 18, 19, 20, 21] rfl (by decide +kernel)) (zRc.of (ci := 7) (q0 := 0) hE hP rfl rfl) zk_cd_X7_explain zk_in_RX7 zk_im_X7_explain zk_se_X7_explain zk_ml_RL_186 rfl rfl zd_X7_explain ⟨by decide, by decide⟩ rfl hl.1 rfl (Nat.le_of_ble_eq_true rfl) dL_law_1677 ⟨by show _ ≤ 601024; omega, by show _ ≤ 7293034; omega⟩) hP hPm hD hS [0, 1, 2, 3, 4, 5, 6, 7, 8, 9, 10, 11, 12, 13, 14, 15, 16, 17, 18, 19, 20, 21] rfl (fun _ => by simp only [List.map_append, mdlW_adr]) (fun r_24 u_24 H locs hp_24 hP hPm hD hS => ?_)
    try simp only [mdD_0, mdE_0, mdF_0, mdD_1, mdE_1, mdF_1] at hp_24
    have hP : va_P D vwCl (mdlW bd 0 cy (u_24 4) h su st sh fl 0 sn bn fm fr cm em (u_24 0) (u_24 1) (u_24 2) (u_24 3) cS cH sea noi pl pw an hd bp bo bw c1 c2 c3 c4 c5 e1 e2 e3 e4 e5) H := hP
    have hD : va_D (fun q => z0 ≤ q) ((mdlW bd 0 cy (u_24 4) h su st sh fl 0 sn bn fm fr cm em (u_24 0) (u_24 1) (u_24 2) (u_24 3) cS cH sea noi pl pw an hd bp bo bw c1 c2 c3 c4 c5 e1 e2 e3 e4 e5) ++ ((rooW ad 0 cy fm fr) ++ ((airW ad 1 cy h su st sh fl cS cH (dnD h fl) (dnE h cS) (dnF h su st)) ++ ((airW ad 8 cy h su 0 0 0 (fun _ => 0) (fun _ => 0) (dnD h 0) (dnE h (fun _ => 0)) (dnF h su 0)) ++ ((grdW ad 15 cy sea noi) ++ ((rayW ad 18 cy (u3_6 0) (u3_6 1) (u3_6 2) (u3_6 3) (u3_6 4) (u3_6 5) (u3_6 6) (u3_6 7)) ++ ((sndW ad 19 cy 12 sn pl pw an hd fq) ++ ((sndW ad 25 cy 6 bn bp bw ban bhd bo) ++ ((conW ad 31 cy cm c1 c2 c3 c4 c5) ++ ((entW ad 37 cy em ep e1 e2 e3 e4 e5) ++ (outW od 0 cy o))))))))))) := hD
    rcases hp_24 with ⟨xa_24, xb_24, xc_24, xd_24, rfl, hN_24, rfl⟩ | ⟨rfl, hN_24, rfl⟩ | ⟨rfl, hN_24, rfl⟩
    ·
      have hP : va_P D vwCl (mdlW bd 0 cy 0 h su st sh fl 0 sn bn fm fr cm em xa_24 xb_24 xc_24 xd_24 cS cH sea noi pl pw an hd bp bo bw c1 c2 c3 c4 c5 e1 e2 e3 e4 e5) H := hP
      have hD : va_D (fun q => z0 ≤ q) ((mdlW bd 0 cy 0 h su st sh fl 0 sn bn fm fr cm em xa_24 xb_24 xc_24 xd_24 cS cH sea noi pl pw an hd bp bo bw c1 c2 c3 c4 c5 e1 e2 e3 e4 e5) ++ ((rooW ad 0 cy fm fr) ++ ((airW ad 1 cy h su st sh fl cS cH (dnD h fl) (dnE h cS) (dnF h su st)) ++ ((airW ad 8 cy h su 0 0 0 (fun _ => 0) (fun _ => 0) (dnD h 0) (dnE h (fun _ => 0)) (dnF h su 0)) ++ ((grdW ad 15 cy sea noi) ++ ((rayW ad 18 cy (u3_6 0) (u3_6 1) (u3_6 2) (u3_6 3) (u3_6 4) (u3_6 5) (u3_6 6) (u3_6 7)) ++ ((sndW ad 19 cy 12 sn pl pw an hd fq) ++ ((sndW ad 25 cy 6 bn bp bw ban bhd bo) ++ ((conW ad 31 cy cm c1 c2 c3 c4 c5) ++ ((entW ad 37 cy em ep e1 e2 e3 e4 e5) ++ (outW od 0 cy o))))))))))) := hD
      exfalso
      omega
    ·
      have hP : va_P D vwCl (mdlW bd 0 cy 1 h su st sh fl 0 sn bn fm fr cm em lg le lf dl cS cH sea noi pl pw an hd bp bo bw c1 c2 c3 c4 c5 e1 e2 e3 e4 e5) H := hP
      have hD : va_D (fun q => z0 ≤ q) ((mdlW bd 0 cy 1 h su st sh fl 0 sn bn fm fr cm em lg le lf dl cS cH sea noi pl pw an hd bp bo bw c1 c2 c3 c4 c5 e1 e2 e3 e4 e5) ++ ((rooW ad 0 cy fm fr) ++ ((airW ad 1 cy h su st sh fl cS cH (dnD h fl) (dnE h cS) (dnF h su st)) ++ ((airW ad 8 cy h su 0 0 0 (fun _ => 0) (fun _ => 0) (dnD h 0) (dnE h (fun _ => 0)) (dnF h su 0)) ++ ((grdW ad 15 cy sea noi) ++ ((rayW ad 18 cy (u3_6 0) (u3_6 1) (u3_6 2) (u3_6 3) (u3_6 4) (u3_6 5) (u3_6 6) (u3_6 7)) ++ ((sndW ad 19 cy 12 sn pl pw an hd fq) ++ ((sndW ad 25 cy 6 bn bp bw ban bhd bo) ++ ((conW ad 31 cy cm c1 c2 c3 c4 c5) ++ ((entW ad 37 cy em ep e1 e2 e3 e4 e5) ++ (outW od 0 cy o))))))))))) := hD
      exfalso
      omega
    ·
      have hP : va_P D vwCl (mdlW bd 0 cy 2 h su st sh fl 0 sn bn fm fr cm em lg le lf dl cS cH sea noi pl pw an hd bp bo bw c1 c2 c3 c4 c5 e1 e2 e3 e4 e5) H := hP
      have hD : va_D (fun q => z0 ≤ q) ((mdlW bd 0 cy 2 h su st sh fl 0 sn bn fm fr cm em lg le lf dl cS cH sea noi pl pw an hd bp bo bw c1 c2 c3 c4 c5 e1 e2 e3 e4 e5) ++ ((rooW ad 0 cy fm fr) ++ ((airW ad 1 cy h su st sh fl cS cH (dnD h fl) (dnE h cS) (dnF h su st)) ++ ((airW ad 8 cy h su 0 0 0 (fun _ => 0) (fun _ => 0) (dnD h 0) (dnE h (fun _ => 0)) (dnF h su 0)) ++ ((grdW ad 15 cy sea noi) ++ ((rayW ad 18 cy (u3_6 0) (u3_6 1) (u3_6 2) (u3_6 3) (u3_6 4) (u3_6 5) (u3_6 6) (u3_6 7)) ++ ((sndW ad 19 cy 12 sn pl pw an hd fq) ++ ((sndW ad 25 cy 6 bn bp bw ban bhd bo) ++ ((conW ad 31 cy cm c1 c2 c3 c4 c5) ++ ((entW ad 37 cy em ep e1 e2 e3 e4 e5) ++ (outW od 0 cy o))))))))))) := hD
      refine lv_istore (lv' := [(6, .int (iI 0)), (5, .int (iI 2)), (0, .ref (b)), (1, .ref (ad 0)), (2, .ref (bd 0)), (3, .ref (od 0)), (4, .int (iI i))]) M.1 M.2.1 dL_law_1680 hl (by decide) rfl (fun ls hl => ?_)
      refine lv_aload_n M.1 M.2.1 dL_law_1682 rfl (lv_at hl 4 rfl) ?_
      refine z_cR (z_runV (As := []) (rest := []) M (c_X7_thrown l D cy z0 bd 2 h su st sh fl 0 sn bn fm fr cm em lg le lf dl cS cH sea noi pl pw an hd bp bo bw c1 c2 c3 c4 c5 e1 e2 e3 e4 e5) hE hS hAz hP (zRc.of (ci := 7) (q0 := 0) hE hP rfl rfl) zk_cd_X7_thrown zk_in_RX7 zk_im_X7_thrown zk_se_X7_thrown zk_ml_RL_116 rfl rfl zd_X7_thrown ⟨by decide, by decide⟩ rfl hl.1 rfl (Nat.le_of_ble_eq_true rfl) dL_law_1683 ⟨by show _ ≤ 601024; omega, by show _ ≤ 7293034; omega⟩) ?_
      refine lv_iload M.1 M.2.1 dL_law_1686 (lv_at hl 1 rfl) ?_
      refine zi_same (tgt := 1693) M dL_law_1688 (by decide) ?_
      refine lv_iload M.1 M.2.1 dL_law_1693 (lv_at hl 1 rfl) ?_
      refine zi_if_ne (tgt := 1710) M dL_law_1695 (by decide) ⟨by decide, by decide⟩ (fun _ => ?_) (fun q => absurd q (by decide))
      refine zi_goto (tgt := 2286) M dL_law_1710 (by decide) ?_
      have hPx := hP
      have hP := hPm
      have hPm := hPx
      have hD := zD_c hD
      refine W.widen (k := cells + 6) (n := slots + 36) (by omega) (by omega) ?_
      exact hback h su st sh fl sn bn cm em ep fm fr 2 o lg le lf dl cS cH sea noi pl pw an hd fq bp bw ban bhd bo c1 c2 c3 c4 c5 e1 e2 e3 e4 e5 u3_6 h_h h_su h_st h_sh h_fl h_sn h_bn h_cm h_em g_cS g_cH g_sea g_noi g_pl g_pw g_an g_hd g_bp g_bw g_ban g_bhd g_c1 g_c2 g_c3 g_c4 g_c5 g_e1 g_e2 g_e3 g_e4 g_e5 hbo hep H locs hP hPm hD hS ls (lv_sub hl [2, 3, 4, 5, 6] rfl)

set_option maxRecDepth 100000 in
set_option maxHeartbeats 8000000 in
theorem lw_case20 (l : Launch) (D : va_G) (cy : Nat → ClassId) (z0 : Nat) (ad bd od : Nat → Nat) (p : Program) (e : Env) (s : State) (m : MethodId) (args : Array Value) (below : List Frame) (meth : Method) (c : Code) (b : Nat) (i : Int) (Q : State → Prop) (cells slots : Nat) (hst : l.stackTraces = false) (hL7 : ∀ q : Nat, q = 0 → True) (b_L : Nat) (xs : Nat → Int32) (M : zM p s m args c cL_law RL 7) (hE : zE D cy z0 s) (hN : zNc s) (hL : b_L ≤ 3584) (hX : va_X b b_L xs s s.heap) (hbl : b < s.heap.size) (hbA : ¬ z0 ≤ b) (hi : 0 ≤ i ∧ i + 7 ≤ b_L) (hc : cells + 6 ≤ 601024) (hs : slots + 36 ≤ 7293034) (hback : lwB l D cy z0 ad bd od p e s m args below meth c b i Q cells slots) (h su st sh fl sn bn cm em ep fm fr th o lg le lf dl : Int) (cS cH sea noi pl pw an hd fq bp bw ban bhd bo c1 c2 c3 c4 c5 e1 e2 e3 e4 e5 : Int → Int) (ur : Nat → Int) (h_h : 0 ≤ h ∧ h ≤ 5000) (h_su : 0 ≤ su ∧ su ≤ 100) (h_st : 0 ≤ st ∧ st ≤ 60) (h_sh : 0 ≤ sh ∧ sh ≤ 72) (h_fl : 0 ≤ fl ∧ fl ≤ 80) (h_sn : 0 ≤ sn ∧ sn ≤ 12) (h_bn : 0 ≤ bn ∧ bn ≤ 6) (h_cm : 0 ≤ cm ∧ cm ≤ 60) (h_em : 0 ≤ em ∧ em ≤ 80) (g_cS : zrg 48 0 100 cS) (g_cH : zrg 48 0 24 cH) (g_sea : zrg 48 0 1 sea) (g_noi : zrg 48 0 40 noi) (g_pl : zrg 12 0 47 pl) (g_pw : zrg 12 0 80 pw) (g_an : zrg 12 0 2 an) (g_hd : zrg 12 0 2 hd) (g_bp : zrg 6 0 47 bp) (g_bw : zrg 6 0 80 bw) (g_ban : zrg 6 0 2 ban) (g_bhd : zrg 6 0 2 bhd) (g_c1 : zrg 60 0 11 c1) (g_c2 : zrg 60 0 11 c2) (g_c3 : zrg 60 0 300 c3) (g_c4 : zrg 60 0 2 c4) (g_c5 : zrg 60 0 5000 c5) (g_e1 : zrg 80 0 11 e1) (g_e2 : zrg 80 0 11 e2) (g_e3 : zrg 80 0 300 e3) (g_e4 : zrg 80 0 5000 e4) (g_e5 : zrg 80 (-1) 79 e5) (hbo : ∀ n : Int, 0 ≤ n → n < bn → (10 ≤ bo n ∧ bo n ≤ 300) ∧ ban n = 2 ∧ bhd n = 2) (hep : ep = prF e5 em.toNat) (H : Heap) (locs : List Loc) (hP : va_P D vwCl ((rooW ad 0 cy fm fr) ++ ((airW ad 1 cy h su st sh fl cS cH (dnD h fl) (dnE h cS) (dnF h su st)) ++ ((airW ad 8 cy h su 0 0 0 (fun _ => 0) (fun _ => 0) (dnD h 0) (dnE h (fun _ => 0)) (dnF h su 0)) ++ ((grdW ad 15 cy sea noi) ++ ((rayW ad 18 cy (ur 0) (ur 1) (ur 2) (ur 3) (ur 4) (ur 5) (ur 6) (ur 7)) ++ ((sndW ad 19 cy 12 sn pl pw an hd fq) ++ ((sndW ad 25 cy 6 bn bp bw ban bhd bo) ++ ((conW ad 31 cy cm c1 c2 c3 c4 c5) ++ ((entW ad 37 cy em ep e1 e2 e3 e4 e5) ++ (outW od 0 cy o)))))))))) H) (hPm : va_P D vwCl (mdlW bd 0 cy th h su st sh fl 0 sn bn fm fr cm em lg le lf dl cS cH sea noi pl pw an hd bp bo bw c1 c2 c3 c4 c5 e1 e2 e3 e4 e5) H) (hD : va_D (fun q => z0 ≤ q) (((rooW ad 0 cy fm fr) ++ ((airW ad 1 cy h su st sh fl cS cH (dnD h fl) (dnE h cS) (dnF h su st)) ++ ((airW ad 8 cy h su 0 0 0 (fun _ => 0) (fun _ => 0) (dnD h 0) (dnE h (fun _ => 0)) (dnF h su 0)) ++ ((grdW ad 15 cy sea noi) ++ ((rayW ad 18 cy (ur 0) (ur 1) (ur 2) (ur 3) (ur 4) (ur 5) (ur 6) (ur 7)) ++ ((sndW ad 19 cy 12 sn pl pw an hd fq) ++ ((sndW ad 25 cy 6 bn bp bw ban bhd bo) ++ ((conW ad 31 cy cm c1 c2 c3 c4 c5) ++ ((entW ad 37 cy em ep e1 e2 e3 e4 e5) ++ (outW od 0 cy o)))))))))) ++ (mdlW bd 0 cy th h su st sh fl 0 sn bn fm fr cm em lg le lf dl cS cH sea noi pl pw an hd bp bo bw c1 c2 c3 c4 c5 e1 e2 e3 e4 e5))) (hS : va_S (fun q => z0 ≤ q) s.heap H locs) (ls : Array Slot) (hl : lv_has ls 7 [(0, .ref b), (1, .ref (ad 0)), (2, .ref (bd 0)), (3, .ref (od 0)), (4, .int (iI i))]) : W p l e room_1 s m args below meth c H locs (cells) (slots) Q (F0 m 1713 ls []) := by
  have hAz : ∀ q : Nat, (fun q => z0 ≤ q) q → z0 ≤ q := fun _ h => h
  refine lv_aload_n M.1 M.2.1 dL_law_1713 rfl (lv_at hl 1 rfl) ?_
  refine lv_aload_n M.1 M.2.1 dL_law_1714 rfl (lv_at hl 0 rfl) ?_
  refine lv_iload M.1 M.2.1 dL_law_1715 (lv_at hl 4 rfl) ?_
  refine zi_push M dL_law_1717 ?_
  refine zi_iadd M dL_law_1718 ?_
  refine zi_sld M hX hbl hbA hS hL (by omega) (by omega) dL_law_1719 ?_
  have hx_1 := xZ_rg xs (i + 1)
  refine lv_aload_n M.1 M.2.1 dL_law_1720 rfl (lv_at hl 0 rfl) ?_
  refine lv_iload M.1 M.2.1 dL_law_1721 (lv_at hl 4 rfl) ?_
  refine zi_push M dL_law_1723 ?_
  refine zi_iadd M dL_law_1724 ?_
  refine zi_sld M hX hbl hbA hS hL (by omega) (by omega) dL_law_1725 ?_
  have hx_2 := xZ_rg xs (i + 2)
  refine lv_aload_n M.1 M.2.1 dL_law_1726 rfl (lv_at hl 0 rfl) ?_
  refine lv_iload M.1 M.2.1 dL_law_1727 (lv_at hl 4 rfl) ?_
  refine zi_push M dL_law_1729 ?_
  refine zi_iadd M dL_law_1730 ?_
  refine zi_sld M hX hbl hbA hS hL (by omega) (by omega) dL_law_1731 ?_
  have hx_3 := xZ_rg xs (i + 3)
  refine lv_aload_n M.1 M.2.1 dL_law_1732 rfl (lv_at hl 0 rfl) ?_
  refine lv_iload M.1 M.2.1 dL_law_1733 (lv_at hl 4 rfl) ?_
  refine zi_push M dL_law_1735 ?_
  refine zi_iadd M dL_law_1736 ?_
  refine zi_sld M hX hbl hbA hS hL (by omega) (by omega) dL_law_1737 ?_
  have hx_4 := xZ_rg xs (i + 4)
  refine zi_if_eq (tgt := 1745) M dL_law_1738 (by decide) (by omega) (fun c_5 => ?_) (fun c_5 => ?_)
  ·
    refine zi_push M dL_law_1745 ?_
    refine lv_aload_n M.1 M.2.1 dL_law_1746 rfl (lv_at hl 3 rfl) ?_
    refine z_cW2 (zx_runH (As := [.ref (ad 0), .int (iI (xZ xs (i + 1))), .int (iI (xZ xs (i + 2))), .int (iI (xZ xs (i + 3))), .int (iI 0), .ref (od 0)]) (rest := []) M (c_L_usable l hst D cy z0 ad od fm fr h su st sh fl (ur 0) (ur 1) (ur 2) (ur 3) (ur 4) (ur 5) (ur 6) (ur 7) o cS cH (dnD h fl) (dnE h cS) (dnF h su st) sea noi (xZ xs (i + 1)) (xZ xs (i + 2)) (xZ xs (i + 3)) 0 (by omega) (by omega) (by omega) (by omega) (dnD_rg h_fl) (dnE_rg g_cS) (dnF_rg h_su h_st) g_sea) hE hN hS hAz (z_cut hP (zD_l hD) hAz [0, 1, 2, 3, 4, 5, 6, 7, 15, 16, 17, 18, 43] rfl (by decide +kernel)) zk_cw_L_usable zk_in_RL zk_st_L_usable zk_ml_RL_187 rfl rfl zd_L_usable ⟨by decide, by decide⟩ rfl hl.1 rfl (Nat.le_of_ble_eq_true rfl) dL_law_1747 ⟨by show _ ≤ 601024; omega, by show _ ≤ 7293034; omega⟩) hP hPm hD hS [0, 1, 2, 3, 4, 5, 6, 7, 15, 16, 17, 18, 43] rfl (fun _ => by simp only [List.map_append, airW_adr, grdW_adr, outW_adr, rayW_adr, rooW_adr]) (fun r_6 u_6 H locs hp_6 hP hPm hD hS => ?_)
    have hP : va_P D vwCl ((rooW ad 0 cy fm fr) ++ ((airW ad 1 cy h su st sh fl cS cH (dnD h fl) (dnE h cS) (dnF h su st)) ++ ((airW ad 8 cy h su 0 0 0 (fun _ => 0) (fun _ => 0) (dnD h 0) (dnE h (fun _ => 0)) (dnF h su 0)) ++ ((grdW ad 15 cy sea noi) ++ ((rayW ad 18 cy (u_6.2.2 0) (u_6.2.2 1) (u_6.2.2 2) (u_6.2.2 3) (u_6.2.2 4) (u_6.2.2 5) (u_6.2.2 6) (u_6.2.2 7)) ++ ((sndW ad 19 cy 12 sn pl pw an hd fq) ++ ((sndW ad 25 cy 6 bn bp bw ban bhd bo) ++ ((conW ad 31 cy cm c1 c2 c3 c4 c5) ++ ((entW ad 37 cy em ep e1 e2 e3 e4 e5) ++ (outW od 0 cy u_6.2.1)))))))))) H := hP
    have hD : va_D (fun q => z0 ≤ q) (((rooW ad 0 cy fm fr) ++ ((airW ad 1 cy h su st sh fl cS cH (dnD h fl) (dnE h cS) (dnF h su st)) ++ ((airW ad 8 cy h su 0 0 0 (fun _ => 0) (fun _ => 0) (dnD h 0) (dnE h (fun _ => 0)) (dnF h su 0)) ++ ((grdW ad 15 cy sea noi) ++ ((rayW ad 18 cy (u_6.2.2 0) (u_6.2.2 1) (u_6.2.2 2) (u_6.2.2 3) (u_6.2.2 4) (u_6.2.2 5) (u_6.2.2 6) (u_6.2.2 7)) ++ ((sndW ad 19 cy 12 sn pl pw an hd fq) ++ ((sndW ad 25 cy 6 bn bp bw ban bhd bo) ++ ((conW ad 31 cy cm c1 c2 c3 c4 c5) ++ ((entW ad 37 cy em ep e1 e2 e3 e4 e5) ++ (outW od 0 cy u_6.2.1)))))))))) ++ (mdlW bd 0 cy th h su st sh fl 0 sn bn fm fr cm em lg le lf dl cS cH sea noi pl pw an hd bp bo bw c1 c2 c3 c4 c5 e1 e2 e3 e4 e5)) := hD
    obtain ⟨u1_6, u2_6, u3_6⟩ := u_6
    dsimp only at hp_6
    rcases hp_6 with ⟨rfl, rfl, hN_6, v_6, hq_6, hv_6⟩ | ⟨rfl, rfl, hN_6, hv_6⟩ | ⟨rfl, rfl, hN_6, hv_6⟩
    ·
      subst hv_6
      have hP : va_P D vwCl ((rooW ad 0 cy fm fr) ++ ((airW ad 1 cy h su st sh fl cS cH (dnD h fl) (dnE h cS) (dnF h su st)) ++ ((airW ad 8 cy h su 0 0 0 (fun _ => 0) (fun _ => 0) (dnD h 0) (dnE h (fun _ => 0)) (dnF h su 0)) ++ ((grdW ad 15 cy sea noi) ++ ((rayW ad 18 cy (u3_6 0) (u3_6 1) (u3_6 2) (u3_6 3) (u3_6 4) (u3_6 5) (u3_6 6) (u3_6 7)) ++ ((sndW ad 19 cy 12 sn pl pw an hd fq) ++ ((sndW ad 25 cy 6 bn bp bw ban bhd bo) ++ ((conW ad 31 cy cm c1 c2 c3 c4 c5) ++ ((entW ad 37 cy em ep e1 e2 e3 e4 e5) ++ (outW od 0 cy u2_6)))))))))) H := hP
      have hD : va_D (fun q => z0 ≤ q) (((rooW ad 0 cy fm fr) ++ ((airW ad 1 cy h su st sh fl cS cH (dnD h fl) (dnE h cS) (dnF h su st)) ++ ((airW ad 8 cy h su 0 0 0 (fun _ => 0) (fun _ => 0) (dnD h 0) (dnE h (fun _ => 0)) (dnF h su 0)) ++ ((grdW ad 15 cy sea noi) ++ ((rayW ad 18 cy (u3_6 0) (u3_6 1) (u3_6 2) (u3_6 3) (u3_6 4) (u3_6 5) (u3_6 6) (u3_6 7)) ++ ((sndW ad 19 cy 12 sn pl pw an hd fq) ++ ((sndW ad 25 cy 6 bn bp bw ban bhd bo) ++ ((conW ad 31 cy cm c1 c2 c3 c4 c5) ++ ((entW ad 37 cy em ep e1 e2 e3 e4 e5) ++ (outW od 0 cy u2_6)))))))))) ++ (mdlW bd 0 cy th h su st sh fl 0 sn bn fm fr cm em lg le lf dl cS cH sea noi pl pw an hd bp bo bw c1 c2 c3 c4 c5 e1 e2 e3 e4 e5)) := hD
      refine lv_istore (lv' := [(5, .int (iI 0)), (0, .ref (b)), (1, .ref (ad 0)), (2, .ref (bd 0)), (3, .ref (od 0)), (4, .int (iI i))]) M.1 M.2.1 dL_law_1750 hl (by decide) rfl (fun ls hl => ?_)
      refine lv_aload_n M.1 M.2.1 dL_law_1752 rfl (lv_at hl 3 rfl) ?_
      refine lv_aload_n M.1 M.2.1 dL_law_1753 rfl (lv_at hl 1 rfl) ?_
      refine lv_iload M.1 M.2.1 dL_law_1754 (lv_at hl 5 rfl) ?_
      refine zi_push M dL_law_1756 ?_
      refine zi_iadd M dL_law_1757 ?_
      refine zi_sld M hX hbl hbA hS hL (by omega) (by omega) dL_law_1758 ?_
      have hx_7 := xZ_rg xs (i + 1)
      refine lv_aload_n M.1 M.2.1 dL_law_1759 rfl (lv_at hl 1 rfl) ?_
      refine lv_iload M.1 M.2.1 dL_law_1760 (lv_at hl 5 rfl) ?_
      refine zi_push M dL_law_1762 ?_
      refine zi_iadd M dL_law_1763 ?_
      refine zi_sld M hX hbl hbA hS hL (by omega) (by omega) dL_law_1764 ?_
      have hx_8 := xZ_rg xs (i + 2)
      refine lv_aload_n M.1 M.2.1 dL_law_1765 rfl (lv_at hl 1 rfl) ?_
      refine lv_iload M.1 M.2.1 dL_law_1766 (lv_at hl 5 rfl) ?_
      refine zi_push M dL_law_1768 ?_
      refine zi_iadd M dL_law_1769 ?_
      refine zi_sld M hX hbl hbA hS hL (by omega) (by omega) dL_law_1770 ?_
      have hx_9 := xZ_rg xs (i + 3)
      refine lv_aload_n M.1 M.2.1 dL_law_1771 rfl (lv_at hl 1 rfl) ?_
      refine lv_iload M.1 M.2.1 dL_law_1772 (lv_at hl 5 rfl) ?_
      refine zi_push M dL_law_1774 ?_
      refine zi_iadd M dL_law_1775 ?_
      refine zi_sld M hX hbl hbA hS hL (by omega) (by omega) dL_law_1776 ?_
      have hx_10 := xZ_rg xs (i + 4)
      refine zi_if_eq (tgt := 1784) M dL_law_1777 (by decide) (by omega) (fun _ => ?_) (fun q => absurd c_5 q)
      refine zi_push M dL_law_1784 ?_
      have hPx := hP
      have hP := hPm
      have hPm := hPx
      have hD := zD_c hD
      refine z_cW2 (z_runV (As := [.int (iI (xZ xs (i + 1))), .int (iI (xZ xs (i + 2))), .int (iI (xZ xs (i + 3))), .int (iI 0)]) (rest := []) M (c_X7_usable l D cy z0 bd th h su st sh fl 0 sn bn fm fr cm em lg le lf dl cS cH sea noi pl pw an hd bp bo bw c1 c2 c3 c4 c5 e1 e2 e3 e4 e5 (xZ xs (i + 1)) (xZ xs (i + 2)) (xZ xs (i + 3)) 0 (by omega) (by omega) (by omega) (by omega) (by omega) (by omega) (by omega) (by omega) g_cS (by omega) g_sea) hE hS hAz (z_cut hP (zD_l hD) hAz [0, 1, 2, 3, 4, 5, 6, 7, 8, 9, 10, 11, 12, 13, 14, 15, 16, 17, 18, 19, 20, 21] rfl (by decide +kernel)) (zRc.of (ci := 7) (q0 := 0) hE hP rfl rfl) zk_cd_X7_usable zk_in_RX7 zk_im_X7_usable zk_se_X7_usable zk_ml_RL_190 rfl rfl zd_X7_usable ⟨by decide, by decide⟩ rfl hl.1 rfl (Nat.le_of_ble_eq_true rfl) dL_law_1785 ⟨by show _ ≤ 601024; omega, by show _ ≤ 7293034; omega⟩) hP hPm hD hS [0, 1, 2, 3, 4, 5, 6, 7, 8, 9, 10, 11, 12, 13, 14, 15, 16, 17, 18, 19, 20, 21] rfl (fun _ => by simp only [List.map_append, mdlW_adr]) (fun r_11 u_11 H locs hp_11 hP hPm hD hS => ?_)
      try simp only [mdD_0, mdE_0, mdF_0, mdD_1, mdE_1, mdF_1] at hp_11
      have hP : va_P D vwCl (mdlW bd 0 cy (u_11 4) h su st sh fl 0 sn bn fm fr cm em (u_11 0) (u_11 1) (u_11 2) (u_11 3) cS cH sea noi pl pw an hd bp bo bw c1 c2 c3 c4 c5 e1 e2 e3 e4 e5) H := hP
      have hD : va_D (fun q => z0 ≤ q) ((mdlW bd 0 cy (u_11 4) h su st sh fl 0 sn bn fm fr cm em (u_11 0) (u_11 1) (u_11 2) (u_11 3) cS cH sea noi pl pw an hd bp bo bw c1 c2 c3 c4 c5 e1 e2 e3 e4 e5) ++ ((rooW ad 0 cy fm fr) ++ ((airW ad 1 cy h su st sh fl cS cH (dnD h fl) (dnE h cS) (dnF h su st)) ++ ((airW ad 8 cy h su 0 0 0 (fun _ => 0) (fun _ => 0) (dnD h 0) (dnE h (fun _ => 0)) (dnF h su 0)) ++ ((grdW ad 15 cy sea noi) ++ ((rayW ad 18 cy (u3_6 0) (u3_6 1) (u3_6 2) (u3_6 3) (u3_6 4) (u3_6 5) (u3_6 6) (u3_6 7)) ++ ((sndW ad 19 cy 12 sn pl pw an hd fq) ++ ((sndW ad 25 cy 6 bn bp bw ban bhd bo) ++ ((conW ad 31 cy cm c1 c2 c3 c4 c5) ++ ((entW ad 37 cy em ep e1 e2 e3 e4 e5) ++ (outW od 0 cy u2_6))))))))))) := hD
      rcases hp_11 with ⟨xa_11, xb_11, xc_11, xd_11, rfl, hN_11, v_11, hq_11, rfl⟩ | ⟨rfl, hN_11, rfl⟩ | ⟨rfl, hN_11, rfl⟩
      ·
        have hP : va_P D vwCl (mdlW bd 0 cy 0 h su st sh fl 0 sn bn fm fr cm em xa_11 xb_11 xc_11 xd_11 cS cH sea noi pl pw an hd bp bo bw c1 c2 c3 c4 c5 e1 e2 e3 e4 e5) H := hP
        have hD : va_D (fun q => z0 ≤ q) ((mdlW bd 0 cy 0 h su st sh fl 0 sn bn fm fr cm em xa_11 xb_11 xc_11 xd_11 cS cH sea noi pl pw an hd bp bo bw c1 c2 c3 c4 c5 e1 e2 e3 e4 e5) ++ ((rooW ad 0 cy fm fr) ++ ((airW ad 1 cy h su st sh fl cS cH (dnD h fl) (dnE h cS) (dnF h su st)) ++ ((airW ad 8 cy h su 0 0 0 (fun _ => 0) (fun _ => 0) (dnD h 0) (dnE h (fun _ => 0)) (dnF h su 0)) ++ ((grdW ad 15 cy sea noi) ++ ((rayW ad 18 cy (u3_6 0) (u3_6 1) (u3_6 2) (u3_6 3) (u3_6 4) (u3_6 5) (u3_6 6) (u3_6 7)) ++ ((sndW ad 19 cy 12 sn pl pw an hd fq) ++ ((sndW ad 25 cy 6 bn bp bw ban bhd bo) ++ ((conW ad 31 cy cm c1 c2 c3 c4 c5) ++ ((entW ad 37 cy em ep e1 e2 e3 e4 e5) ++ (outW od 0 cy u2_6))))))))))) := hD
        have hy1 := isUse_uniq hq_6 hq_11
        subst hy1
        refine lv_istore (lv' := [(6, .int (iI u2_6)), (5, .int (iI 0)), (0, .ref (b)), (1, .ref (ad 0)), (2, .ref (bd 0)), (3, .ref (od 0)), (4, .int (iI i))]) M.1 M.2.1 dL_law_1788 hl (by decide) rfl (fun ls hl => ?_)
        refine lv_aload_n M.1 M.2.1 dL_law_1790 rfl (lv_at hl 4 rfl) ?_
        refine z_cR (z_runV (As := []) (rest := []) M (c_X7_thrown l D cy z0 bd 0 h su st sh fl 0 sn bn fm fr cm em xa_11 xb_11 xc_11 xd_11 cS cH sea noi pl pw an hd bp bo bw c1 c2 c3 c4 c5 e1 e2 e3 e4 e5) hE hS hAz hP (zRc.of (ci := 7) (q0 := 0) hE hP rfl rfl) zk_cd_X7_thrown zk_in_RX7 zk_im_X7_thrown zk_se_X7_thrown zk_ml_RL_116 rfl rfl zd_X7_thrown ⟨by decide, by decide⟩ rfl hl.1 rfl (Nat.le_of_ble_eq_true rfl) dL_law_1791 ⟨by show _ ≤ 601024; omega, by show _ ≤ 7293034; omega⟩) ?_
        refine lv_iload M.1 M.2.1 dL_law_1794 (lv_at hl 1 rfl) ?_
        refine zi_same (tgt := 1801) M dL_law_1796 (by decide) ?_
        refine lv_iload M.1 M.2.1 dL_law_1801 (lv_at hl 1 rfl) ?_
        refine zi_if_ne (tgt := 1818) M dL_law_1803 (by decide) ⟨by decide, by decide⟩ (fun q => absurd q (by decide)) (fun _ => ?_)
        refine lv_aload_n M.1 M.2.1 dL_law_1806 rfl (lv_at hl 5 rfl) ?_
        refine zi_push M dL_law_1807 ?_
        refine zi_lald M hE hPm 43 rfl dL_law_1808 ?_
        refine lv_iload M.1 M.2.1 dL_law_1809 (lv_at hl 0 rfl) ?_
        refine zi_i2l M dL_law_1811 ?_
        refine zi_lcmpE M dL_law_1812 ?_
        refine zi_if_eq (tgt := 1818) M dL_law_1813 (by decide) ⟨by decide, by decide⟩ (fun _ => ?_) (fun q => absurd q (by decide))
        refine zi_goto (tgt := 2286) M dL_law_1818 (by decide) ?_
        have hPx := hP
        have hP := hPm
        have hPm := hPx
        have hD := zD_c hD
        refine W.widen (k := cells + 6) (n := slots + 36) (by omega) (by omega) ?_
        exact hback h su st sh fl sn bn cm em ep fm fr 0 u2_6 xa_11 xb_11 xc_11 xd_11 cS cH sea noi pl pw an hd fq bp bw ban bhd bo c1 c2 c3 c4 c5 e1 e2 e3 e4 e5 u3_6 h_h h_su h_st h_sh h_fl h_sn h_bn h_cm h_em g_cS g_cH g_sea g_noi g_pl g_pw g_an g_hd g_bp g_bw g_ban g_bhd g_c1 g_c2 g_c3 g_c4 g_c5 g_e1 g_e2 g_e3 g_e4 g_e5 hbo hep H locs hP hPm hD hS ls (lv_sub hl [2, 3, 4, 5, 6] rfl)
      ·
        have hP : va_P D vwCl (mdlW bd 0 cy 1 h su st sh fl 0 sn bn fm fr cm em lg le lf dl cS cH sea noi pl pw an hd bp bo bw c1 c2 c3 c4 c5 e1 e2 e3 e4 e5) H := hP
        have hD : va_D (fun q => z0 ≤ q) ((mdlW bd 0 cy 1 h su st sh fl 0 sn bn fm fr cm em lg le lf dl cS cH sea noi pl pw an hd bp bo bw c1 c2 c3 c4 c5 e1 e2 e3 e4 e5) ++ ((rooW ad 0 cy fm fr) ++ ((airW ad 1 cy h su st sh fl cS cH (dnD h fl) (dnE h cS) (dnF h su st)) ++ ((airW ad 8 cy h su 0 0 0 (fun _ => 0) (fun _ => 0) (dnD h 0) (dnE h (fun _ => 0)) (dnF h su 0)) ++ ((grdW ad 15 cy sea noi) ++ ((rayW ad 18 cy (u3_6 0) (u3_6 1) (u3_6 2) (u3_6 3) (u3_6 4) (u3_6 5) (u3_6 6) (u3_6 7)) ++ ((sndW ad 19 cy 12 sn pl pw an hd fq) ++ ((sndW ad 25 cy 6 bn bp bw ban bhd bo) ++ ((conW ad 31 cy cm c1 c2 c3 c4 c5) ++ ((entW ad 37 cy em ep e1 e2 e3 e4 e5) ++ (outW od 0 cy u2_6))))))))))) := hD
        exfalso
        omega
      ·
        have hP : va_P D vwCl (mdlW bd 0 cy 2 h su st sh fl 0 sn bn fm fr cm em lg le lf dl cS cH sea noi pl pw an hd bp bo bw c1 c2 c3 c4 c5 e1 e2 e3 e4 e5) H := hP
        have hD : va_D (fun q => z0 ≤ q) ((mdlW bd 0 cy 2 h su st sh fl 0 sn bn fm fr cm em lg le lf dl cS cH sea noi pl pw an hd bp bo bw c1 c2 c3 c4 c5 e1 e2 e3 e4 e5) ++ ((rooW ad 0 cy fm fr) ++ ((airW ad 1 cy h su st sh fl cS cH (dnD h fl) (dnE h cS) (dnF h su st)) ++ ((airW ad 8 cy h su 0 0 0 (fun _ => 0) (fun _ => 0) (dnD h 0) (dnE h (fun _ => 0)) (dnF h su 0)) ++ ((grdW ad 15 cy sea noi) ++ ((rayW ad 18 cy (u3_6 0) (u3_6 1) (u3_6 2) (u3_6 3) (u3_6 4) (u3_6 5) (u3_6 6) (u3_6 7)) ++ ((sndW ad 19 cy 12 sn pl pw an hd fq) ++ ((sndW ad 25 cy 6 bn bp bw ban bhd bo) ++ ((conW ad 31 cy cm c1 c2 c3 c4 c5) ++ ((entW ad 37 cy em ep e1 e2 e3 e4 e5) ++ (outW od 0 cy u2_6))))))))))) := hD
        exfalso
        omega
    ·
      have hw_6 := hv_6.symm
      subst hw_6
      have hP : va_P D vwCl ((rooW ad 0 cy fm fr) ++ ((airW ad 1 cy h su st sh fl cS cH (dnD h fl) (dnE h cS) (dnF h su st)) ++ ((airW ad 8 cy h su 0 0 0 (fun _ => 0) (fun _ => 0) (dnD h 0) (dnE h (fun _ => 0)) (dnF h su 0)) ++ ((grdW ad 15 cy sea noi) ++ ((rayW ad 18 cy (u3_6 0) (u3_6 1) (u3_6 2) (u3_6 3) (u3_6 4) (u3_6 5) (u3_6 6) (u3_6 7)) ++ ((sndW ad 19 cy 12 sn pl pw an hd fq) ++ ((sndW ad 25 cy 6 bn bp bw ban bhd bo) ++ ((conW ad 31 cy cm c1 c2 c3 c4 c5) ++ ((entW ad 37 cy em ep e1 e2 e3 e4 e5) ++ (outW od 0 cy o)))))))))) H := hP
      have hD : va_D (fun q => z0 ≤ q) (((rooW ad 0 cy fm fr) ++ ((airW ad 1 cy h su st sh fl cS cH (dnD h fl) (dnE h cS) (dnF h su st)) ++ ((airW ad 8 cy h su 0 0 0 (fun _ => 0) (fun _ => 0) (dnD h 0) (dnE h (fun _ => 0)) (dnF h su 0)) ++ ((grdW ad 15 cy sea noi) ++ ((rayW ad 18 cy (u3_6 0) (u3_6 1) (u3_6 2) (u3_6 3) (u3_6 4) (u3_6 5) (u3_6 6) (u3_6 7)) ++ ((sndW ad 19 cy 12 sn pl pw an hd fq) ++ ((sndW ad 25 cy 6 bn bp bw ban bhd bo) ++ ((conW ad 31 cy cm c1 c2 c3 c4 c5) ++ ((entW ad 37 cy em ep e1 e2 e3 e4 e5) ++ (outW od 0 cy o)))))))))) ++ (mdlW bd 0 cy th h su st sh fl 0 sn bn fm fr cm em lg le lf dl cS cH sea noi pl pw an hd bp bo bw c1 c2 c3 c4 c5 e1 e2 e3 e4 e5)) := hD
      refine lv_istore (lv' := [(5, .int (iI 1)), (0, .ref (b)), (1, .ref (ad 0)), (2, .ref (bd 0)), (3, .ref (od 0)), (4, .int (iI i))]) M.1 M.2.1 dL_law_1750 hl (by decide) rfl (fun ls hl => ?_)
      refine lv_aload_n M.1 M.2.1 dL_law_1752 rfl (lv_at hl 3 rfl) ?_
      refine lv_aload_n M.1 M.2.1 dL_law_1753 rfl (lv_at hl 1 rfl) ?_
      refine lv_iload M.1 M.2.1 dL_law_1754 (lv_at hl 5 rfl) ?_
      refine zi_push M dL_law_1756 ?_
      refine zi_iadd M dL_law_1757 ?_
      refine zi_sld M hX hbl hbA hS hL (by omega) (by omega) dL_law_1758 ?_
      have hx_12 := xZ_rg xs (i + 1)
      refine lv_aload_n M.1 M.2.1 dL_law_1759 rfl (lv_at hl 1 rfl) ?_
      refine lv_iload M.1 M.2.1 dL_law_1760 (lv_at hl 5 rfl) ?_
      refine zi_push M dL_law_1762 ?_
      refine zi_iadd M dL_law_1763 ?_
      refine zi_sld M hX hbl hbA hS hL (by omega) (by omega) dL_law_1764 ?_
      have hx_13 := xZ_rg xs (i + 2)
      refine lv_aload_n M.1 M.2.1 dL_law_1765 rfl (lv_at hl 1 rfl) ?_
      refine lv_iload M.1 M.2.1 dL_law_1766 (lv_at hl 5 rfl) ?_
      refine zi_push M dL_law_1768 ?_
      refine zi_iadd M dL_law_1769 ?_
      refine zi_sld M hX hbl hbA hS hL (by omega) (by omega) dL_law_1770 ?_
      have hx_14 := xZ_rg xs (i + 3)
      refine lv_aload_n M.1 M.2.1 dL_law_1771 rfl (lv_at hl 1 rfl) ?_
      refine lv_iload M.1 M.2.1 dL_law_1772 (lv_at hl 5 rfl) ?_
      refine zi_push M dL_law_1774 ?_
      refine zi_iadd M dL_law_1775 ?_
      refine zi_sld M hX hbl hbA hS hL (by omega) (by omega) dL_law_1776 ?_
      have hx_15 := xZ_rg xs (i + 4)
      refine zi_if_eq (tgt := 1784) M dL_law_1777 (by decide) (by omega) (fun _ => ?_) (fun q => absurd c_5 q)
      refine zi_push M dL_law_1784 ?_
      have hPx := hP
      have hP := hPm
      have hPm := hPx
      have hD := zD_c hD
      refine z_cW2 (z_runV (As := [.int (iI (xZ xs (i + 1))), .int (iI (xZ xs (i + 2))), .int (iI (xZ xs (i + 3))), .int (iI 0)]) (rest := []) M (c_X7_usable l D cy z0 bd th h su st sh fl 0 sn bn fm fr cm em lg le lf dl cS cH sea noi pl pw an hd bp bo bw c1 c2 c3 c4 c5 e1 e2 e3 e4 e5 (xZ xs (i + 1)) (xZ xs (i + 2)) (xZ xs (i + 3)) 0 (by omega) (by omega) (by omega) (by omega) (by omega) (by omega) (by omega) (by omega) g_cS (by omega) g_sea) hE hS hAz (z_cut hP (zD_l hD) hAz [0, 1, 2, 3, 4, 5, 6, 7, 8, 9, 10, 11, 12, 13, 14, 15, 16, 17, 18, 19, 20, 21] rfl (by decide +kernel)) (zRc.of (ci := 7) (q0 := 0) hE hP rfl rfl) zk_cd_X7_usable zk_in_RX7 zk_im_X7_usable zk_se_X7_usable zk_ml_RL_190 rfl rfl zd_X7_usable ⟨by decide, by decide⟩ rfl hl.1 rfl (Nat.le_of_ble_eq_true rfl) dL_law_1785 ⟨by show _ ≤ 601024; omega, by show _ ≤ 7293034; omega⟩) hP hPm hD hS [0, 1, 2, 3, 4, 5, 6, 7, 8, 9, 10, 11, 12, 13, 14, 15, 16, 17, 18, 19, 20, 21] rfl (fun _ => by simp only [List.map_append, mdlW_adr]) (fun r_16 u_16 H locs hp_16 hP hPm hD hS => ?_)
      try simp only [mdD_0, mdE_0, mdF_0, mdD_1, mdE_1, mdF_1] at hp_16
      have hP : va_P D vwCl (mdlW bd 0 cy (u_16 4) h su st sh fl 0 sn bn fm fr cm em (u_16 0) (u_16 1) (u_16 2) (u_16 3) cS cH sea noi pl pw an hd bp bo bw c1 c2 c3 c4 c5 e1 e2 e3 e4 e5) H := hP
      have hD : va_D (fun q => z0 ≤ q) ((mdlW bd 0 cy (u_16 4) h su st sh fl 0 sn bn fm fr cm em (u_16 0) (u_16 1) (u_16 2) (u_16 3) cS cH sea noi pl pw an hd bp bo bw c1 c2 c3 c4 c5 e1 e2 e3 e4 e5) ++ ((rooW ad 0 cy fm fr) ++ ((airW ad 1 cy h su st sh fl cS cH (dnD h fl) (dnE h cS) (dnF h su st)) ++ ((airW ad 8 cy h su 0 0 0 (fun _ => 0) (fun _ => 0) (dnD h 0) (dnE h (fun _ => 0)) (dnF h su 0)) ++ ((grdW ad 15 cy sea noi) ++ ((rayW ad 18 cy (u3_6 0) (u3_6 1) (u3_6 2) (u3_6 3) (u3_6 4) (u3_6 5) (u3_6 6) (u3_6 7)) ++ ((sndW ad 19 cy 12 sn pl pw an hd fq) ++ ((sndW ad 25 cy 6 bn bp bw ban bhd bo) ++ ((conW ad 31 cy cm c1 c2 c3 c4 c5) ++ ((entW ad 37 cy em ep e1 e2 e3 e4 e5) ++ (outW od 0 cy o))))))))))) := hD
      rcases hp_16 with ⟨xa_16, xb_16, xc_16, xd_16, rfl, hN_16, v_16, hq_16, rfl⟩ | ⟨rfl, hN_16, rfl⟩ | ⟨rfl, hN_16, rfl⟩
      ·
        have hP : va_P D vwCl (mdlW bd 0 cy 0 h su st sh fl 0 sn bn fm fr cm em xa_16 xb_16 xc_16 xd_16 cS cH sea noi pl pw an hd bp bo bw c1 c2 c3 c4 c5 e1 e2 e3 e4 e5) H := hP
        have hD : va_D (fun q => z0 ≤ q) ((mdlW bd 0 cy 0 h su st sh fl 0 sn bn fm fr cm em xa_16 xb_16 xc_16 xd_16 cS cH sea noi pl pw an hd bp bo bw c1 c2 c3 c4 c5 e1 e2 e3 e4 e5) ++ ((rooW ad 0 cy fm fr) ++ ((airW ad 1 cy h su st sh fl cS cH (dnD h fl) (dnE h cS) (dnF h su st)) ++ ((airW ad 8 cy h su 0 0 0 (fun _ => 0) (fun _ => 0) (dnD h 0) (dnE h (fun _ => 0)) (dnF h su 0)) ++ ((grdW ad 15 cy sea noi) ++ ((rayW ad 18 cy (u3_6 0) (u3_6 1) (u3_6 2) (u3_6 3) (u3_6 4) (u3_6 5) (u3_6 6) (u3_6 7)) ++ ((sndW ad 19 cy 12 sn pl pw an hd fq) ++ ((sndW ad 25 cy 6 bn bp bw ban bhd bo) ++ ((conW ad 31 cy cm c1 c2 c3 c4 c5) ++ ((entW ad 37 cy em ep e1 e2 e3 e4 e5) ++ (outW od 0 cy o))))))))))) := hD
        exfalso
        omega
      ·
        have hP : va_P D vwCl (mdlW bd 0 cy 1 h su st sh fl 0 sn bn fm fr cm em lg le lf dl cS cH sea noi pl pw an hd bp bo bw c1 c2 c3 c4 c5 e1 e2 e3 e4 e5) H := hP
        have hD : va_D (fun q => z0 ≤ q) ((mdlW bd 0 cy 1 h su st sh fl 0 sn bn fm fr cm em lg le lf dl cS cH sea noi pl pw an hd bp bo bw c1 c2 c3 c4 c5 e1 e2 e3 e4 e5) ++ ((rooW ad 0 cy fm fr) ++ ((airW ad 1 cy h su st sh fl cS cH (dnD h fl) (dnE h cS) (dnF h su st)) ++ ((airW ad 8 cy h su 0 0 0 (fun _ => 0) (fun _ => 0) (dnD h 0) (dnE h (fun _ => 0)) (dnF h su 0)) ++ ((grdW ad 15 cy sea noi) ++ ((rayW ad 18 cy (u3_6 0) (u3_6 1) (u3_6 2) (u3_6 3) (u3_6 4) (u3_6 5) (u3_6 6) (u3_6 7)) ++ ((sndW ad 19 cy 12 sn pl pw an hd fq) ++ ((sndW ad 25 cy 6 bn bp bw ban bhd bo) ++ ((conW ad 31 cy cm c1 c2 c3 c4 c5) ++ ((entW ad 37 cy em ep e1 e2 e3 e4 e5) ++ (outW od 0 cy o))))))))))) := hD
        refine lv_istore (lv' := [(6, .int (iI 0)), (5, .int (iI 1)), (0, .ref (b)), (1, .ref (ad 0)), (2, .ref (bd 0)), (3, .ref (od 0)), (4, .int (iI i))]) M.1 M.2.1 dL_law_1788 hl (by decide) rfl (fun ls hl => ?_)
        refine lv_aload_n M.1 M.2.1 dL_law_1790 rfl (lv_at hl 4 rfl) ?_
        refine z_cR (z_runV (As := []) (rest := []) M (c_X7_thrown l D cy z0 bd 1 h su st sh fl 0 sn bn fm fr cm em lg le lf dl cS cH sea noi pl pw an hd bp bo bw c1 c2 c3 c4 c5 e1 e2 e3 e4 e5) hE hS hAz hP (zRc.of (ci := 7) (q0 := 0) hE hP rfl rfl) zk_cd_X7_thrown zk_in_RX7 zk_im_X7_thrown zk_se_X7_thrown zk_ml_RL_116 rfl rfl zd_X7_thrown ⟨by decide, by decide⟩ rfl hl.1 rfl (Nat.le_of_ble_eq_true rfl) dL_law_1791 ⟨by show _ ≤ 601024; omega, by show _ ≤ 7293034; omega⟩) ?_
        refine lv_iload M.1 M.2.1 dL_law_1794 (lv_at hl 1 rfl) ?_
        refine zi_same (tgt := 1801) M dL_law_1796 (by decide) ?_
        refine lv_iload M.1 M.2.1 dL_law_1801 (lv_at hl 1 rfl) ?_
        refine zi_if_ne (tgt := 1818) M dL_law_1803 (by decide) ⟨by decide, by decide⟩ (fun _ => ?_) (fun q => absurd q (by decide))
        refine zi_goto (tgt := 2286) M dL_law_1818 (by decide) ?_
        have hPx := hP
        have hP := hPm
        have hPm := hPx
        have hD := zD_c hD
        refine W.widen (k := cells + 6) (n := slots + 36) (by omega) (by omega) ?_
        exact hback h su st sh fl sn bn cm em ep fm fr 1 o lg le lf dl cS cH sea noi pl pw an hd fq bp bw ban bhd bo c1 c2 c3 c4 c5 e1 e2 e3 e4 e5 u3_6 h_h h_su h_st h_sh h_fl h_sn h_bn h_cm h_em g_cS g_cH g_sea g_noi g_pl g_pw g_an g_hd g_bp g_bw g_ban g_bhd g_c1 g_c2 g_c3 g_c4 g_c5 g_e1 g_e2 g_e3 g_e4 g_e5 hbo hep H locs hP hPm hD hS ls (lv_sub hl [2, 3, 4, 5, 6] rfl)
      ·
        have hP : va_P D vwCl (mdlW bd 0 cy 2 h su st sh fl 0 sn bn fm fr cm em lg le lf dl cS cH sea noi pl pw an hd bp bo bw c1 c2 c3 c4 c5 e1 e2 e3 e4 e5) H := hP
        have hD : va_D (fun q => z0 ≤ q) ((mdlW bd 0 cy 2 h su st sh fl 0 sn bn fm fr cm em lg le lf dl cS cH sea noi pl pw an hd bp bo bw c1 c2 c3 c4 c5 e1 e2 e3 e4 e5) ++ ((rooW ad 0 cy fm fr) ++ ((airW ad 1 cy h su st sh fl cS cH (dnD h fl) (dnE h cS) (dnF h su st)) ++ ((airW ad 8 cy h su 0 0 0 (fun _ => 0) (fun _ => 0) (dnD h 0) (dnE h (fun _ => 0)) (dnF h su 0)) ++ ((grdW ad 15 cy sea noi) ++ ((rayW ad 18 cy (u3_6 0) (u3_6 1) (u3_6 2) (u3_6 3) (u3_6 4) (u3_6 5) (u3_6 6) (u3_6 7)) ++ ((sndW ad 19 cy 12 sn pl pw an hd fq) ++ ((sndW ad 25 cy 6 bn bp bw ban bhd bo) ++ ((conW ad 31 cy cm c1 c2 c3 c4 c5) ++ ((entW ad 37 cy em ep e1 e2 e3 e4 e5) ++ (outW od 0 cy o))))))))))) := hD
        exfalso
        omega
    ·
      have hw_6 := hv_6.symm
      subst hw_6
      have hP : va_P D vwCl ((rooW ad 0 cy fm fr) ++ ((airW ad 1 cy h su st sh fl cS cH (dnD h fl) (dnE h cS) (dnF h su st)) ++ ((airW ad 8 cy h su 0 0 0 (fun _ => 0) (fun _ => 0) (dnD h 0) (dnE h (fun _ => 0)) (dnF h su 0)) ++ ((grdW ad 15 cy sea noi) ++ ((rayW ad 18 cy (u3_6 0) (u3_6 1) (u3_6 2) (u3_6 3) (u3_6 4) (u3_6 5) (u3_6 6) (u3_6 7)) ++ ((sndW ad 19 cy 12 sn pl pw an hd fq) ++ ((sndW ad 25 cy 6 bn bp bw ban bhd bo) ++ ((conW ad 31 cy cm c1 c2 c3 c4 c5) ++ ((entW ad 37 cy em ep e1 e2 e3 e4 e5) ++ (outW od 0 cy o)))))))))) H := hP
      have hD : va_D (fun q => z0 ≤ q) (((rooW ad 0 cy fm fr) ++ ((airW ad 1 cy h su st sh fl cS cH (dnD h fl) (dnE h cS) (dnF h su st)) ++ ((airW ad 8 cy h su 0 0 0 (fun _ => 0) (fun _ => 0) (dnD h 0) (dnE h (fun _ => 0)) (dnF h su 0)) ++ ((grdW ad 15 cy sea noi) ++ ((rayW ad 18 cy (u3_6 0) (u3_6 1) (u3_6 2) (u3_6 3) (u3_6 4) (u3_6 5) (u3_6 6) (u3_6 7)) ++ ((sndW ad 19 cy 12 sn pl pw an hd fq) ++ ((sndW ad 25 cy 6 bn bp bw ban bhd bo) ++ ((conW ad 31 cy cm c1 c2 c3 c4 c5) ++ ((entW ad 37 cy em ep e1 e2 e3 e4 e5) ++ (outW od 0 cy o)))))))))) ++ (mdlW bd 0 cy th h su st sh fl 0 sn bn fm fr cm em lg le lf dl cS cH sea noi pl pw an hd bp bo bw c1 c2 c3 c4 c5 e1 e2 e3 e4 e5)) := hD
      refine lv_istore (lv' := [(5, .int (iI 2)), (0, .ref (b)), (1, .ref (ad 0)), (2, .ref (bd 0)), (3, .ref (od 0)), (4, .int (iI i))]) M.1 M.2.1 dL_law_1750 hl (by decide) rfl (fun ls hl => ?_)
      refine lv_aload_n M.1 M.2.1 dL_law_1752 rfl (lv_at hl 3 rfl) ?_
      refine lv_aload_n M.1 M.2.1 dL_law_1753 rfl (lv_at hl 1 rfl) ?_
      refine lv_iload M.1 M.2.1 dL_law_1754 (lv_at hl 5 rfl) ?_
      refine zi_push M dL_law_1756 ?_
      refine zi_iadd M dL_law_1757 ?_
      refine zi_sld M hX hbl hbA hS hL (by omega) (by omega) dL_law_1758 ?_
      have hx_17 := xZ_rg xs (i + 1)
      refine lv_aload_n M.1 M.2.1 dL_law_1759 rfl (lv_at hl 1 rfl) ?_
      refine lv_iload M.1 M.2.1 dL_law_1760 (lv_at hl 5 rfl) ?_
      refine zi_push M dL_law_1762 ?_
      refine zi_iadd M dL_law_1763 ?_
      refine zi_sld M hX hbl hbA hS hL (by omega) (by omega) dL_law_1764 ?_
      have hx_18 := xZ_rg xs (i + 2)
      refine lv_aload_n M.1 M.2.1 dL_law_1765 rfl (lv_at hl 1 rfl) ?_
      refine lv_iload M.1 M.2.1 dL_law_1766 (lv_at hl 5 rfl) ?_
      refine zi_push M dL_law_1768 ?_
      refine zi_iadd M dL_law_1769 ?_
      refine zi_sld M hX hbl hbA hS hL (by omega) (by omega) dL_law_1770 ?_
      have hx_19 := xZ_rg xs (i + 3)
      refine lv_aload_n M.1 M.2.1 dL_law_1771 rfl (lv_at hl 1 rfl) ?_
      refine lv_iload M.1 M.2.1 dL_law_1772 (lv_at hl 5 rfl) ?_
      refine zi_push M dL_law_1774 ?_
      refine zi_iadd M dL_law_1775 ?_
      refine zi_sld M hX hbl hbA hS hL (by omega) (by omega) dL_law_1776 ?_
      have hx_20 := xZ_rg xs (i + 4)
      refine zi_if_eq (tgt := 1784) M dL_law_1777 (by decide) (by omega) (fun _ => ?_) (fun q => absurd c_5 q)
      refine zi_push M dL_law_1784 ?_
      have hPx := hP
      have hP := hPm
      have hPm := hPx
      have hD := zD_c hD
      refine z_cW2 (z_runV (As := [.int (iI (xZ xs (i + 1))), .int (iI (xZ xs (i + 2))), .int (iI (xZ xs (i + 3))), .int (iI 0)]) (rest := []) M (c_X7_usable l D cy z0 bd th h su st sh fl 0 sn bn fm fr cm em lg le lf dl cS cH sea noi pl pw an hd bp bo bw c1 c2 c3 c4 c5 e1 e2 e3 e4 e5 (xZ xs (i + 1)) (xZ xs (i + 2)) (xZ xs (i + 3)) 0 (by omega) (by omega) (by omega) (by omega) (by omega) (by omega) (by omega) (by omega) g_cS (by omega) g_sea) hE hS hAz (z_cut hP (zD_l hD) hAz [0, 1, 2, 3, 4, 5, 6, 7, 8, 9, 10, 11, 12, 13, 14, 15, 16, 17, 18, 19, 20, 21] rfl (by decide +kernel)) (zRc.of (ci := 7) (q0 := 0) hE hP rfl rfl) zk_cd_X7_usable zk_in_RX7 zk_im_X7_usable zk_se_X7_usable zk_ml_RL_190 rfl rfl zd_X7_usable ⟨by decide, by decide⟩ rfl hl.1 rfl (Nat.le_of_ble_eq_true rfl) dL_law_1785 ⟨by show _ ≤ 601024; omega, by show _ ≤ 7293034; omega⟩) hP hPm hD hS [0, 1, 2, 3, 4, 5, 6, 7, 8, 9, 10, 11, 12, 13, 14, 15, 16, 17, 18, 19, 20, 21] rfl (fun _ => by simp only [List.map_append, mdlW_adr]) (fun r_21 u_21 H locs hp_21 hP hPm hD hS => ?_)
      try simp only [mdD_0, mdE_0, mdF_0, mdD_1, mdE_1, mdF_1] at hp_21
      have hP : va_P D vwCl (mdlW bd 0 cy (u_21 4) h su st sh fl 0 sn bn fm fr cm em (u_21 0) (u_21 1) (u_21 2) (u_21 3) cS cH sea noi pl pw an hd bp bo bw c1 c2 c3 c4 c5 e1 e2 e3 e4 e5) H := hP
      have hD : va_D (fun q => z0 ≤ q) ((mdlW bd 0 cy (u_21 4) h su st sh fl 0 sn bn fm fr cm em (u_21 0) (u_21 1) (u_21 2) (u_21 3) cS cH sea noi pl pw an hd bp bo bw c1 c2 c3 c4 c5 e1 e2 e3 e4 e5) ++ ((rooW ad 0 cy fm fr) ++ ((airW ad 1 cy h su st sh fl cS cH (dnD h fl) (dnE h cS) (dnF h su st)) ++ ((airW ad 8 cy h su 0 0 0 (fun _ => 0) (fun _ => 0) (dnD h 0) (dnE h (fun _ => 0)) (dnF h su 0)) ++ ((grdW ad 15 cy sea noi) ++ ((rayW ad 18 cy (u3_6 0) (u3_6 1) (u3_6 2) (u3_6 3) (u3_6 4) (u3_6 5) (u3_6 6) (u3_6 7)) ++ ((sndW ad 19 cy 12 sn pl pw an hd fq) ++ ((sndW ad 25 cy 6 bn bp bw ban bhd bo) ++ ((conW ad 31 cy cm c1 c2 c3 c4 c5) ++ ((entW ad 37 cy em ep e1 e2 e3 e4 e5) ++ (outW od 0 cy o))))))))))) := hD
      rcases hp_21 with ⟨xa_21, xb_21, xc_21, xd_21, rfl, hN_21, v_21, hq_21, rfl⟩ | ⟨rfl, hN_21, rfl⟩ | ⟨rfl, hN_21, rfl⟩
      ·
        have hP : va_P D vwCl (mdlW bd 0 cy 0 h su st sh fl 0 sn bn fm fr cm em xa_21 xb_21 xc_21 xd_21 cS cH sea noi pl pw an hd bp bo bw c1 c2 c3 c4 c5 e1 e2 e3 e4 e5) H := hP
        have hD : va_D (fun q => z0 ≤ q) ((mdlW bd 0 cy 0 h su st sh fl 0 sn bn fm fr cm em xa_21 xb_21 xc_21 xd_21 cS cH sea noi pl pw an hd bp bo bw c1 c2 c3 c4 c5 e1 e2 e3 e4 e5) ++ ((rooW ad 0 cy fm fr) ++ ((airW ad 1 cy h su st sh fl cS cH (dnD h fl) (dnE h cS) (dnF h su st)) ++ ((airW ad 8 cy h su 0 0 0 (fun _ => 0) (fun _ => 0) (dnD h 0) (dnE h (fun _ => 0)) (dnF h su 0)) ++ ((grdW ad 15 cy sea noi) ++ ((rayW ad 18 cy (u3_6 0) (u3_6 1) (u3_6 2) (u3_6 3) (u3_6 4) (u3_6 5) (u3_6 6) (u3_6 7)) ++ ((sndW ad 19 cy 12 sn pl pw an hd fq) ++ ((sndW ad 25 cy 6 bn bp bw ban bhd bo) ++ ((conW ad 31 cy cm c1 c2 c3 c4 c5) ++ ((entW ad 37 cy em ep e1 e2 e3 e4 e5) ++ (outW od 0 cy o))))))))))) := hD
        exfalso
        omega
      ·
        have hP : va_P D vwCl (mdlW bd 0 cy 1 h su st sh fl 0 sn bn fm fr cm em lg le lf dl cS cH sea noi pl pw an hd bp bo bw c1 c2 c3 c4 c5 e1 e2 e3 e4 e5) H := hP
        have hD : va_D (fun q => z0 ≤ q) ((mdlW bd 0 cy 1 h su st sh fl 0 sn bn fm fr cm em lg le lf dl cS cH sea noi pl pw an hd bp bo bw c1 c2 c3 c4 c5 e1 e2 e3 e4 e5) ++ ((rooW ad 0 cy fm fr) ++ ((airW ad 1 cy h su st sh fl cS cH (dnD h fl) (dnE h cS) (dnF h su st)) ++ ((airW ad 8 cy h su 0 0 0 (fun _ => 0) (fun _ => 0) (dnD h 0) (dnE h (fun _ => 0)) (dnF h su 0)) ++ ((grdW ad 15 cy sea noi) ++ ((rayW ad 18 cy (u3_6 0) (u3_6 1) (u3_6 2) (u3_6 3) (u3_6 4) (u3_6 5) (u3_6 6) (u3_6 7)) ++ ((sndW ad 19 cy 12 sn pl pw an hd fq) ++ ((sndW ad 25 cy 6 bn bp bw ban bhd bo) ++ ((conW ad 31 cy cm c1 c2 c3 c4 c5) ++ ((entW ad 37 cy em ep e1 e2 e3 e4 e5) ++ (outW od 0 cy o))))))))))) := hD
        exfalso
        omega
      ·
        have hP : va_P D vwCl (mdlW bd 0 cy 2 h su st sh fl 0 sn bn fm fr cm em lg le lf dl cS cH sea noi pl pw an hd bp bo bw c1 c2 c3 c4 c5 e1 e2 e3 e4 e5) H := hP
        have hD : va_D (fun q => z0 ≤ q) ((mdlW bd 0 cy 2 h su st sh fl 0 sn bn fm fr cm em lg le lf dl cS cH sea noi pl pw an hd bp bo bw c1 c2 c3 c4 c5 e1 e2 e3 e4 e5) ++ ((rooW ad 0 cy fm fr) ++ ((airW ad 1 cy h su st sh fl cS cH (dnD h fl) (dnE h cS) (dnF h su st)) ++ ((airW ad 8 cy h su 0 0 0 (fun _ => 0) (fun _ => 0) (dnD h 0) (dnE h (fun _ => 0)) (dnF h su 0)) ++ ((grdW ad 15 cy sea noi) ++ ((rayW ad 18 cy (u3_6 0) (u3_6 1) (u3_6 2) (u3_6 3) (u3_6 4) (u3_6 5) (u3_6 6) (u3_6 7)) ++ ((sndW ad 19 cy 12 sn pl pw an hd fq) ++ ((sndW ad 25 cy 6 bn bp bw ban bhd bo) ++ ((conW ad 31 cy cm c1 c2 c3 c4 c5) ++ ((entW ad 37 cy em ep e1 e2 e3 e4 e5) ++ (outW od 0 cy o))))))))))) := hD
        refine lv_istore (lv' := [(6, .int (iI 0)), (5, .int (iI 2)), (0, .ref (b)), (1, .ref (ad 0)), (2, .ref (bd 0)), (3, .ref (od 0)), (4, .int (iI i))]) M.1 M.2.1 dL_law_1788 hl (by decide) rfl (fun ls hl => ?_)
        refine lv_aload_n M.1 M.2.1 dL_law_1790 rfl (lv_at hl 4 rfl) ?_
        refine z_cR (z_runV (As := []) (rest := []) M (c_X7_thrown l D cy z0 bd 2 h su st sh fl 0 sn bn fm fr cm em lg le lf dl cS cH sea noi pl pw an hd bp bo bw c1 c2 c3 c4 c5 e1 e2 e3 e4 e5) hE hS hAz hP (zRc.of (ci := 7) (q0 := 0) hE hP rfl rfl) zk_cd_X7_thrown zk_in_RX7 zk_im_X7_thrown zk_se_X7_thrown zk_ml_RL_116 rfl rfl zd_X7_thrown ⟨by decide, by decide⟩ rfl hl.1 rfl (Nat.le_of_ble_eq_true rfl) dL_law_1791 ⟨by show _ ≤ 601024; omega, by show _ ≤ 7293034; omega⟩) ?_
        refine lv_iload M.1 M.2.1 dL_law_1794 (lv_at hl 1 rfl) ?_
        refine zi_same (tgt := 1801) M dL_law_1796 (by decide) ?_
        refine lv_iload M.1 M.2.1 dL_law_1801 (lv_at hl 1 rfl) ?_
        refine zi_if_ne (tgt := 1818) M dL_law_1803 (by decide) ⟨by decide, by decide⟩ (fun _ => ?_) (fun q => absurd q (by decide))
        refine zi_goto (tgt := 2286) M dL_law_1818 (by decide) ?_
        have hPx := hP
        have hP := hPm
        have hPm := hPx
        have hD := zD_c hD
        refine W.widen (k := cells + 6) (n := slots + 36) (by omega) (by omega) ?_
        exact hback h su st sh fl sn bn cm em ep fm fr 2 o lg le lf dl cS cH sea noi pl pw an hd fq bp bw ban bhd bo c1 c2 c3 c4 c5 e1 e2 e3 e4 e5 u3_6 h_h h_su h_st h_sh h_fl h_sn h_bn h_cm h_em g_cS g_cH g_sea g_noi g_pl g_pw g_an g_hd g_bp g_bw g_ban g_bhd g_c1 g_c2 g_c3 g_c4 g_c5 g_e1 g_e2 g_e3 g_e4 g_e5 hbo hep H locs hP hPm hD hS ls (lv_sub hl [2, 3, 4, 5, 6] rfl)
  ·
    refine zi_push M dL_law_1741 ?_
    refine zi_goto (tgt := 1746) M dL_law_1742 (by decide) ?_
    refine lv_aload_n M.1 M.2.1 dL_law_1746 rfl (lv_at hl 3 rfl) ?_
    refine z_cW2 (zx_runH (As := [.ref (ad 0), .int (iI (xZ xs (i + 1))), .int (iI (xZ xs (i + 2))), .int (iI (xZ xs (i + 3))), .int (iI 1), .ref (od 0)]) (rest := []) M (c_L_usable l hst D cy z0 ad od fm fr h su st sh fl (ur 0) (ur 1) (ur 2) (ur 3) (ur 4) (ur 5) (ur 6) (ur 7) o cS cH (dnD h fl) (dnE h cS) (dnF h su st) sea noi (xZ xs (i + 1)) (xZ xs (i + 2)) (xZ xs (i + 3)) 1 (by omega) (by omega) (by omega) (by omega) (dnD_rg h_fl) (dnE_rg g_cS) (dnF_rg h_su h_st) g_sea) hE hN hS hAz (z_cut hP (zD_l hD) hAz [0, 1, 2, 3, 4, 5, 6, 7, 15, 16, 17, 18, 43] rfl (by decide +kernel)) zk_cw_L_usable zk_in_RL zk_st_L_usable zk_ml_RL_187 rfl rfl zd_L_usable ⟨by decide, by decide⟩ rfl hl.1 rfl (Nat.le_of_ble_eq_true rfl) dL_law_1747 ⟨by show _ ≤ 601024; omega, by show _ ≤ 7293034; omega⟩) hP hPm hD hS [0, 1, 2, 3, 4, 5, 6, 7, 15, 16, 17, 18, 43] rfl (fun _ => by simp only [List.map_append, airW_adr, grdW_adr, outW_adr, rayW_adr, rooW_adr]) (fun r_22 u_22 H locs hp_22 hP hPm hD hS => ?_)
    have hP : va_P D vwCl ((rooW ad 0 cy fm fr) ++ ((airW ad 1 cy h su st sh fl cS cH (dnD h fl) (dnE h cS) (dnF h su st)) ++ ((airW ad 8 cy h su 0 0 0 (fun _ => 0) (fun _ => 0) (dnD h 0) (dnE h (fun _ => 0)) (dnF h su 0)) ++ ((grdW ad 15 cy sea noi) ++ ((rayW ad 18 cy (u_22.2.2 0) (u_22.2.2 1) (u_22.2.2 2) (u_22.2.2 3) (u_22.2.2 4) (u_22.2.2 5) (u_22.2.2 6) (u_22.2.2 7)) ++ ((sndW ad 19 cy 12 sn pl pw an hd fq) ++ ((sndW ad 25 cy 6 bn bp bw ban bhd bo) ++ ((conW ad 31 cy cm c1 c2 c3 c4 c5) ++ ((entW ad 37 cy em ep e1 e2 e3 e4 e5) ++ (outW od 0 cy u_22.2.1)))))))))) H := hP
    have hD : va_D (fun q => z0 ≤ q) (((rooW ad 0 cy fm fr) ++ ((airW ad 1 cy h su st sh fl cS cH (dnD h fl) (dnE h cS) (dnF h su st)) ++ ((airW ad 8 cy h su 0 0 0 (fun _ => 0) (fun _ => 0) (dnD h 0) (dnE h (fun _ => 0)) (dnF h su 0)) ++ ((grdW ad 15 cy sea noi) ++ ((rayW ad 18 cy (u_22.2.2 0) (u_22.2.2 1) (u_22.2.2 2) (u_22.2.2 3) (u_22.2.2 4) (u_22.2.2 5) (u_22.2.2 6) (u_22.2.2 7)) ++ ((sndW ad 19 cy 12 sn pl pw an hd fq) ++ ((sndW ad 25 cy 6 bn bp bw ban bhd bo) ++ ((conW ad 31 cy cm c1 c2 c3 c4 c5) ++ ((entW ad 37 cy em ep e1 e2 e3 e4 e5) ++ (outW od 0 cy u_22.2.1)))))))))) ++ (mdlW bd 0 cy th h su st sh fl 0 sn bn fm fr cm em lg le lf dl cS cH sea noi pl pw an hd bp bo bw c1 c2 c3 c4 c5 e1 e2 e3 e4 e5)) := hD
    obtain ⟨u1_22, u2_22, u3_22⟩ := u_22
    dsimp only at hp_22
    rcases hp_22 with ⟨rfl, rfl, hN_22, v_22, hq_22, hv_22⟩ | ⟨rfl, rfl, hN_22, hv_22⟩ | ⟨rfl, rfl, hN_22, hv_22⟩
    ·
      subst hv_22
      have hP : va_P D vwCl ((rooW ad 0 cy fm fr) ++ ((airW ad 1 cy h su st sh fl cS cH (dnD h fl) (dnE h cS) (dnF h su st)) ++ ((airW ad 8 cy h su 0 0 0 (fun _ => 0) (fun _ => 0) (dnD h 0) (dnE h (fun _ => 0)) (dnF h su 0)) ++ ((grdW ad 15 cy sea noi) ++ ((rayW ad 18 cy (u3_22 0) (u3_22 1) (u3_22 2) (u3_22 3) (u3_22 4) (u3_22 5) (u3_22 6) (u3_22 7)) ++ ((sndW ad 19 cy 12 sn pl pw an hd fq) ++ ((sndW ad 25 cy 6 bn bp bw ban bhd bo) ++ ((conW ad 31 cy cm c1 c2 c3 c4 c5) ++ ((entW ad 37 cy em ep e1 e2 e3 e4 e5) ++ (outW od 0 cy u2_22)))))))))) H := hP
      have hD : va_D (fun q => z0 ≤ q) (((rooW ad 0 cy fm fr) ++ ((airW ad 1 cy h su st sh fl cS cH (dnD h fl) (dnE h cS) (dnF h su st)) ++ ((airW ad 8 cy h su 0 0 0 (fun _ => 0) (fun _ => 0) (dnD h 0) (dnE h (fun _ => 0)) (dnF h su 0)) ++ ((grdW ad 15 cy sea noi) ++ ((rayW ad 18 cy (u3_22 0) (u3_22 1) (u3_22 2) (u3_22 3) (u3_22 4) (u3_22 5) (u3_22 6) (u3_22 7)) ++ ((sndW ad 19 cy 12 sn pl pw an hd fq) ++ ((sndW ad 25 cy 6 bn bp bw ban bhd bo) ++ ((conW ad 31 cy cm c1 c2 c3 c4 c5) ++ ((entW ad 37 cy em ep e1 e2 e3 e4 e5) ++ (outW od 0 cy u2_22)))))))))) ++ (mdlW bd 0 cy th h su st sh fl 0 sn bn fm fr cm em lg le lf dl cS cH sea noi pl pw an hd bp bo bw c1 c2 c3 c4 c5 e1 e2 e3 e4 e5)) := hD
      refine lv_istore (lv' := [(5, .int (iI 0)), (0, .ref (b)), (1, .ref (ad 0)), (2, .ref (bd 0)), (3, .ref (od 0)), (4, .int (iI i))]) M.1 M.2.1 dL_law_1750 hl (by decide) rfl (fun ls hl => ?_)
      refine lv_aload_n M.1 M.2.1 dL_law_1752 rfl (lv_at hl 3 rfl) ?_
      refine lv_aload_n M.1 M.2.1 dL_law_1753 rfl (lv_at hl 1 rfl) ?_
      refine lv_iload M.1 M.2.1 dL_law_1754 (lv_at hl 5 rfl) ?_
      refine zi_push M dL_law_1756 ?_
      refine zi_iadd M dL_law_1757 ?_
      refine zi_sld M hX hbl hbA hS hL (by omega) (by omega) dL_law_1758 ?_
      have hx_23 := xZ_rg xs (i + 1)
      refine lv_aload_n M.1 M.2.1 dL_law_1759 rfl (lv_at hl 1 rfl) ?_
      refine lv_iload M.1 M.2.1 dL_law_1760 (lv_at hl 5 rfl) ?_
      refine zi_push M dL_law_1762 ?_
      refine zi_iadd M dL_law_1763 ?_
      refine zi_sld M hX hbl hbA hS hL (by omega) (by omega) dL_law_1764 ?_
      have hx_24 := xZ_rg xs (i + 2)
      refine lv_aload_n M.1 M.2.1 dL_law_1765 rfl (lv_at hl 1 rfl) ?_
      refine lv_iload M.1 M.2.1 dL_law_1766 (lv_at hl 5 rfl) ?_
      refine zi_push M dL_law_1768 ?_
      refine zi_iadd M dL_law_1769 ?_
      refine zi_sld M hX hbl hbA hS hL (by omega) (by omega) dL_law_1770 ?_
      have hx_25 := xZ_rg xs (i + 3)
      refine lv_aload_n M.1 M.2.1 dL_law_1771 rfl (lv_at hl 1 rfl) ?_
      refine lv_iload M.1 M.2.1 dL_law_1772 (lv_at hl 5 rfl) ?_
      refine zi_push M dL_law_1774 ?_
      refine zi_iadd M dL_law_1775 ?_
      refine zi_sld M hX hbl hbA hS hL (by omega) (by omega) dL_law_1776 ?_
      have hx_26 := xZ_rg xs (i + 4)
      refine zi_if_eq (tgt := 1784) M dL_law_1777 (by decide) (by omega) (fun q => absurd q c_5) (fun _ => ?_)
      refine zi_push M dL_law_1780 ?_
      refine zi_goto (tgt := 1785) M dL_law_1781 (by decide) ?_
      have hPx := hP
      have hP := hPm
      have hPm := hPx
      have hD := zD_c hD
      refine z_cW2 (z_runV (As := [.int (iI (xZ xs (i + 1))), .int (iI (xZ xs (i + 2))), .int (iI (xZ xs (i + 3))), .int (iI 1)]) (rest := []) M (c_X7_usable l D cy z0 bd th h su st sh fl 0 sn bn fm fr cm em lg le lf dl cS cH sea noi pl pw an hd bp bo bw c1 c2 c3 c4 c5 e1 e2 e3 e4 e5 (xZ xs (i + 1)) (xZ xs (i + 2)) (xZ xs (i + 3)) 1 (by omega) (by omega) (by omega) (by omega) (by omega) (by omega) (by omega) (by omega) g_cS (by omega) g_sea) hE hS hAz (z_cut hP (zD_l hD) hAz [0, 1, 2, 3, 4, 5, 6, 7, 8, 9, 10, 11, 12, 13, 14, 15, 16, 17, 18, 19, 20, 21] rfl (by decide +kernel)) (zRc.of (ci := 7) (q0 := 0) hE hP rfl rfl) zk_cd_X7_usable zk_in_RX7 zk_im_X7_usable zk_se_X7_usable zk_ml_RL_190 rfl rfl zd_X7_usable ⟨by decide, by decide⟩ rfl hl.1 rfl (Nat.le_of_ble_eq_true rfl) dL_law_1785 ⟨by show _ ≤ 601024; omega, by show _ ≤ 7293034; omega⟩) hP hPm hD hS [0, 1, 2, 3, 4, 5, 6, 7, 8, 9, 10, 11, 12, 13, 14, 15, 16, 17, 18, 19, 20, 21] rfl (fun _ => by simp only [List.map_append, mdlW_adr]) (fun r_27 u_27 H locs hp_27 hP hPm hD hS => ?_)
      try simp only [mdD_0, mdE_0, mdF_0, mdD_1, mdE_1, mdF_1] at hp_27
      have hP : va_P D vwCl (mdlW bd 0 cy (u_27 4) h su st sh fl 0 sn bn fm fr cm em (u_27 0) (u_27 1) (u_27 2) (u_27 3) cS cH sea noi pl pw an hd bp bo bw c1 c2 c3 c4 c5 e1 e2 e3 e4 e5) H := hP
      have hD : va_D (fun q => z0 ≤ q) ((mdlW bd 0 cy (u_27 4) h su st sh fl 0 sn bn fm fr cm em (u_27 0) (u_27 1) (u_27 2) (u_27 3) cS cH sea noi pl pw an hd bp bo bw c1 c2 c3 c4 c5 e1 e2 e3 e4 e5) ++ ((rooW ad 0 cy fm fr) ++ ((airW ad 1 cy h su st sh fl cS cH (dnD h fl) (dnE h cS) (dnF h su st)) ++ ((airW ad 8 cy h su 0 0 0 (fun _ => 0) (fun _ => 0) (dnD h 0) (dnE h (fun _ => 0)) (dnF h su 0)) ++ ((grdW ad 15 cy sea noi) ++ ((rayW ad 18 cy (u3_22 0) (u3_22 1) (u3_22 2) (u3_22 3) (u3_22 4) (u3_22 5) (u3_22 6) (u3_22 7)) ++ ((sndW ad 19 cy 12 sn pl pw an hd fq) ++ ((sndW ad 25 cy 6 bn bp bw ban bhd bo) ++ ((conW ad 31 cy cm c1 c2 c3 c4 c5) ++ ((entW ad 37 cy em ep e1 e2 e3 e4 e5) ++ (outW od 0 cy u2_22))))))))))) := hD
      rcases hp_27 with ⟨xa_27, xb_27, xc_27, xd_27, rfl, hN_27, v_27, hq_27, rfl⟩ | ⟨rfl, hN_27, rfl⟩ | ⟨rfl, hN_27, rfl⟩
      ·
        have hP : va_P D vwCl (mdlW bd 0 cy 0 h su st sh fl 0 sn bn fm fr cm em xa_27 xb_27 xc_27 xd_27 cS cH sea noi pl pw an hd bp bo bw c1 c2 c3 c4 c5 e1 e2 e3 e4 e5) H := hP
        have hD : va_D (fun q => z0 ≤ q) ((mdlW bd 0 cy 0 h su st sh fl 0 sn bn fm fr cm em xa_27 xb_27 xc_27 xd_27 cS cH sea noi pl pw an hd bp bo bw c1 c2 c3 c4 c5 e1 e2 e3 e4 e5) ++ ((rooW ad 0 cy fm fr) ++ ((airW ad 1 cy h su st sh fl cS cH (dnD h fl) (dnE h cS) (dnF h su st)) ++ ((airW ad 8 cy h su 0 0 0 (fun _ => 0) (fun _ => 0) (dnD h 0) (dnE h (fun _ => 0)) (dnF h su 0)) ++ ((grdW ad 15 cy sea noi) ++ ((rayW ad 18 cy (u3_22 0) (u3_22 1) (u3_22 2) (u3_22 3) (u3_22 4) (u3_22 5) (u3_22 6) (u3_22 7)) ++ ((sndW ad 19 cy 12 sn pl pw an hd fq) ++ ((sndW ad 25 cy 6 bn bp bw ban bhd bo) ++ ((conW ad 31 cy cm c1 c2 c3 c4 c5) ++ ((entW ad 37 cy em ep e1 e2 e3 e4 e5) ++ (outW od 0 cy u2_22))))))))))) := hD
        have hy1 := isUse_uniq hq_22 hq_27
        subst hy1
        refine lv_istore (lv' := [(6, .int (iI u2_22)), (5, .int (iI 0)), (0, .ref (b)), (1, .ref (ad 0)), (2, .ref (bd 0)), (3, .ref (od 0)), (4, .int (iI i))]) M.1 M.2.1 dL_law_1788 hl (by decide) rfl (fun ls hl => ?_)
        refine lv_aload_n M.1 M.2.1 dL_law_1790 rfl (lv_at hl 4 rfl) ?_
        refine z_cR (z_runV (As := []) (rest := []) M (c_X7_thrown l D cy z0 bd 0 h su st sh fl 0 sn bn fm fr cm em xa_27 xb_27 xc_27 xd_27 cS cH sea noi pl pw an hd bp bo bw c1 c2 c3 c4 c5 e1 e2 e3 e4 e5) hE hS hAz hP (zRc.of (ci := 7) (q0 := 0) hE hP rfl rfl) zk_cd_X7_thrown zk_in_RX7 zk_im_X7_thrown zk_se_X7_thrown zk_ml_RL_116 rfl rfl zd_X7_thrown ⟨by decide, by decide⟩ rfl hl.1 rfl (Nat.le_of_ble_eq_true rfl) dL_law_1791 ⟨by show _ ≤ 601024; omega, by show _ ≤ 7293034; omega⟩) ?_
        refine lv_iload M.1 M.2.1 dL_law_1794 (lv_at hl 1 rfl) ?_
        refine zi_same (tgt := 1801) M dL_law_1796 (by decide) ?_
        refine lv_iload M.1 M.2.1 dL_law_1801 (lv_at hl 1 rfl) ?_
        refine zi_if_ne (tgt := 1818) M dL_law_1803 (by decide) ⟨by decide, by decide⟩ (fun q => absurd q (by decide)) (fun _ => ?_)
        refine lv_aload_n M.1 M.2.1 dL_law_1806 rfl (lv_at hl 5 rfl) ?_
        refine zi_push M dL_law_1807 ?_
        refine zi_lald M hE hPm 43 rfl dL_law_1808 ?_
        refine lv_iload M.1 M.2.1 dL_law_1809 (lv_at hl 0 rfl) ?_
        refine zi_i2l M dL_law_1811 ?_
        refine zi_lcmpE M dL_law_1812 ?_
        refine zi_if_eq (tgt := 1818) M dL_law_1813 (by decide) ⟨by decide, by decide⟩ (fun _ => ?_) (fun q => absurd q (by decide))
        refine zi_goto (tgt := 2286) M dL_law_1818 (by decide) ?_
        have hPx := hP
        have hP := hPm
        have hPm := hPx
        have hD := zD_c hD
        refine W.widen (k := cells + 6) (n := slots + 36) (by omega) (by omega) ?_
        exact hback h su st sh fl sn bn cm em ep fm fr 0 u2_22 xa_27 xb_27 xc_27 xd_27 cS cH sea noi pl pw an hd fq bp bw ban bhd bo c1 c2 c3 c4 c5 e1 e2 e3 e4 e5 u3_22 h_h h_su h_st h_sh h_fl h_sn h_bn h_cm h_em g_cS g_cH g_sea g_noi g_pl g_pw g_an g_hd g_bp g_bw g_ban g_bhd g_c1 g_c2 g_c3 g_c4 g_c5 g_e1 g_e2 g_e3 g_e4 g_e5 hbo hep H locs hP hPm hD hS ls (lv_sub hl [2, 3, 4, 5, 6] rfl)
      ·
        have hP : va_P D vwCl (mdlW bd 0 cy 1 h su st sh fl 0 sn bn fm fr cm em lg le lf dl cS cH sea noi pl pw an hd bp bo bw c1 c2 c3 c4 c5 e1 e2 e3 e4 e5) H := hP
        have hD : va_D (fun q => z0 ≤ q) ((mdlW bd 0 cy 1 h su st sh fl 0 sn bn fm fr cm em lg le lf dl cS cH sea noi pl pw an hd bp bo bw c1 c2 c3 c4 c5 e1 e2 e3 e4 e5) ++ ((rooW ad 0 cy fm fr) ++ ((airW ad 1 cy h su st sh fl cS cH (dnD h fl) (dnE h cS) (dnF h su st)) ++ ((airW ad 8 cy h su 0 0 0 (fun _ => 0) (fun _ => 0) (dnD h 0) (dnE h (fun _ => 0)) (dnF h su 0)) ++ ((grdW ad 15 cy sea noi) ++ ((rayW ad 18 cy (u3_22 0) (u3_22 1) (u3_22 2) (u3_22 3) (u3_22 4) (u3_22 5) (u3_22 6) (u3_22 7)) ++ ((sndW ad 19 cy 12 sn pl pw an hd fq) ++ ((sndW ad 25 cy 6 bn bp bw ban bhd bo) ++ ((conW ad 31 cy cm c1 c2 c3 c4 c5) ++ ((entW ad 37 cy em ep e1 e2 e3 e4 e5) ++ (outW od 0 cy u2_22))))))))))) := hD
        exfalso
        omega
      ·
        have hP : va_P D vwCl (mdlW bd 0 cy 2 h su st sh fl 0 sn bn fm fr cm em lg le lf dl cS cH sea noi pl pw an hd bp bo bw c1 c2 c3 c4 c5 e1 e2 e3 e4 e5) H := hP
        have hD : va_D (fun q => z0 ≤ q) ((mdlW bd 0 cy 2 h su st sh fl 0 sn bn fm fr cm em lg le lf dl cS cH sea noi pl pw an hd bp bo bw c1 c2 c3 c4 c5 e1 e2 e3 e4 e5) ++ ((rooW ad 0 cy fm fr) ++ ((airW ad 1 cy h su st sh fl cS cH (dnD h fl) (dnE h cS) (dnF h su st)) ++ ((airW ad 8 cy h su 0 0 0 (fun _ => 0) (fun _ => 0) (dnD h 0) (dnE h (fun _ => 0)) (dnF h su 0)) ++ ((grdW ad 15 cy sea noi) ++ ((rayW ad 18 cy (u3_22 0) (u3_22 1) (u3_22 2) (u3_22 3) (u3_22 4) (u3_22 5) (u3_22 6) (u3_22 7)) ++ ((sndW ad 19 cy 12 sn pl pw an hd fq) ++ ((sndW ad 25 cy 6 bn bp bw ban bhd bo) ++ ((conW ad 31 cy cm c1 c2 c3 c4 c5) ++ ((entW ad 37 cy em ep e1 e2 e3 e4 e5) ++ (outW od 0 cy u2_22))))))))))) := hD
        exfalso
        omega
    ·
      have hw_22 := hv_22.symm
      subst hw_22
      have hP : va_P D vwCl ((rooW ad 0 cy fm fr) ++ ((airW ad 1 cy h su st sh fl cS cH (dnD h fl) (dnE h cS) (dnF h su st)) ++ ((airW ad 8 cy h su 0 0 0 (fun _ => 0) (fun _ => 0) (dnD h 0) (dnE h (fun _ => 0)) (dnF h su 0)) ++ ((grdW ad 15 cy sea noi) ++ ((rayW ad 18 cy (u3_22 0) (u3_22 1) (u3_22 2) (u3_22 3) (u3_22 4) (u3_22 5) (u3_22 6) (u3_22 7)) ++ ((sndW ad 19 cy 12 sn pl pw an hd fq) ++ ((sndW ad 25 cy 6 bn bp bw ban bhd bo) ++ ((conW ad 31 cy cm c1 c2 c3 c4 c5) ++ ((entW ad 37 cy em ep e1 e2 e3 e4 e5) ++ (outW od 0 cy o)))))))))) H := hP
      have hD : va_D (fun q => z0 ≤ q) (((rooW ad 0 cy fm fr) ++ ((airW ad 1 cy h su st sh fl cS cH (dnD h fl) (dnE h cS) (dnF h su st)) ++ ((airW ad 8 cy h su 0 0 0 (fun _ => 0) (fun _ => 0) (dnD h 0) (dnE h (fun _ => 0)) (dnF h su 0)) ++ ((grdW ad 15 cy sea noi) ++ ((rayW ad 18 cy (u3_22 0) (u3_22 1) (u3_22 2) (u3_22 3) (u3_22 4) (u3_22 5) (u3_22 6) (u3_22 7)) ++ ((sndW ad 19 cy 12 sn pl pw an hd fq) ++ ((sndW ad 25 cy 6 bn bp bw ban bhd bo) ++ ((conW ad 31 cy cm c1 c2 c3 c4 c5) ++ ((entW ad 37 cy em ep e1 e2 e3 e4 e5) ++ (outW od 0 cy o)))))))))) ++ (mdlW bd 0 cy th h su st sh fl 0 sn bn fm fr cm em lg le lf dl cS cH sea noi pl pw an hd bp bo bw c1 c2 c3 c4 c5 e1 e2 e3 e4 e5)) := hD
      refine lv_istore (lv' := [(5, .int (iI 1)), (0, .ref (b)), (1, .ref (ad 0)), (2, .ref (bd 0)), (3, .ref (od 0)), (4, .int (iI i))]) M.1 M.2.1 dL_law_1750 hl (by decide) rfl (fun ls hl => ?_)
      refine lv_aload_n M.1 M.2.1 dL_law_1752 rfl (lv_at hl 3 rfl) ?_
      refine lv_aload_n M.1 M.2.1 dL_law_1753 rfl (lv_at hl 1 rfl) ?_
      refine lv_iload M.1 M.2.1 dL_law_1754 (lv_at hl 5 rfl) ?_
      refine zi_push M dL_law_1756 ?_
      refine zi_iadd M dL_law_1757 ?_
      refine zi_sld M hX hbl hbA hS hL (by omega) (by omega) dL_law_1758 ?_
      have hx_28 := xZ_rg xs (i + 1)
      refine lv_aload_n M.1 M.2.1 dL_law_1759 rfl (lv_at hl 1 rfl) ?_
      refine lv_iload M.1 M.2.1 dL_law_1760 (lv_at hl 5 rfl) ?_
      refine zi_push M dL_law_1762 ?_
      refine zi_iadd M dL_law_1763 ?_
      refine zi_sld M hX hbl hbA hS hL (by omega) (by omega) dL_law_1764 ?_
      have hx_29 := xZ_rg xs (i + 2)
      refine lv_aload_n M.1 M.2.1 dL_law_1765 rfl (lv_at hl 1 rfl) ?_
      refine lv_iload M.1 M.2.1 dL_law_1766 (lv_at hl 5 rfl) ?_
      refine zi_push M dL_law_1768 ?_
      refine zi_iadd M dL_law_1769 ?_
      refine zi_sld M hX hbl hbA hS hL (by omega) (by omega) dL_law_1770 ?_
      have hx_30 := xZ_rg xs (i + 3)
      refine lv_aload_n M.1 M.2.1 dL_law_1771 rfl (lv_at hl 1 rfl) ?_
      refine lv_iload M.1 M.2.1 dL_law_1772 (lv_at hl 5 rfl) ?_
      refine zi_push M dL_law_1774 ?_
      refine zi_iadd M dL_law_1775 ?_
      refine zi_sld M hX hbl hbA hS hL (by omega) (by omega) dL_law_1776 ?_
      have hx_31 := xZ_rg xs (i + 4)
      refine zi_if_eq (tgt := 1784) M dL_law_1777 (by decide) (by omega) (fun q => absurd q c_5) (fun _ => ?_)
      refine zi_push M dL_law_1780 ?_
      refine zi_goto (tgt := 1785) M dL_law_1781 (by decide) ?_
      have hPx := hP
      have hP := hPm
      have hPm := hPx
      have hD := zD_c hD
      refine z_cW2 (z_runV (As := [.int (iI (xZ xs (i + 1))), .int (iI (xZ xs (i + 2))), .int (iI (xZ xs (i + 3))), .int (iI 1)]) (rest := []) M (c_X7_usable l D cy z0 bd th h su st sh fl 0 sn bn fm fr cm em lg le lf dl cS cH sea noi pl pw an hd bp bo bw c1 c2 c3 c4 c5 e1 e2 e3 e4 e5 (xZ xs (i + 1)) (xZ xs (i + 2)) (xZ xs (i + 3)) 1 (by omega) (by omega) (by omega) (by omega) (by omega) (by omega) (by omega) (by omega) g_cS (by omega) g_sea) hE hS hAz (z_cut hP (zD_l hD) hAz [0, 1, 2, 3, 4, 5, 6, 7, 8, 9, 10, 11, 12, 13, 14, 15, 16, 17, 18, 19, 20, 21] rfl (by decide +kernel)) (zRc.of (ci := 7) (q0 := 0) hE hP rfl rfl) zk_cd_X7_usable zk_in_RX7 zk_im_X7_usable zk_se_X7_usable zk_ml_RL_190 rfl rfl zd_X7_usable ⟨by decide, by decide⟩ rfl hl.1 rfl (Nat.le_of_ble_eq_true rfl) dL_law_1785 ⟨by show _ ≤ 601024; omega, by show _ ≤ 7293034; omega⟩) hP hPm hD hS [0, 1, 2, 3, 4, 5, 6, 7, 8, 9, 10, 11, 12, 13, 14, 15, 16, 17, 18, 19, 20, 21] rfl (fun _ => by simp only [List.map_append, mdlW_adr]) (fun r_32 u_32 H locs hp_32 hP hPm hD hS => ?_)
      try simp only [mdD_0, mdE_0, mdF_0, mdD_1, mdE_1, mdF_1] at hp_32
      have hP : va_P D vwCl (mdlW bd 0 cy (u_32 4) h su st sh fl 0 sn bn fm fr cm em (u_32 0) (u_32 1) (u_32 2) (u_32 3) cS cH sea noi pl pw an hd bp bo bw c1 c2 c3 c4 c5 e1 e2 e3 e4 e5) H := hP
      have hD : va_D (fun q => z0 ≤ q) ((mdlW bd 0 cy (u_32 4) h su st sh fl 0 sn bn fm fr cm em (u_32 0) (u_32 1) (u_32 2) (u_32 3) cS cH sea noi pl pw an hd bp bo bw c1 c2 c3 c4 c5 e1 e2 e3 e4 e5) ++ ((rooW ad 0 cy fm fr) ++ ((airW ad 1 cy h su st sh fl cS cH (dnD h fl) (dnE h cS) (dnF h su st)) ++ ((airW ad 8 cy h su 0 0 0 (fun _ => 0) (fun _ => 0) (dnD h 0) (dnE h (fun _ => 0)) (dnF h su 0)) ++ ((grdW ad 15 cy sea noi) ++ ((rayW ad 18 cy (u3_22 0) (u3_22 1) (u3_22 2) (u3_22 3) (u3_22 4) (u3_22 5) (u3_22 6) (u3_22 7)) ++ ((sndW ad 19 cy 12 sn pl pw an hd fq) ++ ((sndW ad 25 cy 6 bn bp bw ban bhd bo) ++ ((conW ad 31 cy cm c1 c2 c3 c4 c5) ++ ((entW ad 37 cy em ep e1 e2 e3 e4 e5) ++ (outW od 0 cy o))))))))))) := hD
      rcases hp_32 with ⟨xa_32, xb_32, xc_32, xd_32, rfl, hN_32, v_32, hq_32, rfl⟩ | ⟨rfl, hN_32, rfl⟩ | ⟨rfl, hN_32, rfl⟩
      ·
        have hP : va_P D vwCl (mdlW bd 0 cy 0 h su st sh fl 0 sn bn fm fr cm em xa_32 xb_32 xc_32 xd_32 cS cH sea noi pl pw an hd bp bo bw c1 c2 c3 c4 c5 e1 e2 e3 e4 e5) H := hP
        have hD : va_D (fun q => z0 ≤ q) ((mdlW bd 0 cy 0 h su st sh fl 0 sn bn fm fr cm em xa_32 xb_32 xc_32 xd_32 cS cH sea noi pl pw an hd bp bo bw c1 c2 c3 c4 c5 e1 e2 e3 e4 e5) ++ ((rooW ad 0 cy fm fr) ++ ((airW ad 1 cy h su st sh fl cS cH (dnD h fl) (dnE h cS) (dnF h su st)) ++ ((airW ad 8 cy h su 0 0 0 (fun _ => 0) (fun _ => 0) (dnD h 0) (dnE h (fun _ => 0)) (dnF h su 0)) ++ ((grdW ad 15 cy sea noi) ++ ((rayW ad 18 cy (u3_22 0) (u3_22 1) (u3_22 2) (u3_22 3) (u3_22 4) (u3_22 5) (u3_22 6) (u3_22 7)) ++ ((sndW ad 19 cy 12 sn pl pw an hd fq) ++ ((sndW ad 25 cy 6 bn bp bw ban bhd bo) ++ ((conW ad 31 cy cm c1 c2 c3 c4 c5) ++ ((entW ad 37 cy em ep e1 e2 e3 e4 e5) ++ (outW od 0 cy o))))))))))) := hD
        exfalso
        omega
      ·
        have hP : va_P D vwCl (mdlW bd 0 cy 1 h su st sh fl 0 sn bn fm fr cm em lg le lf dl cS cH sea noi pl pw an hd bp bo bw c1 c2 c3 c4 c5 e1 e2 e3 e4 e5) H := hP
        have hD : va_D (fun q => z0 ≤ q) ((mdlW bd 0 cy 1 h su st sh fl 0 sn bn fm fr cm em lg le lf dl cS cH sea noi pl pw an hd bp bo bw c1 c2 c3 c4 c5 e1 e2 e3 e4 e5) ++ ((rooW ad 0 cy fm fr) ++ ((airW ad 1 cy h su st sh fl cS cH (dnD h fl) (dnE h cS) (dnF h su st)) ++ ((airW ad 8 cy h su 0 0 0 (fun _ => 0) (fun _ => 0) (dnD h 0) (dnE h (fun _ => 0)) (dnF h su 0)) ++ ((grdW ad 15 cy sea noi) ++ ((rayW ad 18 cy (u3_22 0) (u3_22 1) (u3_22 2) (u3_22 3) (u3_22 4) (u3_22 5) (u3_22 6) (u3_22 7)) ++ ((sndW ad 19 cy 12 sn pl pw an hd fq) ++ ((sndW ad 25 cy 6 bn bp bw ban bhd bo) ++ ((conW ad 31 cy cm c1 c2 c3 c4 c5) ++ ((entW ad 37 cy em ep e1 e2 e3 e4 e5) ++ (outW od 0 cy o))))))))))) := hD
        refine lv_istore (lv' := [(6, .int (iI 0)), (5, .int (iI 1)), (0, .ref (b)), (1, .ref (ad 0)), (2, .ref (bd 0)), (3, .ref (od 0)), (4, .int (iI i))]) M.1 M.2.1 dL_law_1788 hl (by decide) rfl (fun ls hl => ?_)
        refine lv_aload_n M.1 M.2.1 dL_law_1790 rfl (lv_at hl 4 rfl) ?_
        refine z_cR (z_runV (As := []) (rest := []) M (c_X7_thrown l D cy z0 bd 1 h su st sh fl 0 sn bn fm fr cm em lg le lf dl cS cH sea noi pl pw an hd bp bo bw c1 c2 c3 c4 c5 e1 e2 e3 e4 e5) hE hS hAz hP (zRc.of (ci := 7) (q0 := 0) hE hP rfl rfl) zk_cd_X7_thrown zk_in_RX7 zk_im_X7_thrown zk_se_X7_thrown zk_ml_RL_116 rfl rfl zd_X7_thrown ⟨by decide, by decide⟩ rfl hl.1 rfl (Nat.le_of_ble_eq_true rfl) dL_law_1791 ⟨by show _ ≤ 601024; omega, by show _ ≤ 7293034; omega⟩) ?_
        refine lv_iload M.1 M.2.1 dL_law_1794 (lv_at hl 1 rfl) ?_
        refine zi_same (tgt := 1801) M dL_law_1796 (by decide) ?_
        refine lv_iload M.1 M.2.1 dL_law_1801 (lv_at hl 1 rfl) ?_
        refine zi_if_ne (tgt := 1818) M dL_law_1803 (by decide) ⟨by decide, by decide⟩ (fun _ => ?_) (fun q => absurd q (by decide))
        refine zi_goto (tgt := 2286) M dL_law_1818 (by decide) ?_
        have hPx := hP
        have hP := hPm
        have hPm := hPx
        have hD := zD_c hD
        refine W.widen (k := cells + 6) (n := slots + 36) (by omega) (by omega) ?_
        exact hback h su st sh fl sn bn cm em ep fm fr 1 o lg le lf dl cS cH sea noi pl pw an hd fq bp bw ban bhd bo c1 c2 c3 c4 c5 e1 e2 e3 e4 e5 u3_22 h_h h_su h_st h_sh h_fl h_sn h_bn h_cm h_em g_cS g_cH g_sea g_noi g_pl g_pw g_an g_hd g_bp g_bw g_ban g_bhd g_c1 g_c2 g_c3 g_c4 g_c5 g_e1 g_e2 g_e3 g_e4 g_e5 hbo hep H locs hP hPm hD hS ls (lv_sub hl [2, 3, 4, 5, 6] rfl)
      ·
        have hP : va_P D vwCl (mdlW bd 0 cy 2 h su st sh fl 0 sn bn fm fr cm em lg le lf dl cS cH sea noi pl pw an hd bp bo bw c1 c2 c3 c4 c5 e1 e2 e3 e4 e5) H := hP
        have hD : va_D (fun q => z0 ≤ q) ((mdlW bd 0 cy 2 h su st sh fl 0 sn bn fm fr cm em lg le lf dl cS cH sea noi pl pw an hd bp bo bw c1 c2 c3 c4 c5 e1 e2 e3 e4 e5) ++ ((rooW ad 0 cy fm fr) ++ ((airW ad 1 cy h su st sh fl cS cH (dnD h fl) (dnE h cS) (dnF h su st)) ++ ((airW ad 8 cy h su 0 0 0 (fun _ => 0) (fun _ => 0) (dnD h 0) (dnE h (fun _ => 0)) (dnF h su 0)) ++ ((grdW ad 15 cy sea noi) ++ ((rayW ad 18 cy (u3_22 0) (u3_22 1) (u3_22 2) (u3_22 3) (u3_22 4) (u3_22 5) (u3_22 6) (u3_22 7)) ++ ((sndW ad 19 cy 12 sn pl pw an hd fq) ++ ((sndW ad 25 cy 6 bn bp bw ban bhd bo) ++ ((conW ad 31 cy cm c1 c2 c3 c4 c5) ++ ((entW ad 37 cy em ep e1 e2 e3 e4 e5) ++ (outW od 0 cy o))))))))))) := hD
        exfalso
        omega
    ·
      have hw_22 := hv_22.symm
      subst hw_22
      have hP : va_P D vwCl ((rooW ad 0 cy fm fr) ++ ((airW ad 1 cy h su st sh fl cS cH (dnD h fl) (dnE h cS) (dnF h su st)) ++ ((airW ad 8 cy h su 0 0 0 (fun _ => 0) (fun _ => 0) (dnD h 0) (dnE h (fun _ => 0)) (dnF h su 0)) ++ ((grdW ad 15 cy sea noi) ++ ((rayW ad 18 cy (u3_22 0) (u3_22 1) (u3_22 2) (u3_22 3) (u3_22 4) (u3_22 5) (u3_22 6) (u3_22 7)) ++ ((sndW ad 19 cy 12 sn pl pw an hd fq) ++ ((sndW ad 25 cy 6 bn bp bw ban bhd bo) ++ ((conW ad 31 cy cm c1 c2 c3 c4 c5) ++ ((entW ad 37 cy em ep e1 e2 e3 e4 e5) ++ (outW od 0 cy o)))))))))) H := hP
      have hD : va_D (fun q => z0 ≤ q) (((rooW ad 0 cy fm fr) ++ ((airW ad 1 cy h su st sh fl cS cH (dnD h fl) (dnE h cS) (dnF h su st)) ++ ((airW ad 8 cy h su 0 0 0 (fun _ => 0) (fun _ => 0) (dnD h 0) (dnE h (fun _ => 0)) (dnF h su 0)) ++ ((grdW ad 15 cy sea noi) ++ ((rayW ad 18 cy (u3_22 0) (u3_22 1) (u3_22 2) (u3_22 3) (u3_22 4) (u3_22 5) (u3_22 6) (u3_22 7)) ++ ((sndW ad 19 cy 12 sn pl pw an hd fq) ++ ((sndW ad 25 cy 6 bn bp bw ban bhd bo) ++ ((conW ad 31 cy cm c1 c2 c3 c4 c5) ++ ((entW ad 37 cy em ep e1 e2 e3 e4 e5) ++ (outW od 0 cy o)))))))))) ++ (mdlW bd 0 cy th h su st sh fl 0 sn bn fm fr cm em lg le lf dl cS cH sea noi pl pw an hd bp bo bw c1 c2 c3 c4 c5 e1 e2 e3 e4 e5)) := hD
      refine lv_istore (lv' := [(5, .int (iI 2)), (0, .ref (b)), (1, .ref (ad 0)), (2, .ref (bd 0)), (3, .ref (od 0)), (4, .int (iI i))]) M.1 M.2.1 dL_law_1750 hl (by decide) rfl (fun ls hl => ?_)
      refine lv_aload_n M.1 M.2.1 dL_law_1752 rfl (lv_at hl 3 rfl) ?_
      refine lv_aload_n M.1 M.2.1 dL_law_1753 rfl (lv_at hl 1 rfl) ?_
      refine lv_iload M.1 M.2.1 dL_law_1754 (lv_at hl 5 rfl) ?_
      refine zi_push M dL_law_1756 ?_
      refine zi_iadd M dL_law_1757 ?_
      refine zi_sld M hX hbl hbA hS hL (by omega) (by omega) dL_law_1758 ?_
      have hx_33 := xZ_rg xs (i + 1)
      refine lv_aload_n M.1 M.2.1 dL_law_1759 rfl (lv_at hl 1 rfl) ?_
      refine lv_iload M.1 M.2.1 dL_law_1760 (lv_at hl 5 rfl) ?_
      refine zi_push M dL_law_1762 ?_
      refine zi_iadd M dL_law_1763 ?_
      refine zi_sld M hX hbl hbA hS hL (by omega) (by omega) dL_law_1764 ?_
      have hx_34 := xZ_rg xs (i + 2)
      refine lv_aload_n M.1 M.2.1 dL_law_1765 rfl (lv_at hl 1 rfl) ?_
      refine lv_iload M.1 M.2.1 dL_law_1766 (lv_at hl 5 rfl) ?_
      refine zi_push M dL_law_1768 ?_
      refine zi_iadd M dL_law_1769 ?_
      refine zi_sld M hX hbl hbA hS hL (by omega) (by omega) dL_law_1770 ?_
      have hx_35 := xZ_rg xs (i + 3)
      refine lv_aload_n M.1 M.2.1 dL_law_1771 rfl (lv_at hl 1 rfl) ?_
      refine lv_iload M.1 M.2.1 dL_law_1772 (lv_at hl 5 rfl) ?_
      refine zi_push M dL_law_1774 ?_
      refine zi_iadd M dL_law_1775 ?_
      refine zi_sld M hX hbl hbA hS hL (by omega) (by omega) dL_law_1776 ?_
      have hx_36 := xZ_rg xs (i + 4)
      refine zi_if_eq (tgt := 1784) M dL_law_1777 (by decide) (by omega) (fun q => absurd q c_5) (fun _ => ?_)
      refine zi_push M dL_law_1780 ?_
      refine zi_goto (tgt := 1785) M dL_law_1781 (by decide) ?_
      have hPx := hP
      have hP := hPm
      have hPm := hPx
      have hD := zD_c hD
      refine z_cW2 (z_runV (As := [.int (iI (xZ xs (i + 1))), .int (iI (xZ xs (i + 2))), .int (iI (xZ xs (i + 3))), .int (iI 1)]) (rest := []) M (c_X7_usable l D cy z0 bd th h su st sh fl 0 sn bn fm fr cm em lg le lf dl cS cH sea noi pl pw an hd bp bo bw c1 c2 c3 c4 c5 e1 e2 e3 e4 e5 (xZ xs (i + 1)) (xZ xs (i + 2)) (xZ xs (i + 3)) 1 (by omega) (by omega) (by omega) (by omega) (by omega) (by omega) (by omega) (by omega) g_cS (by omega) g_sea) hE hS hAz (z_cut hP (zD_l hD) hAz [0, 1, 2, 3, 4, 5, 6, 7, 8, 9, 10, 11, 12, 13, 14, 15, 16, 17, 18, 19, 20, 21] rfl (by decide +kernel)) (zRc.of (ci := 7) (q0 := 0) hE hP rfl rfl) zk_cd_X7_usable zk_in_RX7 zk_im_X7_usable zk_se_X7_usable zk_ml_RL_190 rfl rfl zd_X7_usable ⟨by decide, by decide⟩ rfl hl.1 rfl (Nat.le_of_ble_eq_true rfl) dL_law_1785 ⟨by show _ ≤ 601024; omega, by show _ ≤ 7293034; omega⟩) hP hPm hD hS [0, 1, 2, 3, 4, 5, 6, 7, 8, 9, 10, 11, 12, 13, 14, 15, 16, 17, 18, 19, 20, 21] rfl (fun _ => by simp only [List.map_append, mdlW_adr]) (fun r_37 u_37 H locs hp_37 hP hPm hD hS => ?_)
      try simp only [mdD_0, mdE_0, mdF_0, mdD_1, mdE_1, mdF_1] at hp_37
      have hP : va_P D vwCl (mdlW bd 0 cy (u_37 4) h su st sh fl 0 sn bn fm fr cm em (u_37 0) (u_37 1) (u_37 2) (u_37 3) cS cH sea noi pl pw an hd bp bo bw c1 c2 c3 c4 c5 e1 e2 e3 e4 e5) H := hP
      have hD : va_D (fun q => z0 ≤ q) ((mdlW bd 0 cy (u_37 4) h su st sh fl 0 sn bn fm fr cm em (u_37 0) (u_37 1) (u_37 2) (u_37 3) cS cH sea noi pl pw an hd bp bo bw c1 c2 c3 c4 c5 e1 e2 e3 e4 e5) ++ ((rooW ad 0 cy fm fr) ++ ((airW ad 1 cy h su st sh fl cS cH (dnD h fl) (dnE h cS) (dnF h su st)) ++ ((airW ad 8 cy h su 0 0 0 (fun _ => 0) (fun _ => 0) (dnD h 0) (dnE h (fun _ => 0)) (dnF h su 0)) ++ ((grdW ad 15 cy sea noi) ++ ((rayW ad 18 cy (u3_22 0) (u3_22 1) (u3_22 2) (u3_22 3) (u3_22 4) (u3_22 5) (u3_22 6) (u3_22 7)) ++ ((sndW ad 19 cy 12 sn pl pw an hd fq) ++ ((sndW ad 25 cy 6 bn bp bw ban bhd bo) ++ ((conW ad 31 cy cm c1 c2 c3 c4 c5) ++ ((entW ad 37 cy em ep e1 e2 e3 e4 e5) ++ (outW od 0 cy o))))))))))) := hD
      rcases hp_37 with ⟨xa_37, xb_37, xc_37, xd_37, rfl, hN_37, v_37, hq_37, rfl⟩ | ⟨rfl, hN_37, rfl⟩ | ⟨rfl, hN_37, rfl⟩
      ·
        have hP : va_P D vwCl (mdlW bd 0 cy 0 h su st sh fl 0 sn bn fm fr cm em xa_37 xb_37 xc_37 xd_37 cS cH sea noi pl pw an hd bp bo bw c1 c2 c3 c4 c5 e1 e2 e3 e4 e5) H := hP
        have hD : va_D (fun q => z0 ≤ q) ((mdlW bd 0 cy 0 h su st sh fl 0 sn bn fm fr cm em xa_37 xb_37 xc_37 xd_37 cS cH sea noi pl pw an hd bp bo bw c1 c2 c3 c4 c5 e1 e2 e3 e4 e5) ++ ((rooW ad 0 cy fm fr) ++ ((airW ad 1 cy h su st sh fl cS cH (dnD h fl) (dnE h cS) (dnF h su st)) ++ ((airW ad 8 cy h su 0 0 0 (fun _ => 0) (fun _ => 0) (dnD h 0) (dnE h (fun _ => 0)) (dnF h su 0)) ++ ((grdW ad 15 cy sea noi) ++ ((rayW ad 18 cy (u3_22 0) (u3_22 1) (u3_22 2) (u3_22 3) (u3_22 4) (u3_22 5) (u3_22 6) (u3_22 7)) ++ ((sndW ad 19 cy 12 sn pl pw an hd fq) ++ ((sndW ad 25 cy 6 bn bp bw ban bhd bo) ++ ((conW ad 31 cy cm c1 c2 c3 c4 c5) ++ ((entW ad 37 cy em ep e1 e2 e3 e4 e5) ++ (outW od 0 cy o))))))))))) := hD
        exfalso
        omega
      ·
        have hP : va_P D vwCl (mdlW bd 0 cy 1 h su st sh fl 0 sn bn fm fr cm em lg le lf dl cS cH sea noi pl pw an hd bp bo bw c1 c2 c3 c4 c5 e1 e2 e3 e4 e5) H := hP
        have hD : va_D (fun q => z0 ≤ q) ((mdlW bd 0 cy 1 h su st sh fl 0 sn bn fm fr cm em lg le lf dl cS cH sea noi pl pw an hd bp bo bw c1 c2 c3 c4 c5 e1 e2 e3 e4 e5) ++ ((rooW ad 0 cy fm fr) ++ ((airW ad 1 cy h su st sh fl cS cH (dnD h fl) (dnE h cS) (dnF h su st)) ++ ((airW ad 8 cy h su 0 0 0 (fun _ => 0) (fun _ => 0) (dnD h 0) (dnE h (fun _ => 0)) (dnF h su 0)) ++ ((grdW ad 15 cy sea noi) ++ ((rayW ad 18 cy (u3_22 0) (u3_22 1) (u3_22 2) (u3_22 3) (u3_22 4) (u3_22 5) (u3_22 6) (u3_22 7)) ++ ((sndW ad 19 cy 12 sn pl pw an hd fq) ++ ((sndW ad 25 cy 6 bn bp bw ban bhd bo) ++ ((conW ad 31 cy cm c1 c2 c3 c4 c5) ++ ((entW ad 37 cy em ep e1 e2 e3 e4 e5) ++ (outW od 0 cy o))))))))))) := hD
        exfalso
        omega
      ·
        have hP : va_P D vwCl (mdlW bd 0 cy 2 h su st sh fl 0 sn bn fm fr cm em lg le lf dl cS cH sea noi pl pw an hd bp bo bw c1 c2 c3 c4 c5 e1 e2 e3 e4 e5) H := hP
        have hD : va_D (fun q => z0 ≤ q) ((mdlW bd 0 cy 2 h su st sh fl 0 sn bn fm fr cm em lg le lf dl cS cH sea noi pl pw an hd bp bo bw c1 c2 c3 c4 c5 e1 e2 e3 e4 e5) ++ ((rooW ad 0 cy fm fr) ++ ((airW ad 1 cy h su st sh fl cS cH (dnD h fl) (dnE h cS) (dnF h su st)) ++ ((airW ad 8 cy h su 0 0 0 (fun _ => 0) (fun _ => 0) (dnD h 0) (dnE h (fun _ => 0)) (dnF h su 0)) ++ ((grdW ad 15 cy sea noi) ++ ((rayW ad 18 cy (u3_22 0) (u3_22 1) (u3_22 2) (u3_22 3) (u3_22 4) (u3_22 5) (u3_22 6) (u3_22 7)) ++ ((sndW ad 19 cy 12 sn pl pw an hd fq) ++ ((sndW ad 25 cy 6 bn bp bw ban bhd bo) ++ ((conW ad 31 cy cm c1 c2 c3 c4 c5) ++ ((entW ad 37 cy em ep e1 e2 e3 e4 e5) ++ (outW od 0 cy o))))))))))) := hD
        refine lv_istore (lv' := [(6, .int (iI 0)), (5, .int (iI 2)), (0, .ref (b)), (1, .ref (ad 0)), (2, .ref (bd 0)), (3, .ref (od 0)), (4, .int (iI i))]) M.1 M.2.1 dL_law_1788 hl (by decide) rfl (fun ls hl => ?_)
        refine lv_aload_n M.1 M.2.1 dL_law_1790 rfl (lv_at hl 4 rfl) ?_
        refine z_cR (z_runV (As := []) (rest := []) M (c_X7_thrown l D cy z0 bd 2 h su st sh fl 0 sn bn fm fr cm em lg le lf dl cS cH sea noi pl pw an hd bp bo bw c1 c2 c3 c4 c5 e1 e2 e3 e4 e5) hE hS hAz hP (zRc.of (ci := 7) (q0 := 0) hE hP rfl rfl) zk_cd_X7_thrown zk_in_RX7 zk_im_X7_thrown zk_se_X7_thrown zk_ml_RL_116 rfl rfl zd_X7_thrown ⟨by decide, by decide⟩ rfl hl.1 rfl (Nat.le_of_ble_eq_true rfl) dL_law_1791 ⟨by show _ ≤ 601024; omega, by show _ ≤ 7293034; omega⟩) ?_
        refine lv_iload M.1 M.2.1 dL_law_1794 (lv_at hl 1 rfl) ?_
        refine zi_same (tgt := 1801) M dL_law_1796 (by decide) ?_
        refine lv_iload M.1 M.2.1 dL_law_1801 (lv_at hl 1 rfl) ?_
        refine zi_if_ne (tgt := 1818) M dL_law_1803 (by decide) ⟨by decide, by decide⟩ (fun _ => ?_) (fun q => absurd q (by decide))
        refine zi_goto (tgt := 2286) M dL_law_1818 (by decide) ?_
        have hPx := hP
        have hP := hPm
        have hPm := hPx
        have hD := zD_c hD
        refine W.widen (k := cells + 6) (n := slots + 36) (by omega) (by omega) ?_
        exact hback h su st sh fl sn bn cm em ep fm fr 2 o lg le lf dl cS cH sea noi pl pw an hd fq bp bw ban bhd bo c1 c2 c3 c4 c5 e1 e2 e3 e4 e5 u3_22 h_h h_su h_st h_sh h_fl h_sn h_bn h_cm h_em g_cS g_cH g_sea g_noi g_pl g_pw g_an g_hd g_bp g_bw g_ban g_bhd g_c1 g_c2 g_c3 g_c4 g_c5 g_e1 g_e2 g_e3 g_e4 g_e5 hbo hep H locs hP hPm hD hS ls (lv_sub hl [2, 3, 4, 5, 6] rfl)
