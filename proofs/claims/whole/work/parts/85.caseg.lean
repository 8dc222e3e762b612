/-! the law, case by case -/
set_option maxRecDepth 100000 in
set_option maxHeartbeats 8000000 in
theorem lw_case21 (l : Launch) (D : va_G) (cy : Nat → ClassId) (z0 : Nat) (ad bd od : Nat → Nat) (p : Program) (e : Env) (s : State) (m : MethodId) (args : Array Value) (below : List Frame) (meth : Method) (c : Code) (b : Nat) (i : Int) (Q : State → Prop) (cells slots : Nat) (hst : l.stackTraces = false) (hL7 : ∀ q : Nat, q = 0 → True) (b_L : Nat) (xs : Nat → Int32) (M : zM p s m args c cL_law RL 7) (hE : zE D cy z0 s) (hN : zNc s) (hL : b_L ≤ 3584) (hX : va_X b b_L xs s s.heap) (hbl : b < s.heap.size) (hbA : ¬ z0 ≤ b) (hi : 0 ≤ i ∧ i + 7 ≤ b_L) (hc : cells + 6 ≤ 601024) (hs : slots + 36 ≤ 7293034) (hback : lwB l D cy z0 ad bd od p e s m args below meth c b i Q cells slots) (h su st sh fl sn bn cm em ep fm fr th o lg le lf dl : Int) (cS cH sea noi pl pw an hd fq bp bw ban bhd bo c1 c2 c3 c4 c5 e1 e2 e3 e4 e5 : Int → Int) (ur : Nat → Int) (h_h : 0 ≤ h ∧ h ≤ 5000) (h_su : 0 ≤ su ∧ su ≤ 100) (h_st : 0 ≤ st ∧ st ≤ 60) (h_sh : 0 ≤ sh ∧ sh ≤ 72) (h_fl : 0 ≤ fl ∧ fl ≤ 80) (h_sn : 0 ≤ sn ∧ sn ≤ 12) (h_bn : 0 ≤ bn ∧ bn ≤ 6) (h_cm : 0 ≤ cm ∧ cm ≤ 60) (h_em : 0 ≤ em ∧ em ≤ 80) (g_cS : zrg 48 0 100 cS) (g_cH : zrg 48 0 24 cH) (g_sea : zrg 48 0 1 sea) (g_noi : zrg 48 0 40 noi) (g_pl : zrg 12 0 47 pl) (g_pw : zrg 12 0 80 pw) (g_an : zrg 12 0 2 an) (g_hd : zrg 12 0 2 hd) (g_bp : zrg 6 0 47 bp) (g_bw : zrg 6 0 80 bw) (g_ban : zrg 6 0 2 ban) (g_bhd : zrg 6 0 2 bhd) (g_c1 : zrg 60 0 11 c1) (g_c2 : zrg 60 0 11 c2) (g_c3 : zrg 60 0 300 c3) (g_c4 : zrg 60 0 2 c4) (g_c5 : zrg 60 0 5000 c5) (g_e1 : zrg 80 0 11 e1) (g_e2 : zrg 80 0 11 e2) (g_e3 : zrg 80 0 300 e3) (g_e4 : zrg 80 0 5000 e4) (g_e5 : zrg 80 (-1) 79 e5) (hbo : ∀ n : Int, 0 ≤ n → n < bn → (10 ≤ bo n ∧ bo n ≤ 300) ∧ ban n = 2 ∧ bhd n = 2) (hep : ep = prF e5 em.toNat) (H : Heap) (locs : List Loc) (hP : va_P D vwCl ((rooW ad 0 cy fm fr) ++ ((airW ad 1 cy h su st sh fl cS cH (dnD h fl) (dnE h cS) (dnF h su st)) ++ ((airW ad 8 cy h su 0 0 0 (fun _ => 0) (fun _ => 0) (dnD h 0) (dnE h (fun _ => 0)) (dnF h su 0)) ++ ((grdW ad 15 cy sea noi) ++ ((rayW ad 18 cy (ur 0) (ur 1) (ur 2) (ur 3) (ur 4) (ur 5) (ur 6) (ur 7)) ++ ((sndW ad 19 cy 12 sn pl pw an hd fq) ++ ((sndW ad 25 cy 6 bn bp bw ban bhd bo) ++ ((conW ad 31 cy cm c1 c2 c3 c4 c5) ++ ((entW ad 37 cy em ep e1 e2 e3 e4 e5) ++ (outW od 0 cy o)))))))))) H) (hPm : va_P D vwCl (mdlW bd 0 cy th h su st sh fl 0 sn bn fm fr cm em lg le lf dl cS cH sea noi pl pw an hd bp bo bw c1 c2 c3 c4 c5 e1 e2 e3 e4 e5) H) (hD : va_D (fun q => z0 ≤ q) (((rooW ad 0 cy fm fr) ++ ((airW ad 1 cy h su st sh fl cS cH (dnD h fl) (dnE h cS) (dnF h su st)) ++ ((airW ad 8 cy h su 0 0 0 (fun _ => 0) (fun _ => 0) (dnD h 0) (dnE h (fun _ => 0)) (dnF h su 0)) ++ ((grdW ad 15 cy sea noi) ++ ((rayW ad 18 cy (ur 0) (ur 1) (ur 2) (ur 3) (ur 4) (ur 5) (ur 6) (ur 7)) ++ ((sndW ad 19 cy 12 sn pl pw an hd fq) ++ ((sndW ad 25 cy 6 bn bp bw ban bhd bo) ++ ((conW ad 31 cy cm c1 c2 c3 c4 c5) ++ ((entW ad 37 cy em ep e1 e2 e3 e4 e5) ++ (outW od 0 cy o)))))))))) ++ (mdlW bd 0 cy th h su st sh fl 0 sn bn fm fr cm em lg le lf dl cS cH sea noi pl pw an hd bp bo bw c1 c2 c3 c4 c5 e1 e2 e3 e4 e5))) (hS : va_S (fun q => z0 ≤ q) s.heap H locs) (ls : Array Slot) (hl : lv_has ls 7 [(0, .ref b), (1, .ref (ad 0)), (2, .ref (bd 0)), (3, .ref (od 0)), (4, .int (iI i))]) : W p l e room_1 s m args below meth c H locs (cells) (slots) Q (F0 m 1821 ls []) := by
  have hAz : ∀ q : Nat, (fun q => z0 ≤ q) q → z0 ≤ q := fun _ h => h
  refine lv_aload_n M.1 M.2.1 dL_law_1821 rfl (lv_at hl 1 rfl) ?_
  refine lv_aload_n M.1 M.2.1 dL_law_1822 rfl (lv_at hl 0 rfl) ?_
  refine lv_iload M.1 M.2.1 dL_law_1823 (lv_at hl 4 rfl) ?_
  refine zi_push M dL_law_1825 ?_
  refine zi_iadd M dL_law_1826 ?_
  refine zi_sld M hX hbl hbA hS hL (by omega) (by omega) dL_law_1827 ?_
  have hx_1 := xZ_rg xs (i + 1)
  refine lv_aload_n M.1 M.2.1 dL_law_1828 rfl (lv_at hl 0 rfl) ?_
  refine lv_iload M.1 M.2.1 dL_law_1829 (lv_at hl 4 rfl) ?_
  refine zi_push M dL_law_1831 ?_
  refine zi_iadd M dL_law_1832 ?_
  refine zi_sld M hX hbl hbA hS hL (by omega) (by omega) dL_law_1833 ?_
  have hx_2 := xZ_rg xs (i + 2)
  refine zi_if_eq (tgt := 1841) M dL_law_1834 (by decide) (by omega) (fun c_3 => ?_) (fun c_3 => ?_)
  ·
    refine zi_push M dL_law_1841 ?_
    refine lv_aload_n M.1 M.2.1 dL_law_1842 rfl (lv_at hl 0 rfl) ?_
    refine lv_iload M.1 M.2.1 dL_law_1843 (lv_at hl 4 rfl) ?_
    refine zi_push M dL_law_1845 ?_
    refine zi_iadd M dL_law_1846 ?_
    refine zi_sld M hX hbl hbA hS hL (by omega) (by omega) dL_law_1847 ?_
    have hx_4 := xZ_rg xs (i + 3)
    refine lv_aload_n M.1 M.2.1 dL_law_1848 rfl (lv_at hl 3 rfl) ?_
    refine z_cW2 (zx_runH (As := [.ref (ad 0), .int (iI (xZ xs (i + 1))), .int (iI 0), .int (iI (xZ xs (i + 3))), .ref (od 0)]) (rest := []) M (c_L_skipped l hst D cy z0 ad od fm fr h su st sh fl o cS cH (dnD h fl) (dnE h cS) (dnF h su st) (xZ xs (i + 1)) 0 (xZ xs (i + 3)) (by omega) (by omega) (by omega) (dnE_rg g_cS) (dnF_rg h_su h_st)) hE hN hS hAz (z_cut hP (zD_l hD) hAz [0, 1, 2, 3, 4, 5, 6, 7, 43] rfl (by decide +kernel)) zk_cw_L_skipped zk_in_RL zk_st_L_skipped zk_ml_RL_191 rfl rfl zd_L_skipped ⟨by decide, by decide⟩ rfl hl.1 rfl (Nat.le_of_ble_eq_true rfl) dL_law_1849 ⟨by show _ ≤ 601024; omega, by show _ ≤ 7293034; omega⟩) hP hPm hD hS [0, 1, 2, 3, 4, 5, 6, 7, 43] rfl (fun _ => by simp only [List.map_append, airW_adr, outW_adr, rooW_adr]) (fun r_5 u_5 H locs hp_5 hP hPm hD hS => ?_)
    have hP : va_P D vwCl ((rooW ad 0 cy fm fr) ++ ((airW ad 1 cy h su st sh fl cS cH (dnD h fl) (dnE h cS) (dnF h su st)) ++ ((airW ad 8 cy h su 0 0 0 (fun _ => 0) (fun _ => 0) (dnD h 0) (dnE h (fun _ => 0)) (dnF h su 0)) ++ ((grdW ad 15 cy sea noi) ++ ((rayW ad 18 cy (ur 0) (ur 1) (ur 2) (ur 3) (ur 4) (ur 5) (ur 6) (ur 7)) ++ ((sndW ad 19 cy 12 sn pl pw an hd fq) ++ ((sndW ad 25 cy 6 bn bp bw ban bhd bo) ++ ((conW ad 31 cy cm c1 c2 c3 c4 c5) ++ ((entW ad 37 cy em ep e1 e2 e3 e4 e5) ++ (outW od 0 cy u_5.2.1)))))))))) H := hP
    have hD : va_D (fun q => z0 ≤ q) (((rooW ad 0 cy fm fr) ++ ((airW ad 1 cy h su st sh fl cS cH (dnD h fl) (dnE h cS) (dnF h su st)) ++ ((airW ad 8 cy h su 0 0 0 (fun _ => 0) (fun _ => 0) (dnD h 0) (dnE h (fun _ => 0)) (dnF h su 0)) ++ ((grdW ad 15 cy sea noi) ++ ((rayW ad 18 cy (ur 0) (ur 1) (ur 2) (ur 3) (ur 4) (ur 5) (ur 6) (ur 7)) ++ ((sndW ad 19 cy 12 sn pl pw an hd fq) ++ ((sndW ad 25 cy 6 bn bp bw ban bhd bo) ++ ((conW ad 31 cy cm c1 c2 c3 c4 c5) ++ ((entW ad 37 cy em ep e1 e2 e3 e4 e5) ++ (outW od 0 cy u_5.2.1)))))))))) ++ (mdlW bd 0 cy th h su st sh fl 0 sn bn fm fr cm em lg le lf dl cS cH sea noi pl pw an hd bp bo bw c1 c2 c3 c4 c5 e1 e2 e3 e4 e5)) := hD
    obtain ⟨u1_5, u2_5, u3_5⟩ := u_5
    dsimp only at hp_5
    rcases hp_5 with ⟨rfl, rfl, hN_5, hv_5⟩ | ⟨rfl, rfl, hN_5, hv_5⟩ | ⟨rfl, rfl, hN_5, hv_5⟩
    ·
      have hw_5 := hv_5.symm
      subst hw_5
      have hP : va_P D vwCl ((rooW ad 0 cy fm fr) ++ ((airW ad 1 cy h su st sh fl cS cH (dnD h fl) (dnE h cS) (dnF h su st)) ++ ((airW ad 8 cy h su 0 0 0 (fun _ => 0) (fun _ => 0) (dnD h 0) (dnE h (fun _ => 0)) (dnF h su 0)) ++ ((grdW ad 15 cy sea noi) ++ ((rayW ad 18 cy (ur 0) (ur 1) (ur 2) (ur 3) (ur 4) (ur 5) (ur 6) (ur 7)) ++ ((sndW ad 19 cy 12 sn pl pw an hd fq) ++ ((sndW ad 25 cy 6 bn bp bw ban bhd bo) ++ ((conW ad 31 cy cm c1 c2 c3 c4 c5) ++ ((entW ad 37 cy em ep e1 e2 e3 e4 e5) ++ (outW od 0 cy (skpZ (skF (dnE h cS) (dnF h su st) 0 (xZ xs (i + 1)) (xZ xs (i + 3)) 9)))))))))))) H := hP
      have hD : va_D (fun q => z0 ≤ q) (((rooW ad 0 cy fm fr) ++ ((airW ad 1 cy h su st sh fl cS cH (dnD h fl) (dnE h cS) (dnF h su st)) ++ ((airW ad 8 cy h su 0 0 0 (fun _ => 0) (fun _ => 0) (dnD h 0) (dnE h (fun _ => 0)) (dnF h su 0)) ++ ((grdW ad 15 cy sea noi) ++ ((rayW ad 18 cy (ur 0) (ur 1) (ur 2) (ur 3) (ur 4) (ur 5) (ur 6) (ur 7)) ++ ((sndW ad 19 cy 12 sn pl pw an hd fq) ++ ((sndW ad 25 cy 6 bn bp bw ban bhd bo) ++ ((conW ad 31 cy cm c1 c2 c3 c4 c5) ++ ((entW ad 37 cy em ep e1 e2 e3 e4 e5) ++ (outW od 0 cy (skpZ (skF (dnE h cS) (dnF h su st) 0 (xZ xs (i + 1)) (xZ xs (i + 3)) 9)))))))))))) ++ (mdlW bd 0 cy th h su st sh fl 0 sn bn fm fr cm em lg le lf dl cS cH sea noi pl pw an hd bp bo bw c1 c2 c3 c4 c5 e1 e2 e3 e4 e5)) := hD
      refine lv_istore (lv' := [(5, .int (iI 0)), (0, .ref (b)), (1, .ref (ad 0)), (2, .ref (bd 0)), (3, .ref (od 0)), (4, .int (iI i))]) M.1 M.2.1 dL_law_1852 hl (by decide) rfl (fun ls hl => ?_)
      refine lv_aload_n M.1 M.2.1 dL_law_1854 rfl (lv_at hl 3 rfl) ?_
      refine lv_aload_n M.1 M.2.1 dL_law_1855 rfl (lv_at hl 1 rfl) ?_
      refine lv_iload M.1 M.2.1 dL_law_1856 (lv_at hl 5 rfl) ?_
      refine zi_push M dL_law_1858 ?_
      refine zi_iadd M dL_law_1859 ?_
      refine zi_sld M hX hbl hbA hS hL (by omega) (by omega) dL_law_1860 ?_
      have hx_6 := xZ_rg xs (i + 1)
      refine lv_aload_n M.1 M.2.1 dL_law_1861 rfl (lv_at hl 1 rfl) ?_
      refine lv_iload M.1 M.2.1 dL_law_1862 (lv_at hl 5 rfl) ?_
      refine zi_push M dL_law_1864 ?_
      refine zi_iadd M dL_law_1865 ?_
      refine zi_sld M hX hbl hbA hS hL (by omega) (by omega) dL_law_1866 ?_
      have hx_7 := xZ_rg xs (i + 2)
      refine zi_if_eq (tgt := 1874) M dL_law_1867 (by decide) (by omega) (fun _ => ?_) (fun q => absurd c_3 q)
      refine zi_push M dL_law_1874 ?_
      refine lv_aload_n M.1 M.2.1 dL_law_1875 rfl (lv_at hl 1 rfl) ?_
      refine lv_iload M.1 M.2.1 dL_law_1876 (lv_at hl 5 rfl) ?_
      refine zi_push M dL_law_1878 ?_
      refine zi_iadd M dL_law_1879 ?_
      refine zi_sld M hX hbl hbA hS hL (by omega) (by omega) dL_law_1880 ?_
      have hx_8 := xZ_rg xs (i + 3)
      have hPx := hP
      have hP := hPm
      have hPm := hPx
      have hD := zD_c hD
      refine z_cW2 (z_runV (As := [.int (iI (xZ xs (i + 1))), .int (iI 0), .int (iI (xZ xs (i + 3)))]) (rest := []) M (c_X7_skipped l D cy z0 bd th h su st sh fl 0 sn bn fm fr cm em lg le lf dl cS cH sea noi pl pw an hd bp bo bw c1 c2 c3 c4 c5 e1 e2 e3 e4 e5 (xZ xs (i + 1)) 0 (xZ xs (i + 3)) (by omega) (by omega) (by omega) (by omega) (by omega) (by omega) (by omega) g_cS (by omega)) hE hS hAz (z_cut hP (zD_l hD) hAz [0, 1, 2, 3, 4, 5, 6, 7, 8, 9, 10, 11, 12, 13, 14, 15, 16, 17, 18, 19, 20, 21] rfl (by decide +kernel)) (zRc.of (ci := 7) (q0 := 0) hE hP rfl rfl) zk_cd_X7_skipped zk_in_RX7 zk_im_X7_skipped zk_se_X7_skipped zk_ml_RL_194 rfl rfl zd_X7_skipped ⟨by decide, by decide⟩ rfl hl.1 rfl (Nat.le_of_ble_eq_true rfl) dL_law_1881 ⟨by show _ ≤ 601024; omega, by show _ ≤ 7293034; omega⟩) hP hPm hD hS [0, 1, 2, 3, 4, 5, 6, 7, 8, 9, 10, 11, 12, 13, 14, 15, 16, 17, 18, 19, 20, 21] rfl (fun _ => by simp only [List.map_append, mdlW_adr]) (fun r_9 u_9 H locs hp_9 hP hPm hD hS => ?_)
      try simp only [mdD_0, mdE_0, mdF_0, mdD_1, mdE_1, mdF_1] at hp_9
      have hP : va_P D vwCl (mdlW bd 0 cy u_9 h su st sh fl 0 sn bn fm fr cm em lg le lf dl cS cH sea noi pl pw an hd bp bo bw c1 c2 c3 c4 c5 e1 e2 e3 e4 e5) H := hP
      have hD : va_D (fun q => z0 ≤ q) ((mdlW bd 0 cy u_9 h su st sh fl 0 sn bn fm fr cm em lg le lf dl cS cH sea noi pl pw an hd bp bo bw c1 c2 c3 c4 c5 e1 e2 e3 e4 e5) ++ ((rooW ad 0 cy fm fr) ++ ((airW ad 1 cy h su st sh fl cS cH (dnD h fl) (dnE h cS) (dnF h su st)) ++ ((airW ad 8 cy h su 0 0 0 (fun _ => 0) (fun _ => 0) (dnD h 0) (dnE h (fun _ => 0)) (dnF h su 0)) ++ ((grdW ad 15 cy sea noi) ++ ((rayW ad 18 cy (ur 0) (ur 1) (ur 2) (ur 3) (ur 4) (ur 5) (ur 6) (ur 7)) ++ ((sndW ad 19 cy 12 sn pl pw an hd fq) ++ ((sndW ad 25 cy 6 bn bp bw ban bhd bo) ++ ((conW ad 31 cy cm c1 c2 c3 c4 c5) ++ ((entW ad 37 cy em ep e1 e2 e3 e4 e5) ++ (outW od 0 cy (skpZ (skF (dnE h cS) (dnF h su st) 0 (xZ xs (i + 1)) (xZ xs (i + 3)) 9))))))))))))) := hD
      rcases hp_9 with ⟨rfl, hN_9, rfl⟩ | ⟨rfl, hN_9, rfl⟩ | ⟨rfl, hN_9, rfl⟩
      ·
        have hP : va_P D vwCl (mdlW bd 0 cy 0 h su st sh fl 0 sn bn fm fr cm em lg le lf dl cS cH sea noi pl pw an hd bp bo bw c1 c2 c3 c4 c5 e1 e2 e3 e4 e5) H := hP
        have hD : va_D (fun q => z0 ≤ q) ((mdlW bd 0 cy 0 h su st sh fl 0 sn bn fm fr cm em lg le lf dl cS cH sea noi pl pw an hd bp bo bw c1 c2 c3 c4 c5 e1 e2 e3 e4 e5) ++ ((rooW ad 0 cy fm fr) ++ ((airW ad 1 cy h su st sh fl cS cH (dnD h fl) (dnE h cS) (dnF h su st)) ++ ((airW ad 8 cy h su 0 0 0 (fun _ => 0) (fun _ => 0) (dnD h 0) (dnE h (fun _ => 0)) (dnF h su 0)) ++ ((grdW ad 15 cy sea noi) ++ ((rayW ad 18 cy (ur 0) (ur 1) (ur 2) (ur 3) (ur 4) (ur 5) (ur 6) (ur 7)) ++ ((sndW ad 19 cy 12 sn pl pw an hd fq) ++ ((sndW ad 25 cy 6 bn bp bw ban bhd bo) ++ ((conW ad 31 cy cm c1 c2 c3 c4 c5) ++ ((entW ad 37 cy em ep e1 e2 e3 e4 e5) ++ (outW od 0 cy (skpZ (skF (dnE h cS) (dnF h su st) 0 (xZ xs (i + 1)) (xZ xs (i + 3)) 9))))))))))))) := hD
        refine lv_istore (lv' := [(6, .int (iI (skpZ (skF (dnE h cS) (dnF h su st) 0 (xZ xs (i + 1)) (xZ xs (i + 3)) 9)))), (5, .int (iI 0)), (0, .ref (b)), (1, .ref (ad 0)), (2, .ref (bd 0)), (3, .ref (od 0)), (4, .int (iI i))]) M.1 M.2.1 dL_law_1884 hl (by decide) rfl (fun ls hl => ?_)
        refine lv_aload_n M.1 M.2.1 dL_law_1886 rfl (lv_at hl 4 rfl) ?_
        refine z_cR (z_runV (As := []) (rest := []) M (c_X7_thrown l D cy z0 bd 0 h su st sh fl 0 sn bn fm fr cm em lg le lf dl cS cH sea noi pl pw an hd bp bo bw c1 c2 c3 c4 c5 e1 e2 e3 e4 e5) hE hS hAz hP (zRc.of (ci := 7) (q0 := 0) hE hP rfl rfl) zk_cd_X7_thrown zk_in_RX7 zk_im_X7_thrown zk_se_X7_thrown zk_ml_RL_116 rfl rfl zd_X7_thrown ⟨by decide, by decide⟩ rfl hl.1 rfl (Nat.le_of_ble_eq_true rfl) dL_law_1887 ⟨by show _ ≤ 601024; omega, by show _ ≤ 7293034; omega⟩) ?_
        refine lv_iload M.1 M.2.1 dL_law_1890 (lv_at hl 1 rfl) ?_
        refine zi_same (tgt := 1897) M dL_law_1892 (by decide) ?_
        refine lv_iload M.1 M.2.1 dL_law_1897 (lv_at hl 1 rfl) ?_
        refine zi_if_ne (tgt := 1914) M dL_law_1899 (by decide) ⟨by decide, by decide⟩ (fun q => absurd q (by decide)) (fun _ => ?_)
        refine lv_aload_n M.1 M.2.1 dL_law_1902 rfl (lv_at hl 5 rfl) ?_
        refine zi_push M dL_law_1903 ?_
        refine zi_lald M hE hPm 43 rfl dL_law_1904 ?_
        refine lv_iload M.1 M.2.1 dL_law_1905 (lv_at hl 0 rfl) ?_
        refine zi_i2l M dL_law_1907 ?_
        refine zi_lcmpE M dL_law_1908 ?_
        refine zi_if_eq (tgt := 1914) M dL_law_1909 (by decide) ⟨by decide, by decide⟩ (fun _ => ?_) (fun q => absurd q (by decide))
        refine zi_goto (tgt := 2286) M dL_law_1914 (by decide) ?_
        have hPx := hP
        have hP := hPm
        have hPm := hPx
        have hD := zD_c hD
        refine W.widen (k := cells + 6) (n := slots + 36) (by omega) (by omega) ?_
        exact hback h su st sh fl sn bn cm em ep fm fr 0 (skpZ (skF (dnE h cS) (dnF h su st) 0 (xZ xs (i + 1)) (xZ xs (i + 3)) 9)) lg le lf dl cS cH sea noi pl pw an hd fq bp bw ban bhd bo c1 c2 c3 c4 c5 e1 e2 e3 e4 e5 ur h_h h_su h_st h_sh h_fl h_sn h_bn h_cm h_em g_cS g_cH g_sea g_noi g_pl g_pw g_an g_hd g_bp g_bw g_ban g_bhd g_c1 g_c2 g_c3 g_c4 g_c5 g_e1 g_e2 g_e3 g_e4 g_e5 hbo hep H locs hP hPm hD hS ls (lv_sub hl [2, 3, 4, 5, 6] rfl)
      ·
        have hP : va_P D vwCl (mdlW bd 0 cy 1 h su st sh fl 0 sn bn fm fr cm em lg le lf dl cS cH sea noi pl pw an hd bp bo bw c1 c2 c3 c4 c5 e1 e2 e3 e4 e5) H := hP
        have hD : va_D (fun q => z0 ≤ q) ((mdlW bd 0 cy 1 h su st sh fl 0 sn bn fm fr cm em lg le lf dl cS cH sea noi pl pw an hd bp bo bw c1 c2 c3 c4 c5 e1 e2 e3 e4 e5) ++ ((rooW ad 0 cy fm fr) ++ ((airW ad 1 cy h su st sh fl cS cH (dnD h fl) (dnE h cS) (dnF h su st)) ++ ((airW ad 8 cy h su 0 0 0 (fun _ => 0) (fun _ => 0) (dnD h 0) (dnE h (fun _ => 0)) (dnF h su 0)) ++ ((grdW ad 15 cy sea noi) ++ ((rayW ad 18 cy (ur 0) (ur 1) (ur 2) (ur 3) (ur 4) (ur 5) (ur 6) (ur 7)) ++ ((sndW ad 19 cy 12 sn pl pw an hd fq) ++ ((sndW ad 25 cy 6 bn bp bw ban bhd bo) ++ ((conW ad 31 cy cm c1 c2 c3 c4 c5) ++ ((entW ad 37 cy em ep e1 e2 e3 e4 e5) ++ (outW od 0 cy (skpZ (skF (dnE h cS) (dnF h su st) 0 (xZ xs (i + 1)) (xZ xs (i + 3)) 9))))))))))))) := hD
        exfalso
        omega
      ·
        have hP : va_P D vwCl (mdlW bd 0 cy 2 h su st sh fl 0 sn bn fm fr cm em lg le lf dl cS cH sea noi pl pw an hd bp bo bw c1 c2 c3 c4 c5 e1 e2 e3 e4 e5) H := hP
        have hD : va_D (fun q => z0 ≤ q) ((mdlW bd 0 cy 2 h su st sh fl 0 sn bn fm fr cm em lg le lf dl cS cH sea noi pl pw an hd bp bo bw c1 c2 c3 c4 c5 e1 e2 e3 e4 e5) ++ ((rooW ad 0 cy fm fr) ++ ((airW ad 1 cy h su st sh fl cS cH (dnD h fl) (dnE h cS) (dnF h su st)) ++ ((airW ad 8 cy h su 0 0 0 (fun _ => 0) (fun _ => 0) (dnD h 0) (dnE h (fun _ => 0)) (dnF h su 0)) ++ ((grdW ad 15 cy sea noi) ++ ((rayW ad 18 cy (ur 0) (ur 1) (ur 2) (ur 3) (ur 4) (ur 5) (ur 6) (ur 7)) ++ ((sndW ad 19 cy 12 sn pl pw an hd fq) ++ ((sndW ad 25 cy 6 bn bp bw ban bhd bo) ++ ((conW ad 31 cy cm c1 c2 c3 c4 c5) ++ ((entW ad 37 cy em ep e1 e2 e3 e4 e5) ++ (outW od 0 cy (skpZ (skF (dnE h cS) (dnF h su st) 0 (xZ xs (i + 1)) (xZ xs (i + 3)) 9))))))))))))) := hD
        exfalso
        omega
    ·
      have hw_5 := hv_5.symm
      subst hw_5
      have hP : va_P D vwCl ((rooW ad 0 cy fm fr) ++ ((airW ad 1 cy h su st sh fl cS cH (dnD h fl) (dnE h cS) (dnF h su st)) ++ ((airW ad 8 cy h su 0 0 0 (fun _ => 0) (fun _ => 0) (dnD h 0) (dnE h (fun _ => 0)) (dnF h su 0)) ++ ((grdW ad 15 cy sea noi) ++ ((rayW ad 18 cy (ur 0) (ur 1) (ur 2) (ur 3) (ur 4) (ur 5) (ur 6) (ur 7)) ++ ((sndW ad 19 cy 12 sn pl pw an hd fq) ++ ((sndW ad 25 cy 6 bn bp bw ban bhd bo) ++ ((conW ad 31 cy cm c1 c2 c3 c4 c5) ++ ((entW ad 37 cy em ep e1 e2 e3 e4 e5) ++ (outW od 0 cy o)))))))))) H := hP
      have hD : va_D (fun q => z0 ≤ q) (((rooW ad 0 cy fm fr) ++ ((airW ad 1 cy h su st sh fl cS cH (dnD h fl) (dnE h cS) (dnF h su st)) ++ ((airW ad 8 cy h su 0 0 0 (fun _ => 0) (fun _ => 0) (dnD h 0) (dnE h (fun _ => 0)) (dnF h su 0)) ++ ((grdW ad 15 cy sea noi) ++ ((rayW ad 18 cy (ur 0) (ur 1) (ur 2) (ur 3) (ur 4) (ur 5) (ur 6) (ur 7)) ++ ((sndW ad 19 cy 12 sn pl pw an hd fq) ++ ((sndW ad 25 cy 6 bn bp bw ban bhd bo) ++ ((conW ad 31 cy cm c1 c2 c3 c4 c5) ++ ((entW ad 37 cy em ep e1 e2 e3 e4 e5) ++ (outW od 0 cy o)))))))))) ++ (mdlW bd 0 cy th h su st sh fl 0 sn bn fm fr cm em lg le lf dl cS cH sea noi pl pw an hd bp bo bw c1 c2 c3 c4 c5 e1 e2 e3 e4 e5)) := hD
      refine lv_istore (lv' := [(5, .int (iI 1)), (0, .ref (b)), (1, .ref (ad 0)), (2, .ref (bd 0)), (3, .ref (od 0)), (4, .int (iI i))]) M.1 M.2.1 dL_law_1852 hl (by decide) rfl (fun ls hl => ?_)
      refine lv_aload_n M.1 M.2.1 dL_law_1854 rfl (lv_at hl 3 rfl) ?_
      refine lv_aload_n M.1 M.2.1 dL_law_1855 rfl (lv_at hl 1 rfl) ?_
      refine lv_iload M.1 M.2.1 dL_law_1856 (lv_at hl 5 rfl) ?_
      refine zi_push M dL_law_1858 ?_
      refine zi_iadd M dL_law_1859 ?_
      refine zi_sld M hX hbl hbA hS hL (by omega) (by omega) dL_law_1860 ?_
      have hx_10 := xZ_rg xs (i + 1)
      refine lv_aload_n M.1 M.2.1 dL_law_1861 rfl (lv_at hl 1 rfl) ?_
      refine lv_iload M.1 M.2.1 dL_law_1862 (lv_at hl 5 rfl) ?_
      refine zi_push M dL_law_1864 ?_
      refine zi_iadd M dL_law_1865 ?_
      refine zi_sld M hX hbl hbA hS hL (by omega) (by omega) dL_law_1866 ?_
      have hx_11 := xZ_rg xs (i + 2)
      refine zi_if_eq (tgt := 1874) M dL_law_1867 (by decide) (by omega) (fun _ => ?_) (fun q => absurd c_3 q)
      refine zi_push M dL_law_1874 ?_
      refine lv_aload_n M.1 M.2.1 dL_law_1875 rfl (lv_at hl 1 rfl) ?_
      refine lv_iload M.1 M.2.1 dL_law_1876 (lv_at hl 5 rfl) ?_
      refine zi_push M dL_law_1878 ?_
      refine zi_iadd M dL_law_1879 ?_
      refine zi_sld M hX hbl hbA hS hL (by omega) (by omega) dL_law_1880 ?_
      have hx_12 := xZ_rg xs (i + 3)
      have hPx := hP
      have hP := hPm
      have hPm := hPx
      have hD := zD_c hD
      refine z_cW2 (z_runV (As := [.int (iI (xZ xs (i + 1))), .int (iI 0), .int (iI (xZ xs (i + 3)))]) (rest := []) M (c_X7_skipped l D cy z0 bd th h su st sh fl 0 sn bn fm fr cm em lg le lf dl cS cH sea noi pl pw an hd bp bo bw c1 c2 c3 c4 c5 e1 e2 e3 e4 e5 (xZ xs (i + 1)) 0 (xZ xs (i + 3)) (by omega) (by omega) (by omega) (by omega) (by omega) (by omega) (by omega) g_cS (by omega)) hE hS hAz (z_cut hP (zD_l hD) hAz [0, 1, 2, 3, 4, 5, 6, 7, 8, 9, 10, 11, 12, 13, 14, 15, 16, 17, 18, 19, 20, 21] rfl (by decide +kernel)) (zRc.of (ci := 7) (q0 := 0) hE hP rfl rfl) zk_cd_X7_skipped zk_in_RX7 zk_im_X7_skipped zk_se_X7_skipped zk_ml_RL_194 rfl rfl zd_X7_skipped ⟨by decide, by decide⟩ rfl hl.1 rfl (Nat.le_of_ble_eq_true rfl) dL_law_1881 ⟨by show _ ≤ 601024; omega, by show _ ≤ 7293034; omega⟩) hP hPm hD hS [0, 1, 2, 3, 4, 5, 6, 7, 8, 9, 10, 11, 12, 13, 14, 15, 16, 17, 18, 19, 20, 21] rfl (fun _ => by simp only [List.map_append, mdlW_adr]) (fun r_13 u_13 H locs hp_13 hP hPm hD hS => ?_)
      try simp only [mdD_0, mdE_0, mdF_0, mdD_1, mdE_1, mdF_1] at hp_13
      have hP : va_P D vwCl (mdlW bd 0 cy u_13 h su st sh fl 0 sn bn fm fr cm em lg le lf dl cS cH sea noi pl pw an hd bp bo bw c1 c2 c3 c4 c5 e1 e2 e3 e4 e5) H := hP
      have hD : va_D (fun q => z0 ≤ q) ((mdlW bd 0 cy u_13 h su st sh fl 0 sn bn fm fr cm em lg le lf dl cS cH sea noi pl pw an hd bp bo bw c1 c2 c3 c4 c5 e1 e2 e3 e4 e5) ++ ((rooW ad 0 cy fm fr) ++ ((airW ad 1 cy h su st sh fl cS cH (dnD h fl) (dnE h cS) (dnF h su st)) ++ ((airW ad 8 cy h su 0 0 0 (fun _ => 0) (fun _ => 0) (dnD h 0) (dnE h (fun _ => 0)) (dnF h su 0)) ++ ((grdW ad 15 cy sea noi) ++ ((rayW ad 18 cy (ur 0) (ur 1) (ur 2) (ur 3) (ur 4) (ur 5) (ur 6) (ur 7)) ++ ((sndW ad 19 cy 12 sn pl pw an hd fq) ++ ((sndW ad 25 cy 6 bn bp bw ban bhd bo) ++ ((conW ad 31 cy cm c1 c2 c3 c4 c5) ++ ((entW ad 37 cy em ep e1 e2 e3 e4 e5) ++ (outW od 0 cy o))))))))))) := hD
      rcases hp_13 with ⟨rfl, hN_13, rfl⟩ | ⟨rfl, hN_13, rfl⟩ | ⟨rfl, hN_13, rfl⟩
      ·
        have hP : va_P D vwCl (mdlW bd 0 cy 0 h su st sh fl 0 sn bn fm fr cm em lg le lf dl cS cH sea noi pl pw an hd bp bo bw c1 c2 c3 c4 c5 e1 e2 e3 e4 e5) H := hP
        have hD : va_D (fun q => z0 ≤ q) ((mdlW bd 0 cy 0 h su st sh fl 0 sn bn fm fr cm em lg le lf dl cS cH sea noi pl pw an hd bp bo bw c1 c2 c3 c4 c5 e1 e2 e3 e4 e5) ++ ((rooW ad 0 cy fm fr) ++ ((airW ad 1 cy h su st sh fl cS cH (dnD h fl) (dnE h cS) (dnF h su st)) ++ ((airW ad 8 cy h su 0 0 0 (fun _ => 0) (fun _ => 0) (dnD h 0) (dnE h (fun _ => 0)) (dnF h su 0)) ++ ((grdW ad 15 cy sea noi) ++ ((rayW ad 18 cy (ur 0) (ur 1) (ur 2) (ur 3) (ur 4) (ur 5) (ur 6) (ur 7)) ++ ((sndW ad 19 cy 12 sn pl pw an hd fq) ++ ((sndW ad 25 cy 6 bn bp bw ban bhd bo) ++ ((conW ad 31 cy cm c1 c2 c3 c4 c5) ++ ((entW ad 37 cy em ep e1 e2 e3 e4 e5) ++ (outW od 0 cy o))))))))))) := hD
        exfalso
        omega
      ·
        have hP : va_P D vwCl (mdlW bd 0 cy 1 h su st sh fl 0 sn bn fm fr cm em lg le lf dl cS cH sea noi pl pw an hd bp bo bw c1 c2 c3 c4 c5 e1 e2 e3 e4 e5) H := hP
        have hD : va_D (fun q => z0 ≤ q) ((mdlW bd 0 cy 1 h su st sh fl 0 sn bn fm fr cm em lg le lf dl cS cH sea noi pl pw an hd bp bo bw c1 c2 c3 c4 c5 e1 e2 e3 e4 e5) ++ ((rooW ad 0 cy fm fr) ++ ((airW ad 1 cy h su st sh fl cS cH (dnD h fl) (dnE h cS) (dnF h su st)) ++ ((airW ad 8 cy h su 0 0 0 (fun _ => 0) (fun _ => 0) (dnD h 0) (dnE h (fun _ => 0)) (dnF h su 0)) ++ ((grdW ad 15 cy sea noi) ++ ((rayW ad 18 cy (ur 0) (ur 1) (ur 2) (ur 3) (ur 4) (ur 5) (ur 6) (ur 7)) ++ ((sndW ad 19 cy 12 sn pl pw an hd fq) ++ ((sndW ad 25 cy 6 bn bp bw ban bhd bo) ++ ((conW ad 31 cy cm c1 c2 c3 c4 c5) ++ ((entW ad 37 cy em ep e1 e2 e3 e4 e5) ++ (outW od 0 cy o))))))))))) := hD
        refine lv_istore (lv' := [(6, .int (iI 0)), (5, .int (iI 1)), (0, .ref (b)), (1, .ref (ad 0)), (2, .ref (bd 0)), (3, .ref (od 0)), (4, .int (iI i))]) M.1 M.2.1 dL_law_1884 hl (by decide) rfl (fun ls hl => ?_)
        refine lv_aload_n M.1 M.2.1 dL_law_1886 rfl (lv_at hl 4 rfl) ?_
        refine z_cR (z_runV (As := []) (rest := []) M (c_X7_thrown l D cy z0 bd 1 h su st sh fl 0 sn bn fm fr cm em lg le lf dl cS cH sea noi pl pw an hd bp bo bw c1 c2 c3 c4 c5 e1 e2 e3 e4 e5) hE hS hAz hP (zRc.of (ci := 7) (q0 := 0) hE hP rfl rfl) zk_cd_X7_thrown zk_in_RX7 zk_im_X7_thrown zk_se_X7_thrown zk_ml_RL_116 rfl rfl zd_X7_thrown ⟨by decide, by decide⟩ rfl hl.1 rfl (Nat.le_of_ble_eq_true rfl) dL_law_1887 ⟨by show _ ≤ 601024; omega, by show _ ≤ 7293034; omega⟩) ?_
        refine lv_iload M.1 M.2.1 dL_law_1890 (lv_at hl 1 rfl) ?_
        refine zi_same (tgt := 1897) M dL_law_1892 (by decide) ?_
        refine lv_iload M.1 M.2.1 dL_law_1897 (lv_at hl 1 rfl) ?_
        refine zi_if_ne (tgt := 1914) M dL_law_1899 (by decide) ⟨by decide, by decide⟩ (fun _ => ?_) (fun q => absurd q (by decide))
        refine zi_goto (tgt := 2286) M dL_law_1914 (by decide) ?_
        have hPx := hP
        have hP := hPm
        have hPm := hPx
        have hD := zD_c hD
        refine W.widen (k := cells + 6) (n := slots + 36) (by omega) (by omega) ?_
        exact hback h su st sh fl sn bn cm em ep fm fr 1 o lg le lf dl cS cH sea noi pl pw an hd fq bp bw ban bhd bo c1 c2 c3 c4 c5 e1 e2 e3 e4 e5 ur h_h h_su h_st h_sh h_fl h_sn h_bn h_cm h_em g_cS g_cH g_sea g_noi g_pl g_pw g_an g_hd g_bp g_bw g_ban g_bhd g_c1 g_c2 g_c3 g_c4 g_c5 g_e1 g_e2 g_e3 g_e4 g_e5 hbo hep H locs hP hPm hD hS ls (lv_sub hl [2, 3, 4, 5, 6] rfl)
      ·
        have hP : va_P D vwCl (mdlW bd 0 cy 2 h su st sh fl 0 sn bn fm fr cm em lg le lf dl cS cH sea noi pl pw an hd bp bo bw c1 c2 c3 c4 c5 e1 e2 e3 e4 e5) H := hP
        have hD : va_D (fun q => z0 ≤ q) ((mdlW bd 0 cy 2 h su st sh fl 0 sn bn fm fr cm em lg le lf dl cS cH sea noi pl pw an hd bp bo bw c1 c2 c3 c4 c5 e1 e2 e3 e4 e5) ++ ((rooW ad 0 cy fm fr) ++ ((airW ad 1 cy h su st sh fl cS cH (dnD h fl) (dnE h cS) (dnF h su st)) ++ ((airW ad 8 cy h su 0 0 0 (fun _ => 0) (fun _ => 0) (dnD h 0) (dnE h (fun _ => 0)) (dnF h su 0)) ++ ((grdW ad 15 cy sea noi) ++ ((rayW ad 18 cy (ur 0) (ur 1) (ur 2) (ur 3) (ur 4) (ur 5) (ur 6) (ur 7)) ++ ((sndW ad 19 cy 12 sn pl pw an hd fq) ++ ((sndW ad 25 cy 6 bn bp bw ban bhd bo) ++ ((conW ad 31 cy cm c1 c2 c3 c4 c5) ++ ((entW ad 37 cy em ep e1 e2 e3 e4 e5) ++ (outW od 0 cy o))))))))))) := hD
        exfalso
        omega
    ·
      have hw_5 := hv_5.symm
      subst hw_5
      have hP : va_P D vwCl ((rooW ad 0 cy fm fr) ++ ((airW ad 1 cy h su st sh fl cS cH (dnD h fl) (dnE h cS) (dnF h su st)) ++ ((airW ad 8 cy h su 0 0 0 (fun _ => 0) (fun _ => 0) (dnD h 0) (dnE h (fun _ => 0)) (dnF h su 0)) ++ ((grdW ad 15 cy sea noi) ++ ((rayW ad 18 cy (ur 0) (ur 1) (ur 2) (ur 3) (ur 4) (ur 5) (ur 6) (ur 7)) ++ ((sndW ad 19 cy 12 sn pl pw an hd fq) ++ ((sndW ad 25 cy 6 bn bp bw ban bhd bo) ++ ((conW ad 31 cy cm c1 c2 c3 c4 c5) ++ ((entW ad 37 cy em ep e1 e2 e3 e4 e5) ++ (outW od 0 cy o)))))))))) H := hP
      have hD : va_D (fun q => z0 ≤ q) (((rooW ad 0 cy fm fr) ++ ((airW ad 1 cy h su st sh fl cS cH (dnD h fl) (dnE h cS) (dnF h su st)) ++ ((airW ad 8 cy h su 0 0 0 (fun _ => 0) (fun _ => 0) (dnD h 0) (dnE h (fun _ => 0)) (dnF h su 0)) ++ ((grdW ad 15 cy sea noi) ++ ((rayW ad 18 cy (ur 0) (ur 1) (ur 2) (ur 3) (ur 4) (ur 5) (ur 6) (ur 7)) ++ ((sndW ad 19 cy 12 sn pl pw an hd fq) ++ ((sndW ad 25 cy 6 bn bp bw ban bhd bo) ++ ((conW ad 31 cy cm c1 c2 c3 c4 c5) ++ ((entW ad 37 cy em ep e1 e2 e3 e4 e5) ++ (outW od 0 cy o)))))))))) ++ (mdlW bd 0 cy th h su st sh fl 0 sn bn fm fr cm em lg le lf dl cS cH sea noi pl pw an hd bp bo bw c1 c2 c3 c4 c5 e1 e2 e3 e4 e5)) := hD
      refine lv_istore (lv' := [(5, .int (iI 2)), (0, .ref (b)), (1, .ref (ad 0)), (2, .ref (bd 0)), (3, .ref (od 0)), (4, .int (iI i))]) M.1 M.2.1 dL_law_1852 hl (by decide) rfl (fun ls hl => ?_)
      refine lv_aload_n M.1 M.2.1 dL_law_1854 rfl (lv_at hl 3 rfl) ?_
      refine lv_aload_n M.1 M.2.1 dL_law_1855 rfl (lv_at hl 1 rfl) ?_
      refine lv_iload M.1 M.2.1 dL_law_1856 (lv_at hl 5 rfl) ?_
      refine zi_push M dL_law_1858 ?_
      refine zi_iadd M dL_law_1859 ?_
      refine zi_sld M hX hbl hbA hS hL (by omega) (by omega) dL_law_1860 ?_
      have hx_14 := xZ_rg xs (i + 1)
      refine lv_aload_n M.1 M.2.1 dL_law_1861 rfl (lv_at hl 1 rfl) ?_
      refine lv_iload M.1 M.2.1 dL_law_1862 (lv_at hl 5 rfl) ?_
      refine zi_push M dL_law_1864 ?_
      refine zi_iadd M dL_law_1865 ?_
      refine zi_sld M hX hbl hbA hS hL (by omega) (by omega) dL_law_1866 ?_
      have hx_15 := xZ_rg xs (i + 2)
      refine zi_if_eq (tgt := 1874) M dL_law_1867 (by decide) (by omega) (fun _ => ?_) (fun q => absurd c_3 q)
      refine zi_push M dL_law_1874 ?_
      refine lv_aload_n M.1 M.2.1 dL_law_1875 rfl (lv_at hl 1 rfl) ?_
      refine lv_iload M.1 M.2.1 dL_law_1876 (lv_at hl 5 rfl) ?_
      refine zi_push M dL_law_1878 ?_
      refine zi_iadd M dL_law_1879 ?_
      refine zi_sld M hX hbl hbA hS hL (by omega) (by omega) dL_law_1880 ?_
      have hx_16 := xZ_rg xs (i + 3)
      have hPx := hP
      have hP := hPm
      have hPm := hPx
      have hD := zD_c hD
      refine z_cW2 (z_runV (As := [.int (iI (xZ xs (i + 1))), .int (iI 0), .int (iI (xZ xs (i + 3)))]) (rest := []) M (c_X7_skipped l D cy z0 bd th h su st sh fl 0 sn bn fm fr cm em lg le lf dl cS cH sea noi pl pw an hd bp bo bw c1 c2 c3 c4 c5 e1 e2 e3 e4 e5 (xZ xs (i + 1)) 0 (xZ xs (i + 3)) (by omega) (by omega) (by omega) (by omega) (by omega) (by omega) (by omega) g_cS (by omega)) hE hS hAz (z_cut hP (zD_l hD) hAz [0, 1, 2, 3, 4, 5, 6, 7, 8, 9, 10, 11, 12, 13, 14, 15, 16, 17, 18, 19, 20, 21] rfl (by decide +kernel)) (zRc.of (ci := 7) (q0 := 0) hE hP rfl rfl) zk_cd_X7_skipped zk_in_RX7 zk_im_X7_skipped zk_se_X7_skipped zk_ml_RL_194 rfl rfl zd_X7_skipped ⟨by decide, by decide⟩ rfl hl.1 rfl (Nat.le_of_ble_eq_true rfl) dL_law_1881 ⟨by show _ ≤ 601024; omega, by show _ ≤ 7293034; omega⟩) hP hPm hD hS [0, 1, 2, 3, 4, 5, 6, 7, 8, 9, 10, 11, 12, 13, 14, 15, 16, 17, 18, 19, 20, 21] rfl (fun _ => by simp only [List.map_append, mdlW_adr]) (fun r_17 u_17 H locs hp_17 hP hPm hD hS => ?_)
      try simp only [mdD_0, mdE_0, mdF_0, mdD_1, mdE_1, mdF_1] at hp_17
      have hP : va_P D vwCl (mdlW bd 0 cy u_17 h su st sh fl 0 sn bn fm fr cm em lg le lf dl cS cH sea noi pl pw an hd bp bo bw c1 c2 c3 c4 c5 e1 e2 e3 e4 e5) H := hP
      have hD : va_D (fun q => z0 ≤ q) ((mdlW bd 0 cy u_17 h su st sh fl 0 sn bn fm fr cm em lg le lf dl cS cH sea noi pl pw an hd bp bo bw c1 c2 c3 c4 c5 e1 e2 e3 e4 e5) ++ ((rooW ad 0 cy fm fr) ++ ((airW ad 1 cy h su st sh fl cS cH (dnD h fl) (dnE h cS) (dnF h su st)) ++ ((airW ad 8 cy h su 0 0 0 (fun _ => 0) (fun _ => 0) (dnD h 0) (dnE h (fun _ => 0)) (dnF h su 0)) ++ ((grdW ad 15 cy sea noi) ++ ((rayW ad 18 cy (ur 0) (ur 1) (ur 2) (ur 3) (ur 4) (ur 5) (ur 6) (ur 7)) ++ ((sndW ad 19 cy 12 sn pl pw an hd fq) ++ ((sndW ad 25 cy 6 bn bp bw ban bhd bo) ++ ((conW ad 31 cy cm c1 c2 c3 c4 c5) ++ ((entW ad 37 cy em ep e1 e2 e3 e4 e5) ++ (outW od 0 cy o))))))))))) := hD
      rcases hp_17 with ⟨rfl, hN_17, rfl⟩ | ⟨rfl, hN_17, rfl⟩ | ⟨rfl, hN_17, rfl⟩
      ·
        have hP : va_P D vwCl (mdlW bd 0 cy 0 h su st sh fl 0 sn bn fm fr cm em lg le lf dl cS cH sea noi pl pw an hd bp bo bw c1 c2 c3 c4 c5 e1 e2 e3 e4 e5) H := hP
        have hD : va_D (fun q => z0 ≤ q) ((mdlW bd 0 cy 0 h su st sh fl 0 sn bn fm fr cm em lg le lf dl cS cH sea noi pl pw an hd bp bo bw c1 c2 c3 c4 c5 e1 e2 e3 e4 e5) ++ ((rooW ad 0 cy fm fr) ++ ((airW ad 1 cy h su st sh fl cS cH (dnD h fl) (dnE h cS) (dnF h su st)) ++ ((airW ad 8 cy h su 0 0 0 (fun _ => 0) (fun _ => 0) (dnD h 0) (dnE h (fun _ => 0)) (dnF h su 0)) ++ ((grdW ad 15 cy sea noi) ++ ((rayW ad 18 cy (ur 0) (ur 1) (ur 2) (ur 3) (ur 4) (ur 5) (ur 6) (ur 7)) ++ ((sndW ad 19 cy 12 sn pl pw an hd fq) ++ ((sndW ad 25 cy 6 bn bp bw ban bhd bo) ++ ((conW ad 31 cy cm c1 c2 c3 c4 c5) ++ ((entW ad 37 cy em ep e1 e2 e3 e4 e5) ++ (outW od 0 cy o))))))))))) := hD
        exfalso
        omega
      ·
        have hP : va_P D vwCl (mdlW bd 0 cy 1 h su st sh fl 0 sn bn fm fr cm em lg le lf dl cS cH sea noi pl pw an hd bp bo bw c1 c2 c3 c4 c5 e1 e2 e3 e4 e5) H := hP
        have hD : va_D (fun q => z0 ≤ q) ((mdlW bd 0 cy 1 h su st sh fl 0 sn bn fm fr cm em lg le lf dl cS cH sea noi pl pw an hd bp bo bw c1 c2 c3 c4 c5 e1 e2 e3 e4 e5) ++ ((rooW ad 0 cy fm fr) ++ ((airW ad 1 cy h su st sh fl cS cH (dnD h fl) (dnE h cS) (dnF h su st)) ++ ((airW ad 8 cy h su 0 0 0 (fun _ => 0) (fun _ => 0) (dnD h 0) (dnE h (fun _ => 0)) (dnF h su 0)) ++ ((grdW ad 15 cy sea noi) ++ ((rayW ad 18 cy (ur 0) (ur 1) (ur 2) (ur 3) (ur 4) (ur 5) (ur 6) (ur 7)) ++ ((sndW ad 19 cy 12 sn pl pw an hd fq) ++ ((sndW ad 25 cy 6 bn bp bw ban bhd bo) ++ ((conW ad 31 cy cm c1 c2 c3 c4 c5) ++ ((entW ad 37 cy em ep e1 e2 e3 e4 e5) ++ (outW od 0 cy o))))))))))) := hD
        exfalso
        omega
      ·
        have hP : va_P D vwCl (mdlW bd 0 cy 2 h su st sh fl 0 sn bn fm fr cm em lg le lf dl cS cH sea noi pl pw an hd bp bo bw c1 c2 c3 c4 c5 e1 e2 e3 e4 e5) H := hP
        have hD : va_D (fun q => z0 ≤ q) ((mdlW bd 0 cy 2 h su st sh fl 0 sn bn fm fr cm em lg le lf dl cS cH sea noi pl pw an hd bp bo bw c1 c2 c3 c4 c5 e1 e2 e3 e4 e5) ++ ((rooW ad 0 cy fm fr) ++ ((airW ad 1 cy h su st sh fl cS cH (dnD h fl) (dnE h cS) (dnF h su st)) ++ ((airW ad 8 cy h su 0 0 0 (fun _ => 0) (fun _ => 0) (dnD h 0) (dnE h (fun _ => 0)) (dnF h su 0)) ++ ((grdW ad 15 cy sea noi) ++ ((rayW ad 18 cy (ur 0) (ur 1) (ur 2) (ur 3) (ur 4) (ur 5) (ur 6) (ur 7)) ++ ((sndW ad 19 cy 12 sn pl pw an hd fq) ++ ((sndW ad 25 cy 6 bn bp bw ban bhd bo) ++ ((conW ad 31 cy cm c1 c2 c3 c4 c5) ++ ((entW ad 37 cy em ep e1 e2 e3 e4 e5) ++ (outW od 0 cy o))))))))))) := hD
        refine lv_istore (lv' := [(6, .int (iI 0)), (5, .int (iI 2)), (0, .ref (b)), (1, .ref (ad 0)), (2, .ref (bd 0)), (3, .ref (od 0)), (4, .int (iI i))]) M.1 M.2.1 dL_law_1884 hl (by decide) rfl (fun ls hl => ?_)
        refine lv_aload_n M.1 M.2.1 dL_law_1886 rfl (lv_at hl 4 rfl) ?_
        refine z_cR (z_runV (As := []) (rest := []) M (c_X7_thrown l D cy z0 bd 2 h su st sh fl 0 sn bn fm fr cm em lg le lf dl cS cH sea noi pl pw an hd bp bo bw c1 c2 c3 c4 c5 e1 e2 e3 e4 e5) hE hS hAz hP (zRc.of (ci := 7) (q0 := 0) hE hP rfl rfl) zk_cd_X7_thrown zk_in_RX7 zk_im_X7_thrown zk_se_X7_thrown zk_ml_RL_116 rfl rfl zd_X7_thrown ⟨by decide, by decide⟩ rfl hl.1 rfl (Nat.le_of_ble_eq_true rfl) dL_law_1887 ⟨by show _ ≤ 601024; omega, by show _ ≤ 7293034; omega⟩) ?_
        refine lv_iload M.1 M.2.1 dL_law_1890 (lv_at hl 1 rfl) ?_
        refine zi_same (tgt := 1897) M dL_law_1892 (by decide) ?_
        refine lv_iload M.1 M.2.1 dL_law_1897 (lv_at hl 1 rfl) ?_
        refine zi_if_ne (tgt := 1914) M dL_law_1899 (by decide) ⟨by decide, by decide⟩ (fun _ => ?_) (fun q => absurd q (by decide))
        refine zi_goto (tgt := 2286) M dL_law_1914 (by decide) ?_
        have hPx := hP
        have hP := hPm
        have hPm := hPx
        have hD := zD_c hD
        refine W.widen (k := cells + 6) (n := slots + 36) (by omega) (by omega) ?_
        exact hback h su st sh fl sn bn cm em ep fm fr 2 o lg le lf dl cS cH sea noi pl pw an hd fq bp bw ban bhd bo c1 c2 c3 c4 c5 e1 e2 e3 e4 e5 ur h_h h_su h_st h_sh h_fl h_sn h_bn h_cm h_em g_cS g_cH g_sea g_noi g_pl g_pw g_an g_hd g_bp g_bw g_ban g_bhd g_c1 g_c2 g_c3 g_c4 g_c5 g_e1 g_e2 g_e3 g_e4 g_e5 hbo hep H locs hP hPm hD hS ls (lv_sub hl [2, 3, 4, 5, 6] rfl)
  ·
    refine zi_push M dL_law_1837 ?_
    refine zi_goto (tgt := 1842) M dL_law_1838 (by decide) ?_
    refine lv_aload_n M.1 M.2.1 dL_law_1842 rfl (lv_at hl 0 rfl) ?_
    refine lv_iload M.1 M.2.1 dL_law_1843 (lv_at hl 4 rfl) ?_
    refine zi_push M dL_law_1845 ?_
    refine zi_iadd M dL_law_1846 ?_
    refine zi_sld M hX hbl hbA hS hL (by omega) (by omega) dL_law_1847 ?_
    have hx_18 := xZ_rg xs (i + 3)
    refine lv_aload_n M.1 M.2.1 dL_law_1848 rfl (lv_at hl 3 rfl) ?_
    refine z_cW2 (zx_runH (As := [.ref (ad 0), .int (iI (xZ xs (i + 1))), .int (iI 1), .int (iI (xZ xs (i + 3))), .ref (od 0)]) (rest := []) M (c_L_skipped l hst D cy z0 ad od fm fr h su st sh fl o cS cH (dnD h fl) (dnE h cS) (dnF h su st) (xZ xs (i + 1)) 1 (xZ xs (i + 3)) (by omega) (by omega) (by omega) (dnE_rg g_cS) (dnF_rg h_su h_st)) hE hN hS hAz (z_cut hP (zD_l hD) hAz [0, 1, 2, 3, 4, 5, 6, 7, 43] rfl (by decide +kernel)) zk_cw_L_skipped zk_in_RL zk_st_L_skipped zk_ml_RL_191 rfl rfl zd_L_skipped ⟨by decide, by decide⟩ rfl hl.1 rfl (Nat.le_of_ble_eq_true rfl) dL_law_1849 ⟨by show _ ≤ 601024; omega, by show _ ≤ 7293034; omega⟩) hP hPm hD hS [0, 1, 2, 3, 4, 5, 6, 7, 43] rfl (fun _ => by simp only [List.map_append, airW_adr, outW_adr, rooW_adr]) (fun r_19 u_19 H locs hp_19 hP hPm hD hS => ?_)
    have hP : va_P D vwCl ((rooW ad 0 cy fm fr) ++ ((airW ad 1 cy h su st sh fl cS cH (dnD h fl) (dnE h cS) (dnF h su st)) ++ ((airW ad 8 cy h su 0 0 0 (fun _ => 0) (fun _ => 0) (dnD h 0) (dnE h (fun _ => 0)) (dnF h su 0)) ++ ((grdW ad 15 cy sea noi) ++ ((rayW ad 18 cy (ur 0) (ur 1) (ur 2) (ur 3) (ur 4) (ur 5) (ur 6) (ur 7)) ++ ((sndW ad 19 cy 12 sn pl pw an hd fq) ++ ((sndW ad 25 cy 6 bn bp bw ban bhd bo) ++ ((conW ad 31 cy cm c1 c2 c3 c4 c5) ++ ((entW ad 37 cy em ep e1 e2 e3 e4 e5) ++ (outW od 0 cy u_19.2.1)))))))))) H := hP
    have hD : va_D (fun q => z0 ≤ q) (((rooW ad 0 cy fm fr) ++ ((airW ad 1 cy h su st sh fl cS cH (dnD h fl) (dnE h cS) (dnF h su st)) ++ ((airW ad 8 cy h su 0 0 0 (fun _ => 0) (fun _ => 0) (dnD h 0) (dnE h (fun _ => 0)) (dnF h su 0)) ++ ((grdW ad 15 cy sea noi) ++ ((rayW ad 18 cy (ur 0) (ur 1) (ur 2) (ur 3) (ur 4) (ur 5) (ur 6) (ur 7)) ++ ((sndW ad 19 cy 12 sn pl pw an hd fq) ++ ((sndW ad 25 cy 6 bn bp bw ban bhd bo) ++ ((conW ad 31 cy cm c1 c2 c3 c4 c5) ++ ((entW ad 37 cy em ep e1 e2 e3 e4 e5) ++ (outW od 0 cy u_19.2.1)))))))))) ++ (mdlW bd 0 cy th h su st sh fl 0 sn bn fm fr cm em lg le lf dl cS cH sea noi pl pw an hd bp bo bw c1 c2 c3 c4 c5 e1 e2 e3 e4 e5)) := hD
    obtain ⟨u1_19, u2_19, u3_19⟩ := u_19
    dsimp only at hp_19
    rcases hp_19 with ⟨rfl, rfl, hN_19, hv_19⟩ | ⟨rfl, rfl, hN_19, hv_19⟩ | ⟨rfl, rfl, hN_19, hv_19⟩
    ·
      have hw_19 := hv_19.symm
      subst hw_19
      have hP : va_P D vwCl ((rooW ad 0 cy fm fr) ++ ((airW ad 1 cy h su st sh fl cS cH (dnD h fl) (dnE h cS) (dnF h su st)) ++ ((airW ad 8 cy h su 0 0 0 (fun _ => 0) (fun _ => 0) (dnD h 0) (dnE h (fun _ => 0)) (dnF h su 0)) ++ ((grdW ad 15 cy sea noi) ++ ((rayW ad 18 cy (ur 0) (ur 1) (ur 2) (ur 3) (ur 4) (ur 5) (ur 6) (ur 7)) ++ ((sndW ad 19 cy 12 sn pl pw an hd fq) ++ ((sndW ad 25 cy 6 bn bp bw ban bhd bo) ++ ((conW ad 31 cy cm c1 c2 c3 c4 c5) ++ ((entW ad 37 cy em ep e1 e2 e3 e4 e5) ++ (outW od 0 cy (skpZ (skF (dnE h cS) (dnF h su st) 1 (xZ xs (i + 1)) (xZ xs (i + 3)) 9)))))))))))) H := hP
      have hD : va_D (fun q => z0 ≤ q) (((rooW ad 0 cy fm fr) ++ ((airW ad 1 cy h su st sh fl cS cH (dnD h fl) (dnE h cS) (dnF h su st)) ++ ((airW ad 8 cy h su 0 0 0 (fun _ => 0) (fun _ => 0) (dnD h 0) (dnE h (fun _ => 0)) (dnF h su 0)) ++ ((grdW ad 15 cy sea noi) ++ ((rayW ad 18 cy (ur 0) (ur 1) (ur 2) (ur 3) (ur 4) (ur 5) (ur 6) (ur 7)) ++ ((sndW ad 19 cy 12 sn pl pw an hd fq) ++ ((sndW ad 25 cy 6 bn bp bw ban bhd bo) ++ ((conW ad 31 cy cm c1 c2 c3 c4 c5) ++ ((entW ad 37 cy em ep e1 e2 e3 e4 e5) ++ (outW od 0 cy (skpZ (skF (dnE h cS) (dnF h su st) 1 (xZ xs (i + 1)) (xZ xs (i + 3)) 9)))))))))))) ++ (mdlW bd 0 cy th h su st sh fl 0 sn bn fm fr cm em lg le lf dl cS cH sea noi pl pw an hd bp bo bw c1 c2 c3 c4 c5 e1 e2 e3 e4 e5)) := hD
      refine lv_istore (lv' := [(5, .int (iI 0)), (0, .ref (b)), (1, .ref (ad 0)), (2, .ref (bd 0)), (3, .ref (od 0)), (4, .int (iI i))]) M.1 M.2.1 dL_law_1852 hl (by decide) rfl (fun ls hl => ?_)
      refine lv_aload_n M.1 M.2.1 dL_law_1854 rfl (lv_at hl 3 rfl) ?_
      refine lv_aload_n M.1 M.2.1 dL_law_1855 rfl (lv_at hl 1 rfl) ?_
      refine lv_iload M.1 M.2.1 dL_law_1856 (lv_at hl 5 rfl) ?_
      refine zi_push M dL_law_1858 ?_
      refine zi_iadd M dL_law_1859 ?_
      refine zi_sld M hX hbl hbA hS hL (by omega) (by omega) dL_law_1860 ?_
      have hx_20 := xZ_rg xs (i + 1)
      refine lv_aload_n M.1 M.2.1 dL_law_1861 rfl (lv_at hl 1 rfl) ?_
      refine lv_iload M.1 M.2.1 dL_law_1862 (lv_at hl 5 rfl) ?_
      refine zi_push M dL_law_1864 ?_
      refine zi_iadd M dL_law_1865 ?_
      refine zi_sld M hX hbl hbA hS hL (by omega) (by omega) dL_law_1866 ?_
      have hx_21 := xZ_rg xs (i + 2)
      refine zi_if_eq (tgt := 1874) M dL_law_1867 (by decide) (by omega) (fun q => absurd q c_3) (fun _ => ?_)
      refine zi_push M dL_law_1870 ?_
      refine zi_goto (tgt := 1875) M dL_law_1871 (by decide) ?_
      refine lv_aload_n M.1 M.2.1 dL_law_1875 rfl (lv_at hl 1 rfl) ?_
      refine lv_iload M.1 M.2.1 dL_law_1876 (lv_at hl 5 rfl) ?_
      refine zi_push M dL_law_1878 ?_
      refine zi_iadd M dL_law_1879 ?_
      refine zi_sld M hX hbl hbA hS hL (by omega) (by omega) dL_law_1880 ?_
      have hx_22 := xZ_rg xs (i + 3)
      have hPx := hP
      have hP := hPm
      have hPm := hPx
      have hD := zD_c hD
      refine z_cW2 (z_runV (As := [.int (iI (xZ xs (i + 1))), .int (iI 1), .int (iI (xZ xs (i + 3)))]) (rest := []) M (c_X7_skipped l D cy z0 bd th h su st sh fl 0 sn bn fm fr cm em lg le lf dl cS cH sea noi pl pw an hd bp bo bw c1 c2 c3 c4 c5 e1 e2 e3 e4 e5 (xZ xs (i + 1)) 1 (xZ xs (i + 3)) (by omega) (by omega) (by omega) (by omega) (by omega) (by omega) (by omega) g_cS (by omega)) hE hS hAz (z_cut hP (zD_l hD) hAz [0, 1, 2, 3, 4, 5, 6, 7, 8, 9, 10, 11, 12, 13, 14, 15, 16, 17, 18, 19, 20, 21] rfl (by decide +kernel)) (zRc.of (ci := 7) (q0 := 0) hE hP rfl rfl) zk_cd_X7_skipped zk_in_RX7 zk_im_X7_skipped zk_se_X7_skipped zk_ml_RL_194 rfl rfl zd_X7_skipped ⟨by decide, by decide⟩ rfl hl.1 rfl (Nat.le_of_ble_eq_true rfl) dL_law_1881 ⟨by show _ ≤ 601024; omega, by show _ ≤ 7293034; omega⟩) hP hPm hD hS [0, 1, 2, 3, 4, 5, 6, 7, 8, 9, 10, 11, 12, 13, 14, 15, 16, 17, 18, 19, 20, 21] rfl (fun _ => by simp only [List.map_append, mdlW_adr]) (fun r_23 u_23 H locs hp_23 hP hPm hD hS => ?_)
      try simp only [mdD_0, mdE_0, mdF_0, mdD_1, mdE_1, mdF_1] at hp_23
      have hP : va_P D vwCl (mdlW bd 0 cy u_23 h su st sh fl 0 sn bn fm fr cm em lg le lf dl cS cH sea noi pl pw an hd bp bo bw c1 c2 c3 c4 c5 e1 e2 e3 e4 e5) H := hP
      have hD : va_D (fun q => z0 ≤ q) ((mdlW bd 0 cy u_23 h su st sh fl 0 sn bn fm fr cm em lg le lf dl cS cH sea noi pl pw an hd bp bo bw c1 c2 c3 c4 c5 e1 e2 e3 e4 e5) ++ ((rooW ad 0 cy fm fr) ++ ((airW ad 1 cy h su st sh fl cS cH (dnD h fl) (dnE h cS) (dnF h su st)) ++ ((airW ad 8 cy h su 0 0 0 (fun _ => 0) (fun _ => 0) (dnD h 0) (dnE h (fun _ => 0)) (dnF h su 0)) ++ ((grdW ad 15 cy sea noi) ++ ((rayW ad 18 cy (ur 0) (ur 1) (ur 2) (ur 3) (ur 4) (ur 5) (ur 6) (ur 7)) ++ ((sndW ad 19 cy 12 sn pl pw an hd fq) ++ ((sndW ad 25 cy 6 bn bp bw ban bhd bo) ++ ((conW ad 31 cy cm c1 c2 c3 c4 c5) ++ ((entW ad 37 cy em ep e1 e2 e3 e4 e5) ++ (outW od 0 cy (skpZ (skF (dnE h cS) (dnF h su st) 1 (xZ xs (i + 1)) (xZ xs (i + 3)) 9))))))))))))) := hD
      rcases hp_23 with ⟨rfl, hN_23, rfl⟩ | ⟨rfl, hN_23, rfl⟩ | ⟨rfl, hN_23, rfl⟩
      ·
        have hP : va_P D vwCl (mdlW bd 0 cy 0 h su st sh fl 0 sn bn fm fr cm em lg le lf dl cS cH sea noi pl pw an hd bp bo bw c1 c2 c3 c4 c5 e1 e2 e3 e4 e5) H := hP
        have hD : va_D (fun q => z0 ≤ q) ((mdlW bd 0 cy 0 h su st sh fl 0 sn bn fm fr cm em lg le lf dl cS cH sea noi pl pw an hd bp bo bw c1 c2 c3 c4 c5 e1 e2 e3 e4 e5) ++ ((rooW ad 0 cy fm fr) ++ ((airW ad 1 cy h su st sh fl cS cH (dnD h fl) (dnE h cS) (dnF h su st)) ++ ((airW ad 8 cy h su 0 0 0 (fun _ => 0) (fun _ => 0) (dnD h 0) (dnE h (fun _ => 0)) (dnF h su 0)) ++ ((grdW ad 15 cy sea noi) ++ ((rayW ad 18 cy (ur 0) (ur 1) (ur 2) (ur 3) (ur 4) (ur 5) (ur 6) (ur 7)) ++ ((sndW ad 19 cy 12 sn pl pw an hd fq) ++ ((sndW ad 25 cy 6 bn bp bw ban bhd bo) ++ ((conW ad 31 cy cm c1 c2 c3 c4 c5) ++ ((entW ad 37 cy em ep e1 e2 e3 e4 e5) ++ (outW od 0 cy (skpZ (skF (dnE h cS) (dnF h su st) 1 (xZ xs (i + 1)) (xZ xs (i + 3)) 9))))))))))))) := hD
        refine lv_istore (lv' := [(6, .int (iI (skpZ (skF (dnE h cS) (dnF h su st) 1 (xZ xs (i + 1)) (xZ xs (i + 3)) 9)))), (5, .int (iI 0)), (0, .ref (b)), (1, .ref (ad 0)), (2, .ref (bd 0)), (3, .ref (od 0)), (4, .int (iI i))]) M.1 M.2.1 dL_law_1884 hl (by decide) rfl (fun ls hl => ?_)
        refine lv_aload_n M.1 M.2.1 dL_law_1886 rfl (lv_at hl 4 rfl) ?_
        refine z_cR (z_runV (As := []) (rest := []) M (c_X7_thrown l D cy z0 bd 0 h su st sh fl 0 sn bn fm fr cm em lg le lf dl cS cH sea noi pl pw an hd bp bo bw c1 c2 c3 c4 c5 e1 e2 e3 e4 e5) hE hS hAz hP (zRc.of (ci := 7) (q0 := 0) hE hP rfl rfl) zk_cd_X7_thrown zk_in_RX7 zk_im_X7_thrown zk_se_X7_thrown zk_ml_RL_116 rfl rfl zd_X7_thrown ⟨by decide, by decide⟩ rfl hl.1 rfl (Nat.le_of_ble_eq_true rfl) dL_law_1887 ⟨by show _ ≤ 601024; omega, by show _ ≤ 7293034; omega⟩) ?_
        refine lv_iload M.1 M.2.1 dL_law_1890 (lv_at hl 1 rfl) ?_
        refine zi_same (tgt := 1897) M dL_law_1892 (by decide) ?_
        refine lv_iload M.1 M.2.1 dL_law_1897 (lv_at hl 1 rfl) ?_
        refine zi_if_ne (tgt := 1914) M dL_law_1899 (by decide) ⟨by decide, by decide⟩ (fun q => absurd q (by decide)) (fun _ => ?_)
        refine lv_aload_n M.1 M.2.1 dL_law_1902 rfl (lv_at hl 5 rfl) ?_
        refine zi_push M dL_law_1903 ?_
        refine zi_lald M hE hPm 43 rfl dL_law_1904 ?_
        refine lv_iload M.1 M.2.1 dL_law_1905 (lv_at hl 0 rfl) ?_
        refine zi_i2l M dL_law_1907 ?_
        refine zi_lcmpE M dL_law_1908 ?_
        refine zi_if_eq (tgt := 1914) M dL_law_1909 (by decide) ⟨by decide, by decide⟩ (fun _ => ?_) (fun q => absurd q (by decide))
        refine zi_goto (tgt := 2286) M dL_law_1914 (by decide) ?_
        have hPx := hP
        have hP := hPm
        have hPm := hPx
        have hD := zD_c hD
        refine W.widen (k := cells + 6) (n := slots + 36) (by omega) (by omega) ?_
        exact hback h su st sh fl sn bn cm em ep fm fr 0 (skpZ (skF (dnE h cS) (dnF h su st) 1 (xZ xs (i + 1)) (xZ xs (i + 3)) 9)) lg le lf dl cS cH sea noi pl pw an hd fq bp bw ban bhd bo c1 c2 c3 c4 c5 e1 e2 e3 e4 e5 ur h_h h_su h_st h_sh h_fl h_sn h_bn h_cm h_em g_cS g_cH g_sea g_noi g_pl g_pw g_an g_hd g_bp g_bw g_ban g_bhd g_c1 g_c2 g_c3 g_c4 g_c5 g_e1 g_e2 g_e3 g_e4 g_e5 hbo hep H locs hP hPm hD hS ls (lv_sub hl [2, 3, 4, 5, 6] rfl)
      ·
        have hP : va_P D vwCl (mdlW bd 0 cy 1 h su st sh fl 0 sn bn fm fr cm em lg le lf dl cS cH sea noi pl pw an hd bp bo bw c1 c2 c3 c4 c5 e1 e2 e3 e4 e5) H := hP
        have hD : va_D (fun q => z0 ≤ q) ((mdlW bd 0 cy 1 h su st sh fl 0 sn bn fm fr cm em lg le lf dl cS cH sea noi pl pw an hd bp bo bw c1 c2 c3 c4 c5 e1 e2 e3 e4 e5) ++ ((rooW ad 0 cy fm fr) ++ ((airW ad 1 cy h su st sh fl cS cH (dnD h fl) (dnE h cS) (dnF h su st)) ++ ((airW ad 8 cy h su 0 0 0 (fun _ => 0) (fun _ => 0) (dnD h 0) (dnE h (fun _ => 0)) (dnF h su 0)) ++ ((grdW ad 15 cy sea noi) ++ ((rayW ad 18 cy (ur 0) (ur 1) (ur 2) (ur 3) (ur 4) (ur 5) (ur 6) (ur 7)) ++ ((sndW ad 19 cy 12 sn pl pw an hd fq) ++ ((sndW ad 25 cy 6 bn bp bw ban bhd bo) ++ ((conW ad 31 cy cm c1 c2 c3 c4 c5) ++ ((entW ad 37 cy em ep e1 e2 e3 e4 e5) ++ (outW od 0 cy (skpZ (skF (dnE h cS) (dnF h su st) 1 (xZ xs (i + 1)) (xZ xs (i + 3)) 9))))))))))))) := hD
        exfalso
        omega
      ·
        have hP : va_P D vwCl (mdlW bd 0 cy 2 h su st sh fl 0 sn bn fm fr cm em lg le lf dl cS cH sea noi pl pw an hd bp bo bw c1 c2 c3 c4 c5 e1 e2 e3 e4 e5) H := hP
        have hD : va_D (fun q => z0 ≤ q) ((mdlW bd 0 cy 2 h su st sh fl 0 sn bn fm fr cm em lg le lf dl cS cH sea noi pl pw an hd bp bo bw c1 c2 c3 c4 c5 e1 e2 e3 e4 e5) ++ ((rooW ad 0 cy fm fr) ++ ((airW ad 1 cy h su st sh fl cS cH (dnD h fl) (dnE h cS) (dnF h su st)) ++ ((airW ad 8 cy h su 0 0 0 (fun _ => 0) (fun _ => 0) (dnD h 0) (dnE h (fun _ => 0)) (dnF h su 0)) ++ ((grdW ad 15 cy sea noi) ++ ((rayW ad 18 cy (ur 0) (ur 1) (ur 2) (ur 3) (ur 4) (ur 5) (ur 6) (ur 7)) ++ ((sndW ad 19 cy 12 sn pl pw an hd fq) ++ ((sndW ad 25 cy 6 bn bp bw ban bhd bo) ++ ((conW ad 31 cy cm c1 c2 c3 c4 c5) ++ ((entW ad 37 cy em ep e1 e2 e3 e4 e5) ++ (outW od 0 cy (skpZ (skF (dnE h cS) (dnF h su st) 1 (xZ xs (i + 1)) (xZ xs (i + 3)) 9))))))))))))) := hD
        exfalso
        omega
    ·
      have hw_19 := hv_19.symm
      subst hw_19
      have hP : va_P D vwCl ((rooW ad 0 cy fm fr) ++ ((airW ad 1 cy h su st sh fl cS cH (dnD h fl) (dnE h cS) (dnF h su st)) ++ ((airW ad 8 cy h su 0 0 0 (fun _ => 0) (fun _ => 0) (dnD h 0) (dnE h (fun _ => 0)) (dnF h su 0)) ++ ((grdW ad 15 cy sea noi) ++ ((rayW ad 18 cy (ur 0) (ur 1) (ur 2) (ur 3) (ur 4) (ur 5) (ur 6) (ur 7)) ++ ((sndW ad 19 cy 12 sn pl pw an hd fq) ++ ((sndW ad 25 cy 6 bn bp bw ban bhd bo) ++ ((conW ad 31 cy cm c1 c2 c3 c4 c5) ++ ((entW ad 37 cy em ep e1 e2 e3 e4 e5) ++ (outW od 0 cy o)))))))))) H := hP
      have hD : va_D (fun q => z0 ≤ q) (((rooW ad 0 cy fm fr) ++ ((airW ad 1 cy h su st sh fl cS cH (dnD h fl) (dnE h cS) (dnF h su st)) ++ ((airW ad 8 cy h su 0 0 0 (fun _ => 0) (fun _ => 0) (dnD h 0) (dnE h (fun _ => 0)) (dnF h su 0)) ++ ((grdW ad 15 cy sea noi) ++ ((rayW ad 18 cy (ur 0) (ur 1) (ur 2) (ur 3) (ur 4) (ur 5) (ur 6) (ur 7)) ++ ((sndW ad 19 cy 12 sn pl pw an hd fq) ++ ((sndW ad 25 cy 6 bn bp bw ban bhd bo) ++ ((conW ad 31 cy cm c1 c2 c3 c4 c5) ++ ((entW ad 37 cy em ep e1 e2 e3 e4 e5) ++ (outW od 0 cy o)))))))))) ++ (mdlW bd 0 cy th h su st sh fl 0 sn bn fm fr cm em lg le lf dl cS cH sea noi pl pw an hd bp bo bw c1 c2 c3 c4 c5 e1 e2 e3 e4 e5)) := hD
      refine lv_istore (lv' := [(5, .int (iI 1)), (0, .ref (b)), (1, .ref (ad 0)), (2, .ref (bd 0)), (3, .ref (od 0)), (4, .int (iI i))]) M.1 M.2.1 dL_law_1852 hl (by decide) rfl (fun ls hl => ?_)
      refine lv_aload_n M.1 M.2.1 dL_law_1854 rfl (lv_at hl 3 rfl) ?_
      refine lv_aload_n M.1 M.2.1 dL_law_1855 rfl (lv_at hl 1 rfl) ?_
      refine lv_iload M.1 M.2.1 dL_law_1856 (lv_at hl 5 rfl) ?_
      refine zi_push M dL_law_1858 ?_
      refine zi_iadd M dL_law_1859 ?_
      refine zi_sld M hX hbl hbA hS hL (by omega) (by omega) dL_law_1860 ?_
      have hx_24 := xZ_rg xs (i + 1)
      refine lv_aload_n M.1 M.2.1 dL_law_1861 rfl (lv_at hl 1 rfl) ?_
      refine lv_iload M.1 M.2.1 dL_law_1862 (lv_at hl 5 rfl) ?_
      refine zi_push M dL_law_1864 ?_
      refine zi_iadd M dL_law_1865 ?_
      refine zi_sld M hX hbl hbA hS hL (by omega) (by omega) dL_law_1866 ?_
      have hx_25 := xZ_rg xs (i + 2)
      refine zi_if_eq (tgt := 1874) M dL_law_1867 (by decide) (by omega) (fun q => absurd q c_3) (fun _ => ?_)
      refine zi_push M dL_law_1870 ?_
      refine zi_goto (tgt := 1875) M dL_law_1871 (by decide) ?_
      refine lv_aload_n M.1 M.2.1 dL_law_1875 rfl (lv_at hl 1 rfl) ?_
      refine lv_iload M.1 M.2.1 dL_law_1876 (lv_at hl 5 rfl) ?_
      refine zi_push M dL_law_1878 ?_
      refine zi_iadd M dL_law_1879 ?_
      refine zi_sld M hX hbl hbA hS hL (by omega) (by omega) dL_law_1880 ?_
      have hx_26 := xZ_rg xs (i + 3)
      have hPx := hP
      have hP := hPm
      have hPm := hPx
      have hD := zD_c hD
      refine z_cW2 (z_runV (As := [.int (iI (xZ xs (i + 1))), .int (iI 1), .int (iI (xZ xs (i + 3)))]) (rest := []) M (c_X7_skipped l D cy z0 bd th h su st sh fl 0 sn bn fm fr cm em lg le lf dl cS cH sea noi pl pw an hd bp bo bw c1 c2 c3 c4 c5 e1 e2 e3 e4 e5 (xZ xs (i + 1)) 1 (xZ xs (i + 3)) (by omega) (by omega) (by omega) (by omega) (by omega) (by omega) (by omega) g_cS (by omega)) hE hS hAz (z_cut hP (zD_l hD) hAz [0, 1, 2, 3, 4, 5, 6, 7, 8, 9, 10, 11, 12, 13, 14, 15, 16, 17, 18, 19, 20, 21] rfl (by decide +kernel)) (zRc.of (ci := 7) (q0 := 0) hE hP rfl rfl) zk_cd_X7_skipped zk_in_RX7 zk_im_X7_skipped zk_se_X7_skipped zk_ml_RL_194 rfl rfl zd_X7_skipped ⟨by decide, by decide⟩ rfl hl.1 rfl (Nat.le_of_ble_eq_true rfl) dL_law_1881 ⟨by show _ ≤ 601024; omega, by show _ ≤ 7293034; omega⟩) hP hPm hD hS [0, 1, 2, 3, 4, 5, 6, 7, 8, 9, 10, 11, 12, 13, 14, 15, 16, 17, 18, 19, 20, 21] rfl (fun _ => by simp only [List.map_append, mdlW_adr]) (fun r_27 u_27 H locs hp_27 hP hPm hD hS => ?_)
      try simp only [mdD_0, mdE_0, mdF_0, mdD_1, mdE_1, mdF_1] at hp_27
      have hP : va_P D vwCl (mdlW bd 0 cy u_27 h su st sh fl 0 sn bn fm fr cm em lg le lf dl cS cH sea noi pl pw an hd bp bo bw c1 c2 c3 c4 c5 e1 e2 e3 e4 e5) H := hP
      have hD : va_D (fun q => z0 ≤ q) ((mdlW bd 0 cy u_27 h su st sh fl 0 sn bn fm fr cm em lg le lf dl cS cH sea noi pl pw an hd bp bo bw c1 c2 c3 c4 c5 e1 e2 e3 e4 e5) ++ ((rooW ad 0 cy fm fr) ++ ((airW ad 1 cy h su st sh fl cS cH (dnD h fl) (dnE h cS) (dnF h su st)) ++ ((airW ad 8 cy h su 0 0 0 (fun _ => 0) (fun _ => 0) (dnD h 0) (dnE h (fun _ => 0)) (dnF h su 0)) ++ ((grdW ad 15 cy sea noi) ++ ((rayW ad 18 cy (ur 0) (ur 1) (ur 2) (ur 3) (ur 4) (ur 5) (ur 6) (ur 7)) ++ ((sndW ad 19 cy 12 sn pl pw an hd fq) ++ ((sndW ad 25 cy 6 bn bp bw ban bhd bo) ++ ((conW ad 31 cy cm c1 c2 c3 c4 c5) ++ ((entW ad 37 cy em ep e1 e2 e3 e4 e5) ++ (outW od 0 cy o))))))))))) := hD
      rcases hp_27 with ⟨rfl, hN_27, rfl⟩ | ⟨rfl, hN_27, rfl⟩ | ⟨rfl, hN_27, rfl⟩
      ·
        have hP : va_P D vwCl (mdlW bd 0 cy 0 h su st sh fl 0 sn bn fm fr cm em lg le lf dl cS cH sea noi pl pw an hd bp bo bw c1 c2 c3 c4 c5 e1 e2 e3 e4 e5) H := hP
        have hD : va_D (fun q => z0 ≤ q) ((mdlW bd 0 cy 0 h su st sh fl 0 sn bn fm fr cm em lg le lf dl cS cH sea noi pl pw an hd bp bo bw c1 c2 c3 c4 c5 e1 e2 e3 e4 e5) ++ ((rooW ad 0 cy fm fr) ++ ((airW ad 1 cy h su st sh fl cS cH (dnD h fl) (dnE h cS) (dnF h su st)) ++ ((airW ad 8 cy h su 0 0 0 (fun _ => 0) (fun _ => 0) (dnD h 0) (dnE h (fun _ => 0)) (dnF h su 0)) ++ ((grdW ad 15 cy sea noi) ++ ((rayW ad 18 cy (ur 0) (ur 1) (ur 2) (ur 3) (ur 4) (ur 5) (ur 6) (ur 7)) ++ ((sndW ad 19 cy 12 sn pl pw an hd fq) ++ ((sndW ad 25 cy 6 bn bp bw ban bhd bo) ++ ((conW ad 31 cy cm c1 c2 c3 c4 c5) ++ ((entW ad 37 cy em ep e1 e2 e3 e4 e5) ++ (outW od 0 cy o))))))))))) := hD
        exfalso
        omega
      ·
        have hP : va_P D vwCl (mdlW bd 0 cy 1 h su st sh fl 0 sn bn fm fr cm em lg le lf dl cS cH sea noi pl pw an hd bp bo bw c1 c2 c3 c4 c5 e1 e2 e3 e4 e5) H := hP
        have hD : va_D (fun q => z0 ≤ q) ((mdlW bd 0 cy 1 h su st sh fl 0 sn bn fm fr cm em lg le lf dl cS cH sea noi pl pw an hd bp bo bw c1 c2 c3 c4 c5 e1 e2 e3 e4 e5) ++ ((rooW ad 0 cy fm fr) ++ ((airW ad 1 cy h su st sh fl cS cH (dnD h fl) (dnE h cS) (dnF h su st)) ++ ((airW ad 8 cy h su 0 0 0 (fun _ => 0) (fun _ => 0) (dnD h 0) (dnE h (fun _ => 0)) (dnF h su 0)) ++ ((grdW ad 15 cy sea noi) ++ ((rayW ad 18 cy (ur 0) (ur 1) (ur 2) (ur 3) (ur 4) (ur 5) (ur 6) (ur 7)) ++ ((sndW ad 19 cy 12 sn pl pw an hd fq) ++ ((sndW ad 25 cy 6 bn bp bw ban bhd bo) ++ ((conW ad 31 cy cm c1 c2 c3 c4 c5) ++ ((entW ad 37 cy em ep e1 e2 e3 e4 e5) ++ (outW od 0 cy o))))))))))) := hD
        refine lv_istore (lv' := [(6, .int (iI 0)), (5, .int (iI 1)), (0, .ref (b)), (1, .ref (ad 0)), (2, .ref (bd 0)), (3, .ref (od 0)), (4, .int (iI i))]) M.1 M.2.1 dL_law_1884 hl (by decide) rfl (fun ls hl => ?_)
        refine lv_aload_n M.1 M.2.1 dL_law_1886 rfl (lv_at hl 4 rfl) ?_
        refine z_cR (z_runV (As := []) (rest := []) M (c_X7_thrown l D cy z0 bd 1 h su st sh fl 0 sn bn fm fr cm em lg le lf dl cS cH sea noi pl pw an hd bp bo bw c1 c2 c3 c4 c5 e1 e2 e3 e4 e5) hE hS hAz hP (zRc.of (ci := 7) (q0 := 0) hE hP rfl rfl) zk_cd_X7_thrown zk_in_RX7 zk_im_X7_thrown zk_se_X7_thrown zk_ml_RL_116 rfl rfl zd_X7_thrown ⟨by decide, by decide⟩ rfl hl.1 rfl (Nat.le_of_ble_eq_true rfl) dL_law_1887 ⟨by show _ ≤ 601024; omega, by show _ ≤ 7293034; omega⟩) ?_
        refine lv_iload M.1 M.2.1 dL_law_1890 (lv_at hl 1 rfl) ?_
        refine zi_same (tgt := 1897) M dL_law_1892 (by decide) ?_
        refine lv_iload M.1 M.2.1 dL_law_1897 (lv_at hl 1 rfl) ?_
        refine zi_if_ne (tgt := 1914) M dL_law_1899 (by decide) ⟨by decide, by decide⟩ (fun _ => ?_) (fun q => absurd q (by decide))
        refine zi_goto (tgt := 2286) M dL_law_1914 (by decide) ?_
        have hPx := hP
        have hP := hPm
        have hPm := hPx
        have hD := zD_c hD
        refine W.widen (k := cells + 6) (n := slots + 36) (by omega) (by omega) ?_
        exact hback h su st sh fl sn bn cm em ep fm fr 1 o lg le lf dl cS cH sea noi pl pw an hd fq bp bw ban bhd bo c1 c2 c3 c4 c5 e1 e2 e3 e4 e5 ur h_h h_su h_st h_sh h_fl h_sn h_bn h_cm h_em g_cS g_cH g_sea g_noi g_pl g_pw g_an g_hd g_bp g_bw g_ban g_bhd g_c1 g_c2 g_c3 g_c4 g_c5 g_e1 g_e2 g_e3 g_e4 g_e5 hbo hep H locs hP hPm hD hS ls (lv_sub hl [2, 3, 4, 5, 6] rfl)
      ·
        have hP : va_P D vwCl (mdlW bd 0 cy 2 h su st sh fl 0 sn bn fm fr cm em lg le lf dl cS cH sea noi pl pw an hd bp bo bw c1 c2 c3 c4 c5 e1 e2 e3 e4 e5) H := hP
        have hD : va_D (fun q => z0 ≤ q) ((mdlW bd 0 cy 2 h su st sh fl 0 sn bn fm fr cm em lg le lf dl cS cH sea noi pl pw an hd bp bo bw c1 c2 c3 c4 c5 e1 e2 e3 e4 e5) ++ ((rooW ad 0 cy fm fr) ++ ((airW ad 1 cy h su st sh fl cS cH (dnD h fl) (dnE h cS) (dnF h su st)) ++ ((airW ad 8 cy h su 0 0 0 (fun _ => 0) (fun _ => 0) (dnD h 0) (dnE h (fun _ => 0)) (dnF h su 0)) ++ ((grdW ad 15 cy sea noi) ++ ((rayW ad 18 cy (ur 0) (ur 1) (ur 2) (ur 3) (ur 4) (ur 5) (ur 6) (ur 7)) ++ ((sndW ad 19 cy 12 sn pl pw an hd fq) ++ ((sndW ad 25 cy 6 bn bp bw ban bhd bo) ++ ((conW ad 31 cy cm c1 c2 c3 c4 c5) ++ ((entW ad 37 cy em ep e1 e2 e3 e4 e5) ++ (outW od 0 cy o))))))))))) := hD
        exfalso
        omega
    ·
      have hw_19 := hv_19.symm
      subst hw_19
      have hP : va_P D vwCl ((rooW ad 0 cy fm fr) ++ ((airW ad 1 cy h su st sh fl cS cH (dnD h fl) (dnE h cS) (dnF h su st)) ++ ((airW ad 8 cy h su 0 0 0 (fun _ => 0) (fun _ => 0) (dnD h 0) (dnE h (fun _ => 0)) (dnF h su 0)) ++ ((grdW ad 15 cy sea noi) ++ ((rayW ad 18 cy (ur 0) (ur 1) (ur 2) (ur 3) (ur 4) (ur 5) (ur 6) (ur 7)) ++ ((sndW ad 19 cy 12 sn pl pw an hd fq) ++ ((sndW ad 25 cy 6 bn bp bw ban bhd bo) ++ ((conW ad 31 cy cm c1 c2 c3 c4 c5) ++ ((entW ad 37 cy em ep e1 e2 e3 e4 e5) ++ (outW od 0 cy o)))))))))) H := hP
      have hD : va_D (fun q => z0 ≤ q) (((rooW ad 0 cy fm fr) ++ ((airW ad 1 cy h su st sh fl cS cH (dnD h fl) (dnE h cS) (dnF h su st)) ++ ((airW ad 8 cy h su 0 0 0 (fun _ => 0) (fun _ => 0) (dnD h 0) (dnE h (fun _ => 0)) (dnF h su 0)) ++ ((grdW ad 15 cy sea noi) ++ ((rayW ad 18 cy (ur 0) (ur 1) (ur 2) (ur 3) (ur 4) (ur 5) (ur 6) (ur 7)) ++ ((sndW ad 19 cy 12 sn pl pw an hd fq) ++ ((sndW ad 25 cy 6 bn bp bw ban bhd bo) ++ ((conW ad 31 cy cm c1 c2 c3 c4 c5) ++ ((entW ad 37 cy em ep e1 e2 e3 e4 e5) ++ (outW od 0 cy o)))))))))) ++ (mdlW bd 0 cy th h su st sh fl 0 sn bn fm fr cm em lg le lf dl cS cH sea noi pl pw an hd bp bo bw c1 c2 c3 c4 c5 e1 e2 e3 e4 e5)) := hD
      refine lv_istore (lv' := [(5, .int (iI 2)), (0, .ref (b)), (1, .ref (ad 0)), (2, .ref (bd 0)), (3, .ref (od 0)), (4, .int (iI i))]) M.1 M.2.1 dL_law_1852 hl (by decide) rfl (fun ls hl => ?_)
      refine lv_aload_n M.1 M.2.1 dL_law_1854 rfl (lv_at hl 3 rfl) ?_
      refine lv_aload_n M.1 M.2.1 dL_law_1855 rfl (lv_at hl 1 rfl) ?_
      refine lv_iload M.1 M.2.1 dL_law_1856 (lv_at hl 5 rfl) ?_
      refine zi_push M dL_law_1858 ?_
      refine zi_iadd M dL_law_1859 ?_
      refine zi_sld M hX hbl hbA hS hL (by omega) (by omega) dL_law_1860 ?_
      have hx_28 := xZ_rg xs (i + 1)
      refine lv_aload_n M.1 M.2.1 dL_law_1861 rfl (lv_at hl 1 rfl) ?_
      refine lv_iload M.1 M.2.1 dL_law_1862 (lv_at hl 5 rfl) ?_
      refine zi_push M dL_law_1864 ?_
      refine zi_iadd M dL_law_1865 ?_
      refine zi_sld M hX hbl hbA hS hL (by omega) (by omega) dL_law_1866 ?_
      have hx_29 := xZ_rg xs (i + 2)
      refine zi_if_eq (tgt := 1874) M dL_law_1867 (by decide) (by omega) (fun q => absurd q c_3) (fun _ => ?_)
      refine zi_push M dL_law_1870 ?_
      refine zi_goto (tgt := 1875) M dL_law_1871 (by decide) ?_
      refine lv_aload_n M.1 M.2.1 dL_law_1875 rfl (lv_at hl 1 rfl) ?_
      refine lv_iload M.1 M.2.1 dL_law_1876 (lv_at hl 5 rfl) ?_
      refine zi_push M dL_law_1878 ?_
      refine zi_iadd M dL_law_1879 ?_
      refine zi_sld M hX hbl hbA hS hL (by omega) (by omega) dL_law_1880 ?_
      have hx_30 := xZ_rg xs (i + 3)
      have hPx := hP
      have hP := hPm
      have hPm := hPx
      have hD := zD_c hD
      refine z_cW2 (z_runV (As := [.int (iI (xZ xs (i + 1))), .int (iI 1), .int (iI (xZ xs (i + 3)))]) (rest := []) M (c_X7_skipped l D cy z0 bd th h su st sh fl 0 sn bn fm fr cm em lg le lf dl cS cH sea noi pl pw an hd bp bo bw c1 c2 c3 c4 c5 e1 e2 e3 e4 e5 (xZ xs (i + 1)) 1 (xZ xs (i + 3)) (by omega) (by omega) (by omega) (by omega) (by omega) (by omega) (by omega) g_cS (by omega)) hE hS hAz (z_cut hP (zD_l hD) hAz [0, 1, 2, 3, 4, 5, 6, 7, 8, 9, 10, 11, 12, 13, 14, 15, 16, 17, 18, 19, 20, 21] rfl (by decide +kernel)) (zRc.of (ci := 7) (q0 := 0) hE hP rfl rfl) zk_cd_X7_skipped zk_in_RX7 zk_im_X7_skipped zk_se_X7_skipped zk_ml_RL_194 rfl rfl zd_X7_skipped ⟨by decide, by decide⟩ rfl hl.1 rfl (Nat.le_of_ble_eq_true rfl) dL_law_1881 ⟨by show _ ≤ 601024; omega, by show _ ≤ 7293034; omega⟩) hP hPm hD hS [0, 1, 2, 3, 4, 5, 6, 7, 8, 9, 10, 11, 12, 13, 14, 15, 16, 17, 18, 19, 20, 21] rfl (fun _ => by simp only [List.map_append, mdlW_adr]) (fun r_31 u_31 H locs hp_31 hP hPm hD hS => ?_)
      try simp only [mdD_0, mdE_0, mdF_0, mdD_1, mdE_1, mdF_1] at hp_31
      have hP : va_P D vwCl (mdlW bd 0 cy u_31 h su st sh fl 0 sn bn fm fr cm em lg le lf dl cS cH sea noi pl pw an hd bp bo bw c1 c2 c3 c4 c5 e1 e2 e3 e4 e5) H := hP
      have hD : va_D (fun q => z0 ≤ q) ((mdlW bd 0 cy u_31 h su st sh fl 0 sn bn fm fr cm em lg le lf dl cS cH sea noi pl pw an hd bp bo bw c1 c2 c3 c4 c5 e1 e2 e3 e4 e5) ++ ((rooW ad 0 cy fm fr) ++ ((airW ad 1 cy h su st sh fl cS cH (dnD h fl) (dnE h cS) (dnF h su st)) ++ ((airW ad 8 cy h su 0 0 0 (fun _ => 0) (fun _ => 0) (dnD h 0) (dnE h (fun _ => 0)) (dnF h su 0)) ++ ((grdW ad 15 cy sea noi) ++ ((rayW ad 18 cy (ur 0) (ur 1) (ur 2) (ur 3) (ur 4) (ur 5) (ur 6) (ur 7)) ++ ((sndW ad 19 cy 12 sn pl pw an hd fq) ++ ((sndW ad 25 cy 6 bn bp bw ban bhd bo) ++ ((conW ad 31 cy cm c1 c2 c3 c4 c5) ++ ((entW ad 37 cy em ep e1 e2 e3 e4 e5) ++ (outW od 0 cy o))))))))))) := hD
      rcases hp_31 with ⟨rfl, hN_31, rfl⟩ | ⟨rfl, hN_31, rfl⟩ | ⟨rfl, hN_31, rfl⟩
      ·
        have hP : va_P D vwCl (mdlW bd 0 cy 0 h su st sh fl 0 sn bn fm fr cm em lg le lf dl cS cH sea noi pl pw an hd bp bo bw c1 c2 c3 c4 c5 e1 e2 e3 e4 e5) H := hP
        have hD : va_D (fun q => z0 ≤ q) ((mdlW bd 0 cy 0 h su st sh fl 0 sn bn fm fr cm em lg le lf dl cS cH sea noi pl pw an hd bp bo bw c1 c2 c3 c4 c5 e1 e2 e3 e4 e5) ++ ((rooW ad 0 cy fm fr) ++ ((airW ad 1 cy h su st sh fl cS cH (dnD h fl) (dnE h cS) (dnF h su st)) ++ ((airW ad 8 cy h su 0 0 0 (fun _ => 0) (fun _ => 0) (dnD h 0) (dnE h (fun _ => 0)) (dnF h su 0)) ++ ((grdW ad 15 cy sea noi) ++ ((rayW ad 18 cy (ur 0) (ur 1) (ur 2) (ur 3) (ur 4) (ur 5) (ur 6) (ur 7)) ++ ((sndW ad 19 cy 12 sn pl pw an hd fq) ++ ((sndW ad 25 cy 6 bn bp bw ban bhd bo) ++ ((conW ad 31 cy cm c1 c2 c3 c4 c5) ++ ((entW ad 37 cy em ep e1 e2 e3 e4 e5) ++ (outW od 0 cy o))))))))))) := hD
        exfalso
        omega
      ·
        have hP : va_P D vwCl (mdlW bd 0 cy 1 h su st sh fl 0 sn bn fm fr cm em lg le lf dl cS cH sea noi pl pw an hd bp bo bw c1 c2 c3 c4 c5 e1 e2 e3 e4 e5) H := hP
        have hD : va_D (fun q => z0 ≤ q) ((mdlW bd 0 cy 1 h su st sh fl 0 sn bn fm fr cm em lg le lf dl cS cH sea noi pl pw an hd bp bo bw c1 c2 c3 c4 c5 e1 e2 e3 e4 e5) ++ ((rooW ad 0 cy fm fr) ++ ((airW ad 1 cy h su st sh fl cS cH (dnD h fl) (dnE h cS) (dnF h su st)) ++ ((airW ad 8 cy h su 0 0 0 (fun _ => 0) (fun _ => 0) (dnD h 0) (dnE h (fun _ => 0)) (dnF h su 0)) ++ ((grdW ad 15 cy sea noi) ++ ((rayW ad 18 cy (ur 0) (ur 1) (ur 2) (ur 3) (ur 4) (ur 5) (ur 6) (ur 7)) ++ ((sndW ad 19 cy 12 sn pl pw an hd fq) ++ ((sndW ad 25 cy 6 bn bp bw ban bhd bo) ++ ((conW ad 31 cy cm c1 c2 c3 c4 c5) ++ ((entW ad 37 cy em ep e1 e2 e3 e4 e5) ++ (outW od 0 cy o))))))))))) := hD
        exfalso
        omega
      ·
        have hP : va_P D vwCl (mdlW bd 0 cy 2 h su st sh fl 0 sn bn fm fr cm em lg le lf dl cS cH sea noi pl pw an hd bp bo bw c1 c2 c3 c4 c5 e1 e2 e3 e4 e5) H := hP
        have hD : va_D (fun q => z0 ≤ q) ((mdlW bd 0 cy 2 h su st sh fl 0 sn bn fm fr cm em lg le lf dl cS cH sea noi pl pw an hd bp bo bw c1 c2 c3 c4 c5 e1 e2 e3 e4 e5) ++ ((rooW ad 0 cy fm fr) ++ ((airW ad 1 cy h su st sh fl cS cH (dnD h fl) (dnE h cS) (dnF h su st)) ++ ((airW ad 8 cy h su 0 0 0 (fun _ => 0) (fun _ => 0) (dnD h 0) (dnE h (fun _ => 0)) (dnF h su 0)) ++ ((grdW ad 15 cy sea noi) ++ ((rayW ad 18 cy (ur 0) (ur 1) (ur 2) (ur 3) (ur 4) (ur 5) (ur 6) (ur 7)) ++ ((sndW ad 19 cy 12 sn pl pw an hd fq) ++ ((sndW ad 25 cy 6 bn bp bw ban bhd bo) ++ ((conW ad 31 cy cm c1 c2 c3 c4 c5) ++ ((entW ad 37 cy em ep e1 e2 e3 e4 e5) ++ (outW od 0 cy o))))))))))) := hD
        refine lv_istore (lv' := [(6, .int (iI 0)), (5, .int (iI 2)), (0, .ref (b)), (1, .ref (ad 0)), (2, .ref (bd 0)), (3, .ref (od 0)), (4, .int (iI i))]) M.1 M.2.1 dL_law_1884 hl (by decide) rfl (fun ls hl => ?_)
        refine lv_aload_n M.1 M.2.1 dL_law_1886 rfl (lv_at hl 4 rfl) ?_
        refine z_cR (z_runV (As := []) (rest := []) M (c_X7_thrown l D cy z0 bd 2 h su st sh fl 0 sn bn fm fr cm em lg le lf dl cS cH sea noi pl pw an hd bp bo bw c1 c2 c3 c4 c5 e1 e2 e3 e4 e5) hE hS hAz hP (zRc.of (ci := 7) (q0 := 0) hE hP rfl rfl) zk_cd_X7_thrown zk_in_RX7 zk_im_X7_thrown zk_se_X7_thrown zk_ml_RL_116 rfl rfl zd_X7_thrown ⟨by decide, by decide⟩ rfl hl.1 rfl (Nat.le_of_ble_eq_true rfl) dL_law_1887 ⟨by show _ ≤ 601024; omega, by show _ ≤ 7293034; omega⟩) ?_
        refine lv_iload M.1 M.2.1 dL_law_1890 (lv_at hl 1 rfl) ?_
        refine zi_same (tgt := 1897) M dL_law_1892 (by decide) ?_
        refine lv_iload M.1 M.2.1 dL_law_1897 (lv_at hl 1 rfl) ?_
        refine zi_if_ne (tgt := 1914) M dL_law_1899 (by decide) ⟨by decide, by decide⟩ (fun _ => ?_) (fun q => absurd q (by decide))
        refine zi_goto (tgt := 2286) M dL_law_1914 (by decide) ?_
        have hPx := hP
        have hP := hPm
        have hPm := hPx
        have hD := zD_c hD
        refine W.widen (k := cells + 6) (n := slots + 36) (by omega) (by omega) ?_
        exact hback h su st sh fl sn bn cm em ep fm fr 2 o lg le lf dl cS cH sea noi pl pw an hd fq bp bw ban bhd bo c1 c2 c3 c4 c5 e1 e2 e3 e4 e5 ur h_h h_su h_st h_sh h_fl h_sn h_bn h_cm h_em g_cS g_cH g_sea g_noi g_pl g_pw g_an g_hd g_bp g_bw g_ban g_bhd g_c1 g_c2 g_c3 g_c4 g_c5 g_e1 g_e2 g_e3 g_e4 g_e5 hbo hep H locs hP hPm hD hS ls (lv_sub hl [2, 3, 4, 5, 6] rfl)

set_option maxRecDepth 100000 in
set_option maxHeartbeats 8000000 in
theorem lw_case22 (l : Launch) (D : va_G) (cy : Nat → ClassId) (z0 : Nat) (ad bd od : Nat → Nat) (p : Program) (e : Env) (s : State) (m : MethodId) (args : Array Value) (below : List Frame) (meth : Method) (c : Code) (b : Nat) (i : Int) (Q : State → Prop) (cells slots : Nat) (hst : l.stackTraces = false) (hL7 : ∀ q : Nat, q = 0 → True) (b_L : Nat) (xs : Nat → Int32) (M : zM p s m args c cL_law RL 7) (hE : zE D cy z0 s) (hN : zNc s) (hL : b_L ≤ 3584) (hX : va_X b b_L xs s s.heap) (hbl : b < s.heap.size) (hbA : ¬ z0 ≤ b) (hi : 0 ≤ i ∧ i + 7 ≤ b_L) (hc : cells + 6 ≤ 601024) (hs : slots + 36 ≤ 7293034) (hback : lwB l D cy z0 ad bd od p e s m args below meth c b i Q cells slots) (h su st sh fl sn bn cm em ep fm fr th o lg le lf dl : Int) (cS cH sea noi pl pw an hd fq bp bw ban bhd bo c1 c2 c3 c4 c5 e1 e2 e3 e4 e5 : Int → Int) (ur : Nat → Int) (h_h : 0 ≤ h ∧ h ≤ 5000) (h_su : 0 ≤ su ∧ su ≤ 100) (h_st : 0 ≤ st ∧ st ≤ 60) (h_sh : 0 ≤ sh ∧ sh ≤ 72) (h_fl : 0 ≤ fl ∧ fl ≤ 80) (h_sn : 0 ≤ sn ∧ sn ≤ 12) (h_bn : 0 ≤ bn ∧ bn ≤ 6) (h_cm : 0 ≤ cm ∧ cm ≤ 60) (h_em : 0 ≤ em ∧ em ≤ 80) (g_cS : zrg 48 0 100 cS) (g_cH : zrg 48 0 24 cH) (g_sea : zrg 48 0 1 sea) (g_noi : zrg 48 0 40 noi) (g_pl : zrg 12 0 47 pl) (g_pw : zrg 12 0 80 pw) (g_an : zrg 12 0 2 an) (g_hd : zrg 12 0 2 hd) (g_bp : zrg 6 0 47 bp) (g_bw : zrg 6 0 80 bw) (g_ban : zrg 6 0 2 ban) (g_bhd : zrg 6 0 2 bhd) (g_c1 : zrg 60 0 11 c1) (g_c2 : zrg 60 0 11 c2) (g_c3 : zrg 60 0 300 c3) (g_c4 : zrg 60 0 2 c4) (g_c5 : zrg 60 0 5000 c5) (g_e1 : zrg 80 0 11 e1) (g_e2 : zrg 80 0 11 e2) (g_e3 : zrg 80 0 300 e3) (g_e4 : zrg 80 0 5000 e4) (g_e5 : zrg 80 (-1) 79 e5) (hbo : ∀ n : Int, 0 ≤ n → n < bn → (10 ≤ bo n ∧ bo n ≤ 300) ∧ ban n = 2 ∧ bhd n = 2) (hep : ep = prF e5 em.toNat) (H : Heap) (locs : List Loc) (hP : va_P D vwCl ((rooW ad 0 cy fm fr) ++ ((airW ad 1 cy h su st sh fl cS cH (dnD h fl) (dnE h cS) (dnF h su st)) ++ ((airW ad 8 cy h su 0 0 0 (fun _ => 0) (fun _ => 0) (dnD h 0) (dnE h (fun _ => 0)) (dnF h su 0)) ++ ((grdW ad 15 cy sea noi) ++ ((rayW ad 18 cy (ur 0) (ur 1) (ur 2) (ur 3) (ur 4) (ur 5) (ur 6) (ur 7)) ++ ((sndW ad 19 cy 12 sn pl pw an hd fq) ++ ((sndW ad 25 cy 6 bn bp bw ban bhd bo) ++ ((conW ad 31 cy cm c1 c2 c3 c4 c5) ++ ((entW ad 37 cy em ep e1 e2 e3 e4 e5) ++ (outW od 0 cy o)))))))))) H) (hPm : va_P D vwCl (mdlW bd 0 cy th h su st sh fl 0 sn bn fm fr cm em lg le lf dl cS cH sea noi pl pw an hd bp bo bw c1 c2 c3 c4 c5 e1 e2 e3 e4 e5) H) (hD : va_D (fun q => z0 ≤ q) (((rooW ad 0 cy fm fr) ++ ((airW ad 1 cy h su st sh fl cS cH (dnD h fl) (dnE h cS) (dnF h su st)) ++ ((airW ad 8 cy h su 0 0 0 (fun _ => 0) (fun _ => 0) (dnD h 0) (dnE h (fun _ => 0)) (dnF h su 0)) ++ ((grdW ad 15 cy sea noi) ++ ((rayW ad 18 cy (ur 0) (ur 1) (ur 2) (ur 3) (ur 4) (ur 5) (ur 6) (ur 7)) ++ ((sndW ad 19 cy 12 sn pl pw an hd fq) ++ ((sndW ad 25 cy 6 bn bp bw ban bhd bo) ++ ((conW ad 31 cy cm c1 c2 c3 c4 c5) ++ ((entW ad 37 cy em ep e1 e2 e3 e4 e5) ++ (outW od 0 cy o)))))))))) ++ (mdlW bd 0 cy th h su st sh fl 0 sn bn fm fr cm em lg le lf dl cS cH sea noi pl pw an hd bp bo bw c1 c2 c3 c4 c5 e1 e2 e3 e4 e5))) (hS : va_S (fun q => z0 ≤ q) s.heap H locs) (ls : Array Slot) (hl : lv_has ls 7 [(0, .ref b), (1, .ref (ad 0)), (2, .ref (bd 0)), (3, .ref (od 0)), (4, .int (iI i))]) : W p l e room_1 s m args below meth c H locs (cells) (slots) Q (F0 m 1917 ls []) := by
  have hAz : ∀ q : Nat, (fun q => z0 ≤ q) q → z0 ≤ q := fun _ h => h
  refine lv_aload_n M.1 M.2.1 dL_law_1917 rfl (lv_at hl 1 rfl) ?_
  refine lv_aload_n M.1 M.2.1 dL_law_1918 rfl (lv_at hl 0 rfl) ?_
  refine lv_iload M.1 M.2.1 dL_law_1919 (lv_at hl 4 rfl) ?_
  refine zi_push M dL_law_1921 ?_
  refine zi_iadd M dL_law_1922 ?_
  refine zi_sld M hX hbl hbA hS hL (by omega) (by omega) dL_law_1923 ?_
  have hx_1 := xZ_rg xs (i + 1)
  refine lv_aload_n M.1 M.2.1 dL_law_1924 rfl (lv_at hl 0 rfl) ?_
  refine lv_iload M.1 M.2.1 dL_law_1925 (lv_at hl 4 rfl) ?_
  refine zi_push M dL_law_1927 ?_
  refine zi_iadd M dL_law_1928 ?_
  refine zi_sld M hX hbl hbA hS hL (by omega) (by omega) dL_law_1929 ?_
  have hx_2 := xZ_rg xs (i + 2)
  refine lv_aload_n M.1 M.2.1 dL_law_1930 rfl (lv_at hl 0 rfl) ?_
  refine lv_iload M.1 M.2.1 dL_law_1931 (lv_at hl 4 rfl) ?_
  refine zi_push M dL_law_1933 ?_
  refine zi_iadd M dL_law_1934 ?_
  refine zi_sld M hX hbl hbA hS hL (by omega) (by omega) dL_law_1935 ?_
  have hx_3 := xZ_rg xs (i + 3)
  refine lv_aload_n M.1 M.2.1 dL_law_1936 rfl (lv_at hl 3 rfl) ?_
  refine z_cW2 (zx_runH (As := [.ref (ad 0), .int (iI (xZ xs (i + 1))), .int (iI (xZ xs (i + 2))), .int (iI (xZ xs (i + 3))), .ref (od 0)]) (rest := []) M (c_L_signal l hst D cy z0 ad od fm fr h su st sh fl (ur 0) (ur 1) (ur 2) (ur 3) (ur 4) (ur 5) (ur 6) (ur 7) sn o cS cH (dnD h fl) (dnE h cS) (dnF h su st) sea noi pl pw an hd fq (xZ xs (i + 1)) (xZ xs (i + 2)) (xZ xs (i + 3)) (by omega) (by omega) (by omega) (dnD_rg h_fl) (dnE_rg g_cS) (dnF_rg h_su h_st) g_sea g_noi g_pl g_pw g_an g_hd (by omega) (by omega)) hE hN hS hAz (z_cut hP (zD_l hD) hAz [0, 1, 2, 3, 4, 5, 6, 7, 15, 16, 17, 18, 19, 20, 21, 22, 23, 24, 43] rfl (by decide +kernel)) zk_cw_L_signal zk_in_RL zk_st_L_signal zk_ml_RL_195 rfl rfl zd_L_signal ⟨by decide, by decide⟩ rfl hl.1 rfl (Nat.le_of_ble_eq_true rfl) dL_law_1937 ⟨by show _ ≤ 601024; omega, by show _ ≤ 7293034; omega⟩) hP hPm hD hS [0, 1, 2, 3, 4, 5, 6, 7, 15, 16, 17, 18, 19, 20, 21, 22, 23, 24, 43] rfl (fun _ => by simp only [List.map_append, airW_adr, grdW_adr, outW_adr, rayW_adr, rooW_adr, sndW_adr]) (fun r_4 u_4 H locs hp_4 hP hPm hD hS => ?_)
  have hP : va_P D vwCl ((rooW ad 0 cy fm fr) ++ ((airW ad 1 cy h su st sh fl cS cH (dnD h fl) (dnE h cS) (dnF h su st)) ++ ((airW ad 8 cy h su 0 0 0 (fun _ => 0) (fun _ => 0) (dnD h 0) (dnE h (fun _ => 0)) (dnF h su 0)) ++ ((grdW ad 15 cy sea noi) ++ ((rayW ad 18 cy (u_4.2.2 0) (u_4.2.2 1) (u_4.2.2 2) (u_4.2.2 3) (u_4.2.2 4) (u_4.2.2 5) (u_4.2.2 6) (u_4.2.2 7)) ++ ((sndW ad 19 cy 12 sn pl pw an hd fq) ++ ((sndW ad 25 cy 6 bn bp bw ban bhd bo) ++ ((conW ad 31 cy cm c1 c2 c3 c4 c5) ++ ((entW ad 37 cy em ep e1 e2 e3 e4 e5) ++ (outW od 0 cy u_4.2.1)))))))))) H := hP
  have hD : va_D (fun q => z0 ≤ q) (((rooW ad 0 cy fm fr) ++ ((airW ad 1 cy h su st sh fl cS cH (dnD h fl) (dnE h cS) (dnF h su st)) ++ ((airW ad 8 cy h su 0 0 0 (fun _ => 0) (fun _ => 0) (dnD h 0) (dnE h (fun _ => 0)) (dnF h su 0)) ++ ((grdW ad 15 cy sea noi) ++ ((rayW ad 18 cy (u_4.2.2 0) (u_4.2.2 1) (u_4.2.2 2) (u_4.2.2 3) (u_4.2.2 4) (u_4.2.2 5) (u_4.2.2 6) (u_4.2.2 7)) ++ ((sndW ad 19 cy 12 sn pl pw an hd fq) ++ ((sndW ad 25 cy 6 bn bp bw ban bhd bo) ++ ((conW ad 31 cy cm c1 c2 c3 c4 c5) ++ ((entW ad 37 cy em ep e1 e2 e3 e4 e5) ++ (outW od 0 cy u_4.2.1)))))))))) ++ (mdlW bd 0 cy th h su st sh fl 0 sn bn fm fr cm em lg le lf dl cS cH sea noi pl pw an hd bp bo bw c1 c2 c3 c4 c5 e1 e2 e3 e4 e5)) := hD
  obtain ⟨u1_4, u2_4, u3_4⟩ := u_4
  dsimp only at hp_4
  rcases hp_4 with ⟨rfl, rfl, hN_4, hv_4⟩ | ⟨rfl, rfl, hN_4, hv_4⟩ | ⟨rfl, rfl, hN_4, hv_4⟩
  ·
    have hw_4 := hv_4.symm
    subst hw_4
    have hP : va_P D vwCl ((rooW ad 0 cy fm fr) ++ ((airW ad 1 cy h su st sh fl cS cH (dnD h fl) (dnE h cS) (dnF h su st)) ++ ((airW ad 8 cy h su 0 0 0 (fun _ => 0) (fun _ => 0) (dnD h 0) (dnE h (fun _ => 0)) (dnF h su 0)) ++ ((grdW ad 15 cy sea noi) ++ ((rayW ad 18 cy (u3_4 0) (u3_4 1) (u3_4 2) (u3_4 3) (u3_4 4) (u3_4 5) (u3_4 6) (u3_4 7)) ++ ((sndW ad 19 cy 12 sn pl pw an hd fq) ++ ((sndW ad 25 cy 6 bn bp bw ban bhd bo) ++ ((conW ad 31 cy cm c1 c2 c3 c4 c5) ++ ((entW ad 37 cy em ep e1 e2 e3 e4 e5) ++ (outW od 0 cy (sigZ (dnE h cS) (dnF h su st) (dnD h fl) sea noi h (pl (xZ xs (i + 1))) (pl (xZ xs (i + 2))) (xZ xs (i + 3)) (pw (xZ xs (i + 1))) (an (xZ xs (i + 1))) (hd (xZ xs (i + 1)))))))))))))) H := hP
    have hD : va_D (fun q => z0 ≤ q) (((rooW ad 0 cy fm fr) ++ ((airW ad 1 cy h su st sh fl cS cH (dnD h fl) (dnE h cS) (dnF h su st)) ++ ((airW ad 8 cy h su 0 0 0 (fun _ => 0) (fun _ => 0) (dnD h 0) (dnE h (fun _ => 0)) (dnF h su 0)) ++ ((grdW ad 15 cy sea noi) ++ ((rayW ad 18 cy (u3_4 0) (u3_4 1) (u3_4 2) (u3_4 3) (u3_4 4) (u3_4 5) (u3_4 6) (u3_4 7)) ++ ((sndW ad 19 cy 12 sn pl pw an hd fq) ++ ((sndW ad 25 cy 6 bn bp bw ban bhd bo) ++ ((conW ad 31 cy cm c1 c2 c3 c4 c5) ++ ((entW ad 37 cy em ep e1 e2 e3 e4 e5) ++ (outW od 0 cy (sigZ (dnE h cS) (dnF h su st) (dnD h fl) sea noi h (pl (xZ xs (i + 1))) (pl (xZ xs (i + 2))) (xZ xs (i + 3)) (pw (xZ xs (i + 1))) (an (xZ xs (i + 1))) (hd (xZ xs (i + 1)))))))))))))) ++ (mdlW bd 0 cy th h su st sh fl 0 sn bn fm fr cm em lg le lf dl cS cH sea noi pl pw an hd bp bo bw c1 c2 c3 c4 c5 e1 e2 e3 e4 e5)) := hD
    refine lv_istore (lv' := [(5, .int (iI 0)), (0, .ref (b)), (1, .ref (ad 0)), (2, .ref (bd 0)), (3, .ref (od 0)), (4, .int (iI i))]) M.1 M.2.1 dL_law_1940 hl (by decide) rfl (fun ls hl => ?_)
    refine lv_aload_n M.1 M.2.1 dL_law_1942 rfl (lv_at hl 3 rfl) ?_
    refine lv_aload_n M.1 M.2.1 dL_law_1943 rfl (lv_at hl 1 rfl) ?_
    refine lv_iload M.1 M.2.1 dL_law_1944 (lv_at hl 5 rfl) ?_
    refine zi_push M dL_law_1946 ?_
    refine zi_iadd M dL_law_1947 ?_
    refine zi_sld M hX hbl hbA hS hL (by omega) (by omega) dL_law_1948 ?_
    have hx_5 := xZ_rg xs (i + 1)
    refine lv_aload_n M.1 M.2.1 dL_law_1949 rfl (lv_at hl 1 rfl) ?_
    refine lv_iload M.1 M.2.1 dL_law_1950 (lv_at hl 5 rfl) ?_
    refine zi_push M dL_law_1952 ?_
    refine zi_iadd M dL_law_1953 ?_
    refine zi_sld M hX hbl hbA hS hL (by omega) (by omega) dL_law_1954 ?_
    have hx_6 := xZ_rg xs (i + 2)
    refine lv_aload_n M.1 M.2.1 dL_law_1955 rfl (lv_at hl 1 rfl) ?_
    refine lv_iload M.1 M.2.1 dL_law_1956 (lv_at hl 5 rfl) ?_
    refine zi_push M dL_law_1958 ?_
    refine zi_iadd M dL_law_1959 ?_
    refine zi_sld M hX hbl hbA hS hL (by omega) (by omega) dL_law_1960 ?_
    have hx_7 := xZ_rg xs (i + 3)
    have hPx := hP
    have hP := hPm
    have hPm := hPx
    have hD := zD_c hD
    refine z_cW2 (z_runV (As := [.int (iI (xZ xs (i + 1))), .int (iI (xZ xs (i + 2))), .int (iI (xZ xs (i + 3)))]) (rest := []) M (c_X7_signal l D cy z0 bd th h su st sh fl 0 sn bn fm fr cm em lg le lf dl cS cH sea noi pl pw an hd bp bo bw c1 c2 c3 c4 c5 e1 e2 e3 e4 e5 (xZ xs (i + 1)) (xZ xs (i + 2)) (xZ xs (i + 3)) (by omega) (by omega) (by omega) (by omega) (by omega) (by omega) (by omega) g_cS (by omega) g_sea g_noi g_pl g_pw g_an g_hd (by omega)) hE hS hAz (z_cut hP (zD_l hD) hAz [0, 1, 2, 3, 4, 5, 6, 7, 8, 9, 10, 11, 12, 13, 14, 15, 16, 17, 18, 19, 20, 21] rfl (by decide +kernel)) (zRc.of (ci := 7) (q0 := 0) hE hP rfl rfl) zk_cd_X7_signal zk_in_RX7 zk_im_X7_signal zk_se_X7_signal zk_ml_RL_197 rfl rfl zd_X7_signal ⟨by decide, by decide⟩ rfl hl.1 rfl (Nat.le_of_ble_eq_true rfl) dL_law_1961 ⟨by show _ ≤ 601024; omega, by show _ ≤ 7293034; omega⟩) hP hPm hD hS [0, 1, 2, 3, 4, 5, 6, 7, 8, 9, 10, 11, 12, 13, 14, 15, 16, 17, 18, 19, 20, 21] rfl (fun _ => by simp only [List.map_append, mdlW_adr]) (fun r_8 u_8 H locs hp_8 hP hPm hD hS => ?_)
    try simp only [mdD_0, mdE_0, mdF_0, mdD_1, mdE_1, mdF_1] at hp_8
    have hP : va_P D vwCl (mdlW bd 0 cy (u_8 4) h su st sh fl 0 sn bn fm fr cm em (u_8 0) (u_8 1) (u_8 2) (u_8 3) cS cH sea noi pl pw an hd bp bo bw c1 c2 c3 c4 c5 e1 e2 e3 e4 e5) H := hP
    have hD : va_D (fun q => z0 ≤ q) ((mdlW bd 0 cy (u_8 4) h su st sh fl 0 sn bn fm fr cm em (u_8 0) (u_8 1) (u_8 2) (u_8 3) cS cH sea noi pl pw an hd bp bo bw c1 c2 c3 c4 c5 e1 e2 e3 e4 e5) ++ ((rooW ad 0 cy fm fr) ++ ((airW ad 1 cy h su st sh fl cS cH (dnD h fl) (dnE h cS) (dnF h su st)) ++ ((airW ad 8 cy h su 0 0 0 (fun _ => 0) (fun _ => 0) (dnD h 0) (dnE h (fun _ => 0)) (dnF h su 0)) ++ ((grdW ad 15 cy sea noi) ++ ((rayW ad 18 cy (u3_4 0) (u3_4 1) (u3_4 2) (u3_4 3) (u3_4 4) (u3_4 5) (u3_4 6) (u3_4 7)) ++ ((sndW ad 19 cy 12 sn pl pw an hd fq) ++ ((sndW ad 25 cy 6 bn bp bw ban bhd bo) ++ ((conW ad 31 cy cm c1 c2 c3 c4 c5) ++ ((entW ad 37 cy em ep e1 e2 e3 e4 e5) ++ (outW od 0 cy (sigZ (dnE h cS) (dnF h su st) (dnD h fl) sea noi h (pl (xZ xs (i + 1))) (pl (xZ xs (i + 2))) (xZ xs (i + 3)) (pw (xZ xs (i + 1))) (an (xZ xs (i + 1))) (hd (xZ xs (i + 1))))))))))))))) := hD
    rcases hp_8 with ⟨xa_8, xb_8, xc_8, xd_8, rfl, hN_8, rfl⟩ | ⟨rfl, hN_8, rfl⟩ | ⟨rfl, hN_8, rfl⟩
    ·
      have hP : va_P D vwCl (mdlW bd 0 cy 0 h su st sh fl 0 sn bn fm fr cm em xa_8 xb_8 xc_8 xd_8 cS cH sea noi pl pw an hd bp bo bw c1 c2 c3 c4 c5 e1 e2 e3 e4 e5) H := hP
      have hD : va_D (fun q => z0 ≤ q) ((mdlW bd 0 cy 0 h su st sh fl 0 sn bn fm fr cm em xa_8 xb_8 xc_8 xd_8 cS cH sea noi pl pw an hd bp bo bw c1 c2 c3 c4 c5 e1 e2 e3 e4 e5) ++ ((rooW ad 0 cy fm fr) ++ ((airW ad 1 cy h su st sh fl cS cH (dnD h fl) (dnE h cS) (dnF h su st)) ++ ((airW ad 8 cy h su 0 0 0 (fun _ => 0) (fun _ => 0) (dnD h 0) (dnE h (fun _ => 0)) (dnF h su 0)) ++ ((grdW ad 15 cy sea noi) ++ ((rayW ad 18 cy (u3_4 0) (u3_4 1) (u3_4 2) (u3_4 3) (u3_4 4) (u3_4 5) (u3_4 6) (u3_4 7)) ++ ((sndW ad 19 cy 12 sn pl pw an hd fq) ++ ((sndW ad 25 cy 6 bn bp bw ban bhd bo) ++ ((conW ad 31 cy cm c1 c2 c3 c4 c5) ++ ((entW ad 37 cy em ep e1 e2 e3 e4 e5) ++ (outW od 0 cy (sigZ (dnE h cS) (dnF h su st) (dnD h fl) sea noi h (pl (xZ xs (i + 1))) (pl (xZ xs (i + 2))) (xZ xs (i + 3)) (pw (xZ xs (i + 1))) (an (xZ xs (i + 1))) (hd (xZ xs (i + 1))))))))))))))) := hD
      refine lv_istore (lv' := [(6, .int (iI (sigZ (dnE h cS) (dnF h su st) (dnD h fl) sea noi h (pl (xZ xs (i + 1))) (pl (xZ xs (i + 2))) (xZ xs (i + 3)) (pw (xZ xs (i + 1))) (an (xZ xs (i + 1))) (hd (xZ xs (i + 1)))))), (5, .int (iI 0)), (0, .ref (b)), (1, .ref (ad 0)), (2, .ref (bd 0)), (3, .ref (od 0)), (4, .int (iI i))]) M.1 M.2.1 dL_law_1964 hl (by decide) rfl (fun ls hl => ?_)
      refine lv_aload_n M.1 M.2.1 dL_law_1966 rfl (lv_at hl 4 rfl) ?_
      refine z_cR (z_runV (As := []) (rest := []) M (c_X7_thrown l D cy z0 bd 0 h su st sh fl 0 sn bn fm fr cm em xa_8 xb_8 xc_8 xd_8 cS cH sea noi pl pw an hd bp bo bw c1 c2 c3 c4 c5 e1 e2 e3 e4 e5) hE hS hAz hP (zRc.of (ci := 7) (q0 := 0) hE hP rfl rfl) zk_cd_X7_thrown zk_in_RX7 zk_im_X7_thrown zk_se_X7_thrown zk_ml_RL_116 rfl rfl zd_X7_thrown ⟨by decide, by decide⟩ rfl hl.1 rfl (Nat.le_of_ble_eq_true rfl) dL_law_1967 ⟨by show _ ≤ 601024; omega, by show _ ≤ 7293034; omega⟩) ?_
      refine lv_iload M.1 M.2.1 dL_law_1970 (lv_at hl 1 rfl) ?_
      refine zi_same (tgt := 1977) M dL_law_1972 (by decide) ?_
      refine lv_iload M.1 M.2.1 dL_law_1977 (lv_at hl 1 rfl) ?_
      refine zi_if_ne (tgt := 1994) M dL_law_1979 (by decide) ⟨by decide, by decide⟩ (fun q => absurd q (by decide)) (fun _ => ?_)
      refine lv_aload_n M.1 M.2.1 dL_law_1982 rfl (lv_at hl 5 rfl) ?_
      refine zi_push M dL_law_1983 ?_
      refine zi_lald M hE hPm 43 rfl dL_law_1984 ?_
      refine lv_iload M.1 M.2.1 dL_law_1985 (lv_at hl 0 rfl) ?_
      refine zi_i2l M dL_law_1987 ?_
      refine zi_lcmpE M dL_law_1988 ?_
      refine zi_if_eq (tgt := 1994) M dL_law_1989 (by decide) ⟨by decide, by decide⟩ (fun _ => ?_) (fun q => absurd q (by decide))
      refine zi_goto (tgt := 2286) M dL_law_1994 (by decide) ?_
      have hPx := hP
      have hP := hPm
      have hPm := hPx
      have hD := zD_c hD
      refine W.widen (k := cells + 6) (n := slots + 36) (by omega) (by omega) ?_
      exact hback h su st sh fl sn bn cm em ep fm fr 0 (sigZ (dnE h cS) (dnF h su st) (dnD h fl) sea noi h (pl (xZ xs (i + 1))) (pl (xZ xs (i + 2))) (xZ xs (i + 3)) (pw (xZ xs (i + 1))) (an (xZ xs (i + 1))) (hd (xZ xs (i + 1)))) xa_8 xb_8 xc_8 xd_8 cS cH sea noi pl pw an hd fq bp bw ban bhd bo c1 c2 c3 c4 c5 e1 e2 e3 e4 e5 u3_4 h_h h_su h_st h_sh h_fl h_sn h_bn h_cm h_em g_cS g_cH g_sea g_noi g_pl g_pw g_an g_hd g_bp g_bw g_ban g_bhd g_c1 g_c2 g_c3 g_c4 g_c5 g_e1 g_e2 g_e3 g_e4 g_e5 hbo hep H locs hP hPm hD hS ls (lv_sub hl [2, 3, 4, 5, 6] rfl)
    ·
      have hP : va_P D vwCl (mdlW bd 0 cy 1 h su st sh fl 0 sn bn fm fr cm em lg le lf dl cS cH sea noi pl pw an hd bp bo bw c1 c2 c3 c4 c5 e1 e2 e3 e4 e5) H := hP
      have hD : va_D (fun q => z0 ≤ q) ((mdlW bd 0 cy 1 h su st sh fl 0 sn bn fm fr cm em lg le lf dl cS cH sea noi pl pw an hd bp bo bw c1 c2 c3 c4 c5 e1 e2 e3 e4 e5) ++ ((rooW ad 0 cy fm fr) ++ ((airW ad 1 cy h su st sh fl cS cH (dnD h fl) (dnE h cS) (dnF h su st)) ++ ((airW ad 8 cy h su 0 0 0 (fun _ => 0) (fun _ => 0) (dnD h 0) (dnE h (fun _ => 0)) (dnF h su 0)) ++ ((grdW ad 15 cy sea noi) ++ ((rayW ad 18 cy (u3_4 0) (u3_4 1) (u3_4 2) (u3_4 3) (u3_4 4) (u3_4 5) (u3_4 6) (u3_4 7)) ++ ((sndW ad 19 cy 12 sn pl pw an hd fq) ++ ((sndW ad 25 cy 6 bn bp bw ban bhd bo) ++ ((conW ad 31 cy cm c1 c2 c3 c4 c5) ++ ((entW ad 37 cy em ep e1 e2 e3 e4 e5) ++ (outW od 0 cy (sigZ (dnE h cS) (dnF h su st) (dnD h fl) sea noi h (pl (xZ xs (i + 1))) (pl (xZ xs (i + 2))) (xZ xs (i + 3)) (pw (xZ xs (i + 1))) (an (xZ xs (i + 1))) (hd (xZ xs (i + 1))))))))))))))) := hD
      exfalso
      omega
    ·
      have hP : va_P D vwCl (mdlW bd 0 cy 2 h su st sh fl 0 sn bn fm fr cm em lg le lf dl cS cH sea noi pl pw an hd bp bo bw c1 c2 c3 c4 c5 e1 e2 e3 e4 e5) H := hP
      have hD : va_D (fun q => z0 ≤ q) ((mdlW bd 0 cy 2 h su st sh fl 0 sn bn fm fr cm em lg le lf dl cS cH sea noi pl pw an hd bp bo bw c1 c2 c3 c4 c5 e1 e2 e3 e4 e5) ++ ((rooW ad 0 cy fm fr) ++ ((airW ad 1 cy h su st sh fl cS cH (dnD h fl) (dnE h cS) (dnF h su st)) ++ ((airW ad 8 cy h su 0 0 0 (fun _ => 0) (fun _ => 0) (dnD h 0) (dnE h (fun _ => 0)) (dnF h su 0)) ++ ((grdW ad 15 cy sea noi) ++ ((rayW ad 18 cy (u3_4 0) (u3_4 1) (u3_4 2) (u3_4 3) (u3_4 4) (u3_4 5) (u3_4 6) (u3_4 7)) ++ ((sndW ad 19 cy 12 sn pl pw an hd fq) ++ ((sndW ad 25 cy 6 bn bp bw ban bhd bo) ++ ((conW ad 31 cy cm c1 c2 c3 c4 c5) ++ ((entW ad 37 cy em ep e1 e2 e3 e4 e5) ++ (outW od 0 cy (sigZ (dnE h cS) (dnF h su st) (dnD h fl) sea noi h (pl (xZ xs (i + 1))) (pl (xZ xs (i + 2))) (xZ xs (i + 3)) (pw (xZ xs (i + 1))) (an (xZ xs (i + 1))) (hd (xZ xs (i + 1))))))))))))))) := hD
      exfalso
      omega
  ·
    have hw_4 := hv_4.symm
    subst hw_4
    have hP : va_P D vwCl ((rooW ad 0 cy fm fr) ++ ((airW ad 1 cy h su st sh fl cS cH (dnD h fl) (dnE h cS) (dnF h su st)) ++ ((airW ad 8 cy h su 0 0 0 (fun _ => 0) (fun _ => 0) (dnD h 0) (dnE h (fun _ => 0)) (dnF h su 0)) ++ ((grdW ad 15 cy sea noi) ++ ((rayW ad 18 cy (u3_4 0) (u3_4 1) (u3_4 2) (u3_4 3) (u3_4 4) (u3_4 5) (u3_4 6) (u3_4 7)) ++ ((sndW ad 19 cy 12 sn pl pw an hd fq) ++ ((sndW ad 25 cy 6 bn bp bw ban bhd bo) ++ ((conW ad 31 cy cm c1 c2 c3 c4 c5) ++ ((entW ad 37 cy em ep e1 e2 e3 e4 e5) ++ (outW od 0 cy o)))))))))) H := hP
    have hD : va_D (fun q => z0 ≤ q) (((rooW ad 0 cy fm fr) ++ ((airW ad 1 cy h su st sh fl cS cH (dnD h fl) (dnE h cS) (dnF h su st)) ++ ((airW ad 8 cy h su 0 0 0 (fun _ => 0) (fun _ => 0) (dnD h 0) (dnE h (fun _ => 0)) (dnF h su 0)) ++ ((grdW ad 15 cy sea noi) ++ ((rayW ad 18 cy (u3_4 0) (u3_4 1) (u3_4 2) (u3_4 3) (u3_4 4) (u3_4 5) (u3_4 6) (u3_4 7)) ++ ((sndW ad 19 cy 12 sn pl pw an hd fq) ++ ((sndW ad 25 cy 6 bn bp bw ban bhd bo) ++ ((conW ad 31 cy cm c1 c2 c3 c4 c5) ++ ((entW ad 37 cy em ep e1 e2 e3 e4 e5) ++ (outW od 0 cy o)))))))))) ++ (mdlW bd 0 cy th h su st sh fl 0 sn bn fm fr cm em lg le lf dl cS cH sea noi pl pw an hd bp bo bw c1 c2 c3 c4 c5 e1 e2 e3 e4 e5)) := hD
    refine lv_istore (lv' := [(5, .int (iI 1)), (0, .ref (b)), (1, .ref (ad 0)), (2, .ref (bd 0)), (3, .ref (od 0)), (4, .int (iI i))]) M.1 M.2.1 dL_law_1940 hl (by decide) rfl (fun ls hl => ?_)
    refine lv_aload_n M.1 M.2.1 dL_law_1942 rfl (lv_at hl 3 rfl) ?_
    refine lv_aload_n M.1 M.2.1 dL_law_1943 rfl (lv_at hl 1 rfl) ?_
    refine lv_iload M.1 M.2.1 dL_law_1944 (lv_at hl 5 rfl) ?_
    refine zi_push M dL_law_1946 ?_
    refine zi_iadd M dL_law_1947 ?_
    refine zi_sld M hX hbl hbA hS hL (by omega) (by omega) dL_law_1948 ?_
    have hx_9 := xZ_rg xs (i + 1)
    refine lv_aload_n M.1 M.2.1 dL_law_1949 rfl (lv_at hl 1 rfl) ?_
    refine lv_iload M.1 M.2.1 dL_law_1950 (lv_at hl 5 rfl) ?_
    refine zi_push M dL_law_1952 ?_
    refine zi_iadd M dL_law_1953 ?_
    refine zi_sld M hX hbl hbA hS hL (by omega) (by omega) dL_law_1954 ?_
    have hx_10 := xZ_rg xs (i + 2)
    refine lv_aload_n M.1 M.2.1 dL_law_1955 rfl (lv_at hl 1 rfl) ?_
    refine lv_iload M.1 M.2.1 dL_law_1956 (lv_at hl 5 rfl) ?_
    refine zi_push M dL_law_1958 ?_
    refine zi_iadd M dL_law_1959 ?_
    refine zi_sld M hX hbl hbA hS hL (by omega) (by omega) dL_law_1960 ?_
    have hx_11 := xZ_rg xs (i + 3)
    have hPx := hP
    have hP := hPm
    have hPm := hPx
    have hD := zD_c hD
    refine z_cW2 (z_runV (As := [.int (iI (xZ xs (i + 1))), .int (iI (xZ xs (i + 2))), .int (iI (xZ xs (i + 3)))]) (rest := []) M (c_X7_signal l D cy z0 bd th h su st sh fl 0 sn bn fm fr cm em lg le lf dl cS cH sea noi pl pw an hd bp bo bw c1 c2 c3 c4 c5 e1 e2 e3 e4 e5 (xZ xs (i + 1)) (xZ xs (i + 2)) (xZ xs (i + 3)) (by omega) (by omega) (by omega) (by omega) (by omega) (by omega) (by omega) g_cS (by omega) g_sea g_noi g_pl g_pw g_an g_hd (by omega)) hE hS hAz (z_cut hP (zD_l hD) hAz [0, 1, 2, 3, 4, 5, 6, 7, 8, 9, 10, 11, 12, 13, 14, 15, 16, 17, 18, 19, 20, 21] rfl (by decide +kernel)) (zRc.of (ci := 7) (q0 := 0) hE hP rfl rfl) zk_cd_X7_signal zk_in_RX7 zk_im_X7_signal zk_se_X7_signal zk_ml_RL_197 rfl rfl zd_X7_signal ⟨by decide, by decide⟩ rfl hl.1 rfl (Nat.le_of_ble_eq_true rfl) dL_law_1961 ⟨by show _ ≤ 601024; omega, by show _ ≤ 7293034; omega⟩) hP hPm hD hS [0, 1, 2, 3, 4, 5, 6, 7, 8, 9, 10, 11, 12, 13, 14, 15, 16, 17, 18, 19, 20, 21] rfl (fun _ => by simp only [List.map_append, mdlW_adr]) (fun r_12 u_12 H locs hp_12 hP hPm hD hS => ?_)
    try simp only [mdD_0, mdE_0, mdF_0, mdD_1, mdE_1, mdF_1] at hp_12
    have hP : va_P D vwCl (mdlW bd 0 cy (u_12 4) h su st sh fl 0 sn bn fm fr cm em (u_12 0) (u_12 1) (u_12 2) (u_12 3) cS cH sea noi pl pw an hd bp bo bw c1 c2 c3 c4 c5 e1 e2 e3 e4 e5) H := hP
    have hD : va_D (fun q => z0 ≤ q) ((mdlW bd 0 cy (u_12 4) h su st sh fl 0 sn bn fm fr cm em (u_12 0) (u_12 1) (u_12 2) (u_12 3) cS cH sea noi pl pw an hd bp bo bw c1 c2 c3 c4 c5 e1 e2 e3 e4 e5) ++ ((rooW ad 0 cy fm fr) ++ ((airW ad 1 cy h su st sh fl cS cH (dnD h fl) (dnE h cS) (dnF h su st)) ++ ((airW ad 8 cy h su 0 0 0 (fun _ => 0) (fun _ => 0) (dnD h 0) (dnE h (fun _ => 0)) (dnF h su 0)) ++ ((grdW ad 15 cy sea noi) ++ ((rayW ad 18 cy (u3_4 0) (u3_4 1) (u3_4 2) (u3_4 3) (u3_4 4) (u3_4 5) (u3_4 6) (u3_4 7)) ++ ((sndW ad 19 cy 12 sn pl pw an hd fq) ++ ((sndW ad 25 cy 6 bn bp bw ban bhd bo) ++ ((conW ad 31 cy cm c1 c2 c3 c4 c5) ++ ((entW ad 37 cy em ep e1 e2 e3 e4 e5) ++ (outW od 0 cy o))))))))))) := hD
    rcases hp_12 with ⟨xa_12, xb_12, xc_12, xd_12, rfl, hN_12, rfl⟩ | ⟨rfl, hN_12, rfl⟩ | ⟨rfl, hN_12, rfl⟩
    ·
      have hP : va_P D vwCl (mdlW bd 0 cy 0 h su st sh fl 0 sn bn fm fr cm em xa_12 xb_12 xc_12 xd_12 cS cH sea noi pl pw an hd bp bo bw c1 c2 c3 c4 c5 e1 e2 e3 e4 e5) H := hP
      have hD : va_D (fun q => z0 ≤ q) ((mdlW bd 0 cy 0 h su st sh fl 0 sn bn fm fr cm em xa_12 xb_12 xc_12 xd_12 cS cH sea noi pl pw an hd bp bo bw c1 c2 c3 c4 c5 e1 e2 e3 e4 e5) ++ ((rooW ad 0 cy fm fr) ++ ((airW ad 1 cy h su st sh fl cS cH (dnD h fl) (dnE h cS) (dnF h su st)) ++ ((airW ad 8 cy h su 0 0 0 (fun _ => 0) (fun _ => 0) (dnD h 0) (dnE h (fun _ => 0)) (dnF h su 0)) ++ ((grdW ad 15 cy sea noi) ++ ((rayW ad 18 cy (u3_4 0) (u3_4 1) (u3_4 2) (u3_4 3) (u3_4 4) (u3_4 5) (u3_4 6) (u3_4 7)) ++ ((sndW ad 19 cy 12 sn pl pw an hd fq) ++ ((sndW ad 25 cy 6 bn bp bw ban bhd bo) ++ ((conW ad 31 cy cm c1 c2 c3 c4 c5) ++ ((entW ad 37 cy em ep e1 e2 e3 e4 e5) ++ (outW od 0 cy o))))))))))) := hD
      exfalso
      omega
    ·
      have hP : va_P D vwCl (mdlW bd 0 cy 1 h su st sh fl 0 sn bn fm fr cm em lg le lf dl cS cH sea noi pl pw an hd bp bo bw c1 c2 c3 c4 c5 e1 e2 e3 e4 e5) H := hP
      have hD : va_D (fun q => z0 ≤ q) ((mdlW bd 0 cy 1 h su st sh fl 0 sn bn fm fr cm em lg le lf dl cS cH sea noi pl pw an hd bp bo bw c1 c2 c3 c4 c5 e1 e2 e3 e4 e5) ++ ((rooW ad 0 cy fm fr) ++ ((airW ad 1 cy h su st sh fl cS cH (dnD h fl) (dnE h cS) (dnF h su st)) ++ ((airW ad 8 cy h su 0 0 0 (fun _ => 0) (fun _ => 0) (dnD h 0) (dnE h (fun _ => 0)) (dnF h su 0)) ++ ((grdW ad 15 cy sea noi) ++ ((rayW ad 18 cy (u3_4 0) (u3_4 1) (u3_4 2) (u3_4 3) (u3_4 4) (u3_4 5) (u3_4 6) (u3_4 7)) ++ ((sndW ad 19 cy 12 sn pl pw an hd fq) ++ ((sndW ad 25 cy 6 bn bp bw ban bhd bo) ++ ((conW ad 31 cy cm c1 c2 c3 c4 c5) ++ ((entW ad 37 cy em ep e1 e2 e3 e4 e5) ++ (outW od 0 cy o))))))))))) := hD
      refine lv_istore (lv' := [(6, .int (iI 0)), (5, .int (iI 1)), (0, .ref (b)), (1, .ref (ad 0)), (2, .ref (bd 0)), (3, .ref (od 0)), (4, .int (iI i))]) M.1 M.2.1 dL_law_1964 hl (by decide) rfl (fun ls hl => ?_)
      refine lv_aload_n M.1 M.2.1 dL_law_1966 rfl (lv_at hl 4 rfl) ?_
      refine z_cR (z_runV (As := []) (rest := []) M (c_X7_thrown l D cy z0 bd 1 h su st sh fl 0 sn bn fm fr cm em lg le lf dl cS cH sea noi pl pw an hd bp bo bw c1 c2 c3 c4 c5 e1 e2 e3 e4 e5) hE hS hAz hP (zRc.of (ci := 7) (q0 := 0) hE hP rfl rfl) zk_cd_X7_thrown zk_in_RX7 zk_im_X7_thrown zk_se_X7_thrown zk_ml_RL_116 rfl rfl zd_X7_thrown ⟨by decide, by decide⟩ rfl hl.1 rfl (Nat.le_of_ble_eq_true rfl) dL_law_1967 ⟨by show _ ≤ 601024; omega, by show _ ≤ 7293034; omega⟩) ?_
      refine lv_iload M.1 M.2.1 dL_law_1970 (lv_at hl 1 rfl) ?_
      refine zi_same (tgt := 1977) M dL_law_1972 (by decide) ?_
      refine lv_iload M.1 M.2.1 dL_law_1977 (lv_at hl 1 rfl) ?_
      refine zi_if_ne (tgt := 1994) M dL_law_1979 (by decide) ⟨by decide, by decide⟩ (fun _ => ?_) (fun q => absurd q (by decide))
      refine zi_goto (tgt := 2286) M dL_law_1994 (by decide) ?_
      have hPx := hP
      have hP := hPm
      have hPm := hPx
      have hD := zD_c hD
      refine W.widen (k := cells + 6) (n := slots + 36) (by omega) (by omega) ?_
      exact hback h su st sh fl sn bn cm em ep fm fr 1 o lg le lf dl cS cH sea noi pl pw an hd fq bp bw ban bhd bo c1 c2 c3 c4 c5 e1 e2 e3 e4 e5 u3_4 h_h h_su h_st h_sh h_fl h_sn h_bn h_cm h_em g_cS g_cH g_sea g_noi g_pl g_pw g_an g_hd g_bp g_bw g_ban g_bhd g_c1 g_c2 g_c3 g_c4 g_c5 g_e1 g_e2 g_e3 g_e4 g_e5 hbo hep H locs hP hPm hD hS ls (lv_sub hl [2, 3, 4, 5, 6] rfl)
    ·
      have hP : va_P D vwCl (mdlW bd 0 cy 2 h su st sh fl 0 sn bn fm fr cm em lg le lf dl cS cH sea noi pl pw an hd bp bo bw c1 c2 c3 c4 c5 e1 e2 e3 e4 e5) H := hP
      have hD : va_D (fun q => z0 ≤ q) ((mdlW bd 0 cy 2 h su st sh fl 0 sn bn fm fr cm em lg le lf dl cS cH sea noi pl pw an hd bp bo bw c1 c2 c3 c4 c5 e1 e2 e3 e4 e5) ++ ((rooW ad 0 cy fm fr) ++ ((airW ad 1 cy h su st sh fl cS cH (dnD h fl) (dnE h cS) (dnF h su st)) ++ ((airW ad 8 cy h su 0 0 0 (fun _ => 0) (fun _ => 0) (dnD h 0) (dnE h (fun _ => 0)) (dnF h su 0)) ++ ((grdW ad 15 cy sea noi) ++ ((rayW ad 18 cy (u3_4 0) (u3_4 1) (u3_4 2) (u3_4 3) (u3_4 4) (u3_4 5) (u3_4 6) (u3_4 7)) ++ ((sndW ad 19 cy 12 sn pl pw an hd fq) ++ ((sndW ad 25 cy 6 bn bp bw ban bhd bo) ++ ((conW ad 31 cy cm c1 c2 c3 c4 c5) ++ ((entW ad 37 cy em ep e1 e2 e3 e4 e5) ++ (outW od 0 cy o))))))))))) := hD
      exfalso
      omega
  ·
    have hw_4 := hv_4.symm
    subst hw_4
    have hP : va_P D vwCl ((rooW ad 0 cy fm fr) ++ ((airW ad 1 cy h su st sh fl cS cH (dnD h fl) (dnE h cS) (dnF h su st)) ++ ((airW ad 8 cy h su 0 0 0 (fun _ => 0) (fun _ => 0) (dnD h 0) (dnE h (fun _ => 0)) (dnF h su 0)) ++ ((grdW ad 15 cy sea noi) ++ ((rayW ad 18 cy (u3_4 0) (u3_4 1) (u3_4 2) (u3_4 3) (u3_4 4) (u3_4 5) (u3_4 6) (u3_4 7)) ++ ((sndW ad 19 cy 12 sn pl pw an hd fq) ++ ((sndW ad 25 cy 6 bn bp bw ban bhd bo) ++ ((conW ad 31 cy cm c1 c2 c3 c4 c5) ++ ((entW ad 37 cy em ep e1 e2 e3 e4 e5) ++ (outW od 0 cy o)))))))))) H := hP
    have hD : va_D (fun q => z0 ≤ q) (((rooW ad 0 cy fm fr) ++ ((airW ad 1 cy h su st sh fl cS cH (dnD h fl) (dnE h cS) (dnF h su st)) ++ ((airW ad 8 cy h su 0 0 0 (fun _ => 0) (fun _ => 0) (dnD h 0) (dnE h (fun _ => 0)) (dnF h su 0)) ++ ((grdW ad 15 cy sea noi) ++ ((rayW ad 18 cy (u3_4 0) (u3_4 1) (u3_4 2) (u3_4 3) (u3_4 4) (u3_4 5) (u3_4 6) (u3_4 7)) ++ ((sndW ad 19 cy 12 sn pl pw an hd fq) ++ ((sndW ad 25 cy 6 bn bp bw ban bhd bo) ++ ((conW ad 31 cy cm c1 c2 c3 c4 c5) ++ ((entW ad 37 cy em ep e1 e2 e3 e4 e5) ++ (outW od 0 cy o)))))))))) ++ (mdlW bd 0 cy th h su st sh fl 0 sn bn fm fr cm em lg le lf dl cS cH sea noi pl pw an hd bp bo bw c1 c2 c3 c4 c5 e1 e2 e3 e4 e5)) := hD
    refine lv_istore (lv' := [(5, .int (iI 2)), (0, .ref (b)), (1, .ref (ad 0)), (2, .ref (bd 0)), (3, .ref (od 0)), (4, .int (iI i))]) M.1 M.2.1 dL_law_1940 hl (by decide) rfl (fun ls hl => ?_)
    refine lv_aload_n M.1 M.2.1 dL_law_1942 rfl (lv_at hl 3 rfl) ?_
    refine lv_aload_n M.1 M.2.1 dL_law_1943 rfl (lv_at hl 1 rfl) ?_
    refine lv_iload M.1 M.2.1 dL_law_1944 (lv_at hl 5 rfl) ?_
    refine zi_push M dL_law_1946 ?_
    refine zi_iadd M dL_law_1947 ?_
    refine zi_sld M hX hbl hbA hS hL (by omega) (by omega) dL_law_1948 ?_
    have hx_13 := xZ_rg xs (i + 1)
    refine lv_aload_n M.1 M.2.1 dL_law_1949 rfl (lv_at hl 1 rfl) ?_
    refine lv_iload M.1 M.2.1 dL_law_1950 (lv_at hl 5 rfl) ?_
    refine zi_push M dL_law_1952 ?_
    refine zi_iadd M dL_law_1953 ?_
    refine zi_sld M hX hbl hbA hS hL (by omega) (by omega) dL_law_1954 ?_
    have hx_14 := xZ_rg xs (i + 2)
    refine lv_aload_n M.1 M.2.1 dL_law_1955 rfl (lv_at hl 1 rfl) ?_
    refine lv_iload M.1 M.2.1 dL_law_1956 (lv_at hl 5 rfl) ?_
    refine zi_push M dL_law_1958 ?_
    refine zi_iadd M dL_law_1959 ?_
    refine zi_sld M hX hbl hbA hS hL (by omega) (by omega) dL_law_1960 ?_
    have hx_15 := xZ_rg xs (i + 3)
    have hPx := hP
    have hP := hPm
    have hPm := hPx
    have hD := zD_c hD
    refine z_cW2 (z_runV (As := [.int (iI (xZ xs (i + 1))), .int (iI (xZ xs (i + 2))), .int (iI (xZ xs (i + 3)))]) (rest := []) M (c_X7_signal l D cy z0 bd th h su st sh fl 0 sn bn fm fr cm em lg le lf dl cS cH sea noi pl pw an hd bp bo bw c1 c2 c3 c4 c5 e1 e2 e3 e4 e5 (xZ xs (i + 1)) (xZ xs (i + 2)) (xZ xs (i + 3)) (by omega) (by omega) (by omega) (by omega) (by omega) (by omega) (by omega) g_cS (by omega) g_sea g_noi g_pl g_pw g_an g_hd (by omega)) hE hS hAz (z_cut hP (zD_l hD) hAz [0, 1, 2, 3, 4, 5, 6, 7, 8, 9, 10, 11, 12, 13, 14, 15, 16, 17, 18, 19, 20, 21] rfl (by decide +kernel)) (zRc.of (ci := 7) (q0 := 0) hE hP rfl rfl) zk_cd_X7_signal zk_in_RX7 zk_im_X7_signal zk_se_X7_signal zk_ml_RL_197 rfl rfl zd_X7_signal ⟨by decide, by decide⟩ rfl hl.1 rfl (Nat.le_of_ble_eq_true rfl) dL_law_1961 ⟨by show _ ≤ 601024; omega, by show _ ≤ 7293034; omega⟩) hP hPm hD hS [0, 1, 2, 3, 4, 5, 6, 7, 8, 9, 10, 11, 12, 13, 14, 15, 16, 17, 18, 19, 20, 21] rfl (fun _ => by simp only [List.map_append, mdlW_adr]) (fun r_16 u_16 H locs hp_16 hP hPm hD hS => ?_)
    try simp only [mdD_0, mdE_0, mdF_0, mdD_1, mdE_1, mdF_1] at hp_16
    have hP : va_P D vwCl (mdlW bd 0 cy (u_16 4) h su st sh fl 0 sn bn fm fr cm em (u_16 0) (u_16 1) (u_16 2) (u_16 3) cS cH sea noi pl pw an hd bp bo bw c1 c2 c3 c4 c5 e1 e2 e3 e4 e5) H := hP
    have hD : va_D (fun q => z0 ≤ q) ((mdlW bd 0 cy (u_16 4) h su st sh fl 0 sn bn fm fr cm em (u_16 0) (u_16 1) (u_16 2) (u_16 3) cS cH sea noi pl pw an hd bp bo bw c1 c2 c3 c4 c5 e1 e2 e3 e4 e5) ++ ((rooW ad 0 cy fm fr) ++ ((airW ad 1 cy h su st sh fl cS cH (dnD h fl) (dnE h cS) (dnF h su st)) ++ ((airW ad 8 cy h su 0 0 0 (fun _ => 0) (fun _ => 0) (dnD h 0) (dnE h (fun _ => 0)) (dnF h su 0)) ++ ((grdW ad 15 cy sea noi) ++ ((rayW ad 18 cy (u3_4 0) (u3_4 1) (u3_4 2) (u3_4 3) (u3_4 4) (u3_4 5) (u3_4 6) (u3_4 7)) ++ ((sndW ad 19 cy 12 sn pl pw an hd fq) ++ ((sndW ad 25 cy 6 bn bp bw ban bhd bo) ++ ((conW ad 31 cy cm c1 c2 c3 c4 c5) ++ ((entW ad 37 cy em ep e1 e2 e3 e4 e5) ++ (outW od 0 cy o))))))))))) := hD
    rcases hp_16 with ⟨xa_16, xb_16, xc_16, xd_16, rfl, hN_16, rfl⟩ | ⟨rfl, hN_16, rfl⟩ | ⟨rfl, hN_16, rfl⟩
    ·
      have hP : va_P D vwCl (mdlW bd 0 cy 0 h su st sh fl 0 sn bn fm fr cm em xa_16 xb_16 xc_16 xd_16 cS cH sea noi pl pw an hd bp bo bw c1 c2 c3 c4 c5 e1 e2 e3 e4 e5) H := hP
      have hD : va_D (fun q => z0 ≤ q) ((mdlW bd 0 cy 0 h su st sh fl 0 sn bn fm fr cm em xa_16 xb_16 xc_16 xd_16 cS cH sea noi pl pw an hd bp bo bw c1 c2 c3 c4 c5 e1 e2 e3 e4 e5) ++ ((rooW ad 0 cy fm fr) ++ ((airW ad 1 cy h su st sh fl cS cH (dnD h fl) (dnE h cS) (dnF h su st)) ++ ((airW ad 8 cy h su 0 0 0 (fun _ => 0) (fun _ => 0) (dnD h 0) (dnE h (fun _ => 0)) (dnF h su 0)) ++ ((grdW ad 15 cy sea noi) ++ ((rayW ad 18 cy (u3_4 0) (u3_4 1) (u3_4 2) (u3_4 3) (u3_4 4) (u3_4 5) (u3_4 6) (u3_4 7)) ++ ((sndW ad 19 cy 12 sn pl pw an hd fq) ++ ((sndW ad 25 cy 6 bn bp bw ban bhd bo) ++ ((conW ad 31 cy cm c1 c2 c3 c4 c5) ++ ((entW ad 37 cy em ep e1 e2 e3 e4 e5) ++ (outW od 0 cy o))))))))))) := hD
      exfalso
      omega
    ·
      have hP : va_P D vwCl (mdlW bd 0 cy 1 h su st sh fl 0 sn bn fm fr cm em lg le lf dl cS cH sea noi pl pw an hd bp bo bw c1 c2 c3 c4 c5 e1 e2 e3 e4 e5) H := hP
      have hD : va_D (fun q => z0 ≤ q) ((mdlW bd 0 cy 1 h su st sh fl 0 sn bn fm fr cm em lg le lf dl cS cH sea noi pl pw an hd bp bo bw c1 c2 c3 c4 c5 e1 e2 e3 e4 e5) ++ ((rooW ad 0 cy fm fr) ++ ((airW ad 1 cy h su st sh fl cS cH (dnD h fl) (dnE h cS) (dnF h su st)) ++ ((airW ad 8 cy h su 0 0 0 (fun _ => 0) (fun _ => 0) (dnD h 0) (dnE h (fun _ => 0)) (dnF h su 0)) ++ ((grdW ad 15 cy sea noi) ++ ((rayW ad 18 cy (u3_4 0) (u3_4 1) (u3_4 2) (u3_4 3) (u3_4 4) (u3_4 5) (u3_4 6) (u3_4 7)) ++ ((sndW ad 19 cy 12 sn pl pw an hd fq) ++ ((sndW ad 25 cy 6 bn bp bw ban bhd bo) ++ ((conW ad 31 cy cm c1 c2 c3 c4 c5) ++ ((entW ad 37 cy em ep e1 e2 e3 e4 e5) ++ (outW od 0 cy o))))))))))) := hD
      exfalso
      omega
    ·
      have hP : va_P D vwCl (mdlW bd 0 cy 2 h su st sh fl 0 sn bn fm fr cm em lg le lf dl cS cH sea noi pl pw an hd bp bo bw c1 c2 c3 c4 c5 e1 e2 e3 e4 e5) H := hP
      have hD : va_D (fun q => z0 ≤ q) ((mdlW bd 0 cy 2 h su st sh fl 0 sn bn fm fr cm em lg le lf dl cS cH sea noi pl pw an hd bp bo bw c1 c2 c3 c4 c5 e1 e2 e3 e4 e5) ++ ((rooW ad 0 cy fm fr) ++ ((airW ad 1 cy h su st sh fl cS cH (dnD h fl) (dnE h cS) (dnF h su st)) ++ ((airW ad 8 cy h su 0 0 0 (fun _ => 0) (fun _ => 0) (dnD h 0) (dnE h (fun _ => 0)) (dnF h su 0)) ++ ((grdW ad 15 cy sea noi) ++ ((rayW ad 18 cy (u3_4 0) (u3_4 1) (u3_4 2) (u3_4 3) (u3_4 4) (u3_4 5) (u3_4 6) (u3_4 7)) ++ ((sndW ad 19 cy 12 sn pl pw an hd fq) ++ ((sndW ad 25 cy 6 bn bp bw ban bhd bo) ++ ((conW ad 31 cy cm c1 c2 c3 c4 c5) ++ ((entW ad 37 cy em ep e1 e2 e3 e4 e5) ++ (outW od 0 cy o))))))))))) := hD
      refine lv_istore (lv' := [(6, .int (iI 0)), (5, .int (iI 2)), (0, .ref (b)), (1, .ref (ad 0)), (2, .ref (bd 0)), (3, .ref (od 0)), (4, .int (iI i))]) M.1 M.2.1 dL_law_1964 hl (by decide) rfl (fun ls hl => ?_)
      refine lv_aload_n M.1 M.2.1 dL_law_1966 rfl (lv_at hl 4 rfl) ?_
      refine z_cR (z_runV (As := []) (rest := []) M (c_X7_thrown l D cy z0 bd 2 h su st sh fl 0 sn bn fm fr cm em lg le lf dl cS cH sea noi pl pw an hd bp bo bw c1 c2 c3 c4 c5 e1 e2 e3 e4 e5) hE hS hAz hP (zRc.of (ci := 7) (q0 := 0) hE hP rfl rfl) zk_cd_X7_thrown zk_in_RX7 zk_im_X7_thrown zk_se_X7_thrown zk_ml_RL_116 rfl rfl zd_X7_thrown ⟨by decide, by decide⟩ rfl hl.1 rfl (Nat.le_of_ble_eq_true rfl) dL_law_1967 ⟨by show _ ≤ 601024; omega, by show _ ≤ 7293034; omega⟩) ?_
      refine lv_iload M.1 M.2.1 dL_law_1970 (lv_at hl 1 rfl) ?_
      refine zi_same (tgt := 1977) M dL_law_1972 (by decide) ?_
      refine lv_iload M.1 M.2.1 dL_law_1977 (lv_at hl 1 rfl) ?_
      refine zi_if_ne (tgt := 1994) M dL_law_1979 (by decide) ⟨by decide, by decide⟩ (fun _ => ?_) (fun q => absurd q (by decide))
      refine zi_goto (tgt := 2286) M dL_law_1994 (by decide) ?_
      have hPx := hP
      have hP := hPm
      have hPm := hPx
      have hD := zD_c hD
      refine W.widen (k := cells + 6) (n := slots + 36) (by omega) (by omega) ?_
      exact hback h su st sh fl sn bn cm em ep fm fr 2 o lg le lf dl cS cH sea noi pl pw an hd fq bp bw ban bhd bo c1 c2 c3 c4 c5 e1 e2 e3 e4 e5 u3_4 h_h h_su h_st h_sh h_fl h_sn h_bn h_cm h_em g_cS g_cH g_sea g_noi g_pl g_pw g_an g_hd g_bp g_bw g_ban g_bhd g_c1 g_c2 g_c3 g_c4 g_c5 g_e1 g_e2 g_e3 g_e4 g_e5 hbo hep H locs hP hPm hD hS ls (lv_sub hl [2, 3, 4, 5, 6] rfl)

set_option maxRecDepth 100000 in
set_option maxHeartbeats 8000000 in
theorem lw_case23 (l : Launch) (D : va_G) (cy : Nat → ClassId) (z0 : Nat) (ad bd od : Nat → Nat) (p : Program) (e : Env) (s : State) (m : MethodId) (args : Array Value) (below : List Frame) (meth : Method) (c : Code) (b : Nat) (i : Int) (Q : State → Prop) (cells slots : Nat) (hst : l.stackTraces = false) (hL7 : ∀ q : Nat, q = 0 → True) (b_L : Nat) (xs : Nat → Int32) (M : zM p s m args c cL_law RL 7) (hE : zE D cy z0 s) (hN : zNc s) (hL : b_L ≤ 3584) (hX : va_X b b_L xs s s.heap) (hbl : b < s.heap.size) (hbA : ¬ z0 ≤ b) (hi : 0 ≤ i ∧ i + 7 ≤ b_L) (hc : cells + 6 ≤ 601024) (hs : slots + 36 ≤ 7293034) (hback : lwB l D cy z0 ad bd od p e s m args below meth c b i Q cells slots) (h su st sh fl sn bn cm em ep fm fr th o lg le lf dl : Int) (cS cH sea noi pl pw an hd fq bp bw ban bhd bo c1 c2 c3 c4 c5 e1 e2 e3 e4 e5 : Int → Int) (ur : Nat → Int) (h_h : 0 ≤ h ∧ h ≤ 5000) (h_su : 0 ≤ su ∧ su ≤ 100) (h_st : 0 ≤ st ∧ st ≤ 60) (h_sh : 0 ≤ sh ∧ sh ≤ 72) (h_fl : 0 ≤ fl ∧ fl ≤ 80) (h_sn : 0 ≤ sn ∧ sn ≤ 12) (h_bn : 0 ≤ bn ∧ bn ≤ 6) (h_cm : 0 ≤ cm ∧ cm ≤ 60) (h_em : 0 ≤ em ∧ em ≤ 80) (g_cS : zrg 48 0 100 cS) (g_cH : zrg 48 0 24 cH) (g_sea : zrg 48 0 1 sea) (g_noi : zrg 48 0 40 noi) (g_pl : zrg 12 0 47 pl) (g_pw : zrg 12 0 80 pw) (g_an : zrg 12 0 2 an) (g_hd : zrg 12 0 2 hd) (g_bp : zrg 6 0 47 bp) (g_bw : zrg 6 0 80 bw) (g_ban : zrg 6 0 2 ban) (g_bhd : zrg 6 0 2 bhd) (g_c1 : zrg 60 0 11 c1) (g_c2 : zrg 60 0 11 c2) (g_c3 : zrg 60 0 300 c3) (g_c4 : zrg 60 0 2 c4) (g_c5 : zrg 60 0 5000 c5) (g_e1 : zrg 80 0 11 e1) (g_e2 : zrg 80 0 11 e2) (g_e3 : zrg 80 0 300 e3) (g_e4 : zrg 80 0 5000 e4) (g_e5 : zrg 80 (-1) 79 e5) (hbo : ∀ n : Int, 0 ≤ n → n < bn → (10 ≤ bo n ∧ bo n ≤ 300) ∧ ban n = 2 ∧ bhd n = 2) (hep : ep = prF e5 em.toNat) (H : Heap) (locs : List Loc) (hP : va_P D vwCl ((rooW ad 0 cy fm fr) ++ ((airW ad 1 cy h su st sh fl cS cH (dnD h fl) (dnE h cS) (dnF h su st)) ++ ((airW ad 8 cy h su 0 0 0 (fun _ => 0) (fun _ => 0) (dnD h 0) (dnE h (fun _ => 0)) (dnF h su 0)) ++ ((grdW ad 15 cy sea noi) ++ ((rayW ad 18 cy (ur 0) (ur 1) (ur 2) (ur 3) (ur 4) (ur 5) (ur 6) (ur 7)) ++ ((sndW ad 19 cy 12 sn pl pw an hd fq) ++ ((sndW ad 25 cy 6 bn bp bw ban bhd bo) ++ ((conW ad 31 cy cm c1 c2 c3 c4 c5) ++ ((entW ad 37 cy em ep e1 e2 e3 e4 e5) ++ (outW od 0 cy o)))))))))) H) (hPm : va_P D vwCl (mdlW bd 0 cy th h su st sh fl 0 sn bn fm fr cm em lg le lf dl cS cH sea noi pl pw an hd bp bo bw c1 c2 c3 c4 c5 e1 e2 e3 e4 e5) H) (hD : va_D (fun q => z0 ≤ q) (((rooW ad 0 cy fm fr) ++ ((airW ad 1 cy h su st sh fl cS cH (dnD h fl) (dnE h cS) (dnF h su st)) ++ ((airW ad 8 cy h su 0 0 0 (fun _ => 0) (fun _ => 0) (dnD h 0) (dnE h (fun _ => 0)) (dnF h su 0)) ++ ((grdW ad 15 cy sea noi) ++ ((rayW ad 18 cy (ur 0) (ur 1) (ur 2) (ur 3) (ur 4) (ur 5) (ur 6) (ur 7)) ++ ((sndW ad 19 cy 12 sn pl pw an hd fq) ++ ((sndW ad 25 cy 6 bn bp bw ban bhd bo) ++ ((conW ad 31 cy cm c1 c2 c3 c4 c5) ++ ((entW ad 37 cy em ep e1 e2 e3 e4 e5) ++ (outW od 0 cy o)))))))))) ++ (mdlW bd 0 cy th h su st sh fl 0 sn bn fm fr cm em lg le lf dl cS cH sea noi pl pw an hd bp bo bw c1 c2 c3 c4 c5 e1 e2 e3 e4 e5))) (hS : va_S (fun q => z0 ≤ q) s.heap H locs) (ls : Array Slot) (hl : lv_has ls 7 [(0, .ref b), (1, .ref (ad 0)), (2, .ref (bd 0)), (3, .ref (od 0)), (4, .int (iI i))]) : W p l e room_1 s m args below meth c H locs (cells) (slots) Q (F0 m 1997 ls []) := by
  have hAz : ∀ q : Nat, (fun q => z0 ≤ q) q → z0 ≤ q := fun _ h => h
  refine lv_aload_n M.1 M.2.1 dL_law_1997 rfl (lv_at hl 1 rfl) ?_
  refine lv_aload_n M.1 M.2.1 dL_law_1998 rfl (lv_at hl 0 rfl) ?_
  refine lv_iload M.1 M.2.1 dL_law_1999 (lv_at hl 4 rfl) ?_
  refine zi_push M dL_law_2001 ?_
  refine zi_iadd M dL_law_2002 ?_
  refine zi_sld M hX hbl hbA hS hL (by omega) (by omega) dL_law_2003 ?_
  have hx_1 := xZ_rg xs (i + 1)
  refine lv_aload_n M.1 M.2.1 dL_law_2004 rfl (lv_at hl 0 rfl) ?_
  refine lv_iload M.1 M.2.1 dL_law_2005 (lv_at hl 4 rfl) ?_
  refine zi_push M dL_law_2007 ?_
  refine zi_iadd M dL_law_2008 ?_
  refine zi_sld M hX hbl hbA hS hL (by omega) (by omega) dL_law_2009 ?_
  have hx_2 := xZ_rg xs (i + 2)
  refine lv_aload_n M.1 M.2.1 dL_law_2010 rfl (lv_at hl 3 rfl) ?_
  refine z_cW2 (zx_runH (As := [.ref (ad 0), .int (iI (xZ xs (i + 1))), .int (iI (xZ xs (i + 2))), .ref (od 0)]) (rest := []) M (c_L_contactOf l hst D cy z0 ad od fm fr cm o c1 c2 c3 c4 c5 (xZ xs (i + 1)) (xZ xs (i + 2)) (by omega) (by omega) (by omega)) hE hN hS hAz (z_cut hP (zD_l hD) hAz [0, 31, 32, 33, 34, 35, 36, 43] rfl (by decide +kernel)) zk_cw_L_contactOf zk_in_RL zk_st_L_contactOf zk_ml_RL_198 rfl rfl zd_L_contactOf ⟨by decide, by decide⟩ rfl hl.1 rfl (Nat.le_of_ble_eq_true rfl) dL_law_2011 ⟨by show _ ≤ 601024; omega, by show _ ≤ 7293034; omega⟩) hP hPm hD hS [0, 31, 32, 33, 34, 35, 36, 43] rfl (fun _ => by simp only [List.map_append, conW_adr, outW_adr, rooW_adr]) (fun r_3 u_3 H locs hp_3 hP hPm hD hS => ?_)
  have hP : va_P D vwCl ((rooW ad 0 cy fm fr) ++ ((airW ad 1 cy h su st sh fl cS cH (dnD h fl) (dnE h cS) (dnF h su st)) ++ ((airW ad 8 cy h su 0 0 0 (fun _ => 0) (fun _ => 0) (dnD h 0) (dnE h (fun _ => 0)) (dnF h su 0)) ++ ((grdW ad 15 cy sea noi) ++ ((rayW ad 18 cy (ur 0) (ur 1) (ur 2) (ur 3) (ur 4) (ur 5) (ur 6) (ur 7)) ++ ((sndW ad 19 cy 12 sn pl pw an hd fq) ++ ((sndW ad 25 cy 6 bn bp bw ban bhd bo) ++ ((conW ad 31 cy cm c1 c2 c3 c4 c5) ++ ((entW ad 37 cy em ep e1 e2 e3 e4 e5) ++ (outW od 0 cy u_3.2.1)))))))))) H := hP
  have hD : va_D (fun q => z0 ≤ q) (((rooW ad 0 cy fm fr) ++ ((airW ad 1 cy h su st sh fl cS cH (dnD h fl) (dnE h cS) (dnF h su st)) ++ ((airW ad 8 cy h su 0 0 0 (fun _ => 0) (fun _ => 0) (dnD h 0) (dnE h (fun _ => 0)) (dnF h su 0)) ++ ((grdW ad 15 cy sea noi) ++ ((rayW ad 18 cy (ur 0) (ur 1) (ur 2) (ur 3) (ur 4) (ur 5) (ur 6) (ur 7)) ++ ((sndW ad 19 cy 12 sn pl pw an hd fq) ++ ((sndW ad 25 cy 6 bn bp bw ban bhd bo) ++ ((conW ad 31 cy cm c1 c2 c3 c4 c5) ++ ((entW ad 37 cy em ep e1 e2 e3 e4 e5) ++ (outW od 0 cy u_3.2.1)))))))))) ++ (mdlW bd 0 cy th h su st sh fl 0 sn bn fm fr cm em lg le lf dl cS cH sea noi pl pw an hd bp bo bw c1 c2 c3 c4 c5 e1 e2 e3 e4 e5)) := hD
  obtain ⟨u1_3, u2_3, u3_3⟩ := u_3
  dsimp only at hp_3
  rcases hp_3 with ⟨rfl, rfl, hN_3, hv_3⟩ | ⟨rfl, rfl, hN_3, hv_3⟩ | ⟨rfl, rfl, hN_3, hv_3⟩
  ·
    have hw_3 := hv_3.symm
    subst hw_3
    have hP : va_P D vwCl ((rooW ad 0 cy fm fr) ++ ((airW ad 1 cy h su st sh fl cS cH (dnD h fl) (dnE h cS) (dnF h su st)) ++ ((airW ad 8 cy h su 0 0 0 (fun _ => 0) (fun _ => 0) (dnD h 0) (dnE h (fun _ => 0)) (dnF h su 0)) ++ ((grdW ad 15 cy sea noi) ++ ((rayW ad 18 cy (ur 0) (ur 1) (ur 2) (ur 3) (ur 4) (ur 5) (ur 6) (ur 7)) ++ ((sndW ad 19 cy 12 sn pl pw an hd fq) ++ ((sndW ad 25 cy 6 bn bp bw ban bhd bo) ++ ((conW ad 31 cy cm c1 c2 c3 c4 c5) ++ ((entW ad 37 cy em ep e1 e2 e3 e4 e5) ++ (outW od 0 cy (tell5 (c1 (xZ xs (i + 1))) (c2 (xZ xs (i + 1))) (c3 (xZ xs (i + 1))) (c4 (xZ xs (i + 1))) (c5 (xZ xs (i + 1))) (xZ xs (i + 2))))))))))))) H := hP
    have hD : va_D (fun q => z0 ≤ q) (((rooW ad 0 cy fm fr) ++ ((airW ad 1 cy h su st sh fl cS cH (dnD h fl) (dnE h cS) (dnF h su st)) ++ ((airW ad 8 cy h su 0 0 0 (fun _ => 0) (fun _ => 0) (dnD h 0) (dnE h (fun _ => 0)) (dnF h su 0)) ++ ((grdW ad 15 cy sea noi) ++ ((rayW ad 18 cy (ur 0) (ur 1) (ur 2) (ur 3) (ur 4) (ur 5) (ur 6) (ur 7)) ++ ((sndW ad 19 cy 12 sn pl pw an hd fq) ++ ((sndW ad 25 cy 6 bn bp bw ban bhd bo) ++ ((conW ad 31 cy cm c1 c2 c3 c4 c5) ++ ((entW ad 37 cy em ep e1 e2 e3 e4 e5) ++ (outW od 0 cy (tell5 (c1 (xZ xs (i + 1))) (c2 (xZ xs (i + 1))) (c3 (xZ xs (i + 1))) (c4 (xZ xs (i + 1))) (c5 (xZ xs (i + 1))) (xZ xs (i + 2))))))))))))) ++ (mdlW bd 0 cy th h su st sh fl 0 sn bn fm fr cm em lg le lf dl cS cH sea noi pl pw an hd bp bo bw c1 c2 c3 c4 c5 e1 e2 e3 e4 e5)) := hD
    refine lv_istore (lv' := [(5, .int (iI 0)), (0, .ref (b)), (1, .ref (ad 0)), (2, .ref (bd 0)), (3, .ref (od 0)), (4, .int (iI i))]) M.1 M.2.1 dL_law_2014 hl (by decide) rfl (fun ls hl => ?_)
    refine lv_aload_n M.1 M.2.1 dL_law_2016 rfl (lv_at hl 3 rfl) ?_
    refine lv_aload_n M.1 M.2.1 dL_law_2017 rfl (lv_at hl 1 rfl) ?_
    refine lv_iload M.1 M.2.1 dL_law_2018 (lv_at hl 5 rfl) ?_
    refine zi_push M dL_law_2020 ?_
    refine zi_iadd M dL_law_2021 ?_
    refine zi_sld M hX hbl hbA hS hL (by omega) (by omega) dL_law_2022 ?_
    have hx_4 := xZ_rg xs (i + 1)
    refine lv_aload_n M.1 M.2.1 dL_law_2023 rfl (lv_at hl 1 rfl) ?_
    refine lv_iload M.1 M.2.1 dL_law_2024 (lv_at hl 5 rfl) ?_
    refine zi_push M dL_law_2026 ?_
    refine zi_iadd M dL_law_2027 ?_
    refine zi_sld M hX hbl hbA hS hL (by omega) (by omega) dL_law_2028 ?_
    have hx_5 := xZ_rg xs (i + 2)
    have hPx := hP
    have hP := hPm
    have hPm := hPx
    have hD := zD_c hD
    refine z_cW2 (z_runV (As := [.int (iI (xZ xs (i + 1))), .int (iI (xZ xs (i + 2)))]) (rest := []) M (c_X7_contactOf l D cy z0 bd th h su st sh fl 0 sn bn fm fr cm em lg le lf dl cS cH sea noi pl pw an hd bp bo bw c1 c2 c3 c4 c5 e1 e2 e3 e4 e5 (xZ xs (i + 1)) (xZ xs (i + 2)) (by omega) (by omega) (by omega)) hE hS hAz (z_cut hP (zD_l hD) hAz [0, 1, 2, 3, 4, 5, 6, 7, 8, 9, 10, 11, 12, 13, 14, 15, 16, 17, 18, 19, 20, 21] rfl (by decide +kernel)) (zRc.of (ci := 7) (q0 := 0) hE hP rfl rfl) zk_cd_X7_contactOf zk_in_RX7 zk_im_X7_contactOf zk_se_X7_contactOf zk_ml_RL_200 rfl rfl zd_X7_contactOf ⟨by decide, by decide⟩ rfl hl.1 rfl (Nat.le_of_ble_eq_true rfl) dL_law_2029 ⟨by show _ ≤ 601024; omega, by show _ ≤ 7293034; omega⟩) hP hPm hD hS [0, 1, 2, 3, 4, 5, 6, 7, 8, 9, 10, 11, 12, 13, 14, 15, 16, 17, 18, 19, 20, 21] rfl (fun _ => by simp only [List.map_append, mdlW_adr]) (fun r_6 u_6 H locs hp_6 hP hPm hD hS => ?_)
    try simp only [mdD_0, mdE_0, mdF_0, mdD_1, mdE_1, mdF_1] at hp_6
    have hP : va_P D vwCl (mdlW bd 0 cy u_6 h su st sh fl 0 sn bn fm fr cm em lg le lf dl cS cH sea noi pl pw an hd bp bo bw c1 c2 c3 c4 c5 e1 e2 e3 e4 e5) H := hP
    have hD : va_D (fun q => z0 ≤ q) ((mdlW bd 0 cy u_6 h su st sh fl 0 sn bn fm fr cm em lg le lf dl cS cH sea noi pl pw an hd bp bo bw c1 c2 c3 c4 c5 e1 e2 e3 e4 e5) ++ ((rooW ad 0 cy fm fr) ++ ((airW ad 1 cy h su st sh fl cS cH (dnD h fl) (dnE h cS) (dnF h su st)) ++ ((airW ad 8 cy h su 0 0 0 (fun _ => 0) (fun _ => 0) (dnD h 0) (dnE h (fun _ => 0)) (dnF h su 0)) ++ ((grdW ad 15 cy sea noi) ++ ((rayW ad 18 cy (ur 0) (ur 1) (ur 2) (ur 3) (ur 4) (ur 5) (ur 6) (ur 7)) ++ ((sndW ad 19 cy 12 sn pl pw an hd fq) ++ ((sndW ad 25 cy 6 bn bp bw ban bhd bo) ++ ((conW ad 31 cy cm c1 c2 c3 c4 c5) ++ ((entW ad 37 cy em ep e1 e2 e3 e4 e5) ++ (outW od 0 cy (tell5 (c1 (xZ xs (i + 1))) (c2 (xZ xs (i + 1))) (c3 (xZ xs (i + 1))) (c4 (xZ xs (i + 1))) (c5 (xZ xs (i + 1))) (xZ xs (i + 2)))))))))))))) := hD
    rcases hp_6 with ⟨rfl, hN_6, rfl⟩ | ⟨rfl, hN_6, rfl⟩ | ⟨rfl, hN_6, rfl⟩
    ·
      have hP : va_P D vwCl (mdlW bd 0 cy 0 h su st sh fl 0 sn bn fm fr cm em lg le lf dl cS cH sea noi pl pw an hd bp bo bw c1 c2 c3 c4 c5 e1 e2 e3 e4 e5) H := hP
      have hD : va_D (fun q => z0 ≤ q) ((mdlW bd 0 cy 0 h su st sh fl 0 sn bn fm fr cm em lg le lf dl cS cH sea noi pl pw an hd bp bo bw c1 c2 c3 c4 c5 e1 e2 e3 e4 e5) ++ ((rooW ad 0 cy fm fr) ++ ((airW ad 1 cy h su st sh fl cS cH (dnD h fl) (dnE h cS) (dnF h su st)) ++ ((airW ad 8 cy h su 0 0 0 (fun _ => 0) (fun _ => 0) (dnD h 0) (dnE h (fun _ => 0)) (dnF h su 0)) ++ ((grdW ad 15 cy sea noi) ++ ((rayW ad 18 cy (ur 0) (ur 1) (ur 2) (ur 3) (ur 4) (ur 5) (ur 6) (ur 7)) ++ ((sndW ad 19 cy 12 sn pl pw an hd fq) ++ ((sndW ad 25 cy 6 bn bp bw ban bhd bo) ++ ((conW ad 31 cy cm c1 c2 c3 c4 c5) ++ ((entW ad 37 cy em ep e1 e2 e3 e4 e5) ++ (outW od 0 cy (tell5 (c1 (xZ xs (i + 1))) (c2 (xZ xs (i + 1))) (c3 (xZ xs (i + 1))) (c4 (xZ xs (i + 1))) (c5 (xZ xs (i + 1))) (xZ xs (i + 2)))))))))))))) := hD
      refine lv_istore (lv' := [(6, .int (iI (tell5 (c1 (xZ xs (i + 1))) (c2 (xZ xs (i + 1))) (c3 (xZ xs (i + 1))) (c4 (xZ xs (i + 1))) (c5 (xZ xs (i + 1))) (xZ xs (i + 2))))), (5, .int (iI 0)), (0, .ref (b)), (1, .ref (ad 0)), (2, .ref (bd 0)), (3, .ref (od 0)), (4, .int (iI i))]) M.1 M.2.1 dL_law_2032 hl (by decide) rfl (fun ls hl => ?_)
      refine lv_aload_n M.1 M.2.1 dL_law_2034 rfl (lv_at hl 4 rfl) ?_
      refine z_cR (z_runV (As := []) (rest := []) M (c_X7_thrown l D cy z0 bd 0 h su st sh fl 0 sn bn fm fr cm em lg le lf dl cS cH sea noi pl pw an hd bp bo bw c1 c2 c3 c4 c5 e1 e2 e3 e4 e5) hE hS hAz hP (zRc.of (ci := 7) (q0 := 0) hE hP rfl rfl) zk_cd_X7_thrown zk_in_RX7 zk_im_X7_thrown zk_se_X7_thrown zk_ml_RL_116 rfl rfl zd_X7_thrown ⟨by decide, by decide⟩ rfl hl.1 rfl (Nat.le_of_ble_eq_true rfl) dL_law_2035 ⟨by show _ ≤ 601024; omega, by show _ ≤ 7293034; omega⟩) ?_
      refine lv_iload M.1 M.2.1 dL_law_2038 (lv_at hl 1 rfl) ?_
      refine zi_same (tgt := 2045) M dL_law_2040 (by decide) ?_
      refine lv_iload M.1 M.2.1 dL_law_2045 (lv_at hl 1 rfl) ?_
      refine zi_if_ne (tgt := 2062) M dL_law_2047 (by decide) ⟨by decide, by decide⟩ (fun q => absurd q (by decide)) (fun _ => ?_)
      refine lv_aload_n M.1 M.2.1 dL_law_2050 rfl (lv_at hl 5 rfl) ?_
      refine zi_push M dL_law_2051 ?_
      refine zi_lald M hE hPm 43 rfl dL_law_2052 ?_
      refine lv_iload M.1 M.2.1 dL_law_2053 (lv_at hl 0 rfl) ?_
      refine zi_i2l M dL_law_2055 ?_
      refine zi_lcmpE M dL_law_2056 ?_
      refine zi_if_eq (tgt := 2062) M dL_law_2057 (by decide) ⟨by decide, by decide⟩ (fun _ => ?_) (fun q => absurd q (by decide))
      refine zi_goto (tgt := 2286) M dL_law_2062 (by decide) ?_
      have hPx := hP
      have hP := hPm
      have hPm := hPx
      have hD := zD_c hD
      refine W.widen (k := cells + 6) (n := slots + 36) (by omega) (by omega) ?_
      exact hback h su st sh fl sn bn cm em ep fm fr 0 (tell5 (c1 (xZ xs (i + 1))) (c2 (xZ xs (i + 1))) (c3 (xZ xs (i + 1))) (c4 (xZ xs (i + 1))) (c5 (xZ xs (i + 1))) (xZ xs (i + 2))) lg le lf dl cS cH sea noi pl pw an hd fq bp bw ban bhd bo c1 c2 c3 c4 c5 e1 e2 e3 e4 e5 ur h_h h_su h_st h_sh h_fl h_sn h_bn h_cm h_em g_cS g_cH g_sea g_noi g_pl g_pw g_an g_hd g_bp g_bw g_ban g_bhd g_c1 g_c2 g_c3 g_c4 g_c5 g_e1 g_e2 g_e3 g_e4 g_e5 hbo hep H locs hP hPm hD hS ls (lv_sub hl [2, 3, 4, 5, 6] rfl)
    ·
      have hP : va_P D vwCl (mdlW bd 0 cy 1 h su st sh fl 0 sn bn fm fr cm em lg le lf dl cS cH sea noi pl pw an hd bp bo bw c1 c2 c3 c4 c5 e1 e2 e3 e4 e5) H := hP
      have hD : va_D (fun q => z0 ≤ q) ((mdlW bd 0 cy 1 h su st sh fl 0 sn bn fm fr cm em lg le lf dl cS cH sea noi pl pw an hd bp bo bw c1 c2 c3 c4 c5 e1 e2 e3 e4 e5) ++ ((rooW ad 0 cy fm fr) ++ ((airW ad 1 cy h su st sh fl cS cH (dnD h fl) (dnE h cS) (dnF h su st)) ++ ((airW ad 8 cy h su 0 0 0 (fun _ => 0) (fun _ => 0) (dnD h 0) (dnE h (fun _ => 0)) (dnF h su 0)) ++ ((grdW ad 15 cy sea noi) ++ ((rayW ad 18 cy (ur 0) (ur 1) (ur 2) (ur 3) (ur 4) (ur 5) (ur 6) (ur 7)) ++ ((sndW ad 19 cy 12 sn pl pw an hd fq) ++ ((sndW ad 25 cy 6 bn bp bw ban bhd bo) ++ ((conW ad 31 cy cm c1 c2 c3 c4 c5) ++ ((entW ad 37 cy em ep e1 e2 e3 e4 e5) ++ (outW od 0 cy (tell5 (c1 (xZ xs (i + 1))) (c2 (xZ xs (i + 1))) (c3 (xZ xs (i + 1))) (c4 (xZ xs (i + 1))) (c5 (xZ xs (i + 1))) (xZ xs (i + 2)))))))))))))) := hD
      exfalso
      omega
    ·
      have hP : va_P D vwCl (mdlW bd 0 cy 2 h su st sh fl 0 sn bn fm fr cm em lg le lf dl cS cH sea noi pl pw an hd bp bo bw c1 c2 c3 c4 c5 e1 e2 e3 e4 e5) H := hP
      have hD : va_D (fun q => z0 ≤ q) ((mdlW bd 0 cy 2 h su st sh fl 0 sn bn fm fr cm em lg le lf dl cS cH sea noi pl pw an hd bp bo bw c1 c2 c3 c4 c5 e1 e2 e3 e4 e5) ++ ((rooW ad 0 cy fm fr) ++ ((airW ad 1 cy h su st sh fl cS cH (dnD h fl) (dnE h cS) (dnF h su st)) ++ ((airW ad 8 cy h su 0 0 0 (fun _ => 0) (fun _ => 0) (dnD h 0) (dnE h (fun _ => 0)) (dnF h su 0)) ++ ((grdW ad 15 cy sea noi) ++ ((rayW ad 18 cy (ur 0) (ur 1) (ur 2) (ur 3) (ur 4) (ur 5) (ur 6) (ur 7)) ++ ((sndW ad 19 cy 12 sn pl pw an hd fq) ++ ((sndW ad 25 cy 6 bn bp bw ban bhd bo) ++ ((conW ad 31 cy cm c1 c2 c3 c4 c5) ++ ((entW ad 37 cy em ep e1 e2 e3 e4 e5) ++ (outW od 0 cy (tell5 (c1 (xZ xs (i + 1))) (c2 (xZ xs (i + 1))) (c3 (xZ xs (i + 1))) (c4 (xZ xs (i + 1))) (c5 (xZ xs (i + 1))) (xZ xs (i + 2)))))))))))))) := hD
      exfalso
      omega
  ·
    have hw_3 := hv_3.symm
    subst hw_3
    have hP : va_P D vwCl ((rooW ad 0 cy fm fr) ++ ((airW ad 1 cy h su st sh fl cS cH (dnD h fl) (dnE h cS) (dnF h su st)) ++ ((airW ad 8 cy h su 0 0 0 (fun _ => 0) (fun _ => 0) (dnD h 0) (dnE h (fun _ => 0)) (dnF h su 0)) ++ ((grdW ad 15 cy sea noi) ++ ((rayW ad 18 cy (ur 0) (ur 1) (ur 2) (ur 3) (ur 4) (ur 5) (ur 6) (ur 7)) ++ ((sndW ad 19 cy 12 sn pl pw an hd fq) ++ ((sndW ad 25 cy 6 bn bp bw ban bhd bo) ++ ((conW ad 31 cy cm c1 c2 c3 c4 c5) ++ ((entW ad 37 cy em ep e1 e2 e3 e4 e5) ++ (outW od 0 cy o)))))))))) H := hP
    have hD : va_D (fun q => z0 ≤ q) (((rooW ad 0 cy fm fr) ++ ((airW ad 1 cy h su st sh fl cS cH (dnD h fl) (dnE h cS) (dnF h su st)) ++ ((airW ad 8 cy h su 0 0 0 (fun _ => 0) (fun _ => 0) (dnD h 0) (dnE h (fun _ => 0)) (dnF h su 0)) ++ ((grdW ad 15 cy sea noi) ++ ((rayW ad 18 cy (ur 0) (ur 1) (ur 2) (ur 3) (ur 4) (ur 5) (ur 6) (ur 7)) ++ ((sndW ad 19 cy 12 sn pl pw an hd fq) ++ ((sndW ad 25 cy 6 bn bp bw ban bhd bo) ++ ((conW ad 31 cy cm c1 c2 c3 c4 c5) ++ ((entW ad 37 cy em ep e1 e2 e3 e4 e5) ++ (outW od 0 cy o)))))))))) ++ (mdlW bd 0 cy th h su st sh fl 0 sn bn fm fr cm em lg le lf dl cS cH sea noi pl pw an hd bp bo bw c1 c2 c3 c4 c5 e1 e2 e3 e4 e5)) := hD
    refine lv_istore (lv' := [(5, .int (iI 1)), (0, .ref (b)), (1, .ref (ad 0)), (2, .ref (bd 0)), (3, .ref (od 0)), (4, .int (iI i))]) M.1 M.2.1 dL_law_2014 hl (by decide) rfl (fun ls hl => ?_)
    refine lv_aload_n M.1 M.2.1 dL_law_2016 rfl (lv_at hl 3 rfl) ?_
    refine lv_aload_n M.1 M.2.1 dL_law_2017 rfl (lv_at hl 1 rfl) ?_
    refine lv_iload M.1 M.2.1 dL_law_2018 (lv_at hl 5 rfl) ?_
    refine zi_push M dL_law_2020 ?_
    refine zi_iadd M dL_law_2021 ?_
    refine zi_sld M hX hbl hbA hS hL (by omega) (by omega) dL_law_2022 ?_
    have hx_7 := xZ_rg xs (i + 1)
    refine lv_aload_n M.1 M.2.1 dL_law_2023 rfl (lv_at hl 1 rfl) ?_
    refine lv_iload M.1 M.2.1 dL_law_2024 (lv_at hl 5 rfl) ?_
    refine zi_push M dL_law_2026 ?_
    refine zi_iadd M dL_law_2027 ?_
    refine zi_sld M hX hbl hbA hS hL (by omega) (by omega) dL_law_2028 ?_
    have hx_8 := xZ_rg xs (i + 2)
    have hPx := hP
    have hP := hPm
    have hPm := hPx
    have hD := zD_c hD
    refine z_cW2 (z_runV (As := [.int (iI (xZ xs (i + 1))), .int (iI (xZ xs (i + 2)))]) (rest := []) M (c_X7_contactOf l D cy z0 bd th h su st sh fl 0 sn bn fm fr cm em lg le lf dl cS cH sea noi pl pw an hd bp bo bw c1 c2 c3 c4 c5 e1 e2 e3 e4 e5 (xZ xs (i + 1)) (xZ xs (i + 2)) (by omega) (by omega) (by omega)) hE hS hAz (z_cut hP (zD_l hD) hAz [0, 1, 2, 3, 4, 5, 6, 7, 8, 9, 10, 11, 12, 13, 14, 15, 16, 17, 18, 19, 20, 21] rfl (by decide +kernel)) (zRc.of (ci := 7) (q0 := 0) hE hP rfl rfl) zk_cd_X7_contactOf zk_in_RX7 zk_im_X7_contactOf zk_se_X7_contactOf zk_ml_RL_200 rfl rfl zd_X7_contactOf ⟨by decide, by decide⟩ rfl hl.1 rfl (Nat.le_of_ble_eq_true rfl) dL_law_2029 ⟨by show _ ≤ 601024; omega, by show _ ≤ 7293034; omega⟩) hP hPm hD hS [0, 1, 2, 3, 4, 5, 6, 7, 8, 9, 10, 11, 12, 13, 14, 15, 16, 17, 18, 19, 20, 21] rfl (fun _ => by simp only [List.map_append, mdlW_adr]) (fun r_9 u_9 H locs hp_9 hP hPm hD hS => ?_)
    try simp only [mdD_0, mdE_0, mdF_0, mdD_1, mdE_1, mdF_1] at hp_9
    have hP : va_P D vwCl (mdlW bd 0 cy u_9 h su st sh fl 0 sn bn fm fr cm em lg le lf dl cS cH sea noi pl pw an hd bp bo bw c1 c2 c3 c4 c5 e1 e2 e3 e4 e5) H := hP
    have hD : va_D (fun q => z0 ≤ q) ((mdlW bd 0 cy u_9 h su st sh fl 0 sn bn fm fr cm em lg le lf dl cS cH sea noi pl pw an hd bp bo bw c1 c2 c3 c4 c5 e1 e2 e3 e4 e5) ++ ((rooW ad 0 cy fm fr) ++ ((airW ad 1 cy h su st sh fl cS cH (dnD h fl) (dnE h cS) (dnF h su st)) ++ ((airW ad 8 cy h su 0 0 0 (fun _ => 0) (fun _ => 0) (dnD h 0) (dnE h (fun _ => 0)) (dnF h su 0)) ++ ((grdW ad 15 cy sea noi) ++ ((rayW ad 18 cy (ur 0) (ur 1) (ur 2) (ur 3) (ur 4) (ur 5) (ur 6) (ur 7)) ++ ((sndW ad 19 cy 12 sn pl pw an hd fq) ++ ((sndW ad 25 cy 6 bn bp bw ban bhd bo) ++ ((conW ad 31 cy cm c1 c2 c3 c4 c5) ++ ((entW ad 37 cy em ep e1 e2 e3 e4 e5) ++ (outW od 0 cy o))))))))))) := hD
    rcases hp_9 with ⟨rfl, hN_9, rfl⟩ | ⟨rfl, hN_9, rfl⟩ | ⟨rfl, hN_9, rfl⟩
    ·
      have hP : va_P D vwCl (mdlW bd 0 cy 0 h su st sh fl 0 sn bn fm fr cm em lg le lf dl cS cH sea noi pl pw an hd bp bo bw c1 c2 c3 c4 c5 e1 e2 e3 e4 e5) H := hP
      have hD : va_D (fun q => z0 ≤ q) ((mdlW bd 0 cy 0 h su st sh fl 0 sn bn fm fr cm em lg le lf dl cS cH sea noi pl pw an hd bp bo bw c1 c2 c3 c4 c5 e1 e2 e3 e4 e5) ++ ((rooW ad 0 cy fm fr) ++ ((airW ad 1 cy h su st sh fl cS cH (dnD h fl) (dnE h cS) (dnF h su st)) ++ ((airW ad 8 cy h su 0 0 0 (fun _ => 0) (fun _ => 0) (dnD h 0) (dnE h (fun _ => 0)) (dnF h su 0)) ++ ((grdW ad 15 cy sea noi) ++ ((rayW ad 18 cy (ur 0) (ur 1) (ur 2) (ur 3) (ur 4) (ur 5) (ur 6) (ur 7)) ++ ((sndW ad 19 cy 12 sn pl pw an hd fq) ++ ((sndW ad 25 cy 6 bn bp bw ban bhd bo) ++ ((conW ad 31 cy cm c1 c2 c3 c4 c5) ++ ((entW ad 37 cy em ep e1 e2 e3 e4 e5) ++ (outW od 0 cy o))))))))))) := hD
      exfalso
      omega
    ·
      have hP : va_P D vwCl (mdlW bd 0 cy 1 h su st sh fl 0 sn bn fm fr cm em lg le lf dl cS cH sea noi pl pw an hd bp bo bw c1 c2 c3 c4 c5 e1 e2 e3 e4 e5) H := hP
      have hD : va_D (fun q => z0 ≤ q) ((mdlW bd 0 cy 1 h su st sh fl 0 sn bn fm fr cm em lg le lf dl cS cH sea noi pl pw an hd bp bo bw c1 c2 c3 c4 c5 e1 e2 e3 e4 e5) ++ ((rooW ad 0 cy fm fr) ++ ((airW ad 1 cy h su st sh fl cS cH (dnD h fl) (dnE h cS) (dnF h su st)) ++ ((airW ad 8 cy h su 0 0 0 (fun _ => 0) (fun _ => 0) (dnD h 0) (dnE h (fun _ => 0)) (dnF h su 0)) ++ ((grdW ad 15 cy sea noi) ++ ((rayW ad 18 cy (ur 0) (ur 1) (ur 2) (ur 3) (ur 4) (ur 5) (ur 6) (ur 7)) ++ ((sndW ad 19 cy 12 sn pl pw an hd fq) ++ ((sndW ad 25 cy 6 bn bp bw ban bhd bo) ++ ((conW ad 31 cy cm c1 c2 c3 c4 c5) ++ ((entW ad 37 cy em ep e1 e2 e3 e4 e5) ++ (outW od 0 cy o))))))))))) := hD
      refine lv_istore (lv' := [(6, .int (iI 0)), (5, .int (iI 1)), (0, .ref (b)), (1, .ref (ad 0)), (2, .ref (bd 0)), (3, .ref (od 0)), (4, .int (iI i))]) M.1 M.2.1 dL_law_2032 hl (by decide) rfl (fun ls hl => ?_)
      refine lv_aload_n M.1 M.2.1 dL_law_2034 rfl (lv_at hl 4 rfl) ?_
      refine z_cR (z_runV (As := []) (rest := []) M (c_X7_thrown l D cy z0 bd 1 h su st sh fl 0 sn bn fm fr cm em lg le lf dl cS cH sea noi pl pw an hd bp bo bw c1 c2 c3 c4 c5 e1 e2 e3 e4 e5) hE hS hAz hP (zRc.of (ci := 7) (q0 := 0) hE hP rfl rfl) zk_cd_X7_thrown zk_in_RX7 zk_im_X7_thrown zk_se_X7_thrown zk_ml_RL_116 rfl rfl zd_X7_thrown ⟨by decide, by decide⟩ rfl hl.1 rfl (Nat.le_of_ble_eq_true rfl) dL_law_2035 ⟨by show _ ≤ 601024; omega, by show _ ≤ 7293034; omega⟩) ?_
      refine lv_iload M.1 M.2.1 dL_law_2038 (lv_at hl 1 rfl) ?_
      refine zi_same (tgt := 2045) M dL_law_2040 (by decide) ?_
      refine lv_iload M.1 M.2.1 dL_law_2045 (lv_at hl 1 rfl) ?_
      refine zi_if_ne (tgt := 2062) M dL_law_2047 (by decide) ⟨by decide, by decide⟩ (fun _ => ?_) (fun q => absurd q (by decide))
      refine zi_goto (tgt := 2286) M dL_law_2062 (by decide) ?_
      have hPx := hP
      have hP := hPm
      have hPm := hPx
      have hD := zD_c hD
      refine W.widen (k := cells + 6) (n := slots + 36) (by omega) (by omega) ?_
      exact hback h su st sh fl sn bn cm em ep fm fr 1 o lg le lf dl cS cH sea noi pl pw an hd fq bp bw ban bhd bo c1 c2 c3 c4 c5 e1 e2 e3 e4 e5 ur h_h h_su h_st h_sh h_fl h_sn h_bn h_cm h_em g_cS g_cH g_sea g_noi g_pl g_pw g_an g_hd g_bp g_bw g_ban g_bhd g_c1 g_c2 g_c3 g_c4 g_c5 g_e1 g_e2 g_e3 g_e4 g_e5 hbo hep H locs hP hPm hD hS ls (lv_sub hl [2, 3, 4, 5, 6] rfl)
    ·
      have hP : va_P D vwCl (mdlW bd 0 cy 2 h su st sh fl 0 sn bn fm fr cm em lg le lf dl cS cH sea noi pl pw an hd bp bo bw c1 c2 c3 c4 c5 e1 e2 e3 e4 e5) H := hP
      have hD : va_D (fun q => z0 ≤ q) ((mdlW bd 0 cy 2 h su st sh fl 0 sn bn fm fr cm em lg le lf dl cS cH sea noi pl pw an hd bp bo bw c1 c2 c3 c4 c5 e1 e2 e3 e4 e5) ++ ((rooW ad 0 cy fm fr) ++ ((airW ad 1 cy h su st sh fl cS cH (dnD h fl) (dnE h cS) (dnF h su st)) ++ ((airW ad 8 cy h su 0 0 0 (fun _ => 0) (fun _ => 0) (dnD h 0) (dnE h (fun _ => 0)) (dnF h su 0)) ++ ((grdW ad 15 cy sea noi) ++ ((rayW ad 18 cy (ur 0) (ur 1) (ur 2) (ur 3) (ur 4) (ur 5) (ur 6) (ur 7)) ++ ((sndW ad 19 cy 12 sn pl pw an hd fq) ++ ((sndW ad 25 cy 6 bn bp bw ban bhd bo) ++ ((conW ad 31 cy cm c1 c2 c3 c4 c5) ++ ((entW ad 37 cy em ep e1 e2 e3 e4 e5) ++ (outW od 0 cy o))))))))))) := hD
      exfalso
      omega
  ·
    have hw_3 := hv_3.symm
    subst hw_3
    have hP : va_P D vwCl ((rooW ad 0 cy fm fr) ++ ((airW ad 1 cy h su st sh fl cS cH (dnD h fl) (dnE h cS) (dnF h su st)) ++ ((airW ad 8 cy h su 0 0 0 (fun _ => 0) (fun _ => 0) (dnD h 0) (dnE h (fun _ => 0)) (dnF h su 0)) ++ ((grdW ad 15 cy sea noi) ++ ((rayW ad 18 cy (ur 0) (ur 1) (ur 2) (ur 3) (ur 4) (ur 5) (ur 6) (ur 7)) ++ ((sndW ad 19 cy 12 sn pl pw an hd fq) ++ ((sndW ad 25 cy 6 bn bp bw ban bhd bo) ++ ((conW ad 31 cy cm c1 c2 c3 c4 c5) ++ ((entW ad 37 cy em ep e1 e2 e3 e4 e5) ++ (outW od 0 cy o)))))))))) H := hP
    have hD : va_D (fun q => z0 ≤ q) (((rooW ad 0 cy fm fr) ++ ((airW ad 1 cy h su st sh fl cS cH (dnD h fl) (dnE h cS) (dnF h su st)) ++ ((airW ad 8 cy h su 0 0 0 (fun _ => 0) (fun _ => 0) (dnD h 0) (dnE h (fun _ => 0)) (dnF h su 0)) ++ ((grdW ad 15 cy sea noi) ++ ((rayW ad 18 cy (ur 0) (ur 1) (ur 2) (ur 3) (ur 4) (ur 5) (ur 6) (ur 7)) ++ ((sndW ad 19 cy 12 sn pl pw an hd fq) ++ ((sndW ad 25 cy 6 bn bp bw ban bhd bo) ++ ((conW ad 31 cy cm c1 c2 c3 c4 c5) ++ ((entW ad 37 cy em ep e1 e2 e3 e4 e5) ++ (outW od 0 cy o)))))))))) ++ (mdlW bd 0 cy th h su st sh fl 0 sn bn fm fr cm em lg le lf dl cS cH sea noi pl pw an hd bp bo bw c1 c2 c3 c4 c5 e1 e2 e3 e4 e5)) := hD
    refine lv_istore (lv' := [(5, .int (iI 2)), (0, .ref (b)), (1, .ref (ad 0)), (2, .ref (bd 0)), (3, .ref (od 0)), (4, .int (iI i))]) M.1 M.2.1 dL_law_2014 hl (by decide) rfl (fun ls hl => ?_)
    refine lv_aload_n M.1 M.2.1 dL_law_2016 rfl (lv_at hl 3 rfl) ?_
    refine lv_aload_n M.1 M.2.1 dL_law_2017 rfl (lv_at hl 1 rfl) ?_
    refine lv_iload M.1 M.2.1 dL_law_2018 (lv_at hl 5 rfl) ?_
    refine zi_push M dL_law_2020 ?_
    refine zi_iadd M dL_law_2021 ?_
    refine zi_sld M hX hbl hbA hS hL (by omega) (by omega) dL_law_2022 ?_
    have hx_10 := xZ_rg xs (i + 1)
    refine lv_aload_n M.1 M.2.1 dL_law_2023 rfl (lv_at hl 1 rfl) ?_
    refine lv_iload M.1 M.2.1 dL_law_2024 (lv_at hl 5 rfl) ?_
    refine zi_push M dL_law_2026 ?_
    refine zi_iadd M dL_law_2027 ?_
    refine zi_sld M hX hbl hbA hS hL (by omega) (by omega) dL_law_2028 ?_
    have hx_11 := xZ_rg xs (i + 2)
    have hPx := hP
    have hP := hPm
    have hPm := hPx
    have hD := zD_c hD
    refine z_cW2 (z_runV (As := [.int (iI (xZ xs (i + 1))), .int (iI (xZ xs (i + 2)))]) (rest := []) M (c_X7_contactOf l D cy z0 bd th h su st sh fl 0 sn bn fm fr cm em lg le lf dl cS cH sea noi pl pw an hd bp bo bw c1 c2 c3 c4 c5 e1 e2 e3 e4 e5 (xZ xs (i + 1)) (xZ xs (i + 2)) (by omega) (by omega) (by omega)) hE hS hAz (z_cut hP (zD_l hD) hAz [0, 1, 2, 3, 4, 5, 6, 7, 8, 9, 10, 11, 12, 13, 14, 15, 16, 17, 18, 19, 20, 21] rfl (by decide +kernel)) (zRc.of (ci := 7) (q0 := 0) hE hP rfl rfl) zk_cd_X7_contactOf zk_in_RX7 zk_im_X7_contactOf zk_se_X7_contactOf zk_ml_RL_200 rfl rfl zd_X7_contactOf ⟨by decide, by decide⟩ rfl hl.1 rfl (Nat.le_of_ble_eq_true rfl) dL_law_2029 ⟨by show _ ≤ 601024; omega, by show _ ≤ 7293034; omega⟩) hP hPm hD hS [0, 1, 2, 3, 4, 5, 6, 7, 8, 9, 10, 11, 12, 13, 14, 15, 16, 17, 18, 19, 20, 21] rfl (fun _ => by simp only [List.map_append, mdlW_adr]) (fun r_12 u_12 H locs hp_12 hP hPm hD hS => ?_)
    try simp only [mdD_0, mdE_0, mdF_0, mdD_1, mdE_1, mdF_1] at hp_12
    have hP : va_P D vwCl (mdlW bd 0 cy u_12 h su st sh fl 0 sn bn fm fr cm em lg le lf dl cS cH sea noi pl pw an hd bp bo bw c1 c2 c3 c4 c5 e1 e2 e3 e4 e5) H := hP
    have hD : va_D (fun q => z0 ≤ q) ((mdlW bd 0 cy u_12 h su st sh fl 0 sn bn fm fr cm em lg le lf dl cS cH sea noi pl pw an hd bp bo bw c1 c2 c3 c4 c5 e1 e2 e3 e4 e5) ++ ((rooW ad 0 cy fm fr) ++ ((airW ad 1 cy h su st sh fl cS cH (dnD h fl) (dnE h cS) (dnF h su st)) ++ ((airW ad 8 cy h su 0 0 0 (fun _ => 0) (fun _ => 0) (dnD h 0) (dnE h (fun _ => 0)) (dnF h su 0)) ++ ((grdW ad 15 cy sea noi) ++ ((rayW ad 18 cy (ur 0) (ur 1) (ur 2) (ur 3) (ur 4) (ur 5) (ur 6) (ur 7)) ++ ((sndW ad 19 cy 12 sn pl pw an hd fq) ++ ((sndW ad 25 cy 6 bn bp bw ban bhd bo) ++ ((conW ad 31 cy cm c1 c2 c3 c4 c5) ++ ((entW ad 37 cy em ep e1 e2 e3 e4 e5) ++ (outW od 0 cy o))))))))))) := hD
    rcases hp_12 with ⟨rfl, hN_12, rfl⟩ | ⟨rfl, hN_12, rfl⟩ | ⟨rfl, hN_12, rfl⟩
    ·
      have hP : va_P D vwCl (mdlW bd 0 cy 0 h su st sh fl 0 sn bn fm fr cm em lg le lf dl cS cH sea noi pl pw an hd bp bo bw c1 c2 c3 c4 c5 e1 e2 e3 e4 e5) H := hP
      have hD : va_D (fun q => z0 ≤ q) ((mdlW bd 0 cy 0 h su st sh fl 0 sn bn fm fr cm em lg le lf dl cS cH sea noi pl pw an hd bp bo bw c1 c2 c3 c4 c5 e1 e2 e3 e4 e5) ++ ((rooW ad 0 cy fm fr) ++ ((airW ad 1 cy h su st sh fl cS cH (dnD h fl) (dnE h cS) (dnF h su st)) ++ ((airW ad 8 cy h su 0 0 0 (fun _ => 0) (fun _ => 0) (dnD h 0) (dnE h (fun _ => 0)) (dnF h su 0)) ++ ((grdW ad 15 cy sea noi) ++ ((rayW ad 18 cy (ur 0) (ur 1) (ur 2) (ur 3) (ur 4) (ur 5) (ur 6) (ur 7)) ++ ((sndW ad 19 cy 12 sn pl pw an hd fq) ++ ((sndW ad 25 cy 6 bn bp bw ban bhd bo) ++ ((conW ad 31 cy cm c1 c2 c3 c4 c5) ++ ((entW ad 37 cy em ep e1 e2 e3 e4 e5) ++ (outW od 0 cy o))))))))))) := hD
      exfalso
      omega
    ·
      have hP : va_P D vwCl (mdlW bd 0 cy 1 h su st sh fl 0 sn bn fm fr cm em lg le lf dl cS cH sea noi pl pw an hd bp bo bw c1 c2 c3 c4 c5 e1 e2 e3 e4 e5) H := hP
      have hD : va_D (fun q => z0 ≤ q) ((mdlW bd 0 cy 1 h su st sh fl 0 sn bn fm fr cm em lg le lf dl cS cH sea noi pl pw an hd bp bo bw c1 c2 c3 c4 c5 e1 e2 e3 e4 e5) ++ ((rooW ad 0 cy fm fr) ++ ((airW ad 1 cy h su st sh fl cS cH (dnD h fl) (dnE h cS) (dnF h su st)) ++ ((airW ad 8 cy h su 0 0 0 (fun _ => 0) (fun _ => 0) (dnD h 0) (dnE h (fun _ => 0)) (dnF h su 0)) ++ ((grdW ad 15 cy sea noi) ++ ((rayW ad 18 cy (ur 0) (ur 1) (ur 2) (ur 3) (ur 4) (ur 5) (ur 6) (ur 7)) ++ ((sndW ad 19 cy 12 sn pl pw an hd fq) ++ ((sndW ad 25 cy 6 bn bp bw ban bhd bo) ++ ((conW ad 31 cy cm c1 c2 c3 c4 c5) ++ ((entW ad 37 cy em ep e1 e2 e3 e4 e5) ++ (outW od 0 cy o))))))))))) := hD
      exfalso
      omega
    ·
      have hP : va_P D vwCl (mdlW bd 0 cy 2 h su st sh fl 0 sn bn fm fr cm em lg le lf dl cS cH sea noi pl pw an hd bp bo bw c1 c2 c3 c4 c5 e1 e2 e3 e4 e5) H := hP
      have hD : va_D (fun q => z0 ≤ q) ((mdlW bd 0 cy 2 h su st sh fl 0 sn bn fm fr cm em lg le lf dl cS cH sea noi pl pw an hd bp bo bw c1 c2 c3 c4 c5 e1 e2 e3 e4 e5) ++ ((rooW ad 0 cy fm fr) ++ ((airW ad 1 cy h su st sh fl cS cH (dnD h fl) (dnE h cS) (dnF h su st)) ++ ((airW ad 8 cy h su 0 0 0 (fun _ => 0) (fun _ => 0) (dnD h 0) (dnE h (fun _ => 0)) (dnF h su 0)) ++ ((grdW ad 15 cy sea noi) ++ ((rayW ad 18 cy (ur 0) (ur 1) (ur 2) (ur 3) (ur 4) (ur 5) (ur 6) (ur 7)) ++ ((sndW ad 19 cy 12 sn pl pw an hd fq) ++ ((sndW ad 25 cy 6 bn bp bw ban bhd bo) ++ ((conW ad 31 cy cm c1 c2 c3 c4 c5) ++ ((entW ad 37 cy em ep e1 e2 e3 e4 e5) ++ (outW od 0 cy o))))))))))) := hD
      refine lv_istore (lv' := [(6, .int (iI 0)), (5, .int (iI 2)), (0, .ref (b)), (1, .ref (ad 0)), (2, .ref (bd 0)), (3, .ref (od 0)), (4, .int (iI i))]) M.1 M.2.1 dL_law_2032 hl (by decide) rfl (fun ls hl => ?_)
      refine lv_aload_n M.1 M.2.1 dL_law_2034 rfl (lv_at hl 4 rfl) ?_
      refine z_cR (z_runV (As := []) (rest := []) M (c_X7_thrown l D cy z0 bd 2 h su st sh fl 0 sn bn fm fr cm em lg le lf dl cS cH sea noi pl pw an hd bp bo bw c1 c2 c3 c4 c5 e1 e2 e3 e4 e5) hE hS hAz hP (zRc.of (ci := 7) (q0 := 0) hE hP rfl rfl) zk_cd_X7_thrown zk_in_RX7 zk_im_X7_thrown zk_se_X7_thrown zk_ml_RL_116 rfl rfl zd_X7_thrown ⟨by decide, by decide⟩ rfl hl.1 rfl (Nat.le_of_ble_eq_true rfl) dL_law_2035 ⟨by show _ ≤ 601024; omega, by show _ ≤ 7293034; omega⟩) ?_
      refine lv_iload M.1 M.2.1 dL_law_2038 (lv_at hl 1 rfl) ?_
      refine zi_same (tgt := 2045) M dL_law_2040 (by decide) ?_
      refine lv_iload M.1 M.2.1 dL_law_2045 (lv_at hl 1 rfl) ?_
      refine zi_if_ne (tgt := 2062) M dL_law_2047 (by decide) ⟨by decide, by decide⟩ (fun _ => ?_) (fun q => absurd q (by decide))
      refine zi_goto (tgt := 2286) M dL_law_2062 (by decide) ?_
      have hPx := hP
      have hP := hPm
      have hPm := hPx
      have hD := zD_c hD
      refine W.widen (k := cells + 6) (n := slots + 36) (by omega) (by omega) ?_
      exact hback h su st sh fl sn bn cm em ep fm fr 2 o lg le lf dl cS cH sea noi pl pw an hd fq bp bw ban bhd bo c1 c2 c3 c4 c5 e1 e2 e3 e4 e5 ur h_h h_su h_st h_sh h_fl h_sn h_bn h_cm h_em g_cS g_cH g_sea g_noi g_pl g_pw g_an g_hd g_bp g_bw g_ban g_bhd g_c1 g_c2 g_c3 g_c4 g_c5 g_e1 g_e2 g_e3 g_e4 g_e5 hbo hep H locs hP hPm hD hS ls (lv_sub hl [2, 3, 4, 5, 6] rfl)

set_option maxRecDepth 100000 in
set_option maxHeartbeats 8000000 in
theorem lw_case24 (l : Launch) (D : va_G) (cy : Nat → ClassId) (z0 : Nat) (ad bd od : Nat → Nat) (p : Program) (e : Env) (s : State) (m : MethodId) (args : Array Value) (below : List Frame) (meth : Method) (c : Code) (b : Nat) (i : Int) (Q : State → Prop) (cells slots : Nat) (hst : l.stackTraces = false) (hL7 : ∀ q : Nat, q = 0 → True) (b_L : Nat) (xs : Nat → Int32) (M : zM p s m args c cL_law RL 7) (hE : zE D cy z0 s) (hN : zNc s) (hL : b_L ≤ 3584) (hX : va_X b b_L xs s s.heap) (hbl : b < s.heap.size) (hbA : ¬ z0 ≤ b) (hi : 0 ≤ i ∧ i + 7 ≤ b_L) (hc : cells + 6 ≤ 601024) (hs : slots + 36 ≤ 7293034) (hback : lwB l D cy z0 ad bd od p e s m args below meth c b i Q cells slots) (h su st sh fl sn bn cm em ep fm fr th o lg le lf dl : Int) (cS cH sea noi pl pw an hd fq bp bw ban bhd bo c1 c2 c3 c4 c5 e1 e2 e3 e4 e5 : Int → Int) (ur : Nat → Int) (h_h : 0 ≤ h ∧ h ≤ 5000) (h_su : 0 ≤ su ∧ su ≤ 100) (h_st : 0 ≤ st ∧ st ≤ 60) (h_sh : 0 ≤ sh ∧ sh ≤ 72) (h_fl : 0 ≤ fl ∧ fl ≤ 80) (h_sn : 0 ≤ sn ∧ sn ≤ 12) (h_bn : 0 ≤ bn ∧ bn ≤ 6) (h_cm : 0 ≤ cm ∧ cm ≤ 60) (h_em : 0 ≤ em ∧ em ≤ 80) (g_cS : zrg 48 0 100 cS) (g_cH : zrg 48 0 24 cH) (g_sea : zrg 48 0 1 sea) (g_noi : zrg 48 0 40 noi) (g_pl : zrg 12 0 47 pl) (g_pw : zrg 12 0 80 pw) (g_an : zrg 12 0 2 an) (g_hd : zrg 12 0 2 hd) (g_bp : zrg 6 0 47 bp) (g_bw : zrg 6 0 80 bw) (g_ban : zrg 6 0 2 ban) (g_bhd : zrg 6 0 2 bhd) (g_c1 : zrg 60 0 11 c1) (g_c2 : zrg 60 0 11 c2) (g_c3 : zrg 60 0 300 c3) (g_c4 : zrg 60 0 2 c4) (g_c5 : zrg 60 0 5000 c5) (g_e1 : zrg 80 0 11 e1) (g_e2 : zrg 80 0 11 e2) (g_e3 : zrg 80 0 300 e3) (g_e4 : zrg 80 0 5000 e4) (g_e5 : zrg 80 (-1) 79 e5) (hbo : ∀ n : Int, 0 ≤ n → n < bn → (10 ≤ bo n ∧ bo n ≤ 300) ∧ ban n = 2 ∧ bhd n = 2) (hep : ep = prF e5 em.toNat) (H : Heap) (locs : List Loc) (hP : va_P D vwCl ((rooW ad 0 cy fm fr) ++ ((airW ad 1 cy h su st sh fl cS cH (dnD h fl) (dnE h cS) (dnF h su st)) ++ ((airW ad 8 cy h su 0 0 0 (fun _ => 0) (fun _ => 0) (dnD h 0) (dnE h (fun _ => 0)) (dnF h su 0)) ++ ((grdW ad 15 cy sea noi) ++ ((rayW ad 18 cy (ur 0) (ur 1) (ur 2) (ur 3) (ur 4) (ur 5) (ur 6) (ur 7)) ++ ((sndW ad 19 cy 12 sn pl pw an hd fq) ++ ((sndW ad 25 cy 6 bn bp bw ban bhd bo) ++ ((conW ad 31 cy cm c1 c2 c3 c4 c5) ++ ((entW ad 37 cy em ep e1 e2 e3 e4 e5) ++ (outW od 0 cy o)))))))))) H) (hPm : va_P D vwCl (mdlW bd 0 cy th h su st sh fl 0 sn bn fm fr cm em lg le lf dl cS cH sea noi pl pw an hd bp bo bw c1 c2 c3 c4 c5 e1 e2 e3 e4 e5) H) (hD : va_D (fun q => z0 ≤ q) (((rooW ad 0 cy fm fr) ++ ((airW ad 1 cy h su st sh fl cS cH (dnD h fl) (dnE h cS) (dnF h su st)) ++ ((airW ad 8 cy h su 0 0 0 (fun _ => 0) (fun _ => 0) (dnD h 0) (dnE h (fun _ => 0)) (dnF h su 0)) ++ ((grdW ad 15 cy sea noi) ++ ((rayW ad 18 cy (ur 0) (ur 1) (ur 2) (ur 3) (ur 4) (ur 5) (ur 6) (ur 7)) ++ ((sndW ad 19 cy 12 sn pl pw an hd fq) ++ ((sndW ad 25 cy 6 bn bp bw ban bhd bo) ++ ((conW ad 31 cy cm c1 c2 c3 c4 c5) ++ ((entW ad 37 cy em ep e1 e2 e3 e4 e5) ++ (outW od 0 cy o)))))))))) ++ (mdlW bd 0 cy th h su st sh fl 0 sn bn fm fr cm em lg le lf dl cS cH sea noi pl pw an hd bp bo bw c1 c2 c3 c4 c5 e1 e2 e3 e4 e5))) (hS : va_S (fun q => z0 ≤ q) s.heap H locs) (ls : Array Slot) (hl : lv_has ls 7 [(0, .ref b), (1, .ref (ad 0)), (2, .ref (bd 0)), (3, .ref (od 0)), (4, .int (iI i))]) : W p l e room_1 s m args below meth c H locs (cells) (slots) Q (F0 m 2065 ls []) := by
  have hAz : ∀ q : Nat, (fun q => z0 ≤ q) q → z0 ≤ q := fun _ h => h
  refine lv_aload_n M.1 M.2.1 dL_law_2065 rfl (lv_at hl 1 rfl) ?_
  refine lv_aload_n M.1 M.2.1 dL_law_2066 rfl (lv_at hl 0 rfl) ?_
  refine lv_iload M.1 M.2.1 dL_law_2067 (lv_at hl 4 rfl) ?_
  refine zi_push M dL_law_2069 ?_
  refine zi_iadd M dL_law_2070 ?_
  refine zi_sld M hX hbl hbA hS hL (by omega) (by omega) dL_law_2071 ?_
  have hx_1 := xZ_rg xs (i + 1)
  refine lv_aload_n M.1 M.2.1 dL_law_2072 rfl (lv_at hl 0 rfl) ?_
  refine lv_iload M.1 M.2.1 dL_law_2073 (lv_at hl 4 rfl) ?_
  refine zi_push M dL_law_2075 ?_
  refine zi_iadd M dL_law_2076 ?_
  refine zi_sld M hX hbl hbA hS hL (by omega) (by omega) dL_law_2077 ?_
  have hx_2 := xZ_rg xs (i + 2)
  refine lv_aload_n M.1 M.2.1 dL_law_2078 rfl (lv_at hl 3 rfl) ?_
  refine z_cW2 (zx_runH (As := [.ref (ad 0), .int (iI (xZ xs (i + 1))), .int (iI (xZ xs (i + 2))), .ref (od 0)]) (rest := []) M (c_L_entryOf l hst D cy z0 ad od fm fr cm em ep o c1 c2 c3 c4 c5 e1 e2 e3 e4 e5 (xZ xs (i + 1)) (xZ xs (i + 2)) (by omega) (by omega) g_c1 g_c2 g_c3 g_c5 g_e1 g_e2 g_e3 g_e4 g_e5 (by omega) (by omega)) hE hN hS hAz (z_cut hP (zD_l hD) hAz [0, 31, 32, 33, 34, 35, 36, 37, 38, 39, 40, 41, 42, 43] rfl (by decide +kernel)) zk_cw_L_entryOf zk_in_RL zk_st_L_entryOf zk_ml_RL_201 rfl rfl zd_L_entryOf ⟨by decide, by decide⟩ rfl hl.1 rfl (Nat.le_of_ble_eq_true rfl) dL_law_2079 ⟨by show _ ≤ 601024; omega, by show _ ≤ 7293034; omega⟩) hP hPm hD hS [0, 31, 32, 33, 34, 35, 36, 37, 38, 39, 40, 41, 42, 43] rfl (fun _ => by simp only [List.map_append, conW_adr, entW_adr, outW_adr, rooW_adr]) (fun r_3 u_3 H locs hp_3 hP hPm hD hS => ?_)
  have hP : va_P D vwCl ((rooW ad 0 cy fm fr) ++ ((airW ad 1 cy h su st sh fl cS cH (dnD h fl) (dnE h cS) (dnF h su st)) ++ ((airW ad 8 cy h su 0 0 0 (fun _ => 0) (fun _ => 0) (dnD h 0) (dnE h (fun _ => 0)) (dnF h su 0)) ++ ((grdW ad 15 cy sea noi) ++ ((rayW ad 18 cy (ur 0) (ur 1) (ur 2) (ur 3) (ur 4) (ur 5) (ur 6) (ur 7)) ++ ((sndW ad 19 cy 12 sn pl pw an hd fq) ++ ((sndW ad 25 cy 6 bn bp bw ban bhd bo) ++ ((conW ad 31 cy cm c1 c2 c3 c4 c5) ++ ((entW ad 37 cy em ep e1 e2 e3 e4 e5) ++ (outW od 0 cy u_3.2.1)))))))))) H := hP
  have hD : va_D (fun q => z0 ≤ q) (((rooW ad 0 cy fm fr) ++ ((airW ad 1 cy h su st sh fl cS cH (dnD h fl) (dnE h cS) (dnF h su st)) ++ ((airW ad 8 cy h su 0 0 0 (fun _ => 0) (fun _ => 0) (dnD h 0) (dnE h (fun _ => 0)) (dnF h su 0)) ++ ((grdW ad 15 cy sea noi) ++ ((rayW ad 18 cy (ur 0) (ur 1) (ur 2) (ur 3) (ur 4) (ur 5) (ur 6) (ur 7)) ++ ((sndW ad 19 cy 12 sn pl pw an hd fq) ++ ((sndW ad 25 cy 6 bn bp bw ban bhd bo) ++ ((conW ad 31 cy cm c1 c2 c3 c4 c5) ++ ((entW ad 37 cy em ep e1 e2 e3 e4 e5) ++ (outW od 0 cy u_3.2.1)))))))))) ++ (mdlW bd 0 cy th h su st sh fl 0 sn bn fm fr cm em lg le lf dl cS cH sea noi pl pw an hd bp bo bw c1 c2 c3 c4 c5 e1 e2 e3 e4 e5)) := hD
  obtain ⟨u1_3, u2_3, u3_3⟩ := u_3
  dsimp only at hp_3
  rcases hp_3 with ⟨rfl, rfl, hN_3, hv_3⟩ | ⟨rfl, rfl, hN_3, hv_3⟩ | ⟨rfl, rfl, hN_3, hv_3⟩
  ·
    have hw_3 := hv_3.symm
    subst hw_3
    have hP : va_P D vwCl ((rooW ad 0 cy fm fr) ++ ((airW ad 1 cy h su st sh fl cS cH (dnD h fl) (dnE h cS) (dnF h su st)) ++ ((airW ad 8 cy h su 0 0 0 (fun _ => 0) (fun _ => 0) (dnD h 0) (dnE h (fun _ => 0)) (dnF h su 0)) ++ ((grdW ad 15 cy sea noi) ++ ((rayW ad 18 cy (ur 0) (ur 1) (ur 2) (ur 3) (ur 4) (ur 5) (ur 6) (ur 7)) ++ ((sndW ad 19 cy 12 sn pl pw an hd fq) ++ ((sndW ad 25 cy 6 bn bp bw ban bhd bo) ++ ((conW ad 31 cy cm c1 c2 c3 c4 c5) ++ ((entW ad 37 cy em ep e1 e2 e3 e4 e5) ++ (outW od 0 cy (if (xZ xs (i + 2)) = 5 then zif (cntZ cm c1 c2 c3 c5 e1 e2 e3 e4 e5 (xZ xs (i + 1))) 1 0 else tell5 (e1 (xZ xs (i + 1))) (e2 (xZ xs (i + 1))) (e3 (xZ xs (i + 1))) (e4 (xZ xs (i + 1))) (e5 (xZ xs (i + 1))) (xZ xs (i + 2))))))))))))) H := hP
    have hD : va_D (fun q => z0 ≤ q) (((rooW ad 0 cy fm fr) ++ ((airW ad 1 cy h su st sh fl cS cH (dnD h fl) (dnE h cS) (dnF h su st)) ++ ((airW ad 8 cy h su 0 0 0 (fun _ => 0) (fun _ => 0) (dnD h 0) (dnE h (fun _ => 0)) (dnF h su 0)) ++ ((grdW ad 15 cy sea noi) ++ ((rayW ad 18 cy (ur 0) (ur 1) (ur 2) (ur 3) (ur 4) (ur 5) (ur 6) (ur 7)) ++ ((sndW ad 19 cy 12 sn pl pw an hd fq) ++ ((sndW ad 25 cy 6 bn bp bw ban bhd bo) ++ ((conW ad 31 cy cm c1 c2 c3 c4 c5) ++ ((entW ad 37 cy em ep e1 e2 e3 e4 e5) ++ (outW od 0 cy (if (xZ xs (i + 2)) = 5 then zif (cntZ cm c1 c2 c3 c5 e1 e2 e3 e4 e5 (xZ xs (i + 1))) 1 0 else tell5 (e1 (xZ xs (i + 1))) (e2 (xZ xs (i + 1))) (e3 (xZ xs (i + 1))) (e4 (xZ xs (i + 1))) (e5 (xZ xs (i + 1))) (xZ xs (i + 2))))))))))))) ++ (mdlW bd 0 cy th h su st sh fl 0 sn bn fm fr cm em lg le lf dl cS cH sea noi pl pw an hd bp bo bw c1 c2 c3 c4 c5 e1 e2 e3 e4 e5)) := hD
    refine lv_istore (lv' := [(5, .int (iI 0)), (0, .ref (b)), (1, .ref (ad 0)), (2, .ref (bd 0)), (3, .ref (od 0)), (4, .int (iI i))]) M.1 M.2.1 dL_law_2082 hl (by decide) rfl (fun ls hl => ?_)
    refine lv_aload_n M.1 M.2.1 dL_law_2084 rfl (lv_at hl 3 rfl) ?_
    refine lv_aload_n M.1 M.2.1 dL_law_2085 rfl (lv_at hl 1 rfl) ?_
    refine lv_iload M.1 M.2.1 dL_law_2086 (lv_at hl 5 rfl) ?_
    refine zi_push M dL_law_2088 ?_
    refine zi_iadd M dL_law_2089 ?_
    refine zi_sld M hX hbl hbA hS hL (by omega) (by omega) dL_law_2090 ?_
    have hx_4 := xZ_rg xs (i + 1)
    refine lv_aload_n M.1 M.2.1 dL_law_2091 rfl (lv_at hl 1 rfl) ?_
    refine lv_iload M.1 M.2.1 dL_law_2092 (lv_at hl 5 rfl) ?_
    refine zi_push M dL_law_2094 ?_
    refine zi_iadd M dL_law_2095 ?_
    refine zi_sld M hX hbl hbA hS hL (by omega) (by omega) dL_law_2096 ?_
    have hx_5 := xZ_rg xs (i + 2)
    have hPx := hP
    have hP := hPm
    have hPm := hPx
    have hD := zD_c hD
    refine z_cW2 (z_runV (As := [.int (iI (xZ xs (i + 1))), .int (iI (xZ xs (i + 2)))]) (rest := []) M (c_X7_entryOf l D cy z0 bd th h su st sh fl 0 sn bn fm fr cm em lg le lf dl cS cH sea noi pl pw an hd bp bo bw c1 c2 c3 c4 c5 e1 e2 e3 e4 e5 (xZ xs (i + 1)) (xZ xs (i + 2)) (by omega) (by omega) g_c1 g_c2 g_c3 g_c5 g_e1 g_e2 g_e3 g_e4 g_e5 (by omega) (by omega)) hE hS hAz (z_cut hP (zD_l hD) hAz [0, 1, 2, 3, 4, 5, 6, 7, 8, 9, 10, 11, 12, 13, 14, 15, 16, 17, 18, 19, 20, 21] rfl (by decide +kernel)) (zRc.of (ci := 7) (q0 := 0) hE hP rfl rfl) zk_cd_X7_entryOf zk_in_RX7 zk_im_X7_entryOf zk_se_X7_entryOf zk_ml_RL_203 rfl rfl zd_X7_entryOf ⟨by decide, by decide⟩ rfl hl.1 rfl (Nat.le_of_ble_eq_true rfl) dL_law_2097 ⟨by show _ ≤ 601024; omega, by show _ ≤ 7293034; omega⟩) hP hPm hD hS [0, 1, 2, 3, 4, 5, 6, 7, 8, 9, 10, 11, 12, 13, 14, 15, 16, 17, 18, 19, 20, 21] rfl (fun _ => by simp only [List.map_append, mdlW_adr]) (fun r_6 u_6 H locs hp_6 hP hPm hD hS => ?_)
    try simp only [mdD_0, mdE_0, mdF_0, mdD_1, mdE_1, mdF_1] at hp_6
    have hP : va_P D vwCl (mdlW bd 0 cy u_6 h su st sh fl 0 sn bn fm fr cm em lg le lf dl cS cH sea noi pl pw an hd bp bo bw c1 c2 c3 c4 c5 e1 e2 e3 e4 e5) H := hP
    have hD : va_D (fun q => z0 ≤ q) ((mdlW bd 0 cy u_6 h su st sh fl 0 sn bn fm fr cm em lg le lf dl cS cH sea noi pl pw an hd bp bo bw c1 c2 c3 c4 c5 e1 e2 e3 e4 e5) ++ ((rooW ad 0 cy fm fr) ++ ((airW ad 1 cy h su st sh fl cS cH (dnD h fl) (dnE h cS) (dnF h su st)) ++ ((airW ad 8 cy h su 0 0 0 (fun _ => 0) (fun _ => 0) (dnD h 0) (dnE h (fun _ => 0)) (dnF h su 0)) ++ ((grdW ad 15 cy sea noi) ++ ((rayW ad 18 cy (ur 0) (ur 1) (ur 2) (ur 3) (ur 4) (ur 5) (ur 6) (ur 7)) ++ ((sndW ad 19 cy 12 sn pl pw an hd fq) ++ ((sndW ad 25 cy 6 bn bp bw ban bhd bo) ++ ((conW ad 31 cy cm c1 c2 c3 c4 c5) ++ ((entW ad 37 cy em ep e1 e2 e3 e4 e5) ++ (outW od 0 cy (if (xZ xs (i + 2)) = 5 then zif (cntZ cm c1 c2 c3 c5 e1 e2 e3 e4 e5 (xZ xs (i + 1))) 1 0 else tell5 (e1 (xZ xs (i + 1))) (e2 (xZ xs (i + 1))) (e3 (xZ xs (i + 1))) (e4 (xZ xs (i + 1))) (e5 (xZ xs (i + 1))) (xZ xs (i + 2)))))))))))))) := hD
    rcases hp_6 with ⟨rfl, hN_6, rfl⟩ | ⟨rfl, hN_6, rfl⟩ | ⟨rfl, hN_6, rfl⟩
    ·
      have hP : va_P D vwCl (mdlW bd 0 cy 0 h su st sh fl 0 sn bn fm fr cm em lg le lf dl cS cH sea noi pl pw an hd bp bo bw c1 c2 c3 c4 c5 e1 e2 e3 e4 e5) H := hP
      have hD : va_D (fun q => z0 ≤ q) ((mdlW bd 0 cy 0 h su st sh fl 0 sn bn fm fr cm em lg le lf dl cS cH sea noi pl pw an hd bp bo bw c1 c2 c3 c4 c5 e1 e2 e3 e4 e5) ++ ((rooW ad 0 cy fm fr) ++ ((airW ad 1 cy h su st sh fl cS cH (dnD h fl) (dnE h cS) (dnF h su st)) ++ ((airW ad 8 cy h su 0 0 0 (fun _ => 0) (fun _ => 0) (dnD h 0) (dnE h (fun _ => 0)) (dnF h su 0)) ++ ((grdW ad 15 cy sea noi) ++ ((rayW ad 18 cy (ur 0) (ur 1) (ur 2) (ur 3) (ur 4) (ur 5) (ur 6) (ur 7)) ++ ((sndW ad 19 cy 12 sn pl pw an hd fq) ++ ((sndW ad 25 cy 6 bn bp bw ban bhd bo) ++ ((conW ad 31 cy cm c1 c2 c3 c4 c5) ++ ((entW ad 37 cy em ep e1 e2 e3 e4 e5) ++ (outW od 0 cy (if (xZ xs (i + 2)) = 5 then zif (cntZ cm c1 c2 c3 c5 e1 e2 e3 e4 e5 (xZ xs (i + 1))) 1 0 else tell5 (e1 (xZ xs (i + 1))) (e2 (xZ xs (i + 1))) (e3 (xZ xs (i + 1))) (e4 (xZ xs (i + 1))) (e5 (xZ xs (i + 1))) (xZ xs (i + 2)))))))))))))) := hD
      refine lv_istore (lv' := [(6, .int (iI (if (xZ xs (i + 2)) = 5 then zif (cntZ cm c1 c2 c3 c5 e1 e2 e3 e4 e5 (xZ xs (i + 1))) 1 0 else tell5 (e1 (xZ xs (i + 1))) (e2 (xZ xs (i + 1))) (e3 (xZ xs (i + 1))) (e4 (xZ xs (i + 1))) (e5 (xZ xs (i + 1))) (xZ xs (i + 2))))), (5, .int (iI 0)), (0, .ref (b)), (1, .ref (ad 0)), (2, .ref (bd 0)), (3, .ref (od 0)), (4, .int (iI i))]) M.1 M.2.1 dL_law_2100 hl (by decide) rfl (fun ls hl => ?_)
      refine lv_aload_n M.1 M.2.1 dL_law_2102 rfl (lv_at hl 4 rfl) ?_
      refine z_cR (z_runV (As := []) (rest := []) M (c_X7_thrown l D cy z0 bd 0 h su st sh fl 0 sn bn fm fr cm em lg le lf dl cS cH sea noi pl pw an hd bp bo bw c1 c2 c3 c4 c5 e1 e2 e3 e4 e5) hE hS hAz hP (zRc.of (ci := 7) (q0 := 0) hE hP rfl rfl) zk_cd_X7_thrown zk_in_RX7 zk_im_X7_thrown zk_se_X7_thrown zk_ml_RL_116 rfl rfl zd_X7_thrown ⟨by decide, by decide⟩ rfl hl.1 rfl (Nat.le_of_ble_eq_true rfl) dL_law_2103 ⟨by show _ ≤ 601024; omega, by show _ ≤ 7293034; omega⟩) ?_
      refine lv_iload M.1 M.2.1 dL_law_2106 (lv_at hl 1 rfl) ?_
      refine zi_same (tgt := 2113) M dL_law_2108 (by decide) ?_
      refine lv_iload M.1 M.2.1 dL_law_2113 (lv_at hl 1 rfl) ?_
      refine zi_if_ne (tgt := 2130) M dL_law_2115 (by decide) ⟨by decide, by decide⟩ (fun q => absurd q (by decide)) (fun _ => ?_)
      refine lv_aload_n M.1 M.2.1 dL_law_2118 rfl (lv_at hl 5 rfl) ?_
      refine zi_push M dL_law_2119 ?_
      refine zi_lald M hE hPm 43 rfl dL_law_2120 ?_
      refine lv_iload M.1 M.2.1 dL_law_2121 (lv_at hl 0 rfl) ?_
      refine zi_i2l M dL_law_2123 ?_
      refine zi_lcmpE M dL_law_2124 ?_
      refine zi_if_eq (tgt := 2130) M dL_law_2125 (by decide) ⟨by decide, by decide⟩ (fun _ => ?_) (fun q => absurd q (by decide))
      refine zi_goto (tgt := 2286) M dL_law_2130 (by decide) ?_
      have hPx := hP
      have hP := hPm
      have hPm := hPx
      have hD := zD_c hD
      refine W.widen (k := cells + 6) (n := slots + 36) (by omega) (by omega) ?_
      exact hback h su st sh fl sn bn cm em ep fm fr 0 (if (xZ xs (i + 2)) = 5 then zif (cntZ cm c1 c2 c3 c5 e1 e2 e3 e4 e5 (xZ xs (i + 1))) 1 0 else tell5 (e1 (xZ xs (i + 1))) (e2 (xZ xs (i + 1))) (e3 (xZ xs (i + 1))) (e4 (xZ xs (i + 1))) (e5 (xZ xs (i + 1))) (xZ xs (i + 2))) lg le lf dl cS cH sea noi pl pw an hd fq bp bw ban bhd bo c1 c2 c3 c4 c5 e1 e2 e3 e4 e5 ur h_h h_su h_st h_sh h_fl h_sn h_bn h_cm h_em g_cS g_cH g_sea g_noi g_pl g_pw g_an g_hd g_bp g_bw g_ban g_bhd g_c1 g_c2 g_c3 g_c4 g_c5 g_e1 g_e2 g_e3 g_e4 g_e5 hbo hep H locs hP hPm hD hS ls (lv_sub hl [2, 3, 4, 5, 6] rfl)
    ·
      have hP : va_P D vwCl (mdlW bd 0 cy 1 h su st sh fl 0 sn bn fm fr cm em lg le lf dl cS cH sea noi pl pw an hd bp bo bw c1 c2 c3 c4 c5 e1 e2 e3 e4 e5) H := hP
      have hD : va_D (fun q => z0 ≤ q) ((mdlW bd 0 cy 1 h su st sh fl 0 sn bn fm fr cm em lg le lf dl cS cH sea noi pl pw an hd bp bo bw c1 c2 c3 c4 c5 e1 e2 e3 e4 e5) ++ ((rooW ad 0 cy fm fr) ++ ((airW ad 1 cy h su st sh fl cS cH (dnD h fl) (dnE h cS) (dnF h su st)) ++ ((airW ad 8 cy h su 0 0 0 (fun _ => 0) (fun _ => 0) (dnD h 0) (dnE h (fun _ => 0)) (dnF h su 0)) ++ ((grdW ad 15 cy sea noi) ++ ((rayW ad 18 cy (ur 0) (ur 1) (ur 2) (ur 3) (ur 4) (ur 5) (ur 6) (ur 7)) ++ ((sndW ad 19 cy 12 sn pl pw an hd fq) ++ ((sndW ad 25 cy 6 bn bp bw ban bhd bo) ++ ((conW ad 31 cy cm c1 c2 c3 c4 c5) ++ ((entW ad 37 cy em ep e1 e2 e3 e4 e5) ++ (outW od 0 cy (if (xZ xs (i + 2)) = 5 then zif (cntZ cm c1 c2 c3 c5 e1 e2 e3 e4 e5 (xZ xs (i + 1))) 1 0 else tell5 (e1 (xZ xs (i + 1))) (e2 (xZ xs (i + 1))) (e3 (xZ xs (i + 1))) (e4 (xZ xs (i + 1))) (e5 (xZ xs (i + 1))) (xZ xs (i + 2)))))))))))))) := hD
      exfalso
      omega
    ·
      have hP : va_P D vwCl (mdlW bd 0 cy 2 h su st sh fl 0 sn bn fm fr cm em lg le lf dl cS cH sea noi pl pw an hd bp bo bw c1 c2 c3 c4 c5 e1 e2 e3 e4 e5) H := hP
      have hD : va_D (fun q => z0 ≤ q) ((mdlW bd 0 cy 2 h su st sh fl 0 sn bn fm fr cm em lg le lf dl cS cH sea noi pl pw an hd bp bo bw c1 c2 c3 c4 c5 e1 e2 e3 e4 e5) ++ ((rooW ad 0 cy fm fr) ++ ((airW ad 1 cy h su st sh fl cS cH (dnD h fl) (dnE h cS) (dnF h su st)) ++ ((airW ad 8 cy h su 0 0 0 (fun _ => 0) (fun _ => 0) (dnD h 0) (dnE h (fun _ => 0)) (dnF h su 0)) ++ ((grdW ad 15 cy sea noi) ++ ((rayW ad 18 cy (ur 0) (ur 1) (ur 2) (ur 3) (ur 4) (ur 5) (ur 6) (ur 7)) ++ ((sndW ad 19 cy 12 sn pl pw an hd fq) ++ ((sndW ad 25 cy 6 bn bp bw ban bhd bo) ++ ((conW ad 31 cy cm c1 c2 c3 c4 c5) ++ ((entW ad 37 cy em ep e1 e2 e3 e4 e5) ++ (outW od 0 cy (if (xZ xs (i + 2)) = 5 then zif (cntZ cm c1 c2 c3 c5 e1 e2 e3 e4 e5 (xZ xs (i + 1))) 1 0 else tell5 (e1 (xZ xs (i + 1))) (e2 (xZ xs (i + 1))) (e3 (xZ xs (i + 1))) (e4 (xZ xs (i + 1))) (e5 (xZ xs (i + 1))) (xZ xs (i + 2)))))))))))))) := hD
      exfalso
      omega
  ·
    have hw_3 := hv_3.symm
    subst hw_3
    have hP : va_P D vwCl ((rooW ad 0 cy fm fr) ++ ((airW ad 1 cy h su st sh fl cS cH (dnD h fl) (dnE h cS) (dnF h su st)) ++ ((airW ad 8 cy h su 0 0 0 (fun _ => 0) (fun _ => 0) (dnD h 0) (dnE h (fun _ => 0)) (dnF h su 0)) ++ ((grdW ad 15 cy sea noi) ++ ((rayW ad 18 cy (ur 0) (ur 1) (ur 2) (ur 3) (ur 4) (ur 5) (ur 6) (ur 7)) ++ ((sndW ad 19 cy 12 sn pl pw an hd fq) ++ ((sndW ad 25 cy 6 bn bp bw ban bhd bo) ++ ((conW ad 31 cy cm c1 c2 c3 c4 c5) ++ ((entW ad 37 cy em ep e1 e2 e3 e4 e5) ++ (outW od 0 cy o)))))))))) H := hP
    have hD : va_D (fun q => z0 ≤ q) (((rooW ad 0 cy fm fr) ++ ((airW ad 1 cy h su st sh fl cS cH (dnD h fl) (dnE h cS) (dnF h su st)) ++ ((airW ad 8 cy h su 0 0 0 (fun _ => 0) (fun _ => 0) (dnD h 0) (dnE h (fun _ => 0)) (dnF h su 0)) ++ ((grdW ad 15 cy sea noi) ++ ((rayW ad 18 cy (ur 0) (ur 1) (ur 2) (ur 3) (ur 4) (ur 5) (ur 6) (ur 7)) ++ ((sndW ad 19 cy 12 sn pl pw an hd fq) ++ ((sndW ad 25 cy 6 bn bp bw ban bhd bo) ++ ((conW ad 31 cy cm c1 c2 c3 c4 c5) ++ ((entW ad 37 cy em ep e1 e2 e3 e4 e5) ++ (outW od 0 cy o)))))))))) ++ (mdlW bd 0 cy th h su st sh fl 0 sn bn fm fr cm em lg le lf dl cS cH sea noi pl pw an hd bp bo bw c1 c2 c3 c4 c5 e1 e2 e3 e4 e5)) := hD
    refine lv_istore (lv' := [(5, .int (iI 1)), (0, .ref (b)), (1, .ref (ad 0)), (2, .ref (bd 0)), (3, .ref (od 0)), (4, .int (iI i))]) M.1 M.2.1 dL_law_2082 hl (by decide) rfl (fun ls hl => ?_)
    refine lv_aload_n M.1 M.2.1 dL_law_2084 rfl (lv_at hl 3 rfl) ?_
    refine lv_aload_n M.1 M.2.1 dL_law_2085 rfl (lv_at hl 1 rfl) ?_
    refine lv_iload M.1 M.2.1 dL_law_2086 (lv_at hl 5 rfl) ?_
    refine zi_push M dL_law_2088 ?_
    refine zi_iadd M dL_law_2089 ?_
    refine zi_sld M hX hbl hbA hS hL (by omega) (by omega) dL_law_2090 ?_
    have hx_7 := xZ_rg xs (i + 1)
    refine lv_aload_n M.1 M.2.1 dL_law_2091 rfl (lv_at hl 1 rfl) ?_
    refine lv_iload M.1 M.2.1 dL_law_2092 (lv_at hl 5 rfl) ?_
    refine zi_push M dL_law_2094 ?_
    refine zi_iadd M dL_law_2095 ?_
    refine zi_sld M hX hbl hbA hS hL (by omega) (by omega) dL_law_2096 ?_
    have hx_8 := xZ_rg xs (i + 2)
    have hPx := hP
    have hP := hPm
    have hPm := hPx
    have hD := zD_c hD
    refine z_cW2 (z_runV (As := [.int (iI (xZ xs (i + 1))), .int (iI (xZ xs (i + 2)))]) (rest := []) M (c_X7_entryOf l D cy z0 bd th h su st sh fl 0 sn bn fm fr cm em lg le lf dl cS cH sea noi pl pw an hd bp bo bw c1 c2 c3 c4 c5 e1 e2 e3 e4 e5 (xZ xs (i + 1)) (xZ xs (i + 2)) (by omega) (by omega) g_c1 g_c2 g_c3 g_c5 g_e1 g_e2 g_e3 g_e4 g_e5 (by omega) (by omega)) hE hS hAz (z_cut hP (zD_l hD) hAz [0, 1, 2, 3, 4, 5, 6, 7, 8, 9, 10, 11, 12, 13, 14, 15, 16, 17, 18, 19, 20, 21] rfl (by decide +kernel)) (zRc.of (ci := 7) (q0 := 0) hE hP rfl rfl) zk_cd_X7_entryOf zk_in_RX7 zk_im_X7_entryOf zk_se_X7_entryOf zk_ml_RL_203 rfl rfl zd_X7_entryOf ⟨by decide, by decide⟩ rfl hl.1 rfl (Nat.le_of_ble_eq_true rfl) dL_law_2097 ⟨by show _ ≤ 601024; omega, by show _ ≤ 7293034; omega⟩) hP hPm hD hS [0, 1, 2, 3, 4, 5, 6, 7, 8, 9, 10, 11, 12, 13, 14, 15, 16, 17, 18, 19, 20, 21] rfl (fun _ => by simp only [List.map_append, mdlW_adr]) (fun r_9 u_9 H locs hp_9 hP hPm hD hS => ?_)
    try simp only [mdD_0, mdE_0, mdF_0, mdD_1, mdE_1, mdF_1] at hp_9
    have hP : va_P D vwCl (mdlW bd 0 cy u_9 h su st sh fl 0 sn bn fm fr cm em lg le lf dl cS cH sea noi pl pw an hd bp bo bw c1 c2 c3 c4 c5 e1 e2 e3 e4 e5) H := hP
    have hD : va_D (fun q => z0 ≤ q) ((mdlW bd 0 cy u_9 h su st sh fl 0 sn bn fm fr cm em lg le lf dl cS cH sea noi pl pw an hd bp bo bw c1 c2 c3 c4 c5 e1 e2 e3 e4 e5) ++ ((rooW ad 0 cy fm fr) ++ ((airW ad 1 cy h su st sh fl cS cH (dnD h fl) (dnE h cS) (dnF h su st)) ++ ((airW ad 8 cy h su 0 0 0 (fun _ => 0) (fun _ => 0) (dnD h 0) (dnE h (fun _ => 0)) (dnF h su 0)) ++ ((grdW ad 15 cy sea noi) ++ ((rayW ad 18 cy (ur 0) (ur 1) (ur 2) (ur 3) (ur 4) (ur 5) (ur 6) (ur 7)) ++ ((sndW ad 19 cy 12 sn pl pw an hd fq) ++ ((sndW ad 25 cy 6 bn bp bw ban bhd bo) ++ ((conW ad 31 cy cm c1 c2 c3 c4 c5) ++ ((entW ad 37 cy em ep e1 e2 e3 e4 e5) ++ (outW od 0 cy o))))))))))) := hD
    rcases hp_9 with ⟨rfl, hN_9, rfl⟩ | ⟨rfl, hN_9, rfl⟩ | ⟨rfl, hN_9, rfl⟩
    ·
      have hP : va_P D vwCl (mdlW bd 0 cy 0 h su st sh fl 0 sn bn fm fr cm em lg le lf dl cS cH sea noi pl pw an hd bp bo bw c1 c2 c3 c4 c5 e1 e2 e3 e4 e5) H := hP
      have hD : va_D (fun q => z0 ≤ q) ((mdlW bd 0 cy 0 h su st sh fl 0 sn bn fm fr cm em lg le lf dl cS cH sea noi pl pw an hd bp bo bw c1 c2 c3 c4 c5 e1 e2 e3 e4 e5) ++ ((rooW ad 0 cy fm fr) ++ ((airW ad 1 cy h su st sh fl cS cH (dnD h fl) (dnE h cS) (dnF h su st)) ++ ((airW ad 8 cy h su 0 0 0 (fun _ => 0) (fun _ => 0) (dnD h 0) (dnE h (fun _ => 0)) (dnF h su 0)) ++ ((grdW ad 15 cy sea noi) ++ ((rayW ad 18 cy (ur 0) (ur 1) (ur 2) (ur 3) (ur 4) (ur 5) (ur 6) (ur 7)) ++ ((sndW ad 19 cy 12 sn pl pw an hd fq) ++ ((sndW ad 25 cy 6 bn bp bw ban bhd bo) ++ ((conW ad 31 cy cm c1 c2 c3 c4 c5) ++ ((entW ad 37 cy em ep e1 e2 e3 e4 e5) ++ (outW od 0 cy o))))))))))) := hD
      exfalso
      omega
    ·
      have hP : va_P D vwCl (mdlW bd 0 cy 1 h su st sh fl 0 sn bn fm fr cm em lg le lf dl cS cH sea noi pl pw an hd bp bo bw c1 c2 c3 c4 c5 e1 e2 e3 e4 e5) H := hP
      have hD : va_D (fun q => z0 ≤ q) ((mdlW bd 0 cy 1 h su st sh fl 0 sn bn fm fr cm em lg le lf dl cS cH sea noi pl pw an hd bp bo bw c1 c2 c3 c4 c5 e1 e2 e3 e4 e5) ++ ((rooW ad 0 cy fm fr) ++ ((airW ad 1 cy h su st sh fl cS cH (dnD h fl) (dnE h cS) (dnF h su st)) ++ ((airW ad 8 cy h su 0 0 0 (fun _ => 0) (fun _ => 0) (dnD h 0) (dnE h (fun _ => 0)) (dnF h su 0)) ++ ((grdW ad 15 cy sea noi) ++ ((rayW ad 18 cy (ur 0) (ur 1) (ur 2) (ur 3) (ur 4) (ur 5) (ur 6) (ur 7)) ++ ((sndW ad 19 cy 12 sn pl pw an hd fq) ++ ((sndW ad 25 cy 6 bn bp bw ban bhd bo) ++ ((conW ad 31 cy cm c1 c2 c3 c4 c5) ++ ((entW ad 37 cy em ep e1 e2 e3 e4 e5) ++ (outW od 0 cy o))))))))))) := hD
      refine lv_istore (lv' := [(6, .int (iI 0)), (5, .int (iI 1)), (0, .ref (b)), (1, .ref (ad 0)), (2, .ref (bd 0)), (3, .ref (od 0)), (4, .int (iI i))]) M.1 M.2.1 dL_law_2100 hl (by decide) rfl (fun ls hl => ?_)
      refine lv_aload_n M.1 M.2.1 dL_law_2102 rfl (lv_at hl 4 rfl) ?_
      refine z_cR (z_runV (As := []) (rest := []) M (c_X7_thrown l D cy z0 bd 1 h su st sh fl 0 sn bn fm fr cm em lg le lf dl cS cH sea noi pl pw an hd bp bo bw c1 c2 c3 c4 c5 e1 e2 e3 e4 e5) hE hS hAz hP (zRc.of (ci := 7) (q0 := 0) hE hP rfl rfl) zk_cd_X7_thrown zk_in_RX7 zk_im_X7_thrown zk_se_X7_thrown zk_ml_RL_116 rfl rfl zd_X7_thrown ⟨by decide, by decide⟩ rfl hl.1 rfl (Nat.le_of_ble_eq_true rfl) dL_law_2103 ⟨by show _ ≤ 601024; omega, by show _ ≤ 7293034; omega⟩) ?_
      refine lv_iload M.1 M.2.1 dL_law_2106 (lv_at hl 1 rfl) ?_
      refine zi_same (tgt := 2113) M dL_law_2108 (by decide) ?_
      refine lv_iload M.1 M.2.1 dL_law_2113 (lv_at hl 1 rfl) ?_
      refine zi_if_ne (tgt := 2130) M dL_law_2115 (by decide) ⟨by decide, by decide⟩ (fun _ => ?_) (fun q => absurd q (by decide))
      refine zi_goto (tgt := 2286) M dL_law_2130 (by decide) ?_
      have hPx := hP
      have hP := hPm
      have hPm := hPx
      have hD := zD_c hD
      refine W.widen (k := cells + 6) (n := slots + 36) (by omega) (by omega) ?_
      exact hback h su st sh fl sn bn cm em ep fm fr 1 o lg le lf dl cS cH sea noi pl pw an hd fq bp bw ban bhd bo c1 c2 c3 c4 c5 e1 e2 e3 e4 e5 ur h_h h_su h_st h_sh h_fl h_sn h_bn h_cm h_em g_cS g_cH g_sea g_noi g_pl g_pw g_an g_hd g_bp g_bw g_ban g_bhd g_c1 g_c2 g_c3 g_c4 g_c5 g_e1 g_e2 g_e3 g_e4 g_e5 hbo hep H locs hP hPm hD hS ls (lv_sub hl [2, 3, 4, 5, 6] rfl)
    ·
      have hP : va_P D vwCl (mdlW bd 0 cy 2 h su st sh fl 0 sn bn fm fr cm em lg le lf dl cS cH sea noi pl pw an hd bp bo bw c1 c2 c3 c4 c5 e1 e2 e3 e4 e5) H := hP
      have hD : va_D (fun q => z0 ≤ q) ((mdlW bd 0 cy 2 h su st sh fl 0 sn bn fm fr cm em lg le lf dl cS cH sea noi pl pw an hd bp bo bw c1 c2 c3 c4 c5 e1 e2 e3 e4 e5) ++ ((rooW ad 0 cy fm fr) ++ ((airW ad 1 cy h su st sh fl cS cH (dnD h fl) (dnE h cS) (dnF h su st)) ++ ((airW ad 8 cy h su 0 0 0 (fun _ => 0) (fun _ => 0) (dnD h 0) (dnE h (fun _ => 0)) (dnF h su 0)) ++ ((grdW ad 15 cy sea noi) ++ ((rayW ad 18 cy (ur 0) (ur 1) (ur 2) (ur 3) (ur 4) (ur 5) (ur 6) (ur 7)) ++ ((sndW ad 19 cy 12 sn pl pw an hd fq) ++ ((sndW ad 25 cy 6 bn bp bw ban bhd bo) ++ ((conW ad 31 cy cm c1 c2 c3 c4 c5) ++ ((entW ad 37 cy em ep e1 e2 e3 e4 e5) ++ (outW od 0 cy o))))))))))) := hD
      exfalso
      omega
  ·
    have hw_3 := hv_3.symm
    subst hw_3
    have hP : va_P D vwCl ((rooW ad 0 cy fm fr) ++ ((airW ad 1 cy h su st sh fl cS cH (dnD h fl) (dnE h cS) (dnF h su st)) ++ ((airW ad 8 cy h su 0 0 0 (fun _ => 0) (fun _ => 0) (dnD h 0) (dnE h (fun _ => 0)) (dnF h su 0)) ++ ((grdW ad 15 cy sea noi) ++ ((rayW ad 18 cy (ur 0) (ur 1) (ur 2) (ur 3) (ur 4) (ur 5) (ur 6) (ur 7)) ++ ((sndW ad 19 cy 12 sn pl pw an hd fq) ++ ((sndW ad 25 cy 6 bn bp bw ban bhd bo) ++ ((conW ad 31 cy cm c1 c2 c3 c4 c5) ++ ((entW ad 37 cy em ep e1 e2 e3 e4 e5) ++ (outW od 0 cy o)))))))))) H := hP
    have hD : va_D (fun q => z0 ≤ q) (((rooW ad 0 cy fm fr) ++ ((airW ad 1 cy h su st sh fl cS cH (dnD h fl) (dnE h cS) (dnF h su st)) ++ ((airW ad 8 cy h su 0 0 0 (fun _ => 0) (fun _ => 0) (dnD h 0) (dnE h (fun _ => 0)) (dnF h su 0)) ++ ((grdW ad 15 cy sea noi) ++ ((rayW ad 18 cy (ur 0) (ur 1) (ur 2) (ur 3) (ur 4) (ur 5) (ur 6) (ur 7)) ++ ((sndW ad 19 cy 12 sn pl pw an hd fq) ++ ((sndW ad 25 cy 6 bn bp bw ban bhd bo) ++ ((conW ad 31 cy cm c1 c2 c3 c4 c5) ++ ((entW ad 37 cy em ep e1 e2 e3 e4 e5) ++ (outW od 0 cy o)))))))))) ++ (mdlW bd 0 cy th h su st sh fl 0 sn bn fm fr cm em lg le lf dl cS cH sea noi pl pw an hd bp bo bw c1 c2 c3 c4 c5 e1 e2 e3 e4 e5)) := hD
    refine lv_istore (lv' := [(5, .int (iI 2)), (0, .ref (b)), (1, .ref (ad 0)), (2, .ref (bd 0)), (3, .ref (od 0)), (4, .int (iI i))]) M.1 M.2.1 dL_law_2082 hl (by decide) rfl (fun ls hl => ?_)
    refine lv_aload_n M.1 M.2.1 dL_law_2084 rfl (lv_at hl 3 rfl) ?_
    refine lv_aload_n M.1 M.2.1 dL_law_2085 rfl (lv_at hl 1 rfl) ?_
    refine lv_iload M.1 M.2.1 dL_law_2086 (lv_at hl 5 rfl) ?_
    refine zi_push M dL_law_2088 ?_
    refine zi_iadd M dL_law_2089 ?_
    refine zi_sld M hX hbl hbA hS hL (by omega) (by omega) dL_law_2090 ?_
    have hx_10 := xZ_rg xs (i + 1)
    refine lv_aload_n M.1 M.2.1 dL_law_2091 rfl (lv_at hl 1 rfl) ?_
    refine lv_iload M.1 M.2.1 dL_law_2092 (lv_at hl 5 rfl) ?_
    refine zi_push M dL_law_2094 ?_
    refine zi_iadd M dL_law_2095 ?_
    refine zi_sld M hX hbl hbA hS hL (by omega) (by omega) dL_law_2096 ?_
    have hx_11 := xZ_rg xs (i + 2)
    have hPx := hP
    have hP := hPm
    have hPm := hPx
    have hD := zD_c hD
    refine z_cW2 (z_runV (As := [.int (iI (xZ xs (i + 1))), .int (iI (xZ xs (i + 2)))]) (rest := []) M (c_X7_entryOf l D cy z0 bd th h su st sh fl 0 sn bn fm fr cm em lg le lf dl cS cH sea noi pl pw an hd bp bo bw c1 c2 c3 c4 c5 e1 e2 e3 e4 e5 (xZ xs (i + 1)) (xZ xs (i + 2)) (by omega) (by omega) g_c1 g_c2 g_c3 g_c5 g_e1 g_e2 g_e3 g_e4 g_e5 (by omega) (by omega)) hE hS hAz (z_cut hP (zD_l hD) hAz [0, 1, 2, 3, 4, 5, 6, 7, 8, 9, 10, 11, 12, 13, 14, 15, 16, 17, 18, 19, 20, 21] rfl (by decide +kernel)) (zRc.of (ci := 7) (q0 := 0) hE hP rfl rfl) zk_cd_X7_entryOf zk_in_RX7 zk_im_X7_entryOf zk_se_X7_entryOf zk_ml_RL_203 rfl rfl zd_X7_entryOf ⟨by decide, by decide⟩ rfl hl.1 rfl (Nat.le_of_ble_eq_true rfl) dL_law_2097 ⟨by show _ ≤ 601024; omega, by show _ ≤ 7293034; omega⟩) hP hPm hD hS [0, 1, 2, 3, 4, 5, 6, 7, 8, 9, 10, 11, 12, 13, 14, 15, 16, 17, 18, 19, 20, 21] rfl (fun _ => by simp only [List.map_append, mdlW_adr]) (fun r_12 u_12 H locs hp_12 hP hPm hD hS => ?_)
    try simp only [mdD_0, mdE_0, mdF_0, mdD_1, mdE_1, mdF_1] at hp_12
    have hP : va_P D vwCl (mdlW bd 0 cy u_12 h su st sh fl 0 sn bn fm fr cm em lg le lf dl cS cH sea noi pl pw an hd bp bo bw c1 c2 c3 c4 c5 e1 e2 e3 e4 e5) H := hP
    have hD : va_D (fun q => z0 ≤ q) ((mdlW bd 0 cy u_12 h su st sh fl 0 sn bn fm fr cm em lg le lf dl cS cH sea noi pl pw an hd bp bo bw c1 c2 c3 c4 c5 e1 e2 e3 e4 e5) ++ ((rooW ad 0 cy fm fr) ++ ((airW ad 1 cy h su st sh fl cS cH (dnD h fl) (dnE h cS) (dnF h su st)) ++ ((airW ad 8 cy h su 0 0 0 (fun _ => 0) (fun _ => 0) (dnD h 0) (dnE h (fun _ => 0)) (dnF h su 0)) ++ ((grdW ad 15 cy sea noi) ++ ((rayW ad 18 cy (ur 0) (ur 1) (ur 2) (ur 3) (ur 4) (ur 5) (ur 6) (ur 7)) ++ ((sndW ad 19 cy 12 sn pl pw an hd fq) ++ ((sndW ad 25 cy 6 bn bp bw ban bhd bo) ++ ((conW ad 31 cy cm c1 c2 c3 c4 c5) ++ ((entW ad 37 cy em ep e1 e2 e3 e4 e5) ++ (outW od 0 cy o))))))))))) := hD
    rcases hp_12 with ⟨rfl, hN_12, rfl⟩ | ⟨rfl, hN_12, rfl⟩ | ⟨rfl, hN_12, rfl⟩
    ·
      have hP : va_P D vwCl (mdlW bd 0 cy 0 h su st sh fl 0 sn bn fm fr cm em lg le lf dl cS cH sea noi pl pw an hd bp bo bw c1 c2 c3 c4 c5 e1 e2 e3 e4 e5) H := hP
      have hD : va_D (fun q => z0 ≤ q) ((mdlW bd 0 cy 0 h su st sh fl 0 sn bn fm fr cm em lg le lf dl cS cH sea noi pl pw an hd bp bo bw c1 c2 c3 c4 c5 e1 e2 e3 e4 e5) ++ ((rooW ad 0 cy fm fr) ++ ((airW ad 1 cy h su st sh fl cS cH (dnD h fl) (dnE h cS) (dnF h su st)) ++ ((airW ad 8 cy h su 0 0 0 (fun _ => 0) (fun _ => 0) (dnD h 0) (dnE h (fun _ => 0)) (dnF h su 0)) ++ ((grdW ad 15 cy sea noi) ++ ((rayW ad 18 cy (ur 0) (ur 1) (ur 2) (ur 3) (ur 4) (ur 5) (ur 6) (ur 7)) ++ ((sndW ad 19 cy 12 sn pl pw an hd fq) ++ ((sndW ad 25 cy 6 bn bp bw ban bhd bo) ++ ((conW ad 31 cy cm c1 c2 c3 c4 c5) ++ ((entW ad 37 cy em ep e1 e2 e3 e4 e5) ++ (outW od 0 cy o))))))))))) := hD
      exfalso
      omega
    ·
      have hP : va_P D vwCl (mdlW bd 0 cy 1 h su st sh fl 0 sn bn fm fr cm em lg le lf dl cS cH sea noi pl pw an hd bp bo bw c1 c2 c3 c4 c5 e1 e2 e3 e4 e5) H := hP
      have hD : va_D (fun q => z0 ≤ q) ((mdlW bd 0 cy 1 h su st sh fl 0 sn bn fm fr cm em lg le lf dl cS cH sea noi pl pw an hd bp bo bw c1 c2 c3 c4 c5 e1 e2 e3 e4 e5) ++ ((rooW ad 0 cy fm fr) ++ ((airW ad 1 cy h su st sh fl cS cH (dnD h fl) (dnE h cS) (dnF h su st)) ++ ((airW ad 8 cy h su 0 0 0 (fun _ => 0) (fun _ => 0) (dnD h 0) (dnE h (fun _ => 0)) (dnF h su 0)) ++ ((grdW ad 15 cy sea noi) ++ ((rayW ad 18 cy (ur 0) (ur 1) (ur 2) (ur 3) (ur 4) (ur 5) (ur 6) (ur 7)) ++ ((sndW ad 19 cy 12 sn pl pw an hd fq) ++ ((sndW ad 25 cy 6 bn bp bw ban bhd bo) ++ ((conW ad 31 cy cm c1 c2 c3 c4 c5) ++ ((entW ad 37 cy em ep e1 e2 e3 e4 e5) ++ (outW od 0 cy o))))))))))) := hD
      exfalso
      omega
    ·
      have hP : va_P D vwCl (mdlW bd 0 cy 2 h su st sh fl 0 sn bn fm fr cm em lg le lf dl cS cH sea noi pl pw an hd bp bo bw c1 c2 c3 c4 c5 e1 e2 e3 e4 e5) H := hP
      have hD : va_D (fun q => z0 ≤ q) ((mdlW bd 0 cy 2 h su st sh fl 0 sn bn fm fr cm em lg le lf dl cS cH sea noi pl pw an hd bp bo bw c1 c2 c3 c4 c5 e1 e2 e3 e4 e5) ++ ((rooW ad 0 cy fm fr) ++ ((airW ad 1 cy h su st sh fl cS cH (dnD h fl) (dnE h cS) (dnF h su st)) ++ ((airW ad 8 cy h su 0 0 0 (fun _ => 0) (fun _ => 0) (dnD h 0) (dnE h (fun _ => 0)) (dnF h su 0)) ++ ((grdW ad 15 cy sea noi) ++ ((rayW ad 18 cy (ur 0) (ur 1) (ur 2) (ur 3) (ur 4) (ur 5) (ur 6) (ur 7)) ++ ((sndW ad 19 cy 12 sn pl pw an hd fq) ++ ((sndW ad 25 cy 6 bn bp bw ban bhd bo) ++ ((conW ad 31 cy cm c1 c2 c3 c4 c5) ++ ((entW ad 37 cy em ep e1 e2 e3 e4 e5) ++ (outW od 0 cy o))))))))))) := hD
      refine lv_istore (lv' := [(6, .int (iI 0)), (5, .int (iI 2)), (0, .ref (b)), (1, .ref (ad 0)), (2, .ref (bd 0)), (3, .ref (od 0)), (4, .int (iI i))]) M.1 M.2.1 dL_law_2100 hl (by decide) rfl (fun ls hl => ?_)
      refine lv_aload_n M.1 M.2.1 dL_law_2102 rfl (lv_at hl 4 rfl) ?_
      refine z_cR (z_runV (As := []) (rest := []) M (c_X7_thrown l D cy z0 bd 2 h su st sh fl 0 sn bn fm fr cm em lg le lf dl cS cH sea noi pl pw an hd bp bo bw c1 c2 c3 c4 c5 e1 e2 e3 e4 e5) hE hS hAz hP (zRc.of (ci := 7) (q0 := 0) hE hP rfl rfl) zk_cd_X7_thrown zk_in_RX7 zk_im_X7_thrown zk_se_X7_thrown zk_ml_RL_116 rfl rfl zd_X7_thrown ⟨by decide, by decide⟩ rfl hl.1 rfl (Nat.le_of_ble_eq_true rfl) dL_law_2103 ⟨by show _ ≤ 601024; omega, by show _ ≤ 7293034; omega⟩) ?_
      refine lv_iload M.1 M.2.1 dL_law_2106 (lv_at hl 1 rfl) ?_
      refine zi_same (tgt := 2113) M dL_law_2108 (by decide) ?_
      refine lv_iload M.1 M.2.1 dL_law_2113 (lv_at hl 1 rfl) ?_
      refine zi_if_ne (tgt := 2130) M dL_law_2115 (by decide) ⟨by decide, by decide⟩ (fun _ => ?_) (fun q => absurd q (by decide))
      refine zi_goto (tgt := 2286) M dL_law_2130 (by decide) ?_
      have hPx := hP
      have hP := hPm
      have hPm := hPx
      have hD := zD_c hD
      refine W.widen (k := cells + 6) (n := slots + 36) (by omega) (by omega) ?_
      exact hback h su st sh fl sn bn cm em ep fm fr 2 o lg le lf dl cS cH sea noi pl pw an hd fq bp bw ban bhd bo c1 c2 c3 c4 c5 e1 e2 e3 e4 e5 ur h_h h_su h_st h_sh h_fl h_sn h_bn h_cm h_em g_cS g_cH g_sea g_noi g_pl g_pw g_an g_hd g_bp g_bw g_ban g_bhd g_c1 g_c2 g_c3 g_c4 g_c5 g_e1 g_e2 g_e3 g_e4 g_e5 hbo hep H locs hP hPm hD hS ls (lv_sub hl [2, 3, 4, 5, 6] rfl)
