/-! the law, case by case -/
set_option maxRecDepth 100000 in
set_option maxHeartbeats 8000000 in
theorem lw_case8 (l : Launch) (D : va_G) (cy : Nat → ClassId) (z0 : Nat) (ad bd od : Nat → Nat) (p : Program) (e : Env) (s : State) (m : MethodId) (args : Array Value) (below : List Frame) (meth : Method) (c : Code) (b : Nat) (i : Int) (Q : State → Prop) (cells slots : Nat) (hst : l.stackTraces = false) (hL7 : ∀ q : Nat, q = 0 → True) (b_L : Nat) (xs : Nat → Int32) (M : zM p s m args c cL_law RL 7) (hE : zE D cy z0 s) (hN : zNc s) (hL : b_L ≤ 3584) (hX : va_X b b_L xs s s.heap) (hbl : b < s.heap.size) (hbA : ¬ z0 ≤ b) (hi : 0 ≤ i ∧ i + 7 ≤ b_L) (hc : cells + 6 ≤ 601024) (hs : slots + 36 ≤ 7293034) (hback : lwB l D cy z0 ad bd od p e s m args below meth c b i Q cells slots) (h su st sh fl sn bn cm em ep fm fr th o lg le lf dl : Int) (cS cH sea noi pl pw an hd fq bp bw ban bhd bo c1 c2 c3 c4 c5 e1 e2 e3 e4 e5 : Int → Int) (ur : Nat → Int) (h_h : 0 ≤ h ∧ h ≤ 5000) (h_su : 0 ≤ su ∧ su ≤ 100) (h_st : 0 ≤ st ∧ st ≤ 60) (h_sh : 0 ≤ sh ∧ sh ≤ 72) (h_fl : 0 ≤ fl ∧ fl ≤ 80) (h_sn : 0 ≤ sn ∧ sn ≤ 12) (h_bn : 0 ≤ bn ∧ bn ≤ 6) (h_cm : 0 ≤ cm ∧ cm ≤ 60) (h_em : 0 ≤ em ∧ em ≤ 80) (g_cS : zrg 48 0 100 cS) (g_cH : zrg 48 0 24 cH) (g_sea : zrg 48 0 1 sea) (g_noi : zrg 48 0 40 noi) (g_pl : zrg 12 0 47 pl) (g_pw : zrg 12 0 80 pw) (g_an : zrg 12 0 2 an) (g_hd : zrg 12 0 2 hd) (g_bp : zrg 6 0 47 bp) (g_bw : zrg 6 0 80 bw) (g_ban : zrg 6 0 2 ban) (g_bhd : zrg 6 0 2 bhd) (g_c1 : zrg 60 0 11 c1) (g_c2 : zrg 60 0 11 c2) (g_c3 : zrg 60 0 300 c3) (g_c4 : zrg 60 0 2 c4) (g_c5 : zrg 60 0 5000 c5) (g_e1 : zrg 80 0 11 e1) (g_e2 : zrg 80 0 11 e2) (g_e3 : zrg 80 0 300 e3) (g_e4 : zrg 80 0 5000 e4) (g_e5 : zrg 80 (-1) 79 e5) (hbo : ∀ n : Int, 0 ≤ n → n < bn → (10 ≤ bo n ∧ bo n ≤ 300) ∧ ban n = 2 ∧ bhd n = 2) (hep : ep = prF e5 em.toNat) (H : Heap) (locs : List Loc) (hP : va_P D vwCl ((rooW ad 0 cy fm fr) ++ ((airW ad 1 cy h su st sh fl cS cH (dnD h fl) (dnE h cS) (dnF h su st)) ++ ((airW ad 8 cy h su 0 0 0 (fun _ => 0) (fun _ => 0) (dnD h 0) (dnE h (fun _ => 0)) (dnF h su 0)) ++ ((grdW ad 15 cy sea noi) ++ ((rayW ad 18 cy (ur 0) (ur 1) (ur 2) (ur 3) (ur 4) (ur 5) (ur 6) (ur 7)) ++ ((sndW ad 19 cy 12 sn pl pw an hd fq) ++ ((sndW ad 25 cy 6 bn bp bw ban bhd bo) ++ ((conW ad 31 cy cm c1 c2 c3 c4 c5) ++ ((entW ad 37 cy em ep e1 e2 e3 e4 e5) ++ (outW od 0 cy o)))))))))) H) (hPm : va_P D vwCl (mdlW bd 0 cy th h su st sh fl 0 sn bn fm fr cm em lg le lf dl cS cH sea noi pl pw an hd bp bo bw c1 c2 c3 c4 c5 e1 e2 e3 e4 e5) H) (hD : va_D (fun q => z0 ≤ q) (((rooW ad 0 cy fm fr) ++ ((airW ad 1 cy h su st sh fl cS cH (dnD h fl) (dnE h cS) (dnF h su st)) ++ ((airW ad 8 cy h su 0 0 0 (fun _ => 0) (fun _ => 0) (dnD h 0) (dnE h (fun _ => 0)) (dnF h su 0)) ++ ((grdW ad 15 cy sea noi) ++ ((rayW ad 18 cy (ur 0) (ur 1) (ur 2) (ur 3) (ur 4) (ur 5) (ur 6) (ur 7)) ++ ((sndW ad 19 cy 12 sn pl pw an hd fq) ++ ((sndW ad 25 cy 6 bn bp bw ban bhd bo) ++ ((conW ad 31 cy cm c1 c2 c3 c4 c5) ++ ((entW ad 37 cy em ep e1 e2 e3 e4 e5) ++ (outW od 0 cy o)))))))))) ++ (mdlW bd 0 cy th h su st sh fl 0 sn bn fm fr cm em lg le lf dl cS cH sea noi pl pw an hd bp bo bw c1 c2 c3 c4 c5 e1 e2 e3 e4 e5))) (hS : va_S (fun q => z0 ≤ q) s.heap H locs) (ls : Array Slot) (hl : lv_has ls 7 [(0, .ref b), (1, .ref (ad 0)), (2, .ref (bd 0)), (3, .ref (od 0)), (4, .int (iI i))]) : W p l e room_1 s m args below meth c H locs (cells) (slots) Q (F0 m 695 ls []) := by
  have hAz : ∀ q : Nat, (fun q => z0 ≤ q) q → z0 ≤ q := fun _ h => h
  refine lv_aload_n M.1 M.2.1 dL_law_695 rfl (lv_at hl 1 rfl) ?_
  refine lv_aload_n M.1 M.2.1 dL_law_696 rfl (lv_at hl 0 rfl) ?_
  refine lv_iload M.1 M.2.1 dL_law_697 (lv_at hl 4 rfl) ?_
  refine zi_push M dL_law_699 ?_
  refine zi_iadd M dL_law_700 ?_
  refine zi_sld M hX hbl hbA hS hL (by omega) (by omega) dL_law_701 ?_
  have hx_1 := xZ_rg xs (i + 1)
  refine lv_aload_n M.1 M.2.1 dL_law_702 rfl (lv_at hl 0 rfl) ?_
  refine lv_iload M.1 M.2.1 dL_law_703 (lv_at hl 4 rfl) ?_
  refine zi_push M dL_law_705 ?_
  refine zi_iadd M dL_law_706 ?_
  refine zi_sld M hX hbl hbA hS hL (by omega) (by omega) dL_law_707 ?_
  have hx_2 := xZ_rg xs (i + 2)
  refine lv_aload_n M.1 M.2.1 dL_law_708 rfl (lv_at hl 0 rfl) ?_
  refine lv_iload M.1 M.2.1 dL_law_709 (lv_at hl 4 rfl) ?_
  refine zi_push M dL_law_711 ?_
  refine zi_iadd M dL_law_712 ?_
  refine zi_sld M hX hbl hbA hS hL (by omega) (by omega) dL_law_713 ?_
  have hx_3 := xZ_rg xs (i + 3)
  refine lv_aload_n M.1 M.2.1 dL_law_714 rfl (lv_at hl 3 rfl) ?_
  refine z_cW2 (zx_runH (As := [.ref (ad 0), .int (iI (xZ xs (i + 1))), .int (iI (xZ xs (i + 2))), .int (iI (xZ xs (i + 3))), .ref (od 0)]) (rest := []) M (c_L_beacon l hst D cy z0 ad od fm fr bn o bp bw ban bhd bo (xZ xs (i + 1)) (xZ xs (i + 2)) (xZ xs (i + 3)) (by omega) (by omega) (by omega) (by omega)) hE hN hS hAz (z_cut hP (zD_l hD) hAz [0, 25, 26, 27, 28, 29, 30, 43] rfl (by decide +kernel)) zk_cw_L_beacon zk_in_RL zk_st_L_beacon zk_ml_RL_146 rfl rfl zd_L_beacon ⟨by decide, by decide⟩ rfl hl.1 rfl (Nat.le_of_ble_eq_true rfl) dL_law_715 ⟨by show _ ≤ 601024; omega, by show _ ≤ 7293034; omega⟩) hP hPm hD hS [0, 25, 26, 27, 28, 29, 30, 43] rfl (fun _ => by simp only [List.map_append, outW_adr, rooW_adr, sndW_adr]) (fun r_4 u_4 H locs hp_4 hP hPm hD hS => ?_)
  have hP : va_P D vwCl ((rooW ad 0 cy fm fr) ++ ((airW ad 1 cy h su st sh fl cS cH (dnD h fl) (dnE h cS) (dnF h su st)) ++ ((airW ad 8 cy h su 0 0 0 (fun _ => 0) (fun _ => 0) (dnD h 0) (dnE h (fun _ => 0)) (dnF h su 0)) ++ ((grdW ad 15 cy sea noi) ++ ((rayW ad 18 cy (ur 0) (ur 1) (ur 2) (ur 3) (ur 4) (ur 5) (ur 6) (ur 7)) ++ ((sndW ad 19 cy 12 sn pl pw an hd fq) ++ ((sndW ad 25 cy 6 (if u_4.1 = 0 then (bn + 1) else bn) (if u_4.1 = 0 then (zu bp bn (xZ xs (i + 1))) else bp) (if u_4.1 = 0 then (zu bw bn (xZ xs (i + 3))) else bw) (if u_4.1 = 0 then (zu ban bn 2) else ban) (if u_4.1 = 0 then (zu bhd bn 2) else bhd) (if u_4.1 = 0 then (zu bo bn (xZ xs (i + 2))) else bo)) ++ ((conW ad 31 cy cm c1 c2 c3 c4 c5) ++ ((entW ad 37 cy em ep e1 e2 e3 e4 e5) ++ (outW od 0 cy u_4.2.1)))))))))) H := hP
  have hD : va_D (fun q => z0 ≤ q) (((rooW ad 0 cy fm fr) ++ ((airW ad 1 cy h su st sh fl cS cH (dnD h fl) (dnE h cS) (dnF h su st)) ++ ((airW ad 8 cy h su 0 0 0 (fun _ => 0) (fun _ => 0) (dnD h 0) (dnE h (fun _ => 0)) (dnF h su 0)) ++ ((grdW ad 15 cy sea noi) ++ ((rayW ad 18 cy (ur 0) (ur 1) (ur 2) (ur 3) (ur 4) (ur 5) (ur 6) (ur 7)) ++ ((sndW ad 19 cy 12 sn pl pw an hd fq) ++ ((sndW ad 25 cy 6 (if u_4.1 = 0 then (bn + 1) else bn) (if u_4.1 = 0 then (zu bp bn (xZ xs (i + 1))) else bp) (if u_4.1 = 0 then (zu bw bn (xZ xs (i + 3))) else bw) (if u_4.1 = 0 then (zu ban bn 2) else ban) (if u_4.1 = 0 then (zu bhd bn 2) else bhd) (if u_4.1 = 0 then (zu bo bn (xZ xs (i + 2))) else bo)) ++ ((conW ad 31 cy cm c1 c2 c3 c4 c5) ++ ((entW ad 37 cy em ep e1 e2 e3 e4 e5) ++ (outW od 0 cy u_4.2.1)))))))))) ++ (mdlW bd 0 cy th h su st sh fl 0 sn bn fm fr cm em lg le lf dl cS cH sea noi pl pw an hd bp bo bw c1 c2 c3 c4 c5 e1 e2 e3 e4 e5)) := hD
  obtain ⟨u1_4, u2_4, u3_4⟩ := u_4
  dsimp only at hp_4
  rcases hp_4 with ⟨rfl, rfl, hN_4, hv_4⟩ | ⟨rfl, rfl, hN_4, hv_4⟩ | ⟨rfl, rfl, hN_4, hv_4⟩ | ⟨rfl, rfl, hN_4, hv_4⟩
  ·
    have hw_4 := hv_4.symm
    subst hw_4
    have hP : va_P D vwCl ((rooW ad 0 cy fm fr) ++ ((airW ad 1 cy h su st sh fl cS cH (dnD h fl) (dnE h cS) (dnF h su st)) ++ ((airW ad 8 cy h su 0 0 0 (fun _ => 0) (fun _ => 0) (dnD h 0) (dnE h (fun _ => 0)) (dnF h su 0)) ++ ((grdW ad 15 cy sea noi) ++ ((rayW ad 18 cy (ur 0) (ur 1) (ur 2) (ur 3) (ur 4) (ur 5) (ur 6) (ur 7)) ++ ((sndW ad 19 cy 12 sn pl pw an hd fq) ++ ((sndW ad 25 cy 6 (bn + 1) (zu bp bn (xZ xs (i + 1))) (zu bw bn (xZ xs (i + 3))) (zu ban bn 2) (zu bhd bn 2) (zu bo bn (xZ xs (i + 2)))) ++ ((conW ad 31 cy cm c1 c2 c3 c4 c5) ++ ((entW ad 37 cy em ep e1 e2 e3 e4 e5) ++ (outW od 0 cy bn)))))))))) H := hP
    have hD : va_D (fun q => z0 ≤ q) (((rooW ad 0 cy fm fr) ++ ((airW ad 1 cy h su st sh fl cS cH (dnD h fl) (dnE h cS) (dnF h su st)) ++ ((airW ad 8 cy h su 0 0 0 (fun _ => 0) (fun _ => 0) (dnD h 0) (dnE h (fun _ => 0)) (dnF h su 0)) ++ ((grdW ad 15 cy sea noi) ++ ((rayW ad 18 cy (ur 0) (ur 1) (ur 2) (ur 3) (ur 4) (ur 5) (ur 6) (ur 7)) ++ ((sndW ad 19 cy 12 sn pl pw an hd fq) ++ ((sndW ad 25 cy 6 (bn + 1) (zu bp bn (xZ xs (i + 1))) (zu bw bn (xZ xs (i + 3))) (zu ban bn 2) (zu bhd bn 2) (zu bo bn (xZ xs (i + 2)))) ++ ((conW ad 31 cy cm c1 c2 c3 c4 c5) ++ ((entW ad 37 cy em ep e1 e2 e3 e4 e5) ++ (outW od 0 cy bn)))))))))) ++ (mdlW bd 0 cy th h su st sh fl 0 sn bn fm fr cm em lg le lf dl cS cH sea noi pl pw an hd bp bo bw c1 c2 c3 c4 c5 e1 e2 e3 e4 e5)) := hD
    refine lv_istore (lv' := [(5, .int (iI 0)), (0, .ref (b)), (1, .ref (ad 0)), (2, .ref (bd 0)), (3, .ref (od 0)), (4, .int (iI i))]) M.1 M.2.1 dL_law_718 hl (by decide) rfl (fun ls hl => ?_)
    refine lv_aload_n M.1 M.2.1 dL_law_720 rfl (lv_at hl 3 rfl) ?_
    refine lv_aload_n M.1 M.2.1 dL_law_721 rfl (lv_at hl 1 rfl) ?_
    refine lv_iload M.1 M.2.1 dL_law_722 (lv_at hl 5 rfl) ?_
    refine zi_push M dL_law_724 ?_
    refine zi_iadd M dL_law_725 ?_
    refine zi_sld M hX hbl hbA hS hL (by omega) (by omega) dL_law_726 ?_
    have hx_5 := xZ_rg xs (i + 1)
    refine lv_aload_n M.1 M.2.1 dL_law_727 rfl (lv_at hl 1 rfl) ?_
    refine lv_iload M.1 M.2.1 dL_law_728 (lv_at hl 5 rfl) ?_
    refine zi_push M dL_law_730 ?_
    refine zi_iadd M dL_law_731 ?_
    refine zi_sld M hX hbl hbA hS hL (by omega) (by omega) dL_law_732 ?_
    have hx_6 := xZ_rg xs (i + 2)
    refine lv_aload_n M.1 M.2.1 dL_law_733 rfl (lv_at hl 1 rfl) ?_
    refine lv_iload M.1 M.2.1 dL_law_734 (lv_at hl 5 rfl) ?_
    refine zi_push M dL_law_736 ?_
    refine zi_iadd M dL_law_737 ?_
    refine zi_sld M hX hbl hbA hS hL (by omega) (by omega) dL_law_738 ?_
    have hx_7 := xZ_rg xs (i + 3)
    have hPx := hP
    have hP := hPm
    have hPm := hPx
    have hD := zD_c hD
    refine z_cW2 (z_runV (As := [.int (iI (xZ xs (i + 1))), .int (iI (xZ xs (i + 2))), .int (iI (xZ xs (i + 3)))]) (rest := []) M (c_X7_beacon l D cy z0 bd th h su st sh fl 0 sn bn fm fr cm em lg le lf dl cS cH sea noi pl pw an hd bp bo bw c1 c2 c3 c4 c5 e1 e2 e3 e4 e5 (xZ xs (i + 1)) (xZ xs (i + 2)) (xZ xs (i + 3)) (by omega) (by omega) (by omega) (by omega)) hE hS hAz (z_cut hP (zD_l hD) hAz [0, 1, 2, 3, 4, 5, 6, 7, 8, 9, 10, 11, 12, 13, 14, 15, 16, 17, 18, 19, 20, 21] rfl (by decide +kernel)) (zRc.of (ci := 7) (q0 := 0) hE hP rfl rfl) zk_cd_X7_beacon zk_in_RX7 zk_im_X7_beacon zk_se_X7_beacon zk_ml_RL_149 rfl rfl zd_X7_beacon ⟨by decide, by decide⟩ rfl hl.1 rfl (Nat.le_of_ble_eq_true rfl) dL_law_739 ⟨by show _ ≤ 601024; omega, by show _ ≤ 7293034; omega⟩) hP hPm hD hS [0, 1, 2, 3, 4, 5, 6, 7, 8, 9, 10, 11, 12, 13, 14, 15, 16, 17, 18, 19, 20, 21] rfl (fun _ => by simp only [List.map_append, mdlW_adr]) (fun r_8 u_8 H locs hp_8 hP hPm hD hS => ?_)
    try simp only [mdD_0, mdE_0, mdF_0, mdD_1, mdE_1, mdF_1] at hp_8
    have hP : va_P D vwCl (mdlW bd 0 cy u_8 h su st sh fl 0 sn (if u_8 = 0 then (bn + 1) else bn) fm fr cm em lg le lf dl cS cH sea noi pl pw an hd (if u_8 = 0 then (zu bp bn (xZ xs (i + 1))) else bp) (if u_8 = 0 then (zu bo bn (xZ xs (i + 2))) else bo) (if u_8 = 0 then (zu bw bn (xZ xs (i + 3))) else bw) c1 c2 c3 c4 c5 e1 e2 e3 e4 e5) H := hP
    have hD : va_D (fun q => z0 ≤ q) ((mdlW bd 0 cy u_8 h su st sh fl 0 sn (if u_8 = 0 then (bn + 1) else bn) fm fr cm em lg le lf dl cS cH sea noi pl pw an hd (if u_8 = 0 then (zu bp bn (xZ xs (i + 1))) else bp) (if u_8 = 0 then (zu bo bn (xZ xs (i + 2))) else bo) (if u_8 = 0 then (zu bw bn (xZ xs (i + 3))) else bw) c1 c2 c3 c4 c5 e1 e2 e3 e4 e5) ++ ((rooW ad 0 cy fm fr) ++ ((airW ad 1 cy h su st sh fl cS cH (dnD h fl) (dnE h cS) (dnF h su st)) ++ ((airW ad 8 cy h su 0 0 0 (fun _ => 0) (fun _ => 0) (dnD h 0) (dnE h (fun _ => 0)) (dnF h su 0)) ++ ((grdW ad 15 cy sea noi) ++ ((rayW ad 18 cy (ur 0) (ur 1) (ur 2) (ur 3) (ur 4) (ur 5) (ur 6) (ur 7)) ++ ((sndW ad 19 cy 12 sn pl pw an hd fq) ++ ((sndW ad 25 cy 6 (bn + 1) (zu bp bn (xZ xs (i + 1))) (zu bw bn (xZ xs (i + 3))) (zu ban bn 2) (zu bhd bn 2) (zu bo bn (xZ xs (i + 2)))) ++ ((conW ad 31 cy cm c1 c2 c3 c4 c5) ++ ((entW ad 37 cy em ep e1 e2 e3 e4 e5) ++ (outW od 0 cy bn))))))))))) := hD
    rcases hp_8 with ⟨rfl, hN_8, rfl⟩ | ⟨rfl, hN_8, rfl⟩ | ⟨rfl, hN_8, rfl⟩ | ⟨rfl, hN_8, rfl⟩
    ·
      have hP : va_P D vwCl (mdlW bd 0 cy 0 h su st sh fl 0 sn (bn + 1) fm fr cm em lg le lf dl cS cH sea noi pl pw an hd (zu bp bn (xZ xs (i + 1))) (zu bo bn (xZ xs (i + 2))) (zu bw bn (xZ xs (i + 3))) c1 c2 c3 c4 c5 e1 e2 e3 e4 e5) H := hP
      have hD : va_D (fun q => z0 ≤ q) ((mdlW bd 0 cy 0 h su st sh fl 0 sn (bn + 1) fm fr cm em lg le lf dl cS cH sea noi pl pw an hd (zu bp bn (xZ xs (i + 1))) (zu bo bn (xZ xs (i + 2))) (zu bw bn (xZ xs (i + 3))) c1 c2 c3 c4 c5 e1 e2 e3 e4 e5) ++ ((rooW ad 0 cy fm fr) ++ ((airW ad 1 cy h su st sh fl cS cH (dnD h fl) (dnE h cS) (dnF h su st)) ++ ((airW ad 8 cy h su 0 0 0 (fun _ => 0) (fun _ => 0) (dnD h 0) (dnE h (fun _ => 0)) (dnF h su 0)) ++ ((grdW ad 15 cy sea noi) ++ ((rayW ad 18 cy (ur 0) (ur 1) (ur 2) (ur 3) (ur 4) (ur 5) (ur 6) (ur 7)) ++ ((sndW ad 19 cy 12 sn pl pw an hd fq) ++ ((sndW ad 25 cy 6 (bn + 1) (zu bp bn (xZ xs (i + 1))) (zu bw bn (xZ xs (i + 3))) (zu ban bn 2) (zu bhd bn 2) (zu bo bn (xZ xs (i + 2)))) ++ ((conW ad 31 cy cm c1 c2 c3 c4 c5) ++ ((entW ad 37 cy em ep e1 e2 e3 e4 e5) ++ (outW od 0 cy bn))))))))))) := hD
      refine lv_istore (lv' := [(6, .int (iI bn)), (5, .int (iI 0)), (0, .ref (b)), (1, .ref (ad 0)), (2, .ref (bd 0)), (3, .ref (od 0)), (4, .int (iI i))]) M.1 M.2.1 dL_law_742 hl (by decide) rfl (fun ls hl => ?_)
      refine lv_aload_n M.1 M.2.1 dL_law_744 rfl (lv_at hl 4 rfl) ?_
      refine z_cR (z_runV (As := []) (rest := []) M (c_X7_thrown l D cy z0 bd 0 h su st sh fl 0 sn (bn + 1) fm fr cm em lg le lf dl cS cH sea noi pl pw an hd (zu bp bn (xZ xs (i + 1))) (zu bo bn (xZ xs (i + 2))) (zu bw bn (xZ xs (i + 3))) c1 c2 c3 c4 c5 e1 e2 e3 e4 e5) hE hS hAz hP (zRc.of (ci := 7) (q0 := 0) hE hP rfl rfl) zk_cd_X7_thrown zk_in_RX7 zk_im_X7_thrown zk_se_X7_thrown zk_ml_RL_116 rfl rfl zd_X7_thrown ⟨by decide, by decide⟩ rfl hl.1 rfl (Nat.le_of_ble_eq_true rfl) dL_law_745 ⟨by show _ ≤ 601024; omega, by show _ ≤ 7293034; omega⟩) ?_
      refine lv_iload M.1 M.2.1 dL_law_748 (lv_at hl 1 rfl) ?_
      refine zi_same (tgt := 755) M dL_law_750 (by decide) ?_
      refine lv_iload M.1 M.2.1 dL_law_755 (lv_at hl 1 rfl) ?_
      refine zi_if_ne (tgt := 772) M dL_law_757 (by decide) ⟨by decide, by decide⟩ (fun q => absurd q (by decide)) (fun _ => ?_)
      refine lv_aload_n M.1 M.2.1 dL_law_760 rfl (lv_at hl 5 rfl) ?_
      refine zi_push M dL_law_761 ?_
      refine zi_lald M hE hPm 43 rfl dL_law_762 ?_
      refine lv_iload M.1 M.2.1 dL_law_763 (lv_at hl 0 rfl) ?_
      refine zi_i2l M dL_law_765 ?_
      refine zi_lcmpE M dL_law_766 ?_
      refine zi_if_eq (tgt := 772) M dL_law_767 (by decide) ⟨by decide, by decide⟩ (fun _ => ?_) (fun q => absurd q (by decide))
      refine zi_goto (tgt := 2286) M dL_law_772 (by decide) ?_
      have hPx := hP
      have hP := hPm
      have hPm := hPx
      have hD := zD_c hD
      refine W.widen (k := cells + 6) (n := slots + 36) (by omega) (by omega) ?_
      exact hback h su st sh fl sn (bn + 1) cm em ep fm fr 0 bn lg le lf dl cS cH sea noi pl pw an hd fq (zu bp bn (xZ xs (i + 1))) (zu bw bn (xZ xs (i + 3))) (zu ban bn 2) (zu bhd bn 2) (zu bo bn (xZ xs (i + 2))) c1 c2 c3 c4 c5 e1 e2 e3 e4 e5 ur h_h h_su h_st h_sh h_fl h_sn (by omega) h_cm h_em g_cS g_cH g_sea g_noi g_pl g_pw g_an g_hd (zrg_zu g_bp (by omega)) (zrg_zu g_bw (by omega)) (zrg_zu g_ban (by omega)) (zrg_zu g_bhd (by omega)) g_c1 g_c2 g_c3 g_c4 g_c5 g_e1 g_e2 g_e3 g_e4 g_e5 (hbo_add hbo (by omega)) hep H locs hP hPm hD hS ls (lv_sub hl [2, 3, 4, 5, 6] rfl)
    ·
      have hP : va_P D vwCl (mdlW bd 0 cy 1 h su st sh fl 0 sn bn fm fr cm em lg le lf dl cS cH sea noi pl pw an hd bp bo bw c1 c2 c3 c4 c5 e1 e2 e3 e4 e5) H := hP
      have hD : va_D (fun q => z0 ≤ q) ((mdlW bd 0 cy 1 h su st sh fl 0 sn bn fm fr cm em lg le lf dl cS cH sea noi pl pw an hd bp bo bw c1 c2 c3 c4 c5 e1 e2 e3 e4 e5) ++ ((rooW ad 0 cy fm fr) ++ ((airW ad 1 cy h su st sh fl cS cH (dnD h fl) (dnE h cS) (dnF h su st)) ++ ((airW ad 8 cy h su 0 0 0 (fun _ => 0) (fun _ => 0) (dnD h 0) (dnE h (fun _ => 0)) (dnF h su 0)) ++ ((grdW ad 15 cy sea noi) ++ ((rayW ad 18 cy (ur 0) (ur 1) (ur 2) (ur 3) (ur 4) (ur 5) (ur 6) (ur 7)) ++ ((sndW ad 19 cy 12 sn pl pw an hd fq) ++ ((sndW ad 25 cy 6 (bn + 1) (zu bp bn (xZ xs (i + 1))) (zu bw bn (xZ xs (i + 3))) (zu ban bn 2) (zu bhd bn 2) (zu bo bn (xZ xs (i + 2)))) ++ ((conW ad 31 cy cm c1 c2 c3 c4 c5) ++ ((entW ad 37 cy em ep e1 e2 e3 e4 e5) ++ (outW od 0 cy bn))))))))))) := hD
      exfalso
      omega
    ·
      have hP : va_P D vwCl (mdlW bd 0 cy 2 h su st sh fl 0 sn bn fm fr cm em lg le lf dl cS cH sea noi pl pw an hd bp bo bw c1 c2 c3 c4 c5 e1 e2 e3 e4 e5) H := hP
      have hD : va_D (fun q => z0 ≤ q) ((mdlW bd 0 cy 2 h su st sh fl 0 sn bn fm fr cm em lg le lf dl cS cH sea noi pl pw an hd bp bo bw c1 c2 c3 c4 c5 e1 e2 e3 e4 e5) ++ ((rooW ad 0 cy fm fr) ++ ((airW ad 1 cy h su st sh fl cS cH (dnD h fl) (dnE h cS) (dnF h su st)) ++ ((airW ad 8 cy h su 0 0 0 (fun _ => 0) (fun _ => 0) (dnD h 0) (dnE h (fun _ => 0)) (dnF h su 0)) ++ ((grdW ad 15 cy sea noi) ++ ((rayW ad 18 cy (ur 0) (ur 1) (ur 2) (ur 3) (ur 4) (ur 5) (ur 6) (ur 7)) ++ ((sndW ad 19 cy 12 sn pl pw an hd fq) ++ ((sndW ad 25 cy 6 (bn + 1) (zu bp bn (xZ xs (i + 1))) (zu bw bn (xZ xs (i + 3))) (zu ban bn 2) (zu bhd bn 2) (zu bo bn (xZ xs (i + 2)))) ++ ((conW ad 31 cy cm c1 c2 c3 c4 c5) ++ ((entW ad 37 cy em ep e1 e2 e3 e4 e5) ++ (outW od 0 cy bn))))))))))) := hD
      exfalso
      omega
    ·
      have hP : va_P D vwCl (mdlW bd 0 cy 3 h su st sh fl 0 sn bn fm fr cm em lg le lf dl cS cH sea noi pl pw an hd bp bo bw c1 c2 c3 c4 c5 e1 e2 e3 e4 e5) H := hP
      have hD : va_D (fun q => z0 ≤ q) ((mdlW bd 0 cy 3 h su st sh fl 0 sn bn fm fr cm em lg le lf dl cS cH sea noi pl pw an hd bp bo bw c1 c2 c3 c4 c5 e1 e2 e3 e4 e5) ++ ((rooW ad 0 cy fm fr) ++ ((airW ad 1 cy h su st sh fl cS cH (dnD h fl) (dnE h cS) (dnF h su st)) ++ ((airW ad 8 cy h su 0 0 0 (fun _ => 0) (fun _ => 0) (dnD h 0) (dnE h (fun _ => 0)) (dnF h su 0)) ++ ((grdW ad 15 cy sea noi) ++ ((rayW ad 18 cy (ur 0) (ur 1) (ur 2) (ur 3) (ur 4) (ur 5) (ur 6) (ur 7)) ++ ((sndW ad 19 cy 12 sn pl pw an hd fq) ++ ((sndW ad 25 cy 6 (bn + 1) (zu bp bn (xZ xs (i + 1))) (zu bw bn (xZ xs (i + 3))) (zu ban bn 2) (zu bhd bn 2) (zu bo bn (xZ xs (i + 2)))) ++ ((conW ad 31 cy cm c1 c2 c3 c4 c5) ++ ((entW ad 37 cy em ep e1 e2 e3 e4 e5) ++ (outW od 0 cy bn))))))))))) := hD
      exfalso
      omega
  ·
    have hw_4 := hv_4.symm
    subst hw_4
    have hP : va_P D vwCl ((rooW ad 0 cy fm fr) ++ ((airW ad 1 cy h su st sh fl cS cH (dnD h fl) (dnE h cS) (dnF h su st)) ++ ((airW ad 8 cy h su 0 0 0 (fun _ => 0) (fun _ => 0) (dnD h 0) (dnE h (fun _ => 0)) (dnF h su 0)) ++ ((grdW ad 15 cy sea noi) ++ ((rayW ad 18 cy (ur 0) (ur 1) (ur 2) (ur 3) (ur 4) (ur 5) (ur 6) (ur 7)) ++ ((sndW ad 19 cy 12 sn pl pw an hd fq) ++ ((sndW ad 25 cy 6 bn bp bw ban bhd bo) ++ ((conW ad 31 cy cm c1 c2 c3 c4 c5) ++ ((entW ad 37 cy em ep e1 e2 e3 e4 e5) ++ (outW od 0 cy o)))))))))) H := hP
    have hD : va_D (fun q => z0 ≤ q) (((rooW ad 0 cy fm fr) ++ ((airW ad 1 cy h su st sh fl cS cH (dnD h fl) (dnE h cS) (dnF h su st)) ++ ((airW ad 8 cy h su 0 0 0 (fun _ => 0) (fun _ => 0) (dnD h 0) (dnE h (fun _ => 0)) (dnF h su 0)) ++ ((grdW ad 15 cy sea noi) ++ ((rayW ad 18 cy (ur 0) (ur 1) (ur 2) (ur 3) (ur 4) (ur 5) (ur 6) (ur 7)) ++ ((sndW ad 19 cy 12 sn pl pw an hd fq) ++ ((sndW ad 25 cy 6 bn bp bw ban bhd bo) ++ ((conW ad 31 cy cm c1 c2 c3 c4 c5) ++ ((entW ad 37 cy em ep e1 e2 e3 e4 e5) ++ (outW od 0 cy o)))))))))) ++ (mdlW bd 0 cy th h su st sh fl 0 sn bn fm fr cm em lg le lf dl cS cH sea noi pl pw an hd bp bo bw c1 c2 c3 c4 c5 e1 e2 e3 e4 e5)) := hD
    refine lv_istore (lv' := [(5, .int (iI 1)), (0, .ref (b)), (1, .ref (ad 0)), (2, .ref (bd 0)), (3, .ref (od 0)), (4, .int (iI i))]) M.1 M.2.1 dL_law_718 hl (by decide) rfl (fun ls hl => ?_)
    refine lv_aload_n M.1 M.2.1 dL_law_720 rfl (lv_at hl 3 rfl) ?_
    refine lv_aload_n M.1 M.2.1 dL_law_721 rfl (lv_at hl 1 rfl) ?_
    refine lv_iload M.1 M.2.1 dL_law_722 (lv_at hl 5 rfl) ?_
    refine zi_push M dL_law_724 ?_
    refine zi_iadd M dL_law_725 ?_
    refine zi_sld M hX hbl hbA hS hL (by omega) (by omega) dL_law_726 ?_
    have hx_9 := xZ_rg xs (i + 1)
    refine lv_aload_n M.1 M.2.1 dL_law_727 rfl (lv_at hl 1 rfl) ?_
    refine lv_iload M.1 M.2.1 dL_law_728 (lv_at hl 5 rfl) ?_
    refine zi_push M dL_law_730 ?_
    refine zi_iadd M dL_law_731 ?_
    refine zi_sld M hX hbl hbA hS hL (by omega) (by omega) dL_law_732 ?_
    have hx_10 := xZ_rg xs (i + 2)
    refine lv_aload_n M.1 M.2.1 dL_law_733 rfl (lv_at hl 1 rfl) ?_
    refine lv_iload M.1 M.2.1 dL_law_734 (lv_at hl 5 rfl) ?_
    refine zi_push M dL_law_736 ?_
    refine zi_iadd M dL_law_737 ?_
    refine zi_sld M hX hbl hbA hS hL (by omega) (by omega) dL_law_738 ?_
    have hx_11 := xZ_rg xs (i + 3)
    have hPx := hP
    have hP := hPm
    have hPm := hPx
    have hD := zD_c hD
    refine z_cW2 (z_runV (As := [.int (iI (xZ xs (i + 1))), .int (iI (xZ xs (i + 2))), .int (iI (xZ xs (i + 3)))]) (rest := []) M (c_X7_beacon l D cy z0 bd th h su st sh fl 0 sn bn fm fr cm em lg le lf dl cS cH sea noi pl pw an hd bp bo bw c1 c2 c3 c4 c5 e1 e2 e3 e4 e5 (xZ xs (i + 1)) (xZ xs (i + 2)) (xZ xs (i + 3)) (by omega) (by omega) (by omega) (by omega)) hE hS hAz (z_cut hP (zD_l hD) hAz [0, 1, 2, 3, 4, 5, 6, 7, 8, 9, 10, 11, 12, 13, 14, 15, 16, 17, 18, 19, 20, 21] rfl (by decide +kernel)) (zRc.of (ci := 7) (q0 := 0) hE hP rfl rfl) zk_cd_X7_beacon zk_in_RX7 zk_im_X7_beacon zk_se_X7_beacon zk_ml_RL_149 rfl rfl zd_X7_beacon ⟨by decide, by decide⟩ rfl hl.1 rfl (Nat.le_of_ble_eq_true rfl) dL_law_739 ⟨by show _ ≤ 601024; omega, by show _ ≤ 7293034; omega⟩) hP hPm hD hS [0, 1, 2, 3, 4, 5, 6, 7, 8, 9, 10, 11, 12, 13, 14, 15, 16, 17, 18, 19, 20, 21] rfl (fun _ => by simp only [List.map_append, mdlW_adr]) (fun r_12 u_12 H locs hp_12 hP hPm hD hS => ?_)
    try simp only [mdD_0, mdE_0, mdF_0, mdD_1, mdE_1, mdF_1] at hp_12
    have hP : va_P D vwCl (mdlW bd 0 cy u_12 h su st sh fl 0 sn (if u_12 = 0 then (bn + 1) else bn) fm fr cm em lg le lf dl cS cH sea noi pl pw an hd (if u_12 = 0 then (zu bp bn (xZ xs (i + 1))) else bp) (if u_12 = 0 then (zu bo bn (xZ xs (i + 2))) else bo) (if u_12 = 0 then (zu bw bn (xZ xs (i + 3))) else bw) c1 c2 c3 c4 c5 e1 e2 e3 e4 e5) H := hP
    have hD : va_D (fun q => z0 ≤ q) ((mdlW bd 0 cy u_12 h su st sh fl 0 sn (if u_12 = 0 then (bn + 1) else bn) fm fr cm em lg le lf dl cS cH sea noi pl pw an hd (if u_12 = 0 then (zu bp bn (xZ xs (i + 1))) else bp) (if u_12 = 0 then (zu bo bn (xZ xs (i + 2))) else bo) (if u_12 = 0 then (zu bw bn (xZ xs (i + 3))) else bw) c1 c2 c3 c4 c5 e1 e2 e3 e4 e5) ++ ((rooW ad 0 cy fm fr) ++ ((airW ad 1 cy h su st sh fl cS cH (dnD h fl) (dnE h cS) (dnF h su st)) ++ ((airW ad 8 cy h su 0 0 0 (fun _ => 0) (fun _ => 0) (dnD h 0) (dnE h (fun _ => 0)) (dnF h su 0)) ++ ((grdW ad 15 cy sea noi) ++ ((rayW ad 18 cy (ur 0) (ur 1) (ur 2) (ur 3) (ur 4) (ur 5) (ur 6) (ur 7)) ++ ((sndW ad 19 cy 12 sn pl pw an hd fq) ++ ((sndW ad 25 cy 6 bn bp bw ban bhd bo) ++ ((conW ad 31 cy cm c1 c2 c3 c4 c5) ++ ((entW ad 37 cy em ep e1 e2 e3 e4 e5) ++ (outW od 0 cy o))))))))))) := hD
    rcases hp_12 with ⟨rfl, hN_12, rfl⟩ | ⟨rfl, hN_12, rfl⟩ | ⟨rfl, hN_12, rfl⟩ | ⟨rfl, hN_12, rfl⟩
    ·
      have hP : va_P D vwCl (mdlW bd 0 cy 0 h su st sh fl 0 sn (bn + 1) fm fr cm em lg le lf dl cS cH sea noi pl pw an hd (zu bp bn (xZ xs (i + 1))) (zu bo bn (xZ xs (i + 2))) (zu bw bn (xZ xs (i + 3))) c1 c2 c3 c4 c5 e1 e2 e3 e4 e5) H := hP
      have hD : va_D (fun q => z0 ≤ q) ((mdlW bd 0 cy 0 h su st sh fl 0 sn (bn + 1) fm fr cm em lg le lf dl cS cH sea noi pl pw an hd (zu bp bn (xZ xs (i + 1))) (zu bo bn (xZ xs (i + 2))) (zu bw bn (xZ xs (i + 3))) c1 c2 c3 c4 c5 e1 e2 e3 e4 e5) ++ ((rooW ad 0 cy fm fr) ++ ((airW ad 1 cy h su st sh fl cS cH (dnD h fl) (dnE h cS) (dnF h su st)) ++ ((airW ad 8 cy h su 0 0 0 (fun _ => 0) (fun _ => 0) (dnD h 0) (dnE h (fun _ => 0)) (dnF h su 0)) ++ ((grdW ad 15 cy sea noi) ++ ((rayW ad 18 cy (ur 0) (ur 1) (ur 2) (ur 3) (ur 4) (ur 5) (ur 6) (ur 7)) ++ ((sndW ad 19 cy 12 sn pl pw an hd fq) ++ ((sndW ad 25 cy 6 bn bp bw ban bhd bo) ++ ((conW ad 31 cy cm c1 c2 c3 c4 c5) ++ ((entW ad 37 cy em ep e1 e2 e3 e4 e5) ++ (outW od 0 cy o))))))))))) := hD
      exfalso
      omega
    ·
      have hP : va_P D vwCl (mdlW bd 0 cy 1 h su st sh fl 0 sn bn fm fr cm em lg le lf dl cS cH sea noi pl pw an hd bp bo bw c1 c2 c3 c4 c5 e1 e2 e3 e4 e5) H := hP
      have hD : va_D (fun q => z0 ≤ q) ((mdlW bd 0 cy 1 h su st sh fl 0 sn bn fm fr cm em lg le lf dl cS cH sea noi pl pw an hd bp bo bw c1 c2 c3 c4 c5 e1 e2 e3 e4 e5) ++ ((rooW ad 0 cy fm fr) ++ ((airW ad 1 cy h su st sh fl cS cH (dnD h fl) (dnE h cS) (dnF h su st)) ++ ((airW ad 8 cy h su 0 0 0 (fun _ => 0) (fun _ => 0) (dnD h 0) (dnE h (fun _ => 0)) (dnF h su 0)) ++ ((grdW ad 15 cy sea noi) ++ ((rayW ad 18 cy (ur 0) (ur 1) (ur 2) (ur 3) (ur 4) (ur 5) (ur 6) (ur 7)) ++ ((sndW ad 19 cy 12 sn pl pw an hd fq) ++ ((sndW ad 25 cy 6 bn bp bw ban bhd bo) ++ ((conW ad 31 cy cm c1 c2 c3 c4 c5) ++ ((entW ad 37 cy em ep e1 e2 e3 e4 e5) ++ (outW od 0 cy o))))))))))) := hD
      refine lv_istore (lv' := [(6, .int (iI 0)), (5, .int (iI 1)), (0, .ref (b)), (1, .ref (ad 0)), (2, .ref (bd 0)), (3, .ref (od 0)), (4, .int (iI i))]) M.1 M.2.1 dL_law_742 hl (by decide) rfl (fun ls hl => ?_)
      refine lv_aload_n M.1 M.2.1 dL_law_744 rfl (lv_at hl 4 rfl) ?_
      refine z_cR (z_runV (As := []) (rest := []) M (c_X7_thrown l D cy z0 bd 1 h su st sh fl 0 sn bn fm fr cm em lg le lf dl cS cH sea noi pl pw an hd bp bo bw c1 c2 c3 c4 c5 e1 e2 e3 e4 e5) hE hS hAz hP (zRc.of (ci := 7) (q0 := 0) hE hP rfl rfl) zk_cd_X7_thrown zk_in_RX7 zk_im_X7_thrown zk_se_X7_thrown zk_ml_RL_116 rfl rfl zd_X7_thrown ⟨by decide, by decide⟩ rfl hl.1 rfl (Nat.le_of_ble_eq_true rfl) dL_law_745 ⟨by show _ ≤ 601024; omega, by show _ ≤ 7293034; omega⟩) ?_
      refine lv_iload M.1 M.2.1 dL_law_748 (lv_at hl 1 rfl) ?_
      refine zi_same (tgt := 755) M dL_law_750 (by decide) ?_
      refine lv_iload M.1 M.2.1 dL_law_755 (lv_at hl 1 rfl) ?_
      refine zi_if_ne (tgt := 772) M dL_law_757 (by decide) ⟨by decide, by decide⟩ (fun _ => ?_) (fun q => absurd q (by decide))
      refine zi_goto (tgt := 2286) M dL_law_772 (by decide) ?_
      have hPx := hP
      have hP := hPm
      have hPm := hPx
      have hD := zD_c hD
      refine W.widen (k := cells + 6) (n := slots + 36) (by omega) (by omega) ?_
      exact hback h su st sh fl sn bn cm em ep fm fr 1 o lg le lf dl cS cH sea noi pl pw an hd fq bp bw ban bhd bo c1 c2 c3 c4 c5 e1 e2 e3 e4 e5 ur h_h h_su h_st h_sh h_fl h_sn h_bn h_cm h_em g_cS g_cH g_sea g_noi g_pl g_pw g_an g_hd g_bp g_bw g_ban g_bhd g_c1 g_c2 g_c3 g_c4 g_c5 g_e1 g_e2 g_e3 g_e4 g_e5 hbo hep H locs hP hPm hD hS ls (lv_sub hl [2, 3, 4, 5, 6] rfl)
    ·
      have hP : va_P D vwCl (mdlW bd 0 cy 2 h su st sh fl 0 sn bn fm fr cm em lg le lf dl cS cH sea noi pl pw an hd bp bo bw c1 c2 c3 c4 c5 e1 e2 e3 e4 e5) H := hP
      have hD : va_D (fun q => z0 ≤ q) ((mdlW bd 0 cy 2 h su st sh fl 0 sn bn fm fr cm em lg le lf dl cS cH sea noi pl pw an hd bp bo bw c1 c2 c3 c4 c5 e1 e2 e3 e4 e5) ++ ((rooW ad 0 cy fm fr) ++ ((airW ad 1 cy h su st sh fl cS cH (dnD h fl) (dnE h cS) (dnF h su st)) ++ ((airW ad 8 cy h su 0 0 0 (fun _ => 0) (fun _ => 0) (dnD h 0) (dnE h (fun _ => 0)) (dnF h su 0)) ++ ((grdW ad 15 cy sea noi) ++ ((rayW ad 18 cy (ur 0) (ur 1) (ur 2) (ur 3) (ur 4) (ur 5) (ur 6) (ur 7)) ++ ((sndW ad 19 cy 12 sn pl pw an hd fq) ++ ((sndW ad 25 cy 6 bn bp bw ban bhd bo) ++ ((conW ad 31 cy cm c1 c2 c3 c4 c5) ++ ((entW ad 37 cy em ep e1 e2 e3 e4 e5) ++ (outW od 0 cy o))))))))))) := hD
      exfalso
      omega
    ·
      have hP : va_P D vwCl (mdlW bd 0 cy 3 h su st sh fl 0 sn bn fm fr cm em lg le lf dl cS cH sea noi pl pw an hd bp bo bw c1 c2 c3 c4 c5 e1 e2 e3 e4 e5) H := hP
      have hD : va_D (fun q => z0 ≤ q) ((mdlW bd 0 cy 3 h su st sh fl 0 sn bn fm fr cm em lg le lf dl cS cH sea noi pl pw an hd bp bo bw c1 c2 c3 c4 c5 e1 e2 e3 e4 e5) ++ ((rooW ad 0 cy fm fr) ++ ((airW ad 1 cy h su st sh fl cS cH (dnD h fl) (dnE h cS) (dnF h su st)) ++ ((airW ad 8 cy h su 0 0 0 (fun _ => 0) (fun _ => 0) (dnD h 0) (dnE h (fun _ => 0)) (dnF h su 0)) ++ ((grdW ad 15 cy sea noi) ++ ((rayW ad 18 cy (ur 0) (ur 1) (ur 2) (ur 3) (ur 4) (ur 5) (ur 6) (ur 7)) ++ ((sndW ad 19 cy 12 sn pl pw an hd fq) ++ ((sndW ad 25 cy 6 bn bp bw ban bhd bo) ++ ((conW ad 31 cy cm c1 c2 c3 c4 c5) ++ ((entW ad 37 cy em ep e1 e2 e3 e4 e5) ++ (outW od 0 cy o))))))))))) := hD
      exfalso
      omega
  ·
    have hw_4 := hv_4.symm
    subst hw_4
    have hP : va_P D vwCl ((rooW ad 0 cy fm fr) ++ ((airW ad 1 cy h su st sh fl cS cH (dnD h fl) (dnE h cS) (dnF h su st)) ++ ((airW ad 8 cy h su 0 0 0 (fun _ => 0) (fun _ => 0) (dnD h 0) (dnE h (fun _ => 0)) (dnF h su 0)) ++ ((grdW ad 15 cy sea noi) ++ ((rayW ad 18 cy (ur 0) (ur 1) (ur 2) (ur 3) (ur 4) (ur 5) (ur 6) (ur 7)) ++ ((sndW ad 19 cy 12 sn pl pw an hd fq) ++ ((sndW ad 25 cy 6 bn bp bw ban bhd bo) ++ ((conW ad 31 cy cm c1 c2 c3 c4 c5) ++ ((entW ad 37 cy em ep e1 e2 e3 e4 e5) ++ (outW od 0 cy o)))))))))) H := hP
    have hD : va_D (fun q => z0 ≤ q) (((rooW ad 0 cy fm fr) ++ ((airW ad 1 cy h su st sh fl cS cH (dnD h fl) (dnE h cS) (dnF h su st)) ++ ((airW ad 8 cy h su 0 0 0 (fun _ => 0) (fun _ => 0) (dnD h 0) (dnE h (fun _ => 0)) (dnF h su 0)) ++ ((grdW ad 15 cy sea noi) ++ ((rayW ad 18 cy (ur 0) (ur 1) (ur 2) (ur 3) (ur 4) (ur 5) (ur 6) (ur 7)) ++ ((sndW ad 19 cy 12 sn pl pw an hd fq) ++ ((sndW ad 25 cy 6 bn bp bw ban bhd bo) ++ ((conW ad 31 cy cm c1 c2 c3 c4 c5) ++ ((entW ad 37 cy em ep e1 e2 e3 e4 e5) ++ (outW od 0 cy o)))))))))) ++ (mdlW bd 0 cy th h su st sh fl 0 sn bn fm fr cm em lg le lf dl cS cH sea noi pl pw an hd bp bo bw c1 c2 c3 c4 c5 e1 e2 e3 e4 e5)) := hD
    refine lv_istore (lv' := [(5, .int (iI 2)), (0, .ref (b)), (1, .ref (ad 0)), (2, .ref (bd 0)), (3, .ref (od 0)), (4, .int (iI i))]) M.1 M.2.1 dL_law_718 hl (by decide) rfl (fun ls hl => ?_)
    refine lv_aload_n M.1 M.2.1 dL_law_720 rfl (lv_at hl 3 rfl) ?_
    refine lv_aload_n M.1 M.2.1 dL_law_721 rfl (lv_at hl 1 rfl) ?_
    refine lv_iload M.1 M.2.1 dL_law_722 (lv_at hl 5 rfl) ?_
    refine zi_push M dL_law_724 ?_
    refine zi_iadd M dL_law_725 ?_
    refine zi_sld M hX hbl hbA hS hL (by omega) (by omega) dL_law_726 ?_
    have hx_13 := xZ_rg xs (i + 1)
    refine lv_aload_n M.1 M.2.1 dL_law_727 rfl (lv_at hl 1 rfl) ?_
    refine lv_iload M.1 M.2.1 dL_law_728 (lv_at hl 5 rfl) ?_
    refine zi_push M dL_law_730 ?_
    refine zi_iadd M dL_law_731 ?_
    refine zi_sld M hX hbl hbA hS hL (by omega) (by omega) dL_law_732 ?_
    have hx_14 := xZ_rg xs (i + 2)
    refine lv_aload_n M.1 M.2.1 dL_law_733 rfl (lv_at hl 1 rfl) ?_
    refine lv_iload M.1 M.2.1 dL_law_734 (lv_at hl 5 rfl) ?_
    refine zi_push M dL_law_736 ?_
    refine zi_iadd M dL_law_737 ?_
    refine zi_sld M hX hbl hbA hS hL (by omega) (by omega) dL_law_738 ?_
    have hx_15 := xZ_rg xs (i + 3)
    have hPx := hP
    have hP := hPm
    have hPm := hPx
    have hD := zD_c hD
    refine z_cW2 (z_runV (As := [.int (iI (xZ xs (i + 1))), .int (iI (xZ xs (i + 2))), .int (iI (xZ xs (i + 3)))]) (rest := []) M (c_X7_beacon l D cy z0 bd th h su st sh fl 0 sn bn fm fr cm em lg le lf dl cS cH sea noi pl pw an hd bp bo bw c1 c2 c3 c4 c5 e1 e2 e3 e4 e5 (xZ xs (i + 1)) (xZ xs (i + 2)) (xZ xs (i + 3)) (by omega) (by omega) (by omega) (by omega)) hE hS hAz (z_cut hP (zD_l hD) hAz [0, 1, 2, 3, 4, 5, 6, 7, 8, 9, 10, 11, 12, 13, 14, 15, 16, 17, 18, 19, 20, 21] rfl (by decide +kernel)) (zRc.of (ci := 7) (q0 := 0) hE hP rfl rfl) zk_cd_X7_beacon zk_in_RX7 zk_im_X7_beacon zk_se_X7_beacon zk_ml_RL_149 rfl rfl zd_X7_beacon ⟨by decide, by decide⟩ rfl hl.1 rfl (Nat.le_of_ble_eq_true rfl) dL_law_739 ⟨by show _ ≤ 601024; omega, by show _ ≤ 7293034; omega⟩) hP hPm hD hS [0, 1, 2, 3, 4, 5, 6, 7, 8, 9, 10, 11, 12, 13, 14, 15, 16, 17, 18, 19, 20, 21] rfl (fun _ => by simp only [List.map_append, mdlW_adr]) (fun r_16 u_16 H locs hp_16 hP hPm hD hS => ?_)
    try simp only [mdD_0, mdE_0, mdF_0, mdD_1, mdE_1, mdF_1] at hp_16
    have hP : va_P D vwCl (mdlW bd 0 cy u_16 h su st sh fl 0 sn (if u_16 = 0 then (bn + 1) else bn) fm fr cm em lg le lf dl cS cH sea noi pl pw an hd (if u_16 = 0 then (zu bp bn (xZ xs (i + 1))) else bp) (if u_16 = 0 then (zu bo bn (xZ xs (i + 2))) else bo) (if u_16 = 0 then (zu bw bn (xZ xs (i + 3))) else bw) c1 c2 c3 c4 c5 e1 e2 e3 e4 e5) H := hP
    have hD : va_D (fun q => z0 ≤ q) ((mdlW bd 0 cy u_16 h su st sh fl 0 sn (if u_16 = 0 then (bn + 1) else bn) fm fr cm em lg le lf dl cS cH sea noi pl pw an hd (if u_16 = 0 then (zu bp bn (xZ xs (i + 1))) else bp) (if u_16 = 0 then (zu bo bn (xZ xs (i + 2))) else bo) (if u_16 = 0 then (zu bw bn (xZ xs (i + 3))) else bw) c1 c2 c3 c4 c5 e1 e2 e3 e4 e5) ++ ((rooW ad 0 cy fm fr) ++ ((airW ad 1 cy h su st sh fl cS cH (dnD h fl) (dnE h cS) (dnF h su st)) ++ ((airW ad 8 cy h su 0 0 0 (fun _ => 0) (fun _ => 0) (dnD h 0) (dnE h (fun _ => 0)) (dnF h su 0)) ++ ((grdW ad 15 cy sea noi) ++ ((rayW ad 18 cy (ur 0) (ur 1) (ur 2) (ur 3) (ur 4) (ur 5) (ur 6) (ur 7)) ++ ((sndW ad 19 cy 12 sn pl pw an hd fq) ++ ((sndW ad 25 cy 6 bn bp bw ban bhd bo) ++ ((conW ad 31 cy cm c1 c2 c3 c4 c5) ++ ((entW ad 37 cy em ep e1 e2 e3 e4 e5) ++ (outW od 0 cy o))))))))))) := hD
    rcases hp_16 with ⟨rfl, hN_16, rfl⟩ | ⟨rfl, hN_16, rfl⟩ | ⟨rfl, hN_16, rfl⟩ | ⟨rfl, hN_16, rfl⟩
    ·
      have hP : va_P D vwCl (mdlW bd 0 cy 0 h su st sh fl 0 sn (bn + 1) fm fr cm em lg le lf dl cS cH sea noi pl pw an hd (zu bp bn (xZ xs (i + 1))) (zu bo bn (xZ xs (i + 2))) (zu bw bn (xZ xs (i + 3))) c1 c2 c3 c4 c5 e1 e2 e3 e4 e5) H := hP
      have hD : va_D (fun q => z0 ≤ q) ((mdlW bd 0 cy 0 h su st sh fl 0 sn (bn + 1) fm fr cm em lg le lf dl cS cH sea noi pl pw an hd (zu bp bn (xZ xs (i + 1))) (zu bo bn (xZ xs (i + 2))) (zu bw bn (xZ xs (i + 3))) c1 c2 c3 c4 c5 e1 e2 e3 e4 e5) ++ ((rooW ad 0 cy fm fr) ++ ((airW ad 1 cy h su st sh fl cS cH (dnD h fl) (dnE h cS) (dnF h su st)) ++ ((airW ad 8 cy h su 0 0 0 (fun _ => 0) (fun _ => 0) (dnD h 0) (dnE h (fun _ => 0)) (dnF h su 0)) ++ ((grdW ad 15 cy sea noi) ++ ((rayW ad 18 cy (ur 0) (ur 1) (ur 2) (ur 3) (ur 4) (ur 5) (ur 6) (ur 7)) ++ ((sndW ad 19 cy 12 sn pl pw an hd fq) ++ ((sndW ad 25 cy 6 bn bp bw ban bhd bo) ++ ((conW ad 31 cy cm c1 c2 c3 c4 c5) ++ ((entW ad 37 cy em ep e1 e2 e3 e4 e5) ++ (outW od 0 cy o))))))))))) := hD
      exfalso
      omega
    ·
      have hP : va_P D vwCl (mdlW bd 0 cy 1 h su st sh fl 0 sn bn fm fr cm em lg le lf dl cS cH sea noi pl pw an hd bp bo bw c1 c2 c3 c4 c5 e1 e2 e3 e4 e5) H := hP
      have hD : va_D (fun q => z0 ≤ q) ((mdlW bd 0 cy 1 h su st sh fl 0 sn bn fm fr cm em lg le lf dl cS cH sea noi pl pw an hd bp bo bw c1 c2 c3 c4 c5 e1 e2 e3 e4 e5) ++ ((rooW ad 0 cy fm fr) ++ ((airW ad 1 cy h su st sh fl cS cH (dnD h fl) (dnE h cS) (dnF h su st)) ++ ((airW ad 8 cy h su 0 0 0 (fun _ => 0) (fun _ => 0) (dnD h 0) (dnE h (fun _ => 0)) (dnF h su 0)) ++ ((grdW ad 15 cy sea noi) ++ ((rayW ad 18 cy (ur 0) (ur 1) (ur 2) (ur 3) (ur 4) (ur 5) (ur 6) (ur 7)) ++ ((sndW ad 19 cy 12 sn pl pw an hd fq) ++ ((sndW ad 25 cy 6 bn bp bw ban bhd bo) ++ ((conW ad 31 cy cm c1 c2 c3 c4 c5) ++ ((entW ad 37 cy em ep e1 e2 e3 e4 e5) ++ (outW od 0 cy o))))))))))) := hD
      exfalso
      omega
    ·
      have hP : va_P D vwCl (mdlW bd 0 cy 2 h su st sh fl 0 sn bn fm fr cm em lg le lf dl cS cH sea noi pl pw an hd bp bo bw c1 c2 c3 c4 c5 e1 e2 e3 e4 e5) H := hP
      have hD : va_D (fun q => z0 ≤ q) ((mdlW bd 0 cy 2 h su st sh fl 0 sn bn fm fr cm em lg le lf dl cS cH sea noi pl pw an hd bp bo bw c1 c2 c3 c4 c5 e1 e2 e3 e4 e5) ++ ((rooW ad 0 cy fm fr) ++ ((airW ad 1 cy h su st sh fl cS cH (dnD h fl) (dnE h cS) (dnF h su st)) ++ ((airW ad 8 cy h su 0 0 0 (fun _ => 0) (fun _ => 0) (dnD h 0) (dnE h (fun _ => 0)) (dnF h su 0)) ++ ((grdW ad 15 cy sea noi) ++ ((rayW ad 18 cy (ur 0) (ur 1) (ur 2) (ur 3) (ur 4) (ur 5) (ur 6) (ur 7)) ++ ((sndW ad 19 cy 12 sn pl pw an hd fq) ++ ((sndW ad 25 cy 6 bn bp bw ban bhd bo) ++ ((conW ad 31 cy cm c1 c2 c3 c4 c5) ++ ((entW ad 37 cy em ep e1 e2 e3 e4 e5) ++ (outW od 0 cy o))))))))))) := hD
      refine lv_istore (lv' := [(6, .int (iI 0)), (5, .int (iI 2)), (0, .ref (b)), (1, .ref (ad 0)), (2, .ref (bd 0)), (3, .ref (od 0)), (4, .int (iI i))]) M.1 M.2.1 dL_law_742 hl (by decide) rfl (fun ls hl => ?_)
      refine lv_aload_n M.1 M.2.1 dL_law_744 rfl (lv_at hl 4 rfl) ?_
      refine z_cR (z_runV (As := []) (rest := []) M (c_X7_thrown l D cy z0 bd 2 h su st sh fl 0 sn bn fm fr cm em lg le lf dl cS cH sea noi pl pw an hd bp bo bw c1 c2 c3 c4 c5 e1 e2 e3 e4 e5) hE hS hAz hP (zRc.of (ci := 7) (q0 := 0) hE hP rfl rfl) zk_cd_X7_thrown zk_in_RX7 zk_im_X7_thrown zk_se_X7_thrown zk_ml_RL_116 rfl rfl zd_X7_thrown ⟨by decide, by decide⟩ rfl hl.1 rfl (Nat.le_of_ble_eq_true rfl) dL_law_745 ⟨by show _ ≤ 601024; omega, by show _ ≤ 7293034; omega⟩) ?_
      refine lv_iload M.1 M.2.1 dL_law_748 (lv_at hl 1 rfl) ?_
      refine zi_same (tgt := 755) M dL_law_750 (by decide) ?_
      refine lv_iload M.1 M.2.1 dL_law_755 (lv_at hl 1 rfl) ?_
      refine zi_if_ne (tgt := 772) M dL_law_757 (by decide) ⟨by decide, by decide⟩ (fun _ => ?_) (fun q => absurd q (by decide))
      refine zi_goto (tgt := 2286) M dL_law_772 (by decide) ?_
      have hPx := hP
      have hP := hPm
      have hPm := hPx
      have hD := zD_c hD
      refine W.widen (k := cells + 6) (n := slots + 36) (by omega) (by omega) ?_
      exact hback h su st sh fl sn bn cm em ep fm fr 2 o lg le lf dl cS cH sea noi pl pw an hd fq bp bw ban bhd bo c1 c2 c3 c4 c5 e1 e2 e3 e4 e5 ur h_h h_su h_st h_sh h_fl h_sn h_bn h_cm h_em g_cS g_cH g_sea g_noi g_pl g_pw g_an g_hd g_bp g_bw g_ban g_bhd g_c1 g_c2 g_c3 g_c4 g_c5 g_e1 g_e2 g_e3 g_e4 g_e5 hbo hep H locs hP hPm hD hS ls (lv_sub hl [2, 3, 4, 5, 6] rfl)
    ·
      have hP : va_P D vwCl (mdlW bd 0 cy 3 h su st sh fl 0 sn bn fm fr cm em lg le lf dl cS cH sea noi pl pw an hd bp bo bw c1 c2 c3 c4 c5 e1 e2 e3 e4 e5) H := hP
      have hD : va_D (fun q => z0 ≤ q) ((mdlW bd 0 cy 3 h su st sh fl 0 sn bn fm fr cm em lg le lf dl cS cH sea noi pl pw an hd bp bo bw c1 c2 c3 c4 c5 e1 e2 e3 e4 e5) ++ ((rooW ad 0 cy fm fr) ++ ((airW ad 1 cy h su st sh fl cS cH (dnD h fl) (dnE h cS) (dnF h su st)) ++ ((airW ad 8 cy h su 0 0 0 (fun _ => 0) (fun _ => 0) (dnD h 0) (dnE h (fun _ => 0)) (dnF h su 0)) ++ ((grdW ad 15 cy sea noi) ++ ((rayW ad 18 cy (ur 0) (ur 1) (ur 2) (ur 3) (ur 4) (ur 5) (ur 6) (ur 7)) ++ ((sndW ad 19 cy 12 sn pl pw an hd fq) ++ ((sndW ad 25 cy 6 bn bp bw ban bhd bo) ++ ((conW ad 31 cy cm c1 c2 c3 c4 c5) ++ ((entW ad 37 cy em ep e1 e2 e3 e4 e5) ++ (outW od 0 cy o))))))))))) := hD
      exfalso
      omega
  ·
    have hw_4 := hv_4.symm
    subst hw_4
    have hP : va_P D vwCl ((rooW ad 0 cy fm fr) ++ ((airW ad 1 cy h su st sh fl cS cH (dnD h fl) (dnE h cS) (dnF h su st)) ++ ((airW ad 8 cy h su 0 0 0 (fun _ => 0) (fun _ => 0) (dnD h 0) (dnE h (fun _ => 0)) (dnF h su 0)) ++ ((grdW ad 15 cy sea noi) ++ ((rayW ad 18 cy (ur 0) (ur 1) (ur 2) (ur 3) (ur 4) (ur 5) (ur 6) (ur 7)) ++ ((sndW ad 19 cy 12 sn pl pw an hd fq) ++ ((sndW ad 25 cy 6 bn bp bw ban bhd bo) ++ ((conW ad 31 cy cm c1 c2 c3 c4 c5) ++ ((entW ad 37 cy em ep e1 e2 e3 e4 e5) ++ (outW od 0 cy o)))))))))) H := hP
    have hD : va_D (fun q => z0 ≤ q) (((rooW ad 0 cy fm fr) ++ ((airW ad 1 cy h su st sh fl cS cH (dnD h fl) (dnE h cS) (dnF h su st)) ++ ((airW ad 8 cy h su 0 0 0 (fun _ => 0) (fun _ => 0) (dnD h 0) (dnE h (fun _ => 0)) (dnF h su 0)) ++ ((grdW ad 15 cy sea noi) ++ ((rayW ad 18 cy (ur 0) (ur 1) (ur 2) (ur 3) (ur 4) (ur 5) (ur 6) (ur 7)) ++ ((sndW ad 19 cy 12 sn pl pw an hd fq) ++ ((sndW ad 25 cy 6 bn bp bw ban bhd bo) ++ ((conW ad 31 cy cm c1 c2 c3 c4 c5) ++ ((entW ad 37 cy em ep e1 e2 e3 e4 e5) ++ (outW od 0 cy o)))))))))) ++ (mdlW bd 0 cy th h su st sh fl 0 sn bn fm fr cm em lg le lf dl cS cH sea noi pl pw an hd bp bo bw c1 c2 c3 c4 c5 e1 e2 e3 e4 e5)) := hD
    refine lv_istore (lv' := [(5, .int (iI 3)), (0, .ref (b)), (1, .ref (ad 0)), (2, .ref (bd 0)), (3, .ref (od 0)), (4, .int (iI i))]) M.1 M.2.1 dL_law_718 hl (by decide) rfl (fun ls hl => ?_)
    refine lv_aload_n M.1 M.2.1 dL_law_720 rfl (lv_at hl 3 rfl) ?_
    refine lv_aload_n M.1 M.2.1 dL_law_721 rfl (lv_at hl 1 rfl) ?_
    refine lv_iload M.1 M.2.1 dL_law_722 (lv_at hl 5 rfl) ?_
    refine zi_push M dL_law_724 ?_
    refine zi_iadd M dL_law_725 ?_
    refine zi_sld M hX hbl hbA hS hL (by omega) (by omega) dL_law_726 ?_
    have hx_17 := xZ_rg xs (i + 1)
    refine lv_aload_n M.1 M.2.1 dL_law_727 rfl (lv_at hl 1 rfl) ?_
    refine lv_iload M.1 M.2.1 dL_law_728 (lv_at hl 5 rfl) ?_
    refine zi_push M dL_law_730 ?_
    refine zi_iadd M dL_law_731 ?_
    refine zi_sld M hX hbl hbA hS hL (by omega) (by omega) dL_law_732 ?_
    have hx_18 := xZ_rg xs (i + 2)
    refine lv_aload_n M.1 M.2.1 dL_law_733 rfl (lv_at hl 1 rfl) ?_
    refine lv_iload M.1 M.2.1 dL_law_734 (lv_at hl 5 rfl) ?_
    refine zi_push M dL_law_736 ?_
    refine zi_iadd M dL_law_737 ?_
    refine zi_sld M hX hbl hbA hS hL (by omega) (by omega) dL_law_738 ?_
    have hx_19 := xZ_rg xs (i + 3)
    have hPx := hP
    have hP := hPm
    have hPm := hPx
    have hD := zD_c hD
    refine z_cW2 (z_runV (As := [.int (iI (xZ xs (i + 1))), .int (iI (xZ xs (i + 2))), .int (iI (xZ xs (i + 3)))]) (rest := []) M (c_X7_beacon l D cy z0 bd th h su st sh fl 0 sn bn fm fr cm em lg le lf dl cS cH sea noi pl pw an hd bp bo bw c1 c2 c3 c4 c5 e1 e2 e3 e4 e5 (xZ xs (i + 1)) (xZ xs (i + 2)) (xZ xs (i + 3)) (by omega) (by omega) (by omega) (by omega)) hE hS hAz (z_cut hP (zD_l hD) hAz [0, 1, 2, 3, 4, 5, 6, 7, 8, 9, 10, 11, 12, 13, 14, 15, 16, 17, 18, 19, 20, 21] rfl (by decide +kernel)) (zRc.of (ci := 7) (q0 := 0) hE hP rfl rfl) zk_cd_X7_beacon zk_in_RX7 zk_im_X7_beacon zk_se_X7_beacon zk_ml_RL_149 rfl rfl zd_X7_beacon ⟨by decide, by decide⟩ rfl hl.1 rfl (Nat.le_of_ble_eq_true rfl) dL_law_739 ⟨by show _ ≤ 601024; omega, by show _ ≤ 7293034; omega⟩) hP hPm hD hS [0, 1, 2, 3, 4, 5, 6, 7, 8, 9, 10, 11, 12, 13, 14, 15, 16, 17, 18, 19, 20, 21] rfl (fun _ => by simp only [List.map_append, mdlW_adr]) (fun r_20 u_20 H locs hp_20 hP hPm hD hS => ?_)
    try simp only [mdD_0, mdE_0, mdF_0, mdD_1, mdE_1, mdF_1] at hp_20
    have hP : va_P D vwCl (mdlW bd 0 cy u_20 h su st sh fl 0 sn (if u_20 = 0 then (bn + 1) else bn) fm fr cm em lg le lf dl cS cH sea noi pl pw an hd (if u_20 = 0 then (zu bp bn (xZ xs (i + 1))) else bp) (if u_20 = 0 then (zu bo bn (xZ xs (i + 2))) else bo) (if u_20 = 0 then (zu bw bn (xZ xs (i + 3))) else bw) c1 c2 c3 c4 c5 e1 e2 e3 e4 e5) H := hP
    have hD : va_D (fun q => z0 ≤ q) ((mdlW bd 0 cy u_20 h su st sh fl 0 sn (if u_20 = 0 then (bn + 1) else bn) fm fr cm em lg le lf dl cS cH sea noi pl pw an hd (if u_20 = 0 then (zu bp bn (xZ xs (i + 1))) else bp) (if u_20 = 0 then (zu bo bn (xZ xs (i + 2))) else bo) (if u_20 = 0 then (zu bw bn (xZ xs (i + 3))) else bw) c1 c2 c3 c4 c5 e1 e2 e3 e4 e5) ++ ((rooW ad 0 cy fm fr) ++ ((airW ad 1 cy h su st sh fl cS cH (dnD h fl) (dnE h cS) (dnF h su st)) ++ ((airW ad 8 cy h su 0 0 0 (fun _ => 0) (fun _ => 0) (dnD h 0) (dnE h (fun _ => 0)) (dnF h su 0)) ++ ((grdW ad 15 cy sea noi) ++ ((rayW ad 18 cy (ur 0) (ur 1) (ur 2) (ur 3) (ur 4) (ur 5) (ur 6) (ur 7)) ++ ((sndW ad 19 cy 12 sn pl pw an hd fq) ++ ((sndW ad 25 cy 6 bn bp bw ban bhd bo) ++ ((conW ad 31 cy cm c1 c2 c3 c4 c5) ++ ((entW ad 37 cy em ep e1 e2 e3 e4 e5) ++ (outW od 0 cy o))))))))))) := hD
    rcases hp_20 with ⟨rfl, hN_20, rfl⟩ | ⟨rfl, hN_20, rfl⟩ | ⟨rfl, hN_20, rfl⟩ | ⟨rfl, hN_20, rfl⟩
    ·
      have hP : va_P D vwCl (mdlW bd 0 cy 0 h su st sh fl 0 sn (bn + 1) fm fr cm em lg le lf dl cS cH sea noi pl pw an hd (zu bp bn (xZ xs (i + 1))) (zu bo bn (xZ xs (i + 2))) (zu bw bn (xZ xs (i + 3))) c1 c2 c3 c4 c5 e1 e2 e3 e4 e5) H := hP
      have hD : va_D (fun q => z0 ≤ q) ((mdlW bd 0 cy 0 h su st sh fl 0 sn (bn + 1) fm fr cm em lg le lf dl cS cH sea noi pl pw an hd (zu bp bn (xZ xs (i + 1))) (zu bo bn (xZ xs (i + 2))) (zu bw bn (xZ xs (i + 3))) c1 c2 c3 c4 c5 e1 e2 e3 e4 e5) ++ ((rooW ad 0 cy fm fr) ++ ((airW ad 1 cy h su st sh fl cS cH (dnD h fl) (dnE h cS) (dnF h su st)) ++ ((airW ad 8 cy h su 0 0 0 (fun _ => 0) (fun _ => 0) (dnD h 0) (dnE h (fun _ => 0)) (dnF h su 0)) ++ ((grdW ad 15 cy sea noi) ++ ((rayW ad 18 cy (ur 0) (ur 1) (ur 2) (ur 3) (ur 4) (ur 5) (ur 6) (ur 7)) ++ ((sndW ad 19 cy 12 sn pl pw an hd fq) ++ ((sndW ad 25 cy 6 bn bp bw ban bhd bo) ++ ((conW ad 31 cy cm c1 c2 c3 c4 c5) ++ ((entW ad 37 cy em ep e1 e2 e3 e4 e5) ++ (outW od 0 cy o))))))))))) := hD
      exfalso
      omega
    ·
      have hP : va_P D vwCl (mdlW bd 0 cy 1 h su st sh fl 0 sn bn fm fr cm em lg le lf dl cS cH sea noi pl pw an hd bp bo bw c1 c2 c3 c4 c5 e1 e2 e3 e4 e5) H := hP
      have hD : va_D (fun q => z0 ≤ q) ((mdlW bd 0 cy 1 h su st sh fl 0 sn bn fm fr cm em lg le lf dl cS cH sea noi pl pw an hd bp bo bw c1 c2 c3 c4 c5 e1 e2 e3 e4 e5) ++ ((rooW ad 0 cy fm fr) ++ ((airW ad 1 cy h su st sh fl cS cH (dnD h fl) (dnE h cS) (dnF h su st)) ++ ((airW ad 8 cy h su 0 0 0 (fun _ => 0) (fun _ => 0) (dnD h 0) (dnE h (fun _ => 0)) (dnF h su 0)) ++ ((grdW ad 15 cy sea noi) ++ ((rayW ad 18 cy (ur 0) (ur 1) (ur 2) (ur 3) (ur 4) (ur 5) (ur 6) (ur 7)) ++ ((sndW ad 19 cy 12 sn pl pw an hd fq) ++ ((sndW ad 25 cy 6 bn bp bw ban bhd bo) ++ ((conW ad 31 cy cm c1 c2 c3 c4 c5) ++ ((entW ad 37 cy em ep e1 e2 e3 e4 e5) ++ (outW od 0 cy o))))))))))) := hD
      exfalso
      omega
    ·
      have hP : va_P D vwCl (mdlW bd 0 cy 2 h su st sh fl 0 sn bn fm fr cm em lg le lf dl cS cH sea noi pl pw an hd bp bo bw c1 c2 c3 c4 c5 e1 e2 e3 e4 e5) H := hP
      have hD : va_D (fun q => z0 ≤ q) ((mdlW bd 0 cy 2 h su st sh fl 0 sn bn fm fr cm em lg le lf dl cS cH sea noi pl pw an hd bp bo bw c1 c2 c3 c4 c5 e1 e2 e3 e4 e5) ++ ((rooW ad 0 cy fm fr) ++ ((airW ad 1 cy h su st sh fl cS cH (dnD h fl) (dnE h cS) (dnF h su st)) ++ ((airW ad 8 cy h su 0 0 0 (fun _ => 0) (fun _ => 0) (dnD h 0) (dnE h (fun _ => 0)) (dnF h su 0)) ++ ((grdW ad 15 cy sea noi) ++ ((rayW ad 18 cy (ur 0) (ur 1) (ur 2) (ur 3) (ur 4) (ur 5) (ur 6) (ur 7)) ++ ((sndW ad 19 cy 12 sn pl pw an hd fq) ++ ((sndW ad 25 cy 6 bn bp bw ban bhd bo) ++ ((conW ad 31 cy cm c1 c2 c3 c4 c5) ++ ((entW ad 37 cy em ep e1 e2 e3 e4 e5) ++ (outW od 0 cy o))))))))))) := hD
      exfalso
      omega
    ·
      have hP : va_P D vwCl (mdlW bd 0 cy 3 h su st sh fl 0 sn bn fm fr cm em lg le lf dl cS cH sea noi pl pw an hd bp bo bw c1 c2 c3 c4 c5 e1 e2 e3 e4 e5) H := hP
      have hD : va_D (fun q => z0 ≤ q) ((mdlW bd 0 cy 3 h su st sh fl 0 sn bn fm fr cm em lg le lf dl cS cH sea noi pl pw an hd bp bo bw c1 c2 c3 c4 c5 e1 e2 e3 e4 e5) ++ ((rooW ad 0 cy fm fr) ++ ((airW ad 1 cy h su st sh fl cS cH (dnD h fl) (dnE h cS) (dnF h su st)) ++ ((airW ad 8 cy h su 0 0 0 (fun _ => 0) (fun _ => 0) (dnD h 0) (dnE h (fun _ => 0)) (dnF h su 0)) ++ ((grdW ad 15 cy sea noi) ++ ((rayW ad 18 cy (ur 0) (ur 1) (ur 2) (ur 3) (ur 4) (ur 5) (ur 6) (ur 7)) ++ ((sndW ad 19 cy 12 sn pl pw an hd fq) ++ ((sndW ad 25 cy 6 bn bp bw ban bhd bo) ++ ((conW ad 31 cy cm c1 c2 c3 c4 c5) ++ ((entW ad 37 cy em ep e1 e2 e3 e4 e5) ++ (outW od 0 cy o))))))))))) := hD
      refine lv_istore (lv' := [(6, .int (iI 0)), (5, .int (iI 3)), (0, .ref (b)), (1, .ref (ad 0)), (2, .ref (bd 0)), (3, .ref (od 0)), (4, .int (iI i))]) M.1 M.2.1 dL_law_742 hl (by decide) rfl (fun ls hl => ?_)
      refine lv_aload_n M.1 M.2.1 dL_law_744 rfl (lv_at hl 4 rfl) ?_
      refine z_cR (z_runV (As := []) (rest := []) M (c_X7_thrown l D cy z0 bd 3 h su st sh fl 0 sn bn fm fr cm em lg le lf dl cS cH sea noi pl pw an hd bp bo bw c1 c2 c3 c4 c5 e1 e2 e3 e4 e5) hE hS hAz hP (zRc.of (ci := 7) (q0 := 0) hE hP rfl rfl) zk_cd_X7_thrown zk_in_RX7 zk_im_X7_thrown zk_se_X7_thrown zk_ml_RL_116 rfl rfl zd_X7_thrown ⟨by decide, by decide⟩ rfl hl.1 rfl (Nat.le_of_ble_eq_true rfl) dL_law_745 ⟨by show _ ≤ 601024; omega, by show _ ≤ 7293034; omega⟩) ?_
      refine lv_iload M.1 M.2.1 dL_law_748 (lv_at hl 1 rfl) ?_
      refine zi_same (tgt := 755) M dL_law_750 (by decide) ?_
      refine lv_iload M.1 M.2.1 dL_law_755 (lv_at hl 1 rfl) ?_
      refine zi_if_ne (tgt := 772) M dL_law_757 (by decide) ⟨by decide, by decide⟩ (fun _ => ?_) (fun q => absurd q (by decide))
      refine zi_goto (tgt := 2286) M dL_law_772 (by decide) ?_
      have hPx := hP
      have hP := hPm
      have hPm := hPx
      have hD := zD_c hD
      refine W.widen (k := cells + 6) (n := slots + 36) (by omega) (by omega) ?_
      exact hback h su st sh fl sn bn cm em ep fm fr 3 o lg le lf dl cS cH sea noi pl pw an hd fq bp bw ban bhd bo c1 c2 c3 c4 c5 e1 e2 e3 e4 e5 ur h_h h_su h_st h_sh h_fl h_sn h_bn h_cm h_em g_cS g_cH g_sea g_noi g_pl g_pw g_an g_hd g_bp g_bw g_ban g_bhd g_c1 g_c2 g_c3 g_c4 g_c5 g_e1 g_e2 g_e3 g_e4 g_e5 hbo hep H locs hP hPm hD hS ls (lv_sub hl [2, 3, 4, 5, 6] rfl)

set_option maxRecDepth 100000 in
set_option maxHeartbeats 8000000 in
theorem lw_case9 (l : Launch) (D : va_G) (cy : Nat → ClassId) (z0 : Nat) (ad bd od : Nat → Nat) (p : Program) (e : Env) (s : State) (m : MethodId) (args : Array Value) (below : List Frame) (meth : Method) (c : Code) (b : Nat) (i : Int) (Q : State → Prop) (cells slots : Nat) (hst : l.stackTraces = false) (hL7 : ∀ q : Nat, q = 0 → True) (b_L : Nat) (xs : Nat → Int32) (M : zM p s m args c cL_law RL 7) (hE : zE D cy z0 s) (hN : zNc s) (hL : b_L ≤ 3584) (hX : va_X b b_L xs s s.heap) (hbl : b < s.heap.size) (hbA : ¬ z0 ≤ b) (hi : 0 ≤ i ∧ i + 7 ≤ b_L) (hc : cells + 6 ≤ 601024) (hs : slots + 36 ≤ 7293034) (hback : lwB l D cy z0 ad bd od p e s m args below meth c b i Q cells slots) (h su st sh fl sn bn cm em ep fm fr th o lg le lf dl : Int) (cS cH sea noi pl pw an hd fq bp bw ban bhd bo c1 c2 c3 c4 c5 e1 e2 e3 e4 e5 : Int → Int) (ur : Nat → Int) (h_h : 0 ≤ h ∧ h ≤ 5000) (h_su : 0 ≤ su ∧ su ≤ 100) (h_st : 0 ≤ st ∧ st ≤ 60) (h_sh : 0 ≤ sh ∧ sh ≤ 72) (h_fl : 0 ≤ fl ∧ fl ≤ 80) (h_sn : 0 ≤ sn ∧ sn ≤ 12) (h_bn : 0 ≤ bn ∧ bn ≤ 6) (h_cm : 0 ≤ cm ∧ cm ≤ 60) (h_em : 0 ≤ em ∧ em ≤ 80) (g_cS : zrg 48 0 100 cS) (g_cH : zrg 48 0 24 cH) (g_sea : zrg 48 0 1 sea) (g_noi : zrg 48 0 40 noi) (g_pl : zrg 12 0 47 pl) (g_pw : zrg 12 0 80 pw) (g_an : zrg 12 0 2 an) (g_hd : zrg 12 0 2 hd) (g_bp : zrg 6 0 47 bp) (g_bw : zrg 6 0 80 bw) (g_ban : zrg 6 0 2 ban) (g_bhd : zrg 6 0 2 bhd) (g_c1 : zrg 60 0 11 c1) (g_c2 : zrg 60 0 11 c2) (g_c3 : zrg 60 0 300 c3) (g_c4 : zrg 60 0 2 c4) (g_c5 : zrg 60 0 5000 c5) (g_e1 : zrg 80 0 11 e1) (g_e2 : zrg 80 0 11 e2) (g_e3 : zrg 80 0 300 e3) (g_e4 : zrg 80 0 5000 e4) (g_e5 : zrg 80 (-1) 79 e5) (hbo : ∀ n : Int, 0 ≤ n → n < bn → (10 ≤ bo n ∧ bo n ≤ 300) ∧ ban n = 2 ∧ bhd n = 2) (hep : ep = prF e5 em.toNat) (H : Heap) (locs : List Loc) (hP : va_P D vwCl ((rooW ad 0 cy fm fr) ++ ((airW ad 1 cy h su st sh fl cS cH (dnD h fl) (dnE h cS) (dnF h su st)) ++ ((airW ad 8 cy h su 0 0 0 (fun _ => 0) (fun _ => 0) (dnD h 0) (dnE h (fun _ => 0)) (dnF h su 0)) ++ ((grdW ad 15 cy sea noi) ++ ((rayW ad 18 cy (ur 0) (ur 1) (ur 2) (ur 3) (ur 4) (ur 5) (ur 6) (ur 7)) ++ ((sndW ad 19 cy 12 sn pl pw an hd fq) ++ ((sndW ad 25 cy 6 bn bp bw ban bhd bo) ++ ((conW ad 31 cy cm c1 c2 c3 c4 c5) ++ ((entW ad 37 cy em ep e1 e2 e3 e4 e5) ++ (outW od 0 cy o)))))))))) H) (hPm : va_P D vwCl (mdlW bd 0 cy th h su st sh fl 0 sn bn fm fr cm em lg le lf dl cS cH sea noi pl pw an hd bp bo bw c1 c2 c3 c4 c5 e1 e2 e3 e4 e5) H) (hD : va_D (fun q => z0 ≤ q) (((rooW ad 0 cy fm fr) ++ ((airW ad 1 cy h su st sh fl cS cH (dnD h fl) (dnE h cS) (dnF h su st)) ++ ((airW ad 8 cy h su 0 0 0 (fun _ => 0) (fun _ => 0) (dnD h 0) (dnE h (fun _ => 0)) (dnF h su 0)) ++ ((grdW ad 15 cy sea noi) ++ ((rayW ad 18 cy (ur 0) (ur 1) (ur 2) (ur 3) (ur 4) (ur 5) (ur 6) (ur 7)) ++ ((sndW ad 19 cy 12 sn pl pw an hd fq) ++ ((sndW ad 25 cy 6 bn bp bw ban bhd bo) ++ ((conW ad 31 cy cm c1 c2 c3 c4 c5) ++ ((entW ad 37 cy em ep e1 e2 e3 e4 e5) ++ (outW od 0 cy o)))))))))) ++ (mdlW bd 0 cy th h su st sh fl 0 sn bn fm fr cm em lg le lf dl cS cH sea noi pl pw an hd bp bo bw c1 c2 c3 c4 c5 e1 e2 e3 e4 e5))) (hS : va_S (fun q => z0 ≤ q) s.heap H locs) (ls : Array Slot) (hl : lv_has ls 7 [(0, .ref b), (1, .ref (ad 0)), (2, .ref (bd 0)), (3, .ref (od 0)), (4, .int (iI i))]) : W p l e room_1 s m args below meth c H locs (cells) (slots) Q (F0 m 775 ls []) := by
  have hAz : ∀ q : Nat, (fun q => z0 ≤ q) q → z0 ≤ q := fun _ h => h
  refine lv_aload_n M.1 M.2.1 dL_law_775 rfl (lv_at hl 1 rfl) ?_
  refine lv_aload_n M.1 M.2.1 dL_law_776 rfl (lv_at hl 0 rfl) ?_
  refine lv_iload M.1 M.2.1 dL_law_777 (lv_at hl 4 rfl) ?_
  refine zi_push M dL_law_779 ?_
  refine zi_iadd M dL_law_780 ?_
  refine zi_sld M hX hbl hbA hS hL (by omega) (by omega) dL_law_781 ?_
  have hx_1 := xZ_rg xs (i + 1)
  refine lv_aload_n M.1 M.2.1 dL_law_782 rfl (lv_at hl 0 rfl) ?_
  refine lv_iload M.1 M.2.1 dL_law_783 (lv_at hl 4 rfl) ?_
  refine zi_push M dL_law_785 ?_
  refine zi_iadd M dL_law_786 ?_
  refine zi_sld M hX hbl hbA hS hL (by omega) (by omega) dL_law_787 ?_
  have hx_2 := xZ_rg xs (i + 2)
  refine lv_aload_n M.1 M.2.1 dL_law_788 rfl (lv_at hl 0 rfl) ?_
  refine lv_iload M.1 M.2.1 dL_law_789 (lv_at hl 4 rfl) ?_
  refine zi_push M dL_law_791 ?_
  refine zi_iadd M dL_law_792 ?_
  refine zi_sld M hX hbl hbA hS hL (by omega) (by omega) dL_law_793 ?_
  have hx_3 := xZ_rg xs (i + 3)
  refine lv_aload_n M.1 M.2.1 dL_law_794 rfl (lv_at hl 0 rfl) ?_
  refine lv_iload M.1 M.2.1 dL_law_795 (lv_at hl 4 rfl) ?_
  refine zi_push M dL_law_797 ?_
  refine zi_iadd M dL_law_798 ?_
  refine zi_sld M hX hbl hbA hS hL (by omega) (by omega) dL_law_799 ?_
  have hx_4 := xZ_rg xs (i + 4)
  refine lv_aload_n M.1 M.2.1 dL_law_800 rfl (lv_at hl 3 rfl) ?_
  refine z_cW2 (zx_runH (As := [.ref (ad 0), .int (iI (xZ xs (i + 1))), .int (iI (xZ xs (i + 2))), .int (iI (xZ xs (i + 3))), .int (iI (xZ xs (i + 4))), .ref (od 0)]) (rest := []) M (c_L_call l hst D cy z0 ad od fm fr h su st sh fl (ur 0) (ur 1) (ur 2) (ur 3) (ur 4) (ur 5) (ur 6) (ur 7) sn cm o cS cH (dnD h fl) (dnE h cS) (dnF h su st) sea noi pl pw an hd fq c1 c2 c3 c4 c5 (xZ xs (i + 1)) (xZ xs (i + 2)) (xZ xs (i + 3)) (xZ xs (i + 4)) (by omega) (by omega) (by omega) (by omega) (dnD_rg h_fl) (dnE_rg g_cS) (dnF_rg h_su h_st) g_sea g_noi g_pl g_pw g_an g_hd (by omega) (by omega) (by omega)) hE hN hS hAz (z_cut hP (zD_l hD) hAz [0, 1, 2, 3, 4, 5, 6, 7, 15, 16, 17, 18, 19, 20, 21, 22, 23, 24, 31, 32, 33, 34, 35, 36, 43] rfl (by decide +kernel)) zk_cw_L_call zk_in_RL zk_st_L_call zk_ml_RL_150 rfl rfl zd_L_call ⟨by decide, by decide⟩ rfl hl.1 rfl (Nat.le_of_ble_eq_true rfl) dL_law_801 ⟨by show _ ≤ 601024; omega, by show _ ≤ 7293034; omega⟩) hP hPm hD hS [0, 1, 2, 3, 4, 5, 6, 7, 15, 16, 17, 18, 19, 20, 21, 22, 23, 24, 31, 32, 33, 34, 35, 36, 43] rfl (fun _ => by simp only [List.map_append, airW_adr, conW_adr, grdW_adr, outW_adr, rayW_adr, rooW_adr, sndW_adr]) (fun r_5 u_5 H locs hp_5 hP hPm hD hS => ?_)
  have hP : va_P D vwCl ((rooW ad 0 cy fm fr) ++ ((airW ad 1 cy h su st sh fl cS cH (dnD h fl) (dnE h cS) (dnF h su st)) ++ ((airW ad 8 cy h su 0 0 0 (fun _ => 0) (fun _ => 0) (dnD h 0) (dnE h (fun _ => 0)) (dnF h su 0)) ++ ((grdW ad 15 cy sea noi) ++ ((rayW ad 18 cy (u_5.2.2 0) (u_5.2.2 1) (u_5.2.2 2) (u_5.2.2 3) (u_5.2.2 4) (u_5.2.2 5) (u_5.2.2 6) (u_5.2.2 7)) ++ ((sndW ad 19 cy 12 sn pl pw an hd fq) ++ ((sndW ad 25 cy 6 bn bp bw ban bhd bo) ++ ((conW ad 31 cy (if u_5.1 = 0 then (zif (callP (dnE h cS) (dnF h su st) (dnD h fl) sea noi h pl pw an hd (xZ xs (i + 1)) (xZ xs (i + 2)) (xZ xs (i + 3)) (xZ xs (i + 4))) (cm + 1) cm) else cm) (if u_5.1 = 0 then (zifF (callP (dnE h cS) (dnF h su st) (dnD h fl) sea noi h pl pw an hd (xZ xs (i + 1)) (xZ xs (i + 2)) (xZ xs (i + 3)) (xZ xs (i + 4))) (zu c1 cm (xZ xs (i + 1))) c1) else c1) (if u_5.1 = 0 then (zifF (callP (dnE h cS) (dnF h su st) (dnD h fl) sea noi h pl pw an hd (xZ xs (i + 1)) (xZ xs (i + 2)) (xZ xs (i + 3)) (xZ xs (i + 4))) (zu c2 cm (xZ xs (i + 2))) c2) else c2) (if u_5.1 = 0 then (zifF (callP (dnE h cS) (dnF h su st) (dnD h fl) sea noi h pl pw an hd (xZ xs (i + 1)) (xZ xs (i + 2)) (xZ xs (i + 3)) (xZ xs (i + 4))) (zu c3 cm (xZ xs (i + 3))) c3) else c3) (if u_5.1 = 0 then (zifF (callP (dnE h cS) (dnF h su st) (dnD h fl) sea noi h pl pw an hd (xZ xs (i + 1)) (xZ xs (i + 2)) (xZ xs (i + 3)) (xZ xs (i + 4))) (zu c4 cm (xZ xs (i + 4))) c4) else c4) (if u_5.1 = 0 then (zifF (callP (dnE h cS) (dnF h su st) (dnD h fl) sea noi h pl pw an hd (xZ xs (i + 1)) (xZ xs (i + 2)) (xZ xs (i + 3)) (xZ xs (i + 4))) (zu c5 cm h) c5) else c5)) ++ ((entW ad 37 cy em ep e1 e2 e3 e4 e5) ++ (outW od 0 cy u_5.2.1)))))))))) H := hP
  have hD : va_D (fun q => z0 ≤ q) (((rooW ad 0 cy fm fr) ++ ((airW ad 1 cy h su st sh fl cS cH (dnD h fl) (dnE h cS) (dnF h su st)) ++ ((airW ad 8 cy h su 0 0 0 (fun _ => 0) (fun _ => 0) (dnD h 0) (dnE h (fun _ => 0)) (dnF h su 0)) ++ ((grdW ad 15 cy sea noi) ++ ((rayW ad 18 cy (u_5.2.2 0) (u_5.2.2 1) (u_5.2.2 2) (u_5.2.2 3) (u_5.2.2 4) (u_5.2.2 5) (u_5.2.2 6) (u_5.2.2 7)) ++ ((sndW ad 19 cy 12 sn pl pw an hd fq) ++ ((sndW ad 25 cy 6 bn bp bw ban bhd bo) ++ ((conW ad 31 cy (if u_5.1 = 0 then (zif (callP (dnE h cS) (dnF h su st) (dnD h fl) sea noi h pl pw an hd (xZ xs (i + 1)) (xZ xs (i + 2)) (xZ xs (i + 3)) (xZ xs (i + 4))) (cm + 1) cm) else cm) (if u_5.1 = 0 then (zifF (callP (dnE h cS) (dnF h su st) (dnD h fl) sea noi h pl pw an hd (xZ xs (i + 1)) (xZ xs (i + 2)) (xZ xs (i + 3)) (xZ xs (i + 4))) (zu c1 cm (xZ xs (i + 1))) c1) else c1) (if u_5.1 = 0 then (zifF (callP (dnE h cS) (dnF h su st) (dnD h fl) sea noi h pl pw an hd (xZ xs (i + 1)) (xZ xs (i + 2)) (xZ xs (i + 3)) (xZ xs (i + 4))) (zu c2 cm (xZ xs (i + 2))) c2) else c2) (if u_5.1 = 0 then (zifF (callP (dnE h cS) (dnF h su st) (dnD h fl) sea noi h pl pw an hd (xZ xs (i + 1)) (xZ xs (i + 2)) (xZ xs (i + 3)) (xZ xs (i + 4))) (zu c3 cm (xZ xs (i + 3))) c3) else c3) (if u_5.1 = 0 then (zifF (callP (dnE h cS) (dnF h su st) (dnD h fl) sea noi h pl pw an hd (xZ xs (i + 1)) (xZ xs (i + 2)) (xZ xs (i + 3)) (xZ xs (i + 4))) (zu c4 cm (xZ xs (i + 4))) c4) else c4) (if u_5.1 = 0 then (zifF (callP (dnE h cS) (dnF h su st) (dnD h fl) sea noi h pl pw an hd (xZ xs (i + 1)) (xZ xs (i + 2)) (xZ xs (i + 3)) (xZ xs (i + 4))) (zu c5 cm h) c5) else c5)) ++ ((entW ad 37 cy em ep e1 e2 e3 e4 e5) ++ (outW od 0 cy u_5.2.1)))))))))) ++ (mdlW bd 0 cy th h su st sh fl 0 sn bn fm fr cm em lg le lf dl cS cH sea noi pl pw an hd bp bo bw c1 c2 c3 c4 c5 e1 e2 e3 e4 e5)) := hD
  obtain ⟨u1_5, u2_5, u3_5⟩ := u_5
  dsimp only at hp_5
  rcases hp_5 with ⟨rfl, rfl, hN_5, hv_5⟩ | ⟨rfl, rfl, hN_5, hv_5⟩ | ⟨rfl, rfl, hN_5, hv_5⟩ | ⟨rfl, rfl, hN_5, hv_5⟩
  ·
    have hw_5 := hv_5.symm
    subst hw_5
    have hP : va_P D vwCl ((rooW ad 0 cy fm fr) ++ ((airW ad 1 cy h su st sh fl cS cH (dnD h fl) (dnE h cS) (dnF h su st)) ++ ((airW ad 8 cy h su 0 0 0 (fun _ => 0) (fun _ => 0) (dnD h 0) (dnE h (fun _ => 0)) (dnF h su 0)) ++ ((grdW ad 15 cy sea noi) ++ ((rayW ad 18 cy (u3_5 0) (u3_5 1) (u3_5 2) (u3_5 3) (u3_5 4) (u3_5 5) (u3_5 6) (u3_5 7)) ++ ((sndW ad 19 cy 12 sn pl pw an hd fq) ++ ((sndW ad 25 cy 6 bn bp bw ban bhd bo) ++ ((conW ad 31 cy (zif (callP (dnE h cS) (dnF h su st) (dnD h fl) sea noi h pl pw an hd (xZ xs (i + 1)) (xZ xs (i + 2)) (xZ xs (i + 3)) (xZ xs (i + 4))) (cm + 1) cm) (zifF (callP (dnE h cS) (dnF h su st) (dnD h fl) sea noi h pl pw an hd (xZ xs (i + 1)) (xZ xs (i + 2)) (xZ xs (i + 3)) (xZ xs (i + 4))) (zu c1 cm (xZ xs (i + 1))) c1) (zifF (callP (dnE h cS) (dnF h su st) (dnD h fl) sea noi h pl pw an hd (xZ xs (i + 1)) (xZ xs (i + 2)) (xZ xs (i + 3)) (xZ xs (i + 4))) (zu c2 cm (xZ xs (i + 2))) c2) (zifF (callP (dnE h cS) (dnF h su st) (dnD h fl) sea noi h pl pw an hd (xZ xs (i + 1)) (xZ xs (i + 2)) (xZ xs (i + 3)) (xZ xs (i + 4))) (zu c3 cm (xZ xs (i + 3))) c3) (zifF (callP (dnE h cS) (dnF h su st) (dnD h fl) sea noi h pl pw an hd (xZ xs (i + 1)) (xZ xs (i + 2)) (xZ xs (i + 3)) (xZ xs (i + 4))) (zu c4 cm (xZ xs (i + 4))) c4) (zifF (callP (dnE h cS) (dnF h su st) (dnD h fl) sea noi h pl pw an hd (xZ xs (i + 1)) (xZ xs (i + 2)) (xZ xs (i + 3)) (xZ xs (i + 4))) (zu c5 cm h) c5)) ++ ((entW ad 37 cy em ep e1 e2 e3 e4 e5) ++ (outW od 0 cy (zif (callP (dnE h cS) (dnF h su st) (dnD h fl) sea noi h pl pw an hd (xZ xs (i + 1)) (xZ xs (i + 2)) (xZ xs (i + 3)) (xZ xs (i + 4))) 1 0))))))))))) H := hP
    have hD : va_D (fun q => z0 ≤ q) (((rooW ad 0 cy fm fr) ++ ((airW ad 1 cy h su st sh fl cS cH (dnD h fl) (dnE h cS) (dnF h su st)) ++ ((airW ad 8 cy h su 0 0 0 (fun _ => 0) (fun _ => 0) (dnD h 0) (dnE h (fun _ => 0)) (dnF h su 0)) ++ ((grdW ad 15 cy sea noi) ++ ((rayW ad 18 cy (u3_5 0) (u3_5 1) (u3_5 2) (u3_5 3) (u3_5 4) (u3_5 5) (u3_5 6) (u3_5 7)) ++ ((sndW ad 19 cy 12 sn pl pw an hd fq) ++ ((sndW ad 25 cy 6 bn bp bw ban bhd bo) ++ ((conW ad 31 cy (zif (callP (dnE h cS) (dnF h su st) (dnD h fl) sea noi h pl pw an hd (xZ xs (i + 1)) (xZ xs (i + 2)) (xZ xs (i + 3)) (xZ xs (i + 4))) (cm + 1) cm) (zifF (callP (dnE h cS) (dnF h su st) (dnD h fl) sea noi h pl pw an hd (xZ xs (i + 1)) (xZ xs (i + 2)) (xZ xs (i + 3)) (xZ xs (i + 4))) (zu c1 cm (xZ xs (i + 1))) c1) (zifF (callP (dnE h cS) (dnF h su st) (dnD h fl) sea noi h pl pw an hd (xZ xs (i + 1)) (xZ xs (i + 2)) (xZ xs (i + 3)) (xZ xs (i + 4))) (zu c2 cm (xZ xs (i + 2))) c2) (zifF (callP (dnE h cS) (dnF h su st) (dnD h fl) sea noi h pl pw an hd (xZ xs (i + 1)) (xZ xs (i + 2)) (xZ xs (i + 3)) (xZ xs (i + 4))) (zu c3 cm (xZ xs (i + 3))) c3) (zifF (callP (dnE h cS) (dnF h su st) (dnD h fl) sea noi h pl pw an hd (xZ xs (i + 1)) (xZ xs (i + 2)) (xZ xs (i + 3)) (xZ xs (i + 4))) (zu c4 cm (xZ xs (i + 4))) c4) (zifF (callP (dnE h cS) (dnF h su st) (dnD h fl) sea noi h pl pw an hd (xZ xs (i + 1)) (xZ xs (i + 2)) (xZ xs (i + 3)) (xZ xs (i + 4))) (zu c5 cm h) c5)) ++ ((entW ad 37 cy em ep e1 e2 e3 e4 e5) ++ (outW od 0 cy (zif (callP (dnE h cS) (dnF h su st) (dnD h fl) sea noi h pl pw an hd (xZ xs (i + 1)) (xZ xs (i + 2)) (xZ xs (i + 3)) (xZ xs (i + 4))) 1 0))))))))))) ++ (mdlW bd 0 cy th h su st sh fl 0 sn bn fm fr cm em lg le lf dl cS cH sea noi pl pw an hd bp bo bw c1 c2 c3 c4 c5 e1 e2 e3 e4 e5)) := hD
    refine lv_istore (lv' := [(5, .int (iI 0)), (0, .ref (b)), (1, .ref (ad 0)), (2, .ref (bd 0)), (3, .ref (od 0)), (4, .int (iI i))]) M.1 M.2.1 dL_law_804 hl (by decide) rfl (fun ls hl => ?_)
    refine lv_aload_n M.1 M.2.1 dL_law_806 rfl (lv_at hl 3 rfl) ?_
    refine lv_aload_n M.1 M.2.1 dL_law_807 rfl (lv_at hl 1 rfl) ?_
    refine lv_iload M.1 M.2.1 dL_law_808 (lv_at hl 5 rfl) ?_
    refine zi_push M dL_law_810 ?_
    refine zi_iadd M dL_law_811 ?_
    refine zi_sld M hX hbl hbA hS hL (by omega) (by omega) dL_law_812 ?_
    have hx_6 := xZ_rg xs (i + 1)
    refine lv_aload_n M.1 M.2.1 dL_law_813 rfl (lv_at hl 1 rfl) ?_
    refine lv_iload M.1 M.2.1 dL_law_814 (lv_at hl 5 rfl) ?_
    refine zi_push M dL_law_816 ?_
    refine zi_iadd M dL_law_817 ?_
    refine zi_sld M hX hbl hbA hS hL (by omega) (by omega) dL_law_818 ?_
    have hx_7 := xZ_rg xs (i + 2)
    refine lv_aload_n M.1 M.2.1 dL_law_819 rfl (lv_at hl 1 rfl) ?_
    refine lv_iload M.1 M.2.1 dL_law_820 (lv_at hl 5 rfl) ?_
    refine zi_push M dL_law_822 ?_
    refine zi_iadd M dL_law_823 ?_
    refine zi_sld M hX hbl hbA hS hL (by omega) (by omega) dL_law_824 ?_
    have hx_8 := xZ_rg xs (i + 3)
    refine lv_aload_n M.1 M.2.1 dL_law_825 rfl (lv_at hl 1 rfl) ?_
    refine lv_iload M.1 M.2.1 dL_law_826 (lv_at hl 5 rfl) ?_
    refine zi_push M dL_law_828 ?_
    refine zi_iadd M dL_law_829 ?_
    refine zi_sld M hX hbl hbA hS hL (by omega) (by omega) dL_law_830 ?_
    have hx_9 := xZ_rg xs (i + 4)
    have hPx := hP
    have hP := hPm
    have hPm := hPx
    have hD := zD_c hD
    refine z_cW2 (z_runV (As := [.int (iI (xZ xs (i + 1))), .int (iI (xZ xs (i + 2))), .int (iI (xZ xs (i + 3))), .int (iI (xZ xs (i + 4)))]) (rest := []) M (c_X7_call l D cy z0 bd th h su st sh fl 0 sn bn fm fr cm em lg le lf dl cS cH sea noi pl pw an hd bp bo bw c1 c2 c3 c4 c5 e1 e2 e3 e4 e5 (xZ xs (i + 1)) (xZ xs (i + 2)) (xZ xs (i + 3)) (xZ xs (i + 4)) (by omega) (by omega) (by omega) (by omega) (by omega) (by omega) (by omega) (by omega) g_cS (by omega) g_sea g_noi g_pl g_pw g_an g_hd (by omega) (by omega)) hE hS hAz (z_cut hP (zD_l hD) hAz [0, 1, 2, 3, 4, 5, 6, 7, 8, 9, 10, 11, 12, 13, 14, 15, 16, 17, 18, 19, 20, 21] rfl (by decide +kernel)) (zRc.of (ci := 7) (q0 := 0) hE hP rfl rfl) zk_cd_X7_call zk_in_RX7 zk_im_X7_call zk_se_X7_call zk_ml_RL_152 rfl rfl zd_X7_call ⟨by decide, by decide⟩ rfl hl.1 rfl (Nat.le_of_ble_eq_true rfl) dL_law_831 ⟨by show _ ≤ 601024; omega, by show _ ≤ 7293034; omega⟩) hP hPm hD hS [0, 1, 2, 3, 4, 5, 6, 7, 8, 9, 10, 11, 12, 13, 14, 15, 16, 17, 18, 19, 20, 21] rfl (fun _ => by simp only [List.map_append, mdlW_adr]) (fun r_10 u_10 H locs hp_10 hP hPm hD hS => ?_)
    try simp only [mdD_0, mdE_0, mdF_0, mdD_1, mdE_1, mdF_1] at hp_10
    have hP : va_P D vwCl (mdlW bd 0 cy (u_10 4) h su st sh fl 0 sn bn fm fr (if u_10 4 = 0 then (zif (callP (dnE h cS) (dnF h su st) (dnD h fl) sea noi h pl pw an hd (xZ xs (i + 1)) (xZ xs (i + 2)) (xZ xs (i + 3)) (xZ xs (i + 4))) (cm + 1) cm) else cm) em (u_10 0) (u_10 1) (u_10 2) (u_10 3) cS cH sea noi pl pw an hd bp bo bw (if u_10 4 = 0 then (zifF (callP (dnE h cS) (dnF h su st) (dnD h fl) sea noi h pl pw an hd (xZ xs (i + 1)) (xZ xs (i + 2)) (xZ xs (i + 3)) (xZ xs (i + 4))) (zu c1 cm (xZ xs (i + 1))) c1) else c1) (if u_10 4 = 0 then (zifF (callP (dnE h cS) (dnF h su st) (dnD h fl) sea noi h pl pw an hd (xZ xs (i + 1)) (xZ xs (i + 2)) (xZ xs (i + 3)) (xZ xs (i + 4))) (zu c2 cm (xZ xs (i + 2))) c2) else c2) (if u_10 4 = 0 then (zifF (callP (dnE h cS) (dnF h su st) (dnD h fl) sea noi h pl pw an hd (xZ xs (i + 1)) (xZ xs (i + 2)) (xZ xs (i + 3)) (xZ xs (i + 4))) (zu c3 cm (xZ xs (i + 3))) c3) else c3) (if u_10 4 = 0 then (zifF (callP (dnE h cS) (dnF h su st) (dnD h fl) sea noi h pl pw an hd (xZ xs (i + 1)) (xZ xs (i + 2)) (xZ xs (i + 3)) (xZ xs (i + 4))) (zu c4 cm (xZ xs (i + 4))) c4) else c4) (if u_10 4 = 0 then (zifF (callP (dnE h cS) (dnF h su st) (dnD h fl) sea noi h pl pw an hd (xZ xs (i + 1)) (xZ xs (i + 2)) (xZ xs (i + 3)) (xZ xs (i + 4))) (zu c5 cm h) c5) else c5) e1 e2 e3 e4 e5) H := hP
    have hD : va_D (fun q => z0 ≤ q) ((mdlW bd 0 cy (u_10 4) h su st sh fl 0 sn bn fm fr (if u_10 4 = 0 then (zif (callP (dnE h cS) (dnF h su st) (dnD h fl) sea noi h pl pw an hd (xZ xs (i + 1)) (xZ xs (i + 2)) (xZ xs (i + 3)) (xZ xs (i + 4))) (cm + 1) cm) else cm) em (u_10 0) (u_10 1) (u_10 2) (u_10 3) cS cH sea noi pl pw an hd bp bo bw (if u_10 4 = 0 then (zifF (callP (dnE h cS) (dnF h su st) (dnD h fl) sea noi h pl pw an hd (xZ xs (i + 1)) (xZ xs (i + 2)) (xZ xs (i + 3)) (xZ xs (i + 4))) (zu c1 cm (xZ xs (i + 1))) c1) else c1) (if u_10 4 = 0 then (zifF (callP (dnE h cS) (dnF h su st) (dnD h fl) sea noi h pl pw an hd (xZ xs (i + 1)) (xZ xs (i + 2)) (xZ xs (i + 3)) (xZ xs (i + 4))) (zu c2 cm (xZ xs (i + 2))) c2) else c2) (if u_10 4 = 0 then (zifF (callP (dnE h cS) (dnF h su st) (dnD h fl) sea noi h pl pw an hd (xZ xs (i + 1)) (xZ xs (i + 2)) (xZ xs (i + 3)) (xZ xs (i + 4))) (zu c3 cm (xZ xs (i + 3))) c3) else c3) (if u_10 4 = 0 then (zifF (callP (dnE h cS) (dnF h su st) (dnD h fl) sea noi h pl pw an hd (xZ xs (i + 1)) (xZ xs (i + 2)) (xZ xs (i + 3)) (xZ xs (i + 4))) (zu c4 cm (xZ xs (i + 4))) c4) else c4) (if u_10 4 = 0 then (zifF (callP (dnE h cS) (dnF h su st) (dnD h fl) sea noi h pl pw an hd (xZ xs (i + 1)) (xZ xs (i + 2)) (xZ xs (i + 3)) (xZ xs (i + 4))) (zu c5 cm h) c5) else c5) e1 e2 e3 e4 e5) ++ ((rooW ad 0 cy fm fr) ++ ((airW ad 1 cy h su st sh fl cS cH (dnD h fl) (dnE h cS) (dnF h su st)) ++ ((airW ad 8 cy h su 0 0 0 (fun _ => 0) (fun _ => 0) (dnD h 0) (dnE h (fun _ => 0)) (dnF h su 0)) ++ ((grdW ad 15 cy sea noi) ++ ((rayW ad 18 cy (u3_5 0) (u3_5 1) (u3_5 2) (u3_5 3) (u3_5 4) (u3_5 5) (u3_5 6) (u3_5 7)) ++ ((sndW ad 19 cy 12 sn pl pw an hd fq) ++ ((sndW ad 25 cy 6 bn bp bw ban bhd bo) ++ ((conW ad 31 cy (zif (callP (dnE h cS) (dnF h su st) (dnD h fl) sea noi h pl pw an hd (xZ xs (i + 1)) (xZ xs (i + 2)) (xZ xs (i + 3)) (xZ xs (i + 4))) (cm + 1) cm) (zifF (callP (dnE h cS) (dnF h su st) (dnD h fl) sea noi h pl pw an hd (xZ xs (i + 1)) (xZ xs (i + 2)) (xZ xs (i + 3)) (xZ xs (i + 4))) (zu c1 cm (xZ xs (i + 1))) c1) (zifF (callP (dnE h cS) (dnF h su st) (dnD h fl) sea noi h pl pw an hd (xZ xs (i + 1)) (xZ xs (i + 2)) (xZ xs (i + 3)) (xZ xs (i + 4))) (zu c2 cm (xZ xs (i + 2))) c2) (zifF (callP (dnE h cS) (dnF h su st) (dnD h fl) sea noi h pl pw an hd (xZ xs (i + 1)) (xZ xs (i + 2)) (xZ xs (i + 3)) (xZ xs (i + 4))) (zu c3 cm (xZ xs (i + 3))) c3) (zifF (callP (dnE h cS) (dnF h su st) (dnD h fl) sea noi h pl pw an hd (xZ xs (i + 1)) (xZ xs (i + 2)) (xZ xs (i + 3)) (xZ xs (i + 4))) (zu c4 cm (xZ xs (i + 4))) c4) (zifF (callP (dnE h cS) (dnF h su st) (dnD h fl) sea noi h pl pw an hd (xZ xs (i + 1)) (xZ xs (i + 2)) (xZ xs (i + 3)) (xZ xs (i + 4))) (zu c5 cm h) c5)) ++ ((entW ad 37 cy em ep e1 e2 e3 e4 e5) ++ (outW od 0 cy (zif (callP (dnE h cS) (dnF h su st) (dnD h fl) sea noi h pl pw an hd (xZ xs (i + 1)) (xZ xs (i + 2)) (xZ xs (i + 3)) (xZ xs (i + 4))) 1 0)))))))))))) := hD
    rcases hp_10 with ⟨xa_10, xb_10, xc_10, xd_10, rfl, hN_10, rfl⟩ | ⟨rfl, hN_10, rfl⟩ | ⟨rfl, hN_10, rfl⟩ | ⟨rfl, hN_10, rfl⟩
    ·
      have hP : va_P D vwCl (mdlW bd 0 cy 0 h su st sh fl 0 sn bn fm fr (zif (callP (dnE h cS) (dnF h su st) (dnD h fl) sea noi h pl pw an hd (xZ xs (i + 1)) (xZ xs (i + 2)) (xZ xs (i + 3)) (xZ xs (i + 4))) (cm + 1) cm) em xa_10 xb_10 xc_10 xd_10 cS cH sea noi pl pw an hd bp bo bw (zifF (callP (dnE h cS) (dnF h su st) (dnD h fl) sea noi h pl pw an hd (xZ xs (i + 1)) (xZ xs (i + 2)) (xZ xs (i + 3)) (xZ xs (i + 4))) (zu c1 cm (xZ xs (i + 1))) c1) (zifF (callP (dnE h cS) (dnF h su st) (dnD h fl) sea noi h pl pw an hd (xZ xs (i + 1)) (xZ xs (i + 2)) (xZ xs (i + 3)) (xZ xs (i + 4))) (zu c2 cm (xZ xs (i + 2))) c2) (zifF (callP (dnE h cS) (dnF h su st) (dnD h fl) sea noi h pl pw an hd (xZ xs (i + 1)) (xZ xs (i + 2)) (xZ xs (i + 3)) (xZ xs (i + 4))) (zu c3 cm (xZ xs (i + 3))) c3) (zifF (callP (dnE h cS) (dnF h su st) (dnD h fl) sea noi h pl pw an hd (xZ xs (i + 1)) (xZ xs (i + 2)) (xZ xs (i + 3)) (xZ xs (i + 4))) (zu c4 cm (xZ xs (i + 4))) c4) (zifF (callP (dnE h cS) (dnF h su st) (dnD h fl) sea noi h pl pw an hd (xZ xs (i + 1)) (xZ xs (i + 2)) (xZ xs (i + 3)) (xZ xs (i + 4))) (zu c5 cm h) c5) e1 e2 e3 e4 e5) H := hP
      have hD : va_D (fun q => z0 ≤ q) ((mdlW bd 0 cy 0 h su st sh fl 0 sn bn fm fr (zif (callP (dnE h cS) (dnF h su st) (dnD h fl) sea noi h pl pw an hd (xZ xs (i + 1)) (xZ xs (i + 2)) (xZ xs (i + 3)) (xZ xs (i + 4))) (cm + 1) cm) em xa_10 xb_10 xc_10 xd_10 cS cH sea noi pl pw an hd bp bo bw (zifF (callP (dnE h cS) (dnF h su st) (dnD h fl) sea noi h pl pw an hd (xZ xs (i + 1)) (xZ xs (i + 2)) (xZ xs (i + 3)) (xZ xs (i + 4))) (zu c1 cm (xZ xs (i + 1))) c1) (zifF (callP (dnE h cS) (dnF h su st) (dnD h fl) sea noi h pl pw an hd (xZ xs (i + 1)) (xZ xs (i + 2)) (xZ xs (i + 3)) (xZ xs (i + 4))) (zu c2 cm (xZ xs (i + 2))) c2) (zifF (callP (dnE h cS) (dnF h su st) (dnD h fl) sea noi h pl pw an hd (xZ xs (i + 1)) (xZ xs (i + 2)) (xZ xs (i + 3)) (xZ xs (i + 4))) (zu c3 cm (xZ xs (i + 3))) c3) (zifF (callP (dnE h cS) (dnF h su st) (dnD h fl) sea noi h pl pw an hd (xZ xs (i + 1)) (xZ xs (i + 2)) (xZ xs (i + 3)) (xZ xs (i + 4))) (zu c4 cm (xZ xs (i + 4))) c4) (zifF (callP (dnE h cS) (dnF h su st) (dnD h fl) sea noi h pl pw an hd (xZ xs (i + 1)) (xZ xs (i + 2)) (xZ xs (i + 3)) (xZ xs (i + 4))) (zu c5 cm h) c5) e1 e2 e3 e4 e5) ++ ((rooW ad 0 cy fm fr) ++ ((airW ad 1 cy h su st sh fl cS cH (dnD h fl) (dnE h cS) (dnF h su st)) ++ ((airW ad 8 cy h su 0 0 0 (fun _ => 0) (fun _ => 0) (dnD h 0) (dnE h (fun _ => 0)) (dnF h su 0)) ++ ((grdW ad 15 cy sea noi) ++ ((rayW ad 18 cy (u3_5 0) (u3_5 1) (u3_5 2) (u3_5 3) (u3_5 4) (u3_5 5) (u3_5 6) (u3_5 7)) ++ ((sndW ad 19 cy 12 sn pl pw an hd fq) ++ ((sndW ad 25 cy 6 bn bp bw ban bhd bo) ++ ((conW ad 31 cy (zif (callP (dnE h cS) (dnF h su st) (dnD h fl) sea noi h pl pw an hd (xZ xs (i + 1)) (xZ xs (i + 2)) (xZ xs (i + 3)) (xZ xs (i + 4))) (cm + 1) cm) (zifF (callP (dnE h cS) (dnF h su st) (dnD h fl) sea noi h pl pw an hd (xZ xs (i + 1)) (xZ xs (i + 2)) (xZ xs (i + 3)) (xZ xs (i + 4))) (zu c1 cm (xZ xs (i + 1))) c1) (zifF (callP (dnE h cS) (dnF h su st) (dnD h fl) sea noi h pl pw an hd (xZ xs (i + 1)) (xZ xs (i + 2)) (xZ xs (i + 3)) (xZ xs (i + 4))) (zu c2 cm (xZ xs (i + 2))) c2) (zifF (callP (dnE h cS) (dnF h su st) (dnD h fl) sea noi h pl pw an hd (xZ xs (i + 1)) (xZ xs (i + 2)) (xZ xs (i + 3)) (xZ xs (i + 4))) (zu c3 cm (xZ xs (i + 3))) c3) (zifF (callP (dnE h cS) (dnF h su st) (dnD h fl) sea noi h pl pw an hd (xZ xs (i + 1)) (xZ xs (i + 2)) (xZ xs (i + 3)) (xZ xs (i + 4))) (zu c4 cm (xZ xs (i + 4))) c4) (zifF (callP (dnE h cS) (dnF h su st) (dnD h fl) sea noi h pl pw an hd (xZ xs (i + 1)) (xZ xs (i + 2)) (xZ xs (i + 3)) (xZ xs (i + 4))) (zu c5 cm h) c5)) ++ ((entW ad 37 cy em ep e1 e2 e3 e4 e5) ++ (outW od 0 cy (zif (callP (dnE h cS) (dnF h su st) (dnD h fl) sea noi h pl pw an hd (xZ xs (i + 1)) (xZ xs (i + 2)) (xZ xs (i + 3)) (xZ xs (i + 4))) 1 0)))))))))))) := hD
      have hv01 := zif_01 (callP (dnE h cS) (dnF h su st) (dnD h fl) sea noi h pl pw an hd (xZ xs (i + 1)) (xZ xs (i + 2)) (xZ xs (i + 3)) (xZ xs (i + 4)))
      refine lv_istore (lv' := [(6, .int (iI (zif (callP (dnE h cS) (dnF h su st) (dnD h fl) sea noi h pl pw an hd (xZ xs (i + 1)) (xZ xs (i + 2)) (xZ xs (i + 3)) (xZ xs (i + 4))) 1 0))), (5, .int (iI 0)), (0, .ref (b)), (1, .ref (ad 0)), (2, .ref (bd 0)), (3, .ref (od 0)), (4, .int (iI i))]) M.1 M.2.1 dL_law_834 hl (by decide) rfl (fun ls hl => ?_)
      refine lv_aload_n M.1 M.2.1 dL_law_836 rfl (lv_at hl 4 rfl) ?_
      refine z_cR (z_runV (As := []) (rest := []) M (c_X7_thrown l D cy z0 bd 0 h su st sh fl 0 sn bn fm fr (zif (callP (dnE h cS) (dnF h su st) (dnD h fl) sea noi h pl pw an hd (xZ xs (i + 1)) (xZ xs (i + 2)) (xZ xs (i + 3)) (xZ xs (i + 4))) (cm + 1) cm) em xa_10 xb_10 xc_10 xd_10 cS cH sea noi pl pw an hd bp bo bw (zifF (callP (dnE h cS) (dnF h su st) (dnD h fl) sea noi h pl pw an hd (xZ xs (i + 1)) (xZ xs (i + 2)) (xZ xs (i + 3)) (xZ xs (i + 4))) (zu c1 cm (xZ xs (i + 1))) c1) (zifF (callP (dnE h cS) (dnF h su st) (dnD h fl) sea noi h pl pw an hd (xZ xs (i + 1)) (xZ xs (i + 2)) (xZ xs (i + 3)) (xZ xs (i + 4))) (zu c2 cm (xZ xs (i + 2))) c2) (zifF (callP (dnE h cS) (dnF h su st) (dnD h fl) sea noi h pl pw an hd (xZ xs (i + 1)) (xZ xs (i + 2)) (xZ xs (i + 3)) (xZ xs (i + 4))) (zu c3 cm (xZ xs (i + 3))) c3) (zifF (callP (dnE h cS) (dnF h su st) (dnD h fl) sea noi h pl pw an hd (xZ xs (i + 1)) (xZ xs (i + 2)) (xZ xs (i + 3)) (xZ xs (i + 4))) (zu c4 cm (xZ xs (i + 4))) c4) (zifF (callP (dnE h cS) (dnF h su st) (dnD h fl) sea noi h pl pw an hd (xZ xs (i + 1)) (xZ xs (i + 2)) (xZ xs (i + 3)) (xZ xs (i + 4))) (zu c5 cm h) c5) e1 e2 e3 e4 e5) hE hS hAz hP (zRc.of (ci := 7) (q0 := 0) hE hP rfl rfl) zk_cd_X7_thrown zk_in_RX7 zk_im_X7_thrown zk_se_X7_thrown zk_ml_RL_116 rfl rfl zd_X7_thrown ⟨by decide, by decide⟩ rfl hl.1 rfl (Nat.le_of_ble_eq_true rfl) dL_law_837 ⟨by show _ ≤ 601024; omega, by show _ ≤ 7293034; omega⟩) ?_
      refine lv_iload M.1 M.2.1 dL_law_840 (lv_at hl 1 rfl) ?_
      refine zi_same (tgt := 847) M dL_law_842 (by decide) ?_
      refine lv_iload M.1 M.2.1 dL_law_847 (lv_at hl 1 rfl) ?_
      refine zi_if_ne (tgt := 871) M dL_law_849 (by decide) ⟨by decide, by decide⟩ (fun q => absurd q (by decide)) (fun _ => ?_)
      refine lv_aload_n M.1 M.2.1 dL_law_852 rfl (lv_at hl 5 rfl) ?_
      refine zi_push M dL_law_853 ?_
      refine zi_lald M hE hPm 43 rfl dL_law_854 ?_
      refine lv_iload M.1 M.2.1 dL_law_855 (lv_at hl 0 rfl) ?_
      refine zi_if_eq (tgt := 864) M dL_law_857 (by decide) (by omega) (fun c_11 => ?_) (fun c_11 => ?_)
      ·
        refine lv_lconst M.1 M.2.1 dL_law_864 rfl (zi_lpush M (n := zif (callP (dnE h cS) (dnF h su st) (dnD h fl) sea noi h pl pw an hd (xZ xs (i + 1)) (xZ xs (i + 2)) (xZ xs (i + 3)) (xZ xs (i + 4))) 1 0) (by rw [c_11]; rfl) ?_)
        refine zi_lcmpE M dL_law_865 ?_
        refine zi_if_eq (tgt := 871) M dL_law_866 (by decide) ⟨by decide, by decide⟩ (fun _ => ?_) (fun q => absurd q (by decide))
        refine zi_goto (tgt := 2286) M dL_law_871 (by decide) ?_
        have hPx := hP
        have hP := hPm
        have hPm := hPx
        have hD := zD_c hD
        refine W.widen (k := cells + 6) (n := slots + 36) (by omega) (by omega) ?_
        exact hback h su st sh fl sn bn (zif (callP (dnE h cS) (dnF h su st) (dnD h fl) sea noi h pl pw an hd (xZ xs (i + 1)) (xZ xs (i + 2)) (xZ xs (i + 3)) (xZ xs (i + 4))) (cm + 1) cm) em ep fm fr 0 (zif (callP (dnE h cS) (dnF h su st) (dnD h fl) sea noi h pl pw an hd (xZ xs (i + 1)) (xZ xs (i + 2)) (xZ xs (i + 3)) (xZ xs (i + 4))) 1 0) xa_10 xb_10 xc_10 xd_10 cS cH sea noi pl pw an hd fq bp bw ban bhd bo (zifF (callP (dnE h cS) (dnF h su st) (dnD h fl) sea noi h pl pw an hd (xZ xs (i + 1)) (xZ xs (i + 2)) (xZ xs (i + 3)) (xZ xs (i + 4))) (zu c1 cm (xZ xs (i + 1))) c1) (zifF (callP (dnE h cS) (dnF h su st) (dnD h fl) sea noi h pl pw an hd (xZ xs (i + 1)) (xZ xs (i + 2)) (xZ xs (i + 3)) (xZ xs (i + 4))) (zu c2 cm (xZ xs (i + 2))) c2) (zifF (callP (dnE h cS) (dnF h su st) (dnD h fl) sea noi h pl pw an hd (xZ xs (i + 1)) (xZ xs (i + 2)) (xZ xs (i + 3)) (xZ xs (i + 4))) (zu c3 cm (xZ xs (i + 3))) c3) (zifF (callP (dnE h cS) (dnF h su st) (dnD h fl) sea noi h pl pw an hd (xZ xs (i + 1)) (xZ xs (i + 2)) (xZ xs (i + 3)) (xZ xs (i + 4))) (zu c4 cm (xZ xs (i + 4))) c4) (zifF (callP (dnE h cS) (dnF h su st) (dnD h fl) sea noi h pl pw an hd (xZ xs (i + 1)) (xZ xs (i + 2)) (xZ xs (i + 3)) (xZ xs (i + 4))) (zu c5 cm h) c5) e1 e2 e3 e4 e5 u3_5 h_h h_su h_st h_sh h_fl h_sn h_bn (zif_rg (by omega) (by omega)) h_em g_cS g_cH g_sea g_noi g_pl g_pw g_an g_hd g_bp g_bw g_ban g_bhd (zrg_zif (zrg_zu g_c1 (by omega)) g_c1) (zrg_zif (zrg_zu g_c2 (by omega)) g_c2) (zrg_zif (zrg_zu g_c3 (by omega)) g_c3) (zrg_zif (zrg_zu g_c4 (by omega)) g_c4) (zrg_zif (zrg_zu g_c5 (by omega)) g_c5) g_e1 g_e2 g_e3 g_e4 g_e5 hbo hep H locs hP hPm hD hS ls (lv_sub hl [2, 3, 4, 5, 6] rfl)
      ·
        refine lv_lconst M.1 M.2.1 dL_law_860 rfl (zi_lpush M (n := zif (callP (dnE h cS) (dnF h su st) (dnD h fl) sea noi h pl pw an hd (xZ xs (i + 1)) (xZ xs (i + 2)) (xZ xs (i + 3)) (xZ xs (i + 4))) 1 0) (by rw [show (zif (callP (dnE h cS) (dnF h su st) (dnD h fl) sea noi h pl pw an hd (xZ xs (i + 1)) (xZ xs (i + 2)) (xZ xs (i + 3)) (xZ xs (i + 4))) 1 0) = 1 from by omega]; rfl) ?_)
        refine zi_goto (tgt := 865) M dL_law_861 (by decide) ?_
        refine zi_lcmpE M dL_law_865 ?_
        refine zi_if_eq (tgt := 871) M dL_law_866 (by decide) ⟨by decide, by decide⟩ (fun _ => ?_) (fun q => absurd q (by decide))
        refine zi_goto (tgt := 2286) M dL_law_871 (by decide) ?_
        have hPx := hP
        have hP := hPm
        have hPm := hPx
        have hD := zD_c hD
        refine W.widen (k := cells + 6) (n := slots + 36) (by omega) (by omega) ?_
        exact hback h su st sh fl sn bn (zif (callP (dnE h cS) (dnF h su st) (dnD h fl) sea noi h pl pw an hd (xZ xs (i + 1)) (xZ xs (i + 2)) (xZ xs (i + 3)) (xZ xs (i + 4))) (cm + 1) cm) em ep fm fr 0 (zif (callP (dnE h cS) (dnF h su st) (dnD h fl) sea noi h pl pw an hd (xZ xs (i + 1)) (xZ xs (i + 2)) (xZ xs (i + 3)) (xZ xs (i + 4))) 1 0) xa_10 xb_10 xc_10 xd_10 cS cH sea noi pl pw an hd fq bp bw ban bhd bo (zifF (callP (dnE h cS) (dnF h su st) (dnD h fl) sea noi h pl pw an hd (xZ xs (i + 1)) (xZ xs (i + 2)) (xZ xs (i + 3)) (xZ xs (i + 4))) (zu c1 cm (xZ xs (i + 1))) c1) (zifF (callP (dnE h cS) (dnF h su st) (dnD h fl) sea noi h pl pw an hd (xZ xs (i + 1)) (xZ xs (i + 2)) (xZ xs (i + 3)) (xZ xs (i + 4))) (zu c2 cm (xZ xs (i + 2))) c2) (zifF (callP (dnE h cS) (dnF h su st) (dnD h fl) sea noi h pl pw an hd (xZ xs (i + 1)) (xZ xs (i + 2)) (xZ xs (i + 3)) (xZ xs (i + 4))) (zu c3 cm (xZ xs (i + 3))) c3) (zifF (callP (dnE h cS) (dnF h su st) (dnD h fl) sea noi h pl pw an hd (xZ xs (i + 1)) (xZ xs (i + 2)) (xZ xs (i + 3)) (xZ xs (i + 4))) (zu c4 cm (xZ xs (i + 4))) c4) (zifF (callP (dnE h cS) (dnF h su st) (dnD h fl) sea noi h pl pw an hd (xZ xs (i + 1)) (xZ xs (i + 2)) (xZ xs (i + 3)) (xZ xs (i + 4))) (zu c5 cm h) c5) e1 e2 e3 e4 e5 u3_5 h_h h_su h_st h_sh h_fl h_sn h_bn (zif_rg (by omega) (by omega)) h_em g_cS g_cH g_sea g_noi g_pl g_pw g_an g_hd g_bp g_bw g_ban g_bhd (zrg_zif (zrg_zu g_c1 (by omega)) g_c1) (zrg_zif (zrg_zu g_c2 (by omega)) g_c2) (zrg_zif (zrg_zu g_c3 (by omega)) g_c3) (zrg_zif (zrg_zu g_c4 (by omega)) g_c4) (zrg_zif (zrg_zu g_c5 (by omega)) g_c5) g_e1 g_e2 g_e3 g_e4 g_e5 hbo hep H locs hP hPm hD hS ls (lv_sub hl [2, 3, 4, 5, 6] rfl)
    ·
      have hP : va_P D vwCl (mdlW bd 0 cy 1 h su st sh fl 0 sn bn fm fr cm em lg le lf dl cS cH sea noi pl pw an hd bp bo bw c1 c2 c3 c4 c5 e1 e2 e3 e4 e5) H := hP
      have hD : va_D (fun q => z0 ≤ q) ((mdlW bd 0 cy 1 h su st sh fl 0 sn bn fm fr cm em lg le lf dl cS cH sea noi pl pw an hd bp bo bw c1 c2 c3 c4 c5 e1 e2 e3 e4 e5) ++ ((rooW ad 0 cy fm fr) ++ ((airW ad 1 cy h su st sh fl cS cH (dnD h fl) (dnE h cS) (dnF h su st)) ++ ((airW ad 8 cy h su 0 0 0 (fun _ => 0) (fun _ => 0) (dnD h 0) (dnE h (fun _ => 0)) (dnF h su 0)) ++ ((grdW ad 15 cy sea noi) ++ ((rayW ad 18 cy (u3_5 0) (u3_5 1) (u3_5 2) (u3_5 3) (u3_5 4) (u3_5 5) (u3_5 6) (u3_5 7)) ++ ((sndW ad 19 cy 12 sn pl pw an hd fq) ++ ((sndW ad 25 cy 6 bn bp bw ban bhd bo) ++ ((conW ad 31 cy (zif (callP (dnE h cS) (dnF h su st) (dnD h fl) sea noi h pl pw an hd (xZ xs (i + 1)) (xZ xs (i + 2)) (xZ xs (i + 3)) (xZ xs (i + 4))) (cm + 1) cm) (zifF (callP (dnE h cS) (dnF h su st) (dnD h fl) sea noi h pl pw an hd (xZ xs (i + 1)) (xZ xs (i + 2)) (xZ xs (i + 3)) (xZ xs (i + 4))) (zu c1 cm (xZ xs (i + 1))) c1) (zifF (callP (dnE h cS) (dnF h su st) (dnD h fl) sea noi h pl pw an hd (xZ xs (i + 1)) (xZ xs (i + 2)) (xZ xs (i + 3)) (xZ xs (i + 4))) (zu c2 cm (xZ xs (i + 2))) c2) (zifF (callP (dnE h cS) (dnF h su st) (dnD h fl) sea noi h pl pw an hd (xZ xs (i + 1)) (xZ xs (i + 2)) (xZ xs (i + 3)) (xZ xs (i + 4))) (zu c3 cm (xZ xs (i + 3))) c3) (zifF (callP (dnE h cS) (dnF h su st) (dnD h fl) sea noi h pl pw an hd (xZ xs (i + 1)) (xZ xs (i + 2)) (xZ xs (i + 3)) (xZ xs (i + 4))) (zu c4 cm (xZ xs (i + 4))) c4) (zifF (callP (dnE h cS) (dnF h su st) (dnD h fl) sea noi h pl pw an hd (xZ xs (i + 1)) (xZ xs (i + 2)) (xZ xs (i + 3)) (xZ xs (i + 4))) (zu c5 cm h) c5)) ++ ((entW ad 37 cy em ep e1 e2 e3 e4 e5) ++ (outW od 0 cy (zif (callP (dnE h cS) (dnF h su st) (dnD h fl) sea noi h pl pw an hd (xZ xs (i + 1)) (xZ xs (i + 2)) (xZ xs (i + 3)) (xZ xs (i + 4))) 1 0)))))))))))) := hD
      exfalso
      omega
    ·
      have hP : va_P D vwCl (mdlW bd 0 cy 2 h su st sh fl 0 sn bn fm fr cm em lg le lf dl cS cH sea noi pl pw an hd bp bo bw c1 c2 c3 c4 c5 e1 e2 e3 e4 e5) H := hP
      have hD : va_D (fun q => z0 ≤ q) ((mdlW bd 0 cy 2 h su st sh fl 0 sn bn fm fr cm em lg le lf dl cS cH sea noi pl pw an hd bp bo bw c1 c2 c3 c4 c5 e1 e2 e3 e4 e5) ++ ((rooW ad 0 cy fm fr) ++ ((airW ad 1 cy h su st sh fl cS cH (dnD h fl) (dnE h cS) (dnF h su st)) ++ ((airW ad 8 cy h su 0 0 0 (fun _ => 0) (fun _ => 0) (dnD h 0) (dnE h (fun _ => 0)) (dnF h su 0)) ++ ((grdW ad 15 cy sea noi) ++ ((rayW ad 18 cy (u3_5 0) (u3_5 1) (u3_5 2) (u3_5 3) (u3_5 4) (u3_5 5) (u3_5 6) (u3_5 7)) ++ ((sndW ad 19 cy 12 sn pl pw an hd fq) ++ ((sndW ad 25 cy 6 bn bp bw ban bhd bo) ++ ((conW ad 31 cy (zif (callP (dnE h cS) (dnF h su st) (dnD h fl) sea noi h pl pw an hd (xZ xs (i + 1)) (xZ xs (i + 2)) (xZ xs (i + 3)) (xZ xs (i + 4))) (cm + 1) cm) (zifF (callP (dnE h cS) (dnF h su st) (dnD h fl) sea noi h pl pw an hd (xZ xs (i + 1)) (xZ xs (i + 2)) (xZ xs (i + 3)) (xZ xs (i + 4))) (zu c1 cm (xZ xs (i + 1))) c1) (zifF (callP (dnE h cS) (dnF h su st) (dnD h fl) sea noi h pl pw an hd (xZ xs (i + 1)) (xZ xs (i + 2)) (xZ xs (i + 3)) (xZ xs (i + 4))) (zu c2 cm (xZ xs (i + 2))) c2) (zifF (callP (dnE h cS) (dnF h su st) (dnD h fl) sea noi h pl pw an hd (xZ xs (i + 1)) (xZ xs (i + 2)) (xZ xs (i + 3)) (xZ xs (i + 4))) (zu c3 cm (xZ xs (i + 3))) c3) (zifF (callP (dnE h cS) (dnF h su st) (dnD h fl) sea noi h pl pw an hd (xZ xs (i + 1)) (xZ xs (i + 2)) (xZ xs (i + 3)) (xZ xs (i + 4))) (zu c4 cm (xZ xs (i + 4))) c4) (zifF (callP (dnE h cS) (dnF h su st) (dnD h fl) sea noi h pl pw an hd (xZ xs (i + 1)) (xZ xs (i + 2)) (xZ xs (i + 3)) (xZ xs (i + 4))) (zu c5 cm h) c5)) ++ ((entW ad 37 cy em ep e1 e2 e3 e4 e5) ++ (outW od 0 cy (zif (callP (dnE h cS) (dnF h su st) (dnD h fl) sea noi h pl pw an hd (xZ xs (i + 1)) (xZ xs (i + 2)) (xZ xs (i + 3)) (xZ xs (i + 4))) 1 0)))))))))))) := hD
      exfalso
      omega
    ·
      have hP : va_P D vwCl (mdlW bd 0 cy 3 h su st sh fl 0 sn bn fm fr cm em lg le lf dl cS cH sea noi pl pw an hd bp bo bw c1 c2 c3 c4 c5 e1 e2 e3 e4 e5) H := hP
      have hD : va_D (fun q => z0 ≤ q) ((mdlW bd 0 cy 3 h su st sh fl 0 sn bn fm fr cm em lg le lf dl cS cH sea noi pl pw an hd bp bo bw c1 c2 c3 c4 c5 e1 e2 e3 e4 e5) ++ ((rooW ad 0 cy fm fr) ++ ((airW ad 1 cy h su st sh fl cS cH (dnD h fl) (dnE h cS) (dnF h su st)) ++ ((airW ad 8 cy h su 0 0 0 (fun _ => 0) (fun _ => 0) (dnD h 0) (dnE h (fun _ => 0)) (dnF h su 0)) ++ ((grdW ad 15 cy sea noi) ++ ((rayW ad 18 cy (u3_5 0) (u3_5 1) (u3_5 2) (u3_5 3) (u3_5 4) (u3_5 5) (u3_5 6) (u3_5 7)) ++ ((sndW ad 19 cy 12 sn pl pw an hd fq) ++ ((sndW ad 25 cy 6 bn bp bw ban bhd bo) ++ ((conW ad 31 cy (zif (callP (dnE h cS) (dnF h su st) (dnD h fl) sea noi h pl pw an hd (xZ xs (i + 1)) (xZ xs (i + 2)) (xZ xs (i + 3)) (xZ xs (i + 4))) (cm + 1) cm) (zifF (callP (dnE h cS) (dnF h su st) (dnD h fl) sea noi h pl pw an hd (xZ xs (i + 1)) (xZ xs (i + 2)) (xZ xs (i + 3)) (xZ xs (i + 4))) (zu c1 cm (xZ xs (i + 1))) c1) (zifF (callP (dnE h cS) (dnF h su st) (dnD h fl) sea noi h pl pw an hd (xZ xs (i + 1)) (xZ xs (i + 2)) (xZ xs (i + 3)) (xZ xs (i + 4))) (zu c2 cm (xZ xs (i + 2))) c2) (zifF (callP (dnE h cS) (dnF h su st) (dnD h fl) sea noi h pl pw an hd (xZ xs (i + 1)) (xZ xs (i + 2)) (xZ xs (i + 3)) (xZ xs (i + 4))) (zu c3 cm (xZ xs (i + 3))) c3) (zifF (callP (dnE h cS) (dnF h su st) (dnD h fl) sea noi h pl pw an hd (xZ xs (i + 1)) (xZ xs (i + 2)) (xZ xs (i + 3)) (xZ xs (i + 4))) (zu c4 cm (xZ xs (i + 4))) c4) (zifF (callP (dnE h cS) (dnF h su st) (dnD h fl) sea noi h pl pw an hd (xZ xs (i + 1)) (xZ xs (i + 2)) (xZ xs (i + 3)) (xZ xs (i + 4))) (zu c5 cm h) c5)) ++ ((entW ad 37 cy em ep e1 e2 e3 e4 e5) ++ (outW od 0 cy (zif (callP (dnE h cS) (dnF h su st) (dnD h fl) sea noi h pl pw an hd (xZ xs (i + 1)) (xZ xs (i + 2)) (xZ xs (i + 3)) (xZ xs (i + 4))) 1 0)))))))))))) := hD
      exfalso
      omega
  ·
    have hw_5 := hv_5.symm
    subst hw_5
    have hP : va_P D vwCl ((rooW ad 0 cy fm fr) ++ ((airW ad 1 cy h su st sh fl cS cH (dnD h fl) (dnE h cS) (dnF h su st)) ++ ((airW ad 8 cy h su 0 0 0 (fun _ => 0) (fun _ => 0) (dnD h 0) (dnE h (fun _ => 0)) (dnF h su 0)) ++ ((grdW ad 15 cy sea noi) ++ ((rayW ad 18 cy (u3_5 0) (u3_5 1) (u3_5 2) (u3_5 3) (u3_5 4) (u3_5 5) (u3_5 6) (u3_5 7)) ++ ((sndW ad 19 cy 12 sn pl pw an hd fq) ++ ((sndW ad 25 cy 6 bn bp bw ban bhd bo) ++ ((conW ad 31 cy cm c1 c2 c3 c4 c5) ++ ((entW ad 37 cy em ep e1 e2 e3 e4 e5) ++ (outW od 0 cy o)))))))))) H := hP
    have hD : va_D (fun q => z0 ≤ q) (((rooW ad 0 cy fm fr) ++ ((airW ad 1 cy h su st sh fl cS cH (dnD h fl) (dnE h cS) (dnF h su st)) ++ ((airW ad 8 cy h su 0 0 0 (fun _ => 0) (fun _ => 0) (dnD h 0) (dnE h (fun _ => 0)) (dnF h su 0)) ++ ((grdW ad 15 cy sea noi) ++ ((rayW ad 18 cy (u3_5 0) (u3_5 1) (u3_5 2) (u3_5 3) (u3_5 4) (u3_5 5) (u3_5 6) (u3_5 7)) ++ ((sndW ad 19 cy 12 sn pl pw an hd fq) ++ ((sndW ad 25 cy 6 bn bp bw ban bhd bo) ++ ((conW ad 31 cy cm c1 c2 c3 c4 c5) ++ ((entW ad 37 cy em ep e1 e2 e3 e4 e5) ++ (outW od 0 cy o)))))))))) ++ (mdlW bd 0 cy th h su st sh fl 0 sn bn fm fr cm em lg le lf dl cS cH sea noi pl pw an hd bp bo bw c1 c2 c3 c4 c5 e1 e2 e3 e4 e5)) := hD
    refine lv_istore (lv' := [(5, .int (iI 1)), (0, .ref (b)), (1, .ref (ad 0)), (2, .ref (bd 0)), (3, .ref (od 0)), (4, .int (iI i))]) M.1 M.2.1 dL_law_804 hl (by decide) rfl (fun ls hl => ?_)
    refine lv_aload_n M.1 M.2.1 dL_law_806 rfl (lv_at hl 3 rfl) ?_
    refine lv_aload_n M.1 M.2.1 dL_law_807 rfl (lv_at hl 1 rfl) ?_
    refine lv_iload M.1 M.2.1 dL_law_808 (lv_at hl 5 rfl) ?_
    refine zi_push M dL_law_810 ?_
    refine zi_iadd M dL_law_811 ?_
    refine zi_sld M hX hbl hbA hS hL (by omega) (by omega) dL_law_812 ?_
    have hx_12 := xZ_rg xs (i + 1)
    refine lv_aload_n M.1 M.2.1 dL_law_813 rfl (lv_at hl 1 rfl) ?_
    refine lv_iload M.1 M.2.1 dL_law_814 (lv_at hl 5 rfl) ?_
    refine zi_push M dL_law_816 ?_
    refine zi_iadd M dL_law_817 ?_
    refine zi_sld M hX hbl hbA hS hL (by omega) (by omega) dL_law_818 ?_
    have hx_13 := xZ_rg xs (i + 2)
    refine lv_aload_n M.1 M.2.1 dL_law_819 rfl (lv_at hl 1 rfl) ?_
    refine lv_iload M.1 M.2.1 dL_law_820 (lv_at hl 5 rfl) ?_
    refine zi_push M dL_law_822 ?_
    refine zi_iadd M dL_law_823 ?_
    refine zi_sld M hX hbl hbA hS hL (by omega) (by omega) dL_law_824 ?_
    have hx_14 := xZ_rg xs (i + 3)
    refine lv_aload_n M.1 M.2.1 dL_law_825 rfl (lv_at hl 1 rfl) ?_
    refine lv_iload M.1 M.2.1 dL_law_826 (lv_at hl 5 rfl) ?_
    refine zi_push M dL_law_828 ?_
    refine zi_iadd M dL_law_829 ?_
    refine zi_sld M hX hbl hbA hS hL (by omega) (by omega) dL_law_830 ?_
    have hx_15 := xZ_rg xs (i + 4)
    have hPx := hP
    have hP := hPm
    have hPm := hPx
    have hD := zD_c hD
    refine z_cW2 (z_runV (As := [.int (iI (xZ xs (i + 1))), .int (iI (xZ xs (i + 2))), .int (iI (xZ xs (i + 3))), .int (iI (xZ xs (i + 4)))]) (rest := []) M (c_X7_call l D cy z0 bd th h su st sh fl 0 sn bn fm fr cm em lg le lf dl cS cH sea noi pl pw an hd bp bo bw c1 c2 c3 c4 c5 e1 e2 e3 e4 e5 (xZ xs (i + 1)) (xZ xs (i + 2)) (xZ xs (i + 3)) (xZ xs (i + 4)) (by omega) (by omega) (by omega) (by omega) (by omega) (by omega) (by omega) (by omega) g_cS (by omega) g_sea g_noi g_pl g_pw g_an g_hd (by omega) (by omega)) hE hS hAz (z_cut hP (zD_l hD) hAz [0, 1, 2, 3, 4, 5, 6, 7, 8, 9, 10, 11, 12, 13, 14, 15, 16, 17, 18, 19, 20, 21] rfl (by decide +kernel)) (zRc.of (ci := 7) (q0 := 0) hE hP rfl rfl) zk_cd_X7_call zk_in_RX7 zk_im_X7_call zk_se_X7_call zk_ml_RL_152 rfl rfl zd_X7_call ⟨by decide, by decide⟩ rfl hl.1 rfl (Nat.le_of_ble_eq_true rfl) dL_law_831 ⟨by show _ ≤ 601024; omega, by show _ ≤ 7293034; omega⟩) hP hPm hD hS [0, 1, 2, 3, 4, 5, 6, 7, 8, 9, 10, 11, 12, 13, 14, 15, 16, 17, 18, 19, 20, 21] rfl (fun _ => by simp only [List.map_append, mdlW_adr]) (fun r_16 u_16 H locs hp_16 hP hPm hD hS => ?_)
    try simp only [mdD_0, mdE_0, mdF_0, mdD_1, mdE_1, mdF_1] at hp_16
    have hP : va_P D vwCl (mdlW bd 0 cy (u_16 4) h su st sh fl 0 sn bn fm fr (if u_16 4 = 0 then (zif (callP (dnE h cS) (dnF h su st) (dnD h fl) sea noi h pl pw an hd (xZ xs (i + 1)) (xZ xs (i + 2)) (xZ xs (i + 3)) (xZ xs (i + 4))) (cm + 1) cm) else cm) em (u_16 0) (u_16 1) (u_16 2) (u_16 3) cS cH sea noi pl pw an hd bp bo bw (if u_16 4 = 0 then (zifF (callP (dnE h cS) (dnF h su st) (dnD h fl) sea noi h pl pw an hd (xZ xs (i + 1)) (xZ xs (i + 2)) (xZ xs (i + 3)) (xZ xs (i + 4))) (zu c1 cm (xZ xs (i + 1))) c1) else c1) (if u_16 4 = 0 then (zifF (callP (dnE h cS) (dnF h su st) (dnD h fl) sea noi h pl pw an hd (xZ xs (i + 1)) (xZ xs (i + 2)) (xZ xs (i + 3)) (xZ xs (i + 4))) (zu c2 cm (xZ xs (i + 2))) c2) else c2) (if u_16 4 = 0 then (zifF (callP (dnE h cS) (dnF h su st) (dnD h fl) sea noi h pl pw an hd (xZ xs (i + 1)) (xZ xs (i + 2)) (xZ xs (i + 3)) (xZ xs (i + 4))) (zu c3 cm (xZ xs (i + 3))) c3) else c3) (if u_16 4 = 0 then (zifF (callP (dnE h cS) (dnF h su st) (dnD h fl) sea noi h pl pw an hd (xZ xs (i + 1)) (xZ xs (i + 2)) (xZ xs (i + 3)) (xZ xs (i + 4))) (zu c4 cm (xZ xs (i + 4))) c4) else c4) (if u_16 4 = 0 then (zifF (callP (dnE h cS) (dnF h su st) (dnD h fl) sea noi h pl pw an hd (xZ xs (i + 1)) (xZ xs (i + 2)) (xZ xs (i + 3)) (xZ xs (i + 4))) (zu c5 cm h) c5) else c5) e1 e2 e3 e4 e5) H := hP
    have hD : va_D (fun q => z0 ≤ q) ((mdlW bd 0 cy (u_16 4) h su st sh fl 0 sn bn fm fr (if u_16 4 = 0 then (zif (callP (dnE h cS) (dnF h su st) (dnD h fl) sea noi h pl pw an hd (xZ xs (i + 1)) (xZ xs (i + 2)) (xZ xs (i + 3)) (xZ xs (i + 4))) (cm + 1) cm) else cm) em (u_16 0) (u_16 1) (u_16 2) (u_16 3) cS cH sea noi pl pw an hd bp bo bw (if u_16 4 = 0 then (zifF (callP (dnE h cS) (dnF h su st) (dnD h fl) sea noi h pl pw an hd (xZ xs (i + 1)) (xZ xs (i + 2)) (xZ xs (i + 3)) (xZ xs (i + 4))) (zu c1 cm (xZ xs (i + 1))) c1) else c1) (if u_16 4 = 0 then (zifF (callP (dnE h cS) (dnF h su st) (dnD h fl) sea noi h pl pw an hd (xZ xs (i + 1)) (xZ xs (i + 2)) (xZ xs (i + 3)) (xZ xs (i + 4))) (zu c2 cm (xZ xs (i + 2))) c2) else c2) (if u_16 4 = 0 then (zifF (callP (dnE h cS) (dnF h su st) (dnD h fl) sea noi h pl pw an hd (xZ xs (i + 1)) (xZ xs (i + 2)) (xZ xs (i + 3)) (xZ xs (i + 4))) (zu c3 cm (xZ xs (i + 3))) c3) else c3) (if u_16 4 = 0 then (zifF (callP (dnE h cS) (dnF h su st) (dnD h fl) sea noi h pl pw an hd (xZ xs (i + 1)) (xZ xs (i + 2)) (xZ xs (i + 3)) (xZ xs (i + 4))) (zu c4 cm (xZ xs (i + 4))) c4) else c4) (if u_16 4 = 0 then (zifF (callP (dnE h cS) (dnF h su st) (dnD h fl) sea noi h pl pw an hd (xZ xs (i + 1)) (xZ xs (i + 2)) (xZ xs (i + 3)) (xZ xs (i + 4))) (zu c5 cm h) c5) else c5) e1 e2 e3 e4 e5) ++ ((rooW ad 0 cy fm fr) ++ ((airW ad 1 cy h su st sh fl cS cH (dnD h fl) (dnE h cS) (dnF h su st)) ++ ((airW ad 8 cy h su 0 0 0 (fun _ => 0) (fun _ => 0) (dnD h 0) (dnE h (fun _ => 0)) (dnF h su 0)) ++ ((grdW ad 15 cy sea noi) ++ ((rayW ad 18 cy (u3_5 0) (u3_5 1) (u3_5 2) (u3_5 3) (u3_5 4) (u3_5 5) (u3_5 6) (u3_5 7)) ++ ((sndW ad 19 cy 12 sn pl pw an hd fq) ++ ((sndW ad 25 cy 6 bn bp bw ban bhd bo) ++ ((conW ad 31 cy cm c1 c2 c3 c4 c5) ++ ((entW ad 37 cy em ep e1 e2 e3 e4 e5) ++ (outW od 0 cy o))))))))))) := hD
    rcases hp_16 with ⟨xa_16, xb_16, xc_16, xd_16, rfl, hN_16, rfl⟩ | ⟨rfl, hN_16, rfl⟩ | ⟨rfl, hN_16, rfl⟩ | ⟨rfl, hN_16, rfl⟩
    ·
      have hP : va_P D vwCl (mdlW bd 0 cy 0 h su st sh fl 0 sn bn fm fr (zif (callP (dnE h cS) (dnF h su st) (dnD h fl) sea noi h pl pw an hd (xZ xs (i + 1)) (xZ xs (i + 2)) (xZ xs (i + 3)) (xZ xs (i + 4))) (cm + 1) cm) em xa_16 xb_16 xc_16 xd_16 cS cH sea noi pl pw an hd bp bo bw (zifF (callP (dnE h cS) (dnF h su st) (dnD h fl) sea noi h pl pw an hd (xZ xs (i + 1)) (xZ xs (i + 2)) (xZ xs (i + 3)) (xZ xs (i + 4))) (zu c1 cm (xZ xs (i + 1))) c1) (zifF (callP (dnE h cS) (dnF h su st) (dnD h fl) sea noi h pl pw an hd (xZ xs (i + 1)) (xZ xs (i + 2)) (xZ xs (i + 3)) (xZ xs (i + 4))) (zu c2 cm (xZ xs (i + 2))) c2) (zifF (callP (dnE h cS) (dnF h su st) (dnD h fl) sea noi h pl pw an hd (xZ xs (i + 1)) (xZ xs (i + 2)) (xZ xs (i + 3)) (xZ xs (i + 4))) (zu c3 cm (xZ xs (i + 3))) c3) (zifF (callP (dnE h cS) (dnF h su st) (dnD h fl) sea noi h pl pw an hd (xZ xs (i + 1)) (xZ xs (i + 2)) (xZ xs (i + 3)) (xZ xs (i + 4))) (zu c4 cm (xZ xs (i + 4))) c4) (zifF (callP (dnE h cS) (dnF h su st) (dnD h fl) sea noi h pl pw an hd (xZ xs (i + 1)) (xZ xs (i + 2)) (xZ xs (i + 3)) (xZ xs (i + 4))) (zu c5 cm h) c5) e1 e2 e3 e4 e5) H := hP
      have hD : va_D (fun q => z0 ≤ q) ((mdlW bd 0 cy 0 h su st sh fl 0 sn bn fm fr (zif (callP (dnE h cS) (dnF h su st) (dnD h fl) sea noi h pl pw an hd (xZ xs (i + 1)) (xZ xs (i + 2)) (xZ xs (i + 3)) (xZ xs (i + 4))) (cm + 1) cm) em xa_16 xb_16 xc_16 xd_16 cS cH sea noi pl pw an hd bp bo bw (zifF (callP (dnE h cS) (dnF h su st) (dnD h fl) sea noi h pl pw an hd (xZ xs (i + 1)) (xZ xs (i + 2)) (xZ xs (i + 3)) (xZ xs (i + 4))) (zu c1 cm (xZ xs (i + 1))) c1) (zifF (callP (dnE h cS) (dnF h su st) (dnD h fl) sea noi h pl pw an hd (xZ xs (i + 1)) (xZ xs (i + 2)) (xZ xs (i + 3)) (xZ xs (i + 4))) (zu c2 cm (xZ xs (i + 2))) c2) (zifF (callP (dnE h cS) (dnF h su st) (dnD h fl) sea noi h pl pw an hd (xZ xs (i + 1)) (xZ xs (i + 2)) (xZ xs (i + 3)) (xZ xs (i + 4))) (zu c3 cm (xZ xs (i + 3))) c3) (zifF (callP (dnE h cS) (dnF h su st) (dnD h fl) sea noi h pl pw an hd (xZ xs (i + 1)) (xZ xs (i + 2)) (xZ xs (i + 3)) (xZ xs (i + 4))) (zu c4 cm (xZ xs (i + 4))) c4) (zifF (callP (dnE h cS) (dnF h su st) (dnD h fl) sea noi h pl pw an hd (xZ xs (i + 1)) (xZ xs (i + 2)) (xZ xs (i + 3)) (xZ xs (i + 4))) (zu c5 cm h) c5) e1 e2 e3 e4 e5) ++ ((rooW ad 0 cy fm fr) ++ ((airW ad 1 cy h su st sh fl cS cH (dnD h fl) (dnE h cS) (dnF h su st)) ++ ((airW ad 8 cy h su 0 0 0 (fun _ => 0) (fun _ => 0) (dnD h 0) (dnE h (fun _ => 0)) (dnF h su 0)) ++ ((grdW ad 15 cy sea noi) ++ ((rayW ad 18 cy (u3_5 0) (u3_5 1) (u3_5 2) (u3_5 3) (u3_5 4) (u3_5 5) (u3_5 6) (u3_5 7)) ++ ((sndW ad 19 cy 12 sn pl pw an hd fq) ++ ((sndW ad 25 cy 6 bn bp bw ban bhd bo) ++ ((conW ad 31 cy cm c1 c2 c3 c4 c5) ++ ((entW ad 37 cy em ep e1 e2 e3 e4 e5) ++ (outW od 0 cy o))))))))))) := hD
      exfalso
      omega
    ·
      have hP : va_P D vwCl (mdlW bd 0 cy 1 h su st sh fl 0 sn bn fm fr cm em lg le lf dl cS cH sea noi pl pw an hd bp bo bw c1 c2 c3 c4 c5 e1 e2 e3 e4 e5) H := hP
      have hD : va_D (fun q => z0 ≤ q) ((mdlW bd 0 cy 1 h su st sh fl 0 sn bn fm fr cm em lg le lf dl cS cH sea noi pl pw an hd bp bo bw c1 c2 c3 c4 c5 e1 e2 e3 e4 e5) ++ ((rooW ad 0 cy fm fr) ++ ((airW ad 1 cy h su st sh fl cS cH (dnD h fl) (dnE h cS) (dnF h su st)) ++ ((airW ad 8 cy h su 0 0 0 (fun _ => 0) (fun _ => 0) (dnD h 0) (dnE h (fun _ => 0)) (dnF h su 0)) ++ ((grdW ad 15 cy sea noi) ++ ((rayW ad 18 cy (u3_5 0) (u3_5 1) (u3_5 2) (u3_5 3) (u3_5 4) (u3_5 5) (u3_5 6) (u3_5 7)) ++ ((sndW ad 19 cy 12 sn pl pw an hd fq) ++ ((sndW ad 25 cy 6 bn bp bw ban bhd bo) ++ ((conW ad 31 cy cm c1 c2 c3 c4 c5) ++ ((entW ad 37 cy em ep e1 e2 e3 e4 e5) ++ (outW od 0 cy o))))))))))) := hD
      refine lv_istore (lv' := [(6, .int (iI 0)), (5, .int (iI 1)), (0, .ref (b)), (1, .ref (ad 0)), (2, .ref (bd 0)), (3, .ref (od 0)), (4, .int (iI i))]) M.1 M.2.1 dL_law_834 hl (by decide) rfl (fun ls hl => ?_)
      refine lv_aload_n M.1 M.2.1 dL_law_836 rfl (lv_at hl 4 rfl) ?_
      refine z_cR (z_runV (As := []) (rest := []) M (c_X7_thrown l D cy z0 bd 1 h su st sh fl 0 sn bn fm fr cm em lg le lf dl cS cH sea noi pl pw an hd bp bo bw c1 c2 c3 c4 c5 e1 e2 e3 e4 e5) hE hS hAz hP (zRc.of (ci := 7) (q0 := 0) hE hP rfl rfl) zk_cd_X7_thrown zk_in_RX7 zk_im_X7_thrown zk_se_X7_thrown zk_ml_RL_116 rfl rfl zd_X7_thrown ⟨by decide, by decide⟩ rfl hl.1 rfl (Nat.le_of_ble_eq_true rfl) dL_law_837 ⟨by show _ ≤ 601024; omega, by show _ ≤ 7293034; omega⟩) ?_
      refine lv_iload M.1 M.2.1 dL_law_840 (lv_at hl 1 rfl) ?_
      refine zi_same (tgt := 847) M dL_law_842 (by decide) ?_
      refine lv_iload M.1 M.2.1 dL_law_847 (lv_at hl 1 rfl) ?_
      refine zi_if_ne (tgt := 871) M dL_law_849 (by decide) ⟨by decide, by decide⟩ (fun _ => ?_) (fun q => absurd q (by decide))
      refine zi_goto (tgt := 2286) M dL_law_871 (by decide) ?_
      have hPx := hP
      have hP := hPm
      have hPm := hPx
      have hD := zD_c hD
      refine W.widen (k := cells + 6) (n := slots + 36) (by omega) (by omega) ?_
      exact hback h su st sh fl sn bn cm em ep fm fr 1 o lg le lf dl cS cH sea noi pl pw an hd fq bp bw ban bhd bo c1 c2 c3 c4 c5 e1 e2 e3 e4 e5 u3_5 h_h h_su h_st h_sh h_fl h_sn h_bn h_cm h_em g_cS g_cH g_sea g_noi g_pl g_pw g_an g_hd g_bp g_bw g_ban g_bhd g_c1 g_c2 g_c3 g_c4 g_c5 g_e1 g_e2 g_e3 g_e4 g_e5 hbo hep H locs hP hPm hD hS ls (lv_sub hl [2, 3, 4, 5, 6] rfl)
    ·
      have hP : va_P D vwCl (mdlW bd 0 cy 2 h su st sh fl 0 sn bn fm fr cm em lg le lf dl cS cH sea noi pl pw an hd bp bo bw c1 c2 c3 c4 c5 e1 e2 e3 e4 e5) H := hP
      have hD : va_D (fun q => z0 ≤ q) ((mdlW bd 0 cy 2 h su st sh fl 0 sn bn fm fr cm em lg le lf dl cS cH sea noi pl pw an hd bp bo bw c1 c2 c3 c4 c5 e1 e2 e3 e4 e5) ++ ((rooW ad 0 cy fm fr) ++ ((airW ad 1 cy h su st sh fl cS cH (dnD h fl) (dnE h cS) (dnF h su st)) ++ ((airW ad 8 cy h su 0 0 0 (fun _ => 0) (fun _ => 0) (dnD h 0) (dnE h (fun _ => 0)) (dnF h su 0)) ++ ((grdW ad 15 cy sea noi) ++ ((rayW ad 18 cy (u3_5 0) (u3_5 1) (u3_5 2) (u3_5 3) (u3_5 4) (u3_5 5) (u3_5 6) (u3_5 7)) ++ ((sndW ad 19 cy 12 sn pl pw an hd fq) ++ ((sndW ad 25 cy 6 bn bp bw ban bhd bo) ++ ((conW ad 31 cy cm c1 c2 c3 c4 c5) ++ ((entW ad 37 cy em ep e1 e2 e3 e4 e5) ++ (outW od 0 cy o))))))))))) := hD
      exfalso
      omega
    ·
      have hP : va_P D vwCl (mdlW bd 0 cy 3 h su st sh fl 0 sn bn fm fr cm em lg le lf dl cS cH sea noi pl pw an hd bp bo bw c1 c2 c3 c4 c5 e1 e2 e3 e4 e5) H := hP
      have hD : va_D (fun q => z0 ≤ q) ((mdlW bd 0 cy 3 h su st sh fl 0 sn bn fm fr cm em lg le lf dl cS cH sea noi pl pw an hd bp bo bw c1 c2 c3 c4 c5 e1 e2 e3 e4 e5) ++ ((rooW ad 0 cy fm fr) ++ ((airW ad 1 cy h su st sh fl cS cH (dnD h fl) (dnE h cS) (dnF h su st)) ++ ((airW ad 8 cy h su 0 0 0 (fun _ => 0) (fun _ => 0) (dnD h 0) (dnE h (fun _ => 0)) (dnF h su 0)) ++ ((grdW ad 15 cy sea noi) ++ ((rayW ad 18 cy (u3_5 0) (u3_5 1) (u3_5 2) (u3_5 3) (u3_5 4) (u3_5 5) (u3_5 6) (u3_5 7)) ++ ((sndW ad 19 cy 12 sn pl pw an hd fq) ++ ((sndW ad 25 cy 6 bn bp bw ban bhd bo) ++ ((conW ad 31 cy cm c1 c2 c3 c4 c5) ++ ((entW ad 37 cy em ep e1 e2 e3 e4 e5) ++ (outW od 0 cy o))))))))))) := hD
      exfalso
      omega
  ·
    have hw_5 := hv_5.symm
    subst hw_5
    have hP : va_P D vwCl ((rooW ad 0 cy fm fr) ++ ((airW ad 1 cy h su st sh fl cS cH (dnD h fl) (dnE h cS) (dnF h su st)) ++ ((airW ad 8 cy h su 0 0 0 (fun _ => 0) (fun _ => 0) (dnD h 0) (dnE h (fun _ => 0)) (dnF h su 0)) ++ ((grdW ad 15 cy sea noi) ++ ((rayW ad 18 cy (u3_5 0) (u3_5 1) (u3_5 2) (u3_5 3) (u3_5 4) (u3_5 5) (u3_5 6) (u3_5 7)) ++ ((sndW ad 19 cy 12 sn pl pw an hd fq) ++ ((sndW ad 25 cy 6 bn bp bw ban bhd bo) ++ ((conW ad 31 cy cm c1 c2 c3 c4 c5) ++ ((entW ad 37 cy em ep e1 e2 e3 e4 e5) ++ (outW od 0 cy o)))))))))) H := hP
    have hD : va_D (fun q => z0 ≤ q) (((rooW ad 0 cy fm fr) ++ ((airW ad 1 cy h su st sh fl cS cH (dnD h fl) (dnE h cS) (dnF h su st)) ++ ((airW ad 8 cy h su 0 0 0 (fun _ => 0) (fun _ => 0) (dnD h 0) (dnE h (fun _ => 0)) (dnF h su 0)) ++ ((grdW ad 15 cy sea noi) ++ ((rayW ad 18 cy (u3_5 0) (u3_5 1) (u3_5 2) (u3_5 3) (u3_5 4) (u3_5 5) (u3_5 6) (u3_5 7)) ++ ((sndW ad 19 cy 12 sn pl pw an hd fq) ++ ((sndW ad 25 cy 6 bn bp bw ban bhd bo) ++ ((conW ad 31 cy cm c1 c2 c3 c4 c5) ++ ((entW ad 37 cy em ep e1 e2 e3 e4 e5) ++ (outW od 0 cy o)))))))))) ++ (mdlW bd 0 cy th h su st sh fl 0 sn bn fm fr cm em lg le lf dl cS cH sea noi pl pw an hd bp bo bw c1 c2 c3 c4 c5 e1 e2 e3 e4 e5)) := hD
    refine lv_istore (lv' := [(5, .int (iI 2)), (0, .ref (b)), (1, .ref (ad 0)), (2, .ref (bd 0)), (3, .ref (od 0)), (4, .int (iI i))]) M.1 M.2.1 dL_law_804 hl (by decide) rfl (fun ls hl => ?_)
    refine lv_aload_n M.1 M.2.1 dL_law_806 rfl (lv_at hl 3 rfl) ?_
    refine lv_aload_n M.1 M.2.1 dL_law_807 rfl (lv_at hl 1 rfl) ?_
    refine lv_iload M.1 M.2.1 dL_law_808 (lv_at hl 5 rfl) ?_
    refine zi_push M dL_law_810 ?_
    refine zi_iadd M dL_law_811 ?_
    refine zi_sld M hX hbl hbA hS hL (by omega) (by omega) dL_law_812 ?_
    have hx_17 := xZ_rg xs (i + 1)
    refine lv_aload_n M.1 M.2.1 dL_law_813 rfl (lv_at hl 1 rfl) ?_
    refine lv_iload M.1 M.2.1 dL_law_814 (lv_at hl 5 rfl) ?_
    refine zi_push M dL_law_816 ?_
    refine zi_iadd M dL_law_817 ?_
    refine zi_sld M hX hbl hbA hS hL (by omega) (by omega) dL_law_818 ?_
    have hx_18 := xZ_rg xs (i + 2)
    refine lv_aload_n M.1 M.2.1 dL_law_819 rfl (lv_at hl 1 rfl) ?_
    refine lv_iload M.1 M.2.1 dL_law_820 (lv_at hl 5 rfl) ?_
    refine zi_push M dL_law_822 ?_
    refine zi_iadd M dL_law_823 ?_
    refine zi_sld M hX hbl hbA hS hL (by omega) (by omega) dL_law_824 ?_
    have hx_19 := xZ_rg xs (i + 3)
    refine lv_aload_n M.1 M.2.1 dL_law_825 rfl (lv_at hl 1 rfl) ?_
    refine lv_iload M.1 M.2.1 dL_law_826 (lv_at hl 5 rfl) ?_
    refine zi_push M dL_law_828 ?_
    refine zi_iadd M dL_law_829 ?_
    refine zi_sld M hX hbl hbA hS hL (by omega) (by omega) dL_law_830 ?_
    have hx_20 := xZ_rg xs (i + 4)
    have hPx := hP
    have hP := hPm
    have hPm := hPx
    have hD := zD_c hD
    refine z_cW2 (z_runV (As := [.int (iI (xZ xs (i + 1))), .int (iI (xZ xs (i + 2))), .int (iI (xZ xs (i + 3))), .int (iI (xZ xs (i + 4)))]) (rest := []) M (c_X7_call l D cy z0 bd th h su st sh fl 0 sn bn fm fr cm em lg le lf dl cS cH sea noi pl pw an hd bp bo bw c1 c2 c3 c4 c5 e1 e2 e3 e4 e5 (xZ xs (i + 1)) (xZ xs (i + 2)) (xZ xs (i + 3)) (xZ xs (i + 4)) (by omega) (by omega) (by omega) (by omega) (by omega) (by omega) (by omega) (by omega) g_cS (by omega) g_sea g_noi g_pl g_pw g_an g_hd (by omega) (by omega)) hE hS hAz (z_cut hP (zD_l hD) hAz [0, 1, 2, 3, 4, 5, 6, 7, 8, 9, 10, 11, 12, 13, 14, 15, 16, 17, 18, 19, 20, 21] rfl (by decide +kernel)) (zRc.of (ci := 7) (q0 := 0) hE hP rfl rfl) zk_cd_X7_call zk_in_RX7 zk_im_X7_call zk_se_X7_call zk_ml_RL_152 rfl rfl zd_X7_call ⟨by decide, by decide⟩ rfl hl.1 rfl (Nat.le_of_ble_eq_true rfl) dL_law_831 ⟨by show _ ≤ 601024; omega, by show _ ≤ 7293034; omega⟩) hP hPm hD hS [0, 1, 2, 3, 4, 5, 6, 7, 8, 9, 10, 11, 12, 13, 14, 15, 16, 17, 18, 19, 20, 21] rfl (fun _ => by simp only [List.map_append, mdlW_adr]) (fun r_21 u_21 H locs hp_21 hP hPm hD hS => ?_)
    try simp only [mdD_0, mdE_0, mdF_0, mdD_1, mdE_1, mdF_1] at hp_21
    have hP : va_P D vwCl (mdlW bd 0 cy (u_21 4) h su st sh fl 0 sn bn fm fr (if u_21 4 = 0 then (zif (callP (dnE h cS) (dnF h su st) (dnD h fl) sea noi h pl pw an hd (xZ xs (i + 1)) (xZ xs (i + 2)) (xZ xs (i + 3)) (xZ xs (i + 4))) (cm + 1) cm) else cm) em (u_21 0) (u_21 1) (u_21 2) (u_21 3) cS cH sea noi pl pw an hd bp bo bw (if u_21 4 = 0 then (zifF (callP (dnE h cS) (dnF h su st) (dnD h fl) sea noi h pl pw an hd (xZ xs (i + 1)) (xZ xs (i + 2)) (xZ xs (i + 3)) (xZ xs (i + 4))) (zu c1 cm (xZ xs (i + 1))) c1) else c1) (if u_21 4 = 0 then (zifF (callP (dnE h cS) (dnF h su st) (dnD h fl) sea noi h pl pw an hd (xZ xs (i + 1)) (xZ xs (i + 2)) (xZ xs (i + 3)) (xZ xs (i + 4))) (zu c2 cm (xZ xs (i + 2))) c2) else c2) (if u_21 4 = 0 then (zifF (callP (dnE h cS) (dnF h su st) (dnD h fl) sea noi h pl pw an hd (xZ xs (i + 1)) (xZ xs (i + 2)) (xZ xs (i + 3)) (xZ xs (i + 4))) (zu c3 cm (xZ xs (i + 3))) c3) else c3) (if u_21 4 = 0 then (zifF (callP (dnE h cS) (dnF h su st) (dnD h fl) sea noi h pl pw an hd (xZ xs (i + 1)) (xZ xs (i + 2)) (xZ xs (i + 3)) (xZ xs (i + 4))) (zu c4 cm (xZ xs (i + 4))) c4) else c4) (if u_21 4 = 0 then (zifF (callP (dnE h cS) (dnF h su st) (dnD h fl) sea noi h pl pw an hd (xZ xs (i + 1)) (xZ xs (i + 2)) (xZ xs (i + 3)) (xZ xs (i + 4))) (zu c5 cm h) c5) else c5) e1 e2 e3 e4 e5) H := hP
    have hD : va_D (fun q => z0 ≤ q) ((mdlW bd 0 cy (u_21 4) h su st sh fl 0 sn bn fm fr (if u_21 4 = 0 then (zif (callP (dnE h cS) (dnF h su st) (dnD h fl) sea noi h pl pw an hd (xZ xs (i + 1)) (xZ xs (i + 2)) (xZ xs (i + 3)) (xZ xs (i + 4))) (cm + 1) cm) else cm) em (u_21 0) (u_21 1) (u_21 2) (u_21 3) cS cH sea noi pl pw an hd bp bo bw (if u_21 4 = 0 then (zifF (callP (dnE h cS) (dnF h su st) (dnD h fl) sea noi h pl pw an hd (xZ xs (i + 1)) (xZ xs (i + 2)) (xZ xs (i + 3)) (xZ xs (i + 4))) (zu c1 cm (xZ xs (i + 1))) c1) else c1) (if u_21 4 = 0 then (zifF (callP (dnE h cS) (dnF h su st) (dnD h fl) sea noi h pl pw an hd (xZ xs (i + 1)) (xZ xs (i + 2)) (xZ xs (i + 3)) (xZ xs (i + 4))) (zu c2 cm (xZ xs (i + 2))) c2) else c2) (if u_21 4 = 0 then (zifF (callP (dnE h cS) (dnF h su st) (dnD h fl) sea noi h pl pw an hd (xZ xs (i + 1)) (xZ xs (i + 2)) (xZ xs (i + 3)) (xZ xs (i + 4))) (zu c3 cm (xZ xs (i + 3))) c3) else c3) (if u_21 4 = 0 then (zifF (callP (dnE h cS) (dnF h su st) (dnD h fl) sea noi h pl pw an hd (xZ xs (i + 1)) (xZ xs (i + 2)) (xZ xs (i + 3)) (xZ xs (i + 4))) (zu c4 cm (xZ xs (i + 4))) c4) else c4) (if u_21 4 = 0 then (zifF (callP (dnE h cS) (dnF h su st) (dnD h fl) sea noi h pl pw an hd (xZ xs (i + 1)) (xZ xs (i + 2)) (xZ xs (i + 3)) (xZ xs (i + 4))) (zu c5 cm h) c5) else c5) e1 e2 e3 e4 e5) ++ ((rooW ad 0 cy fm fr) ++ ((airW ad 1 cy h su st sh fl cS cH (dnD h fl) (dnE h cS) (dnF h su st)) ++ ((airW ad 8 cy h su 0 0 0 (fun _ => 0) (fun _ => 0) (dnD h 0) (dnE h (fun _ => 0)) (dnF h su 0)) ++ ((grdW ad 15 cy sea noi) ++ ((rayW ad 18 cy (u3_5 0) (u3_5 1) (u3_5 2) (u3_5 3) (u3_5 4) (u3_5 5) (u3_5 6) (u3_5 7)) ++ ((sndW ad 19 cy 12 sn pl pw an hd fq) ++ ((sndW ad 25 cy 6 bn bp bw ban bhd bo) ++ ((conW ad 31 cy cm c1 c2 c3 c4 c5) ++ ((entW ad 37 cy em ep e1 e2 e3 e4 e5) ++ (outW od 0 cy o))))))))))) := hD
    rcases hp_21 with ⟨xa_21, xb_21, xc_21, xd_21, rfl, hN_21, rfl⟩ | ⟨rfl, hN_21, rfl⟩ | ⟨rfl, hN_21, rfl⟩ | ⟨rfl, hN_21, rfl⟩
    ·
      have hP : va_P D vwCl (mdlW bd 0 cy 0 h su st sh fl 0 sn bn fm fr (zif (callP (dnE h cS) (dnF h su st) (dnD h fl) sea noi h pl pw an hd (xZ xs (i + 1)) (xZ xs (i + 2)) (xZ xs (i + 3)) (xZ xs (i + 4))) (cm + 1) cm) em xa_21 xb_21 xc_21 xd_21 cS cH sea noi pl pw an hd bp bo bw (zifF (callP (dnE h cS) (dnF h su st) (dnD h fl) sea noi h pl pw an hd (xZ xs (i + 1)) (xZ xs (i + 2)) (xZ xs (i + 3)) (xZ xs (i + 4))) (zu c1 cm (xZ xs (i + 1))) c1) (zifF (callP (dnE h cS) (dnF h su st) (dnD h fl) sea noi h pl pw an hd (xZ xs (i + 1)) (xZ xs (i + 2)) (xZ xs (i + 3)) (xZ xs (i + 4))) (zu c2 cm (xZ xs (i + 2))) c2) (zifF (callP (dnE h cS) (dnF h su st) (dnD h fl) sea noi h pl pw an hd (xZ xs (i + 1)) (xZ xs (i + 2)) (xZ xs (i + 3)) (xZ xs (i + 4))) (zu c3 cm (xZ xs (i + 3))) c3) (zifF (callP (dnE h cS) (dnF h su st) (dnD h fl) sea noi h pl pw an hd (xZ xs (i + 1)) (xZ xs (i + 2)) (xZ xs (i + 3)) (xZ xs (i + 4))) (zu c4 cm (xZ xs (i + 4))) c4) (zifF (callP (dnE h cS) (dnF h su st) (dnD h fl) sea noi h pl pw an hd (xZ xs (i + 1)) (xZ xs (i + 2)) (xZ xs (i + 3)) (xZ xs (i + 4))) (zu c5 cm h) c5) e1 e2 e3 e4 e5) H := hP
      have hD : va_D (fun q => z0 ≤ q) ((mdlW bd 0 cy 0 h su st sh fl 0 sn bn fm fr (zif (callP (dnE h cS) (dnF h su st) (dnD h fl) sea noi h pl pw an hd (xZ xs (i + 1)) (xZ xs (i + 2)) (xZ xs (i + 3)) (xZ xs (i + 4))) (cm + 1) cm) em xa_21 xb_21 xc_21 xd_21 cS cH sea noi pl pw an hd bp bo bw (zifF (callP (dnE h cS) (dnF h su st) (dnD h fl) sea noi h pl pw an hd (xZ xs (i + 1)) (xZ xs (i + 2)) (xZ xs (i + 3)) (xZ xs (i + 4))) (zu c1 cm (xZ xs (i + 1))) c1) (zifF (callP (dnE h cS) (dnF h su st) (dnD h fl) sea noi h pl pw an hd (xZ xs (i + 1)) (xZ xs (i + 2)) (xZ xs (i + 3)) (xZ xs (i + 4))) (zu c2 cm (xZ xs (i + 2))) c2) (zifF (callP (dnE h cS) (dnF h su st) (dnD h fl) sea noi h pl pw an hd (xZ xs (i + 1)) (xZ xs (i + 2)) (xZ xs (i + 3)) (xZ xs (i + 4))) (zu c3 cm (xZ xs (i + 3))) c3) (zifF (callP (dnE h cS) (dnF h su st) (dnD h fl) sea noi h pl pw an hd (xZ xs (i + 1)) (xZ xs (i + 2)) (xZ xs (i + 3)) (xZ xs (i + 4))) (zu c4 cm (xZ xs (i + 4))) c4) (zifF (callP (dnE h cS) (dnF h su st) (dnD h fl) sea noi h pl pw an hd (xZ xs (i + 1)) (xZ xs (i + 2)) (xZ xs (i + 3)) (xZ xs (i + 4))) (zu c5 cm h) c5) e1 e2 e3 e4 e5) ++ ((rooW ad 0 cy fm fr) ++ ((airW ad 1 cy h su st sh fl cS cH (dnD h fl) (dnE h cS) (dnF h su st)) ++ ((airW ad 8 cy h su 0 0 0 (fun _ => 0) (fun _ => 0) (dnD h 0) (dnE h (fun _ => 0)) (dnF h su 0)) ++ ((grdW ad 15 cy sea noi) ++ ((rayW ad 18 cy (u3_5 0) (u3_5 1) (u3_5 2) (u3_5 3) (u3_5 4) (u3_5 5) (u3_5 6) (u3_5 7)) ++ ((sndW ad 19 cy 12 sn pl pw an hd fq) ++ ((sndW ad 25 cy 6 bn bp bw ban bhd bo) ++ ((conW ad 31 cy cm c1 c2 c3 c4 c5) ++ ((entW ad 37 cy em ep e1 e2 e3 e4 e5) ++ (outW od 0 cy o))))))))))) := hD
      exfalso
      omega
    ·
      have hP : va_P D vwCl (mdlW bd 0 cy 1 h su st sh fl 0 sn bn fm fr cm em lg le lf dl cS cH sea noi pl pw an hd bp bo bw c1 c2 c3 c4 c5 e1 e2 e3 e4 e5) H := hP
      have hD : va_D (fun q => z0 ≤ q) ((mdlW bd 0 cy 1 h su st sh fl 0 sn bn fm fr cm em lg le lf dl cS cH sea noi pl pw an hd bp bo bw c1 c2 c3 c4 c5 e1 e2 e3 e4 e5) ++ ((rooW ad 0 cy fm fr) ++ ((airW ad 1 cy h su st sh fl cS cH (dnD h fl) (dnE h cS) (dnF h su st)) ++ ((airW ad 8 cy h su 0 0 0 (fun _ => 0) (fun _ => 0) (dnD h 0) (dnE h (fun _ => 0)) (dnF h su 0)) ++ ((grdW ad 15 cy sea noi) ++ ((rayW ad 18 cy (u3_5 0) (u3_5 1) (u3_5 2) (u3_5 3) (u3_5 4) (u3_5 5) (u3_5 6) (u3_5 7)) ++ ((sndW ad 19 cy 12 sn pl pw an hd fq) ++ ((sndW ad 25 cy 6 bn bp bw ban bhd bo) ++ ((conW ad 31 cy cm c1 c2 c3 c4 c5) ++ ((entW ad 37 cy em ep e1 e2 e3 e4 e5) ++ (outW od 0 cy o))))))))))) := hD
      exfalso
      omega
    ·
      have hP : va_P D vwCl (mdlW bd 0 cy 2 h su st sh fl 0 sn bn fm fr cm em lg le lf dl cS cH sea noi pl pw an hd bp bo bw c1 c2 c3 c4 c5 e1 e2 e3 e4 e5) H := hP
      have hD : va_D (fun q => z0 ≤ q) ((mdlW bd 0 cy 2 h su st sh fl 0 sn bn fm fr cm em lg le lf dl cS cH sea noi pl pw an hd bp bo bw c1 c2 c3 c4 c5 e1 e2 e3 e4 e5) ++ ((rooW ad 0 cy fm fr) ++ ((airW ad 1 cy h su st sh fl cS cH (dnD h fl) (dnE h cS) (dnF h su st)) ++ ((airW ad 8 cy h su 0 0 0 (fun _ => 0) (fun _ => 0) (dnD h 0) (dnE h (fun _ => 0)) (dnF h su 0)) ++ ((grdW ad 15 cy sea noi) ++ ((rayW ad 18 cy (u3_5 0) (u3_5 1) (u3_5 2) (u3_5 3) (u3_5 4) (u3_5 5) (u3_5 6) (u3_5 7)) ++ ((sndW ad 19 cy 12 sn pl pw an hd fq) ++ ((sndW ad 25 cy 6 bn bp bw ban bhd bo) ++ ((conW ad 31 cy cm c1 c2 c3 c4 c5) ++ ((entW ad 37 cy em ep e1 e2 e3 e4 e5) ++ (outW od 0 cy o))))))))))) := hD
      refine lv_istore (lv' := [(6, .int (iI 0)), (5, .int (iI 2)), (0, .ref (b)), (1, .ref (ad 0)), (2, .ref (bd 0)), (3, .ref (od 0)), (4, .int (iI i))]) M.1 M.2.1 dL_law_834 hl (by decide) rfl (fun ls hl => ?_)
      refine lv_aload_n M.1 M.2.1 dL_law_836 rfl (lv_at hl 4 rfl) ?_
      refine z_cR (z_runV (As := []) (rest := []) M (c_X7_thrown l D cy z0 bd 2 h su st sh fl 0 sn bn fm fr cm em lg le lf dl cS cH sea noi pl pw an hd bp bo bw c1 c2 c3 c4 c5 e1 e2 e3 e4 e5) hE hS hAz hP (zRc.of (ci := 7) (q0 := 0) hE hP rfl rfl) zk_cd_X7_thrown zk_in_RX7 zk_im_X7_thrown zk_se_X7_thrown zk_ml_RL_116 rfl rfl zd_X7_thrown ⟨by decide, by decide⟩ rfl hl.1 rfl (Nat.le_of_ble_eq_true rfl) dL_law_837 ⟨by show _ ≤ 601024; omega, by show _ ≤ 7293034; omega⟩) ?_
      refine lv_iload M.1 M.2.1 dL_law_840 (lv_at hl 1 rfl) ?_
      refine zi_same (tgt := 847) M dL_law_842 (by decide) ?_
      refine lv_iload M.1 M.2.1 dL_law_847 (lv_at hl 1 rfl) ?_
      refine zi_if_ne (tgt := 871) M dL_law_849 (by decide) ⟨by decide, by decide⟩ (fun _ => ?_) (fun q => absurd q (by decide))
      refine zi_goto (tgt := 2286) M dL_law_871 (by decide) ?_
      have hPx := hP
      have hP := hPm
      have hPm := hPx
      have hD := zD_c hD
      refine W.widen (k := cells + 6) (n := slots + 36) (by omega) (by omega) ?_
      exact hback h su st sh fl sn bn cm em ep fm fr 2 o lg le lf dl cS cH sea noi pl pw an hd fq bp bw ban bhd bo c1 c2 c3 c4 c5 e1 e2 e3 e4 e5 u3_5 h_h h_su h_st h_sh h_fl h_sn h_bn h_cm h_em g_cS g_cH g_sea g_noi g_pl g_pw g_an g_hd g_bp g_bw g_ban g_bhd g_c1 g_c2 g_c3 g_c4 g_c5 g_e1 g_e2 g_e3 g_e4 g_e5 hbo hep H locs hP hPm hD hS ls (lv_sub hl [2, 3, 4, 5, 6] rfl)
    ·
      have hP : va_P D vwCl (mdlW bd 0 cy 3 h su st sh fl 0 sn bn fm fr cm em lg le lf dl cS cH sea noi pl pw an hd bp bo bw c1 c2 c3 c4 c5 e1 e2 e3 e4 e5) H := hP
      have hD : va_D (fun q => z0 ≤ q) ((mdlW bd 0 cy 3 h su st sh fl 0 sn bn fm fr cm em lg le lf dl cS cH sea noi pl pw an hd bp bo bw c1 c2 c3 c4 c5 e1 e2 e3 e4 e5) ++ ((rooW ad 0 cy fm fr) ++ ((airW ad 1 cy h su st sh fl cS cH (dnD h fl) (dnE h cS) (dnF h su st)) ++ ((airW ad 8 cy h su 0 0 0 (fun _ => 0) (fun _ => 0) (dnD h 0) (dnE h (fun _ => 0)) (dnF h su 0)) ++ ((grdW ad 15 cy sea noi) ++ ((rayW ad 18 cy (u3_5 0) (u3_5 1) (u3_5 2) (u3_5 3) (u3_5 4) (u3_5 5) (u3_5 6) (u3_5 7)) ++ ((sndW ad 19 cy 12 sn pl pw an hd fq) ++ ((sndW ad 25 cy 6 bn bp bw ban bhd bo) ++ ((conW ad 31 cy cm c1 c2 c3 c4 c5) ++ ((entW ad 37 cy em ep e1 e2 e3 e4 e5) ++ (outW od 0 cy o))))))))))) := hD
      exfalso
      omega
  ·
    have hw_5 := hv_5.symm
    subst hw_5
    have hP : va_P D vwCl ((rooW ad 0 cy fm fr) ++ ((airW ad 1 cy h su st sh fl cS cH (dnD h fl) (dnE h cS) (dnF h su st)) ++ ((airW ad 8 cy h su 0 0 0 (fun _ => 0) (fun _ => 0) (dnD h 0) (dnE h (fun _ => 0)) (dnF h su 0)) ++ ((grdW ad 15 cy sea noi) ++ ((rayW ad 18 cy (u3_5 0) (u3_5 1) (u3_5 2) (u3_5 3) (u3_5 4) (u3_5 5) (u3_5 6) (u3_5 7)) ++ ((sndW ad 19 cy 12 sn pl pw an hd fq) ++ ((sndW ad 25 cy 6 bn bp bw ban bhd bo) ++ ((conW ad 31 cy cm c1 c2 c3 c4 c5) ++ ((entW ad 37 cy em ep e1 e2 e3 e4 e5) ++ (outW od 0 cy o)))))))))) H := hP
    have hD : va_D (fun q => z0 ≤ q) (((rooW ad 0 cy fm fr) ++ ((airW ad 1 cy h su st sh fl cS cH (dnD h fl) (dnE h cS) (dnF h su st)) ++ ((airW ad 8 cy h su 0 0 0 (fun _ => 0) (fun _ => 0) (dnD h 0) (dnE h (fun _ => 0)) (dnF h su 0)) ++ ((grdW ad 15 cy sea noi) ++ ((rayW ad 18 cy (u3_5 0) (u3_5 1) (u3_5 2) (u3_5 3) (u3_5 4) (u3_5 5) (u3_5 6) (u3_5 7)) ++ ((sndW ad 19 cy 12 sn pl pw an hd fq) ++ ((sndW ad 25 cy 6 bn bp bw ban bhd bo) ++ ((conW ad 31 cy cm c1 c2 c3 c4 c5) ++ ((entW ad 37 cy em ep e1 e2 e3 e4 e5) ++ (outW od 0 cy o)))))))))) ++ (mdlW bd 0 cy th h su st sh fl 0 sn bn fm fr cm em lg le lf dl cS cH sea noi pl pw an hd bp bo bw c1 c2 c3 c4 c5 e1 e2 e3 e4 e5)) := hD
    refine lv_istore (lv' := [(5, .int (iI 3)), (0, .ref (b)), (1, .ref (ad 0)), (2, .ref (bd 0)), (3, .ref (od 0)), (4, .int (iI i))]) M.1 M.2.1 dL_law_804 hl (by decide) rfl (fun ls hl => ?_)
    refine lv_aload_n M.1 M.2.1 dL_law_806 rfl (lv_at hl 3 rfl) ?_
    refine lv_aload_n M.1 M.2.1 dL_law_807 rfl (lv_at hl 1 rfl) ?_
    refine lv_iload M.1 M.2.1 dL_law_808 (lv_at hl 5 rfl) ?_
    refine zi_push M dL_law_810 ?_
    refine zi_iadd M dL_law_811 ?_
    refine zi_sld M hX hbl hbA hS hL (by omega) (by omega) dL_law_812 ?_
    have hx_22 := xZ_rg xs (i + 1)
    refine lv_aload_n M.1 M.2.1 dL_law_813 rfl (lv_at hl 1 rfl) ?_
    refine lv_iload M.1 M.2.1 dL_law_814 (lv_at hl 5 rfl) ?_
    refine zi_push M dL_law_816 ?_
    refine zi_iadd M dL_law_817 ?_
    refine zi_sld M hX hbl hbA hS hL (by omega) (by omega) dL_law_818 ?_
    have hx_23 := xZ_rg xs (i + 2)
    refine lv_aload_n M.1 M.2.1 dL_law_819 rfl (lv_at hl 1 rfl) ?_
    refine lv_iload M.1 M.2.1 dL_law_820 (lv_at hl 5 rfl) ?_
    refine zi_push M dL_law_822 ?_
    refine zi_iadd M dL_law_823 ?_
    refine zi_sld M hX hbl hbA hS hL (by omega) (by omega) dL_law_824 ?_
    have hx_24 := xZ_rg xs (i + 3)
    refine lv_aload_n M.1 M.2.1 dL_law_825 rfl (lv_at hl 1 rfl) ?_
    refine lv_iload M.1 M.2.1 dL_law_826 (lv_at hl 5 rfl) ?_
    refine zi_push M dL_law_828 ?_
    refine zi_iadd M dL_law_829 ?_
    refine zi_sld M hX hbl hbA hS hL (by omega) (by omega) dL_law_830 ?_
    have hx_25 := xZ_rg xs (i + 4)
    have hPx := hP
    have hP := hPm
    have hPm := hPx
    have hD := zD_c hD
    refine z_cW2 (z_runV (As := [.int (iI (xZ xs (i + 1))), .int (iI (xZ xs (i + 2))), .int (iI (xZ xs (i + 3))), .int (iI (xZ xs (i + 4)))]) (rest := []) M (c_X7_call l D cy z0 bd th h su st sh fl 0 sn bn fm fr cm em lg le lf dl cS cH sea noi pl pw an hd bp bo bw c1 c2 c3 c4 c5 e1 e2 e3 e4 e5 (xZ xs (i + 1)) (xZ xs (i + 2)) (xZ xs (i + 3)) (xZ xs (i + 4)) (by omega) (by omega) (by omega) (by omega) (by omega) (by omega) (by omega) (by omega) g_cS (by omega) g_sea g_noi g_pl g_pw g_an g_hd (by omega) (by omega)) hE hS hAz (z_cut hP (zD_l hD) hAz [0, 1, 2, 3, 4, 5, 6, 7, 8, 9, 10, 11, 12, 13, 14, 15, 16, 17, 18, 19, 20, 21] rfl (by decide +kernel)) (zRc.of (ci := 7) (q0 := 0) hE hP rfl rfl) zk_cd_X7_call zk_in_RX7 zk_im_X7_call zk_se_X7_call zk_ml_RL_152 rfl rfl zd_X7_call ⟨by decide, by decide⟩ rfl hl.1 rfl (Nat.le_of_ble_eq_true rfl) dL_law_831 ⟨by show _ ≤ 601024; omega, by show _ ≤ 7293034; omega⟩) hP hPm hD hS [0, 1, 2, 3, 4, 5, 6, 7, 8, 9, 10, 11, 12, 13, 14, 15, 16, 17, 18, 19, 20, 21] rfl (fun _ => by simp only [List.map_append, mdlW_adr]) (fun r_26 u_26 H locs hp_26 hP hPm hD hS => ?_)
    try simp only [mdD_0, mdE_0, mdF_0, mdD_1, mdE_1, mdF_1] at hp_26
    have hP : va_P D vwCl (mdlW bd 0 cy (u_26 4) h su st sh fl 0 sn bn fm fr (if u_26 4 = 0 then (zif (callP (dnE h cS) (dnF h su st) (dnD h fl) sea noi h pl pw an hd (xZ xs (i + 1)) (xZ xs (i + 2)) (xZ xs (i + 3)) (xZ xs (i + 4))) (cm + 1) cm) else cm) em (u_26 0) (u_26 1) (u_26 2) (u_26 3) cS cH sea noi pl pw an hd bp bo bw (if u_26 4 = 0 then (zifF (callP (dnE h cS) (dnF h su st) (dnD h fl) sea noi h pl pw an hd (xZ xs (i + 1)) (xZ xs (i + 2)) (xZ xs (i + 3)) (xZ xs (i + 4))) (zu c1 cm (xZ xs (i + 1))) c1) else c1) (if u_26 4 = 0 then (zifF (callP (dnE h cS) (dnF h su st) (dnD h fl) sea noi h pl pw an hd (xZ xs (i + 1)) (xZ xs (i + 2)) (xZ xs (i + 3)) (xZ xs (i + 4))) (zu c2 cm (xZ xs (i + 2))) c2) else c2) (if u_26 4 = 0 then (zifF (callP (dnE h cS) (dnF h su st) (dnD h fl) sea noi h pl pw an hd (xZ xs (i + 1)) (xZ xs (i + 2)) (xZ xs (i + 3)) (xZ xs (i + 4))) (zu c3 cm (xZ xs (i + 3))) c3) else c3) (if u_26 4 = 0 then (zifF (callP (dnE h cS) (dnF h su st) (dnD h fl) sea noi h pl pw an hd (xZ xs (i + 1)) (xZ xs (i + 2)) (xZ xs (i + 3)) (xZ xs (i + 4))) (zu c4 cm (xZ xs (i + 4))) c4) else c4) (if u_26 4 = 0 then (zifF (callP (dnE h cS) (dnF h su st) (dnD h fl) sea noi h pl pw an hd (xZ xs (i + 1)) (xZ xs (i + 2)) (xZ xs (i + 3)) (xZ xs (i + 4))) (zu c5 cm h) c5) else c5) e1 e2 e3 e4 e5) H := hP
    have hD : va_D (fun q => z0 ≤ q) ((mdlW bd 0 cy (u_26 4) h su st sh fl 0 sn bn fm fr (if u_26 4 = 0 then (zif (callP (dnE h cS) (dnF h su st) (dnD h fl) sea noi h pl pw an hd (xZ xs (i + 1)) (xZ xs (i + 2)) (xZ xs (i + 3)) (xZ xs (i + 4))) (cm + 1) cm) else cm) em (u_26 0) (u_26 1) (u_26 2) (u_26 3) cS cH sea noi pl pw an hd bp bo bw (if u_26 4 = 0 then (zifF (callP (dnE h cS) (dnF h su st) (dnD h fl) sea noi h pl pw an hd (xZ xs (i + 1)) (xZ xs (i + 2)) (xZ xs (i + 3)) (xZ xs (i + 4))) (zu c1 cm (xZ xs (i + 1))) c1) else c1) (if u_26 4 = 0 then (zifF (callP (dnE h cS) (dnF h su st) (dnD h fl) sea noi h pl pw an hd (xZ xs (i + 1)) (xZ xs (i + 2)) (xZ xs (i + 3)) (xZ xs (i + 4))) (zu c2 cm (xZ xs (i + 2))) c2) else c2) (if u_26 4 = 0 then (zifF (callP (dnE h cS) (dnF h su st) (dnD h fl) sea noi h pl pw an hd (xZ xs (i + 1)) (xZ xs (i + 2)) (xZ xs (i + 3)) (xZ xs (i + 4))) (zu c3 cm (xZ xs (i + 3))) c3) else c3) (if u_26 4 = 0 then (zifF (callP (dnE h cS) (dnF h su st) (dnD h fl) sea noi h pl pw an hd (xZ xs (i + 1)) (xZ xs (i + 2)) (xZ xs (i + 3)) (xZ xs (i + 4))) (zu c4 cm (xZ xs (i + 4))) c4) else c4) (if u_26 4 = 0 then (zifF (callP (dnE h cS) (dnF h su st) (dnD h fl) sea noi h pl pw an hd (xZ xs (i + 1)) (xZ xs (i + 2)) (xZ xs (i + 3)) (xZ xs (i + 4))) (zu c5 cm h) c5) else c5) e1 e2 e3 e4 e5) ++ ((rooW ad 0 cy fm fr) ++ ((airW ad 1 cy h su st sh fl cS cH (dnD h fl) (dnE h cS) (dnF h su st)) ++ ((airW ad 8 cy h su 0 0 0 (fun _ => 0) (fun _ => 0) (dnD h 0) (dnE h (fun _ => 0)) (dnF h su 0)) ++ ((grdW ad 15 cy sea noi) ++ ((rayW ad 18 cy (u3_5 0) (u3_5 1) (u3_5 2) (u3_5 3) (u3_5 4) (u3_5 5) (u3_5 6) (u3_5 7)) ++ ((sndW ad 19 cy 12 sn pl pw an hd fq) ++ ((sndW ad 25 cy 6 bn bp bw ban bhd bo) ++ ((conW ad 31 cy cm c1 c2 c3 c4 c5) ++ ((entW ad 37 cy em ep e1 e2 e3 e4 e5) ++ (outW od 0 cy o))))))))))) := hD
    rcases hp_26 with ⟨xa_26, xb_26, xc_26, xd_26, rfl, hN_26, rfl⟩ | ⟨rfl, hN_26, rfl⟩ | ⟨rfl, hN_26, rfl⟩ | ⟨rfl, hN_26, rfl⟩
    ·
      have hP : va_P D vwCl (mdlW bd 0 cy 0 h su st sh fl 0 sn bn fm fr (zif (callP (dnE h cS) (dnF h su st) (dnD h fl) sea noi h pl pw an hd (xZ xs (i + 1)) (xZ xs (i + 2)) (xZ xs (i + 3)) (xZ xs (i + 4))) (cm + 1) cm) em xa_26 xb_26 xc_26 xd_26 cS cH sea noi pl pw an hd bp bo bw (zifF (callP (dnE h cS) (dnF h su st) (dnD h fl) sea noi h pl pw an hd (xZ xs (i + 1)) (xZ xs (i + 2)) (xZ xs (i + 3)) (xZ xs (i + 4))) (zu c1 cm (xZ xs (i + 1))) c1) (zifF (callP (dnE h cS) (dnF h su st) (dnD h fl) sea noi h pl pw an hd (xZ xs (i + 1)) (xZ xs (i + 2)) (xZ xs (i + 3)) (xZ xs (i + 4))) (zu c2 cm (xZ xs (i + 2))) c2) (zifF (callP (dnE h cS) (dnF h su st) (dnD h fl) sea noi h pl pw an hd (xZ xs (i + 1)) (xZ xs (i + 2)) (xZ xs (i + 3)) (xZ xs (i + 4))) (zu c3 cm (xZ xs (i + 3))) c3) (zifF (callP (dnE h cS) (dnF h su st) (dnD h fl) sea noi h pl pw an hd (xZ xs (i + 1)) (xZ xs (i + 2)) (xZ xs (i + 3)) (xZ xs (i + 4))) (zu c4 cm (xZ xs (i + 4))) c4) (zifF (callP (dnE h cS) (dnF h su st) (dnD h fl) sea noi h pl pw an hd (xZ xs (i + 1)) (xZ xs (i + 2)) (xZ xs (i + 3)) (xZ xs (i + 4))) (zu c5 cm h) c5) e1 e2 e3 e4 e5) H := hP
      have hD : va_D (fun q => z0 ≤ q) ((mdlW bd 0 cy 0 h su st sh fl 0 sn bn fm fr (zif (callP (dnE h cS) (dnF h su st) (dnD h fl) sea noi h pl pw an hd (xZ xs (i + 1)) (xZ xs (i + 2)) (xZ xs (i + 3)) (xZ xs (i + 4))) (cm + 1) cm) em xa_26 xb_26 xc_26 xd_26 cS cH sea noi pl pw an hd bp bo bw (zifF (callP (dnE h cS) (dnF h su st) (dnD h fl) sea noi h pl pw an hd (xZ xs (i + 1)) (xZ xs (i + 2)) (xZ xs (i + 3)) (xZ xs (i + 4))) (zu c1 cm (xZ xs (i + 1))) c1) (zifF (callP (dnE h cS) (dnF h su st) (dnD h fl) sea noi h pl pw an hd (xZ xs (i + 1)) (xZ xs (i + 2)) (xZ xs (i + 3)) (xZ xs (i + 4))) (zu c2 cm (xZ xs (i + 2))) c2) (zifF (callP (dnE h cS) (dnF h su st) (dnD h fl) sea noi h pl pw an hd (xZ xs (i + 1)) (xZ xs (i + 2)) (xZ xs (i + 3)) (xZ xs (i + 4))) (zu c3 cm (xZ xs (i + 3))) c3) (zifF (callP (dnE h cS) (dnF h su st) (dnD h fl) sea noi h pl pw an hd (xZ xs (i + 1)) (xZ xs (i + 2)) (xZ xs (i + 3)) (xZ xs (i + 4))) (zu c4 cm (xZ xs (i + 4))) c4) (zifF (callP (dnE h cS) (dnF h su st) (dnD h fl) sea noi h pl pw an hd (xZ xs (i + 1)) (xZ xs (i + 2)) (xZ xs (i + 3)) (xZ xs (i + 4))) (zu c5 cm h) c5) e1 e2 e3 e4 e5) ++ ((rooW ad 0 cy fm fr) ++ ((airW ad 1 cy h su st sh fl cS cH (dnD h fl) (dnE h cS) (dnF h su st)) ++ ((airW ad 8 cy h su 0 0 0 (fun _ => 0) (fun _ => 0) (dnD h 0) (dnE h (fun _ => 0)) (dnF h su 0)) ++ ((grdW ad 15 cy sea noi) ++ ((rayW ad 18 cy (u3_5 0) (u3_5 1) (u3_5 2) (u3_5 3) (u3_5 4) (u3_5 5) (u3_5 6) (u3_5 7)) ++ ((sndW ad 19 cy 12 sn pl pw an hd fq) ++ ((sndW ad 25 cy 6 bn bp bw ban bhd bo) ++ ((conW ad 31 cy cm c1 c2 c3 c4 c5) ++ ((entW ad 37 cy em ep e1 e2 e3 e4 e5) ++ (outW od 0 cy o))))))))))) := hD
      exfalso
      omega
    ·
      have hP : va_P D vwCl (mdlW bd 0 cy 1 h su st sh fl 0 sn bn fm fr cm em lg le lf dl cS cH sea noi pl pw an hd bp bo bw c1 c2 c3 c4 c5 e1 e2 e3 e4 e5) H := hP
      have hD : va_D (fun q => z0 ≤ q) ((mdlW bd 0 cy 1 h su st sh fl 0 sn bn fm fr cm em lg le lf dl cS cH sea noi pl pw an hd bp bo bw c1 c2 c3 c4 c5 e1 e2 e3 e4 e5) ++ ((rooW ad 0 cy fm fr) ++ ((airW ad 1 cy h su st sh fl cS cH (dnD h fl) (dnE h cS) (dnF h su st)) ++ ((airW ad 8 cy h su 0 0 0 (fun _ => 0) (fun _ => 0) (dnD h 0) (dnE h (fun _ => 0)) (dnF h su 0)) ++ ((grdW ad 15 cy sea noi) ++ ((rayW ad 18 cy (u3_5 0) (u3_5 1) (u3_5 2) (u3_5 3) (u3_5 4) (u3_5 5) (u3_5 6) (u3_5 7)) ++ ((sndW ad 19 cy 12 sn pl pw an hd fq) ++ ((sndW ad 25 cy 6 bn bp bw ban bhd bo) ++ ((conW ad 31 cy cm c1 c2 c3 c4 c5) ++ ((entW ad 37 cy em ep e1 e2 e3 e4 e5) ++ (outW od 0 cy o))))))))))) := hD
      exfalso
      omega
    ·
      have hP : va_P D vwCl (mdlW bd 0 cy 2 h su st sh fl 0 sn bn fm fr cm em lg le lf dl cS cH sea noi pl pw an hd bp bo bw c1 c2 c3 c4 c5 e1 e2 e3 e4 e5) H := hP
      have hD : va_D (fun q => z0 ≤ q) ((mdlW bd 0 cy 2 h su st sh fl 0 sn bn fm fr cm em lg le lf dl cS cH sea noi pl pw an hd bp bo bw c1 c2 c3 c4 c5 e1 e2 e3 e4 e5) ++ ((rooW ad 0 cy fm fr) ++ ((airW ad 1 cy h su st sh fl cS cH (dnD h fl) (dnE h cS) (dnF h su st)) ++ ((airW ad 8 cy h su 0 0 0 (fun _ => 0) (fun _ => 0) (dnD h 0) (dnE h (fun _ => 0)) (dnF h su 0)) ++ ((grdW ad 15 cy sea noi) ++ ((rayW ad 18 cy (u3_5 0) (u3_5 1) (u3_5 2) (u3_5 3) (u3_5 4) (u3_5 5) (u3_5 6) (u3_5 7)) ++ ((sndW ad 19 cy 12 sn pl pw an hd fq) ++ ((sndW ad 25 cy 6 bn bp bw ban bhd bo) ++ ((conW ad 31 cy cm c1 c2 c3 c4 c5) ++ ((entW ad 37 cy em ep e1 e2 e3 e4 e5) ++ (outW od 0 cy o))))))))))) := hD
      exfalso
      omega
    ·
      have hP : va_P D vwCl (mdlW bd 0 cy 3 h su st sh fl 0 sn bn fm fr cm em lg le lf dl cS cH sea noi pl pw an hd bp bo bw c1 c2 c3 c4 c5 e1 e2 e3 e4 e5) H := hP
      have hD : va_D (fun q => z0 ≤ q) ((mdlW bd 0 cy 3 h su st sh fl 0 sn bn fm fr cm em lg le lf dl cS cH sea noi pl pw an hd bp bo bw c1 c2 c3 c4 c5 e1 e2 e3 e4 e5) ++ ((rooW ad 0 cy fm fr) ++ ((airW ad 1 cy h su st sh fl cS cH (dnD h fl) (dnE h cS) (dnF h su st)) ++ ((airW ad 8 cy h su 0 0 0 (fun _ => 0) (fun _ => 0) (dnD h 0) (dnE h (fun _ => 0)) (dnF h su 0)) ++ ((grdW ad 15 cy sea noi) ++ ((rayW ad 18 cy (u3_5 0) (u3_5 1) (u3_5 2) (u3_5 3) (u3_5 4) (u3_5 5) (u3_5 6) (u3_5 7)) ++ ((sndW ad 19 cy 12 sn pl pw an hd fq) ++ ((sndW ad 25 cy 6 bn bp bw ban bhd bo) ++ ((conW ad 31 cy cm c1 c2 c3 c4 c5) ++ ((entW ad 37 cy em ep e1 e2 e3 e4 e5) ++ (outW od 0 cy o))))))))))) := hD
      refine lv_istore (lv' := [(6, .int (iI 0)), (5, .int (iI 3)), (0, .ref (b)), (1, .ref (ad 0)), (2, .ref (bd 0)), (3, .ref (od 0)), (4, .int (iI i))]) M.1 M.2.1 dL_law_834 hl (by decide) rfl (fun ls hl => ?_)
      refine lv_aload_n M.1 M.2.1 dL_law_836 rfl (lv_at hl 4 rfl) ?_
      refine z_cR (z_runV (As := []) (rest := []) M (c_X7_thrown l D cy z0 bd 3 h su st sh fl 0 sn bn fm fr cm em lg le lf dl cS cH sea noi pl pw an hd bp bo bw c1 c2 c3 c4 c5 e1 e2 e3 e4 e5) hE hS hAz hP (zRc.of (ci := 7) (q0 := 0) hE hP rfl rfl) zk_cd_X7_thrown zk_in_RX7 zk_im_X7_thrown zk_se_X7_thrown zk_ml_RL_116 rfl rfl zd_X7_thrown ⟨by decide, by decide⟩ rfl hl.1 rfl (Nat.le_of_ble_eq_true rfl) dL_law_837 ⟨by show _ ≤ 601024; omega, by show _ ≤ 7293034; omega⟩) ?_
      refine lv_iload M.1 M.2.1 dL_law_840 (lv_at hl 1 rfl) ?_
      refine zi_same (tgt := 847) M dL_law_842 (by decide) ?_
      refine lv_iload M.1 M.2.1 dL_law_847 (lv_at hl 1 rfl) ?_
      refine zi_if_ne (tgt := 871) M dL_law_849 (by decide) ⟨by decide, by decide⟩ (fun _ => ?_) (fun q => absurd q (by decide))
      refine zi_goto (tgt := 2286) M dL_law_871 (by decide) ?_
      have hPx := hP
      have hP := hPm
      have hPm := hPx
      have hD := zD_c hD
      refine W.widen (k := cells + 6) (n := slots + 36) (by omega) (by omega) ?_
      exact hback h su st sh fl sn bn cm em ep fm fr 3 o lg le lf dl cS cH sea noi pl pw an hd fq bp bw ban bhd bo c1 c2 c3 c4 c5 e1 e2 e3 e4 e5 u3_5 h_h h_su h_st h_sh h_fl h_sn h_bn h_cm h_em g_cS g_cH g_sea g_noi g_pl g_pw g_an g_hd g_bp g_bw g_ban g_bhd g_c1 g_c2 g_c3 g_c4 g_c5 g_e1 g_e2 g_e3 g_e4 g_e5 hbo hep H locs hP hPm hD hS ls (lv_sub hl [2, 3, 4, 5, 6] rfl)

set_option maxRecDepth 100000 in
set_option maxHeartbeats 8000000 in
theorem lw_case10 (l : Launch) (D : va_G) (cy : Nat → ClassId) (z0 : Nat) (ad bd od : Nat → Nat) (p : Program) (e : Env) (s : State) (m : MethodId) (args : Array Value) (below : List Frame) (meth : Method) (c : Code) (b : Nat) (i : Int) (Q : State → Prop) (cells slots : Nat) (hst : l.stackTraces = false) (hL7 : ∀ q : Nat, q = 0 → True) (b_L : Nat) (xs : Nat → Int32) (M : zM p s m args c cL_law RL 7) (hE : zE D cy z0 s) (hN : zNc s) (hL : b_L ≤ 3584) (hX : va_X b b_L xs s s.heap) (hbl : b < s.heap.size) (hbA : ¬ z0 ≤ b) (hi : 0 ≤ i ∧ i + 7 ≤ b_L) (hc : cells + 6 ≤ 601024) (hs : slots + 36 ≤ 7293034) (hback : lwB l D cy z0 ad bd od p e s m args below meth c b i Q cells slots) (h su st sh fl sn bn cm em ep fm fr th o lg le lf dl : Int) (cS cH sea noi pl pw an hd fq bp bw ban bhd bo c1 c2 c3 c4 c5 e1 e2 e3 e4 e5 : Int → Int) (ur : Nat → Int) (h_h : 0 ≤ h ∧ h ≤ 5000) (h_su : 0 ≤ su ∧ su ≤ 100) (h_st : 0 ≤ st ∧ st ≤ 60) (h_sh : 0 ≤ sh ∧ sh ≤ 72) (h_fl : 0 ≤ fl ∧ fl ≤ 80) (h_sn : 0 ≤ sn ∧ sn ≤ 12) (h_bn : 0 ≤ bn ∧ bn ≤ 6) (h_cm : 0 ≤ cm ∧ cm ≤ 60) (h_em : 0 ≤ em ∧ em ≤ 80) (g_cS : zrg 48 0 100 cS) (g_cH : zrg 48 0 24 cH) (g_sea : zrg 48 0 1 sea) (g_noi : zrg 48 0 40 noi) (g_pl : zrg 12 0 47 pl) (g_pw : zrg 12 0 80 pw) (g_an : zrg 12 0 2 an) (g_hd : zrg 12 0 2 hd) (g_bp : zrg 6 0 47 bp) (g_bw : zrg 6 0 80 bw) (g_ban : zrg 6 0 2 ban) (g_bhd : zrg 6 0 2 bhd) (g_c1 : zrg 60 0 11 c1) (g_c2 : zrg 60 0 11 c2) (g_c3 : zrg 60 0 300 c3) (g_c4 : zrg 60 0 2 c4) (g_c5 : zrg 60 0 5000 c5) (g_e1 : zrg 80 0 11 e1) (g_e2 : zrg 80 0 11 e2) (g_e3 : zrg 80 0 300 e3) (g_e4 : zrg 80 0 5000 e4) (g_e5 : zrg 80 (-1) 79 e5) (hbo : ∀ n : Int, 0 ≤ n → n < bn → (10 ≤ bo n ∧ bo n ≤ 300) ∧ ban n = 2 ∧ bhd n = 2) (hep : ep = prF e5 em.toNat) (H : Heap) (locs : List Loc) (hP : va_P D vwCl ((rooW ad 0 cy fm fr) ++ ((airW ad 1 cy h su st sh fl cS cH (dnD h fl) (dnE h cS) (dnF h su st)) ++ ((airW ad 8 cy h su 0 0 0 (fun _ => 0) (fun _ => 0) (dnD h 0) (dnE h (fun _ => 0)) (dnF h su 0)) ++ ((grdW ad 15 cy sea noi) ++ ((rayW ad 18 cy (ur 0) (ur 1) (ur 2) (ur 3) (ur 4) (ur 5) (ur 6) (ur 7)) ++ ((sndW ad 19 cy 12 sn pl pw an hd fq) ++ ((sndW ad 25 cy 6 bn bp bw ban bhd bo) ++ ((conW ad 31 cy cm c1 c2 c3 c4 c5) ++ ((entW ad 37 cy em ep e1 e2 e3 e4 e5) ++ (outW od 0 cy o)))))))))) H) (hPm : va_P D vwCl (mdlW bd 0 cy th h su st sh fl 0 sn bn fm fr cm em lg le lf dl cS cH sea noi pl pw an hd bp bo bw c1 c2 c3 c4 c5 e1 e2 e3 e4 e5) H) (hD : va_D (fun q => z0 ≤ q) (((rooW ad 0 cy fm fr) ++ ((airW ad 1 cy h su st sh fl cS cH (dnD h fl) (dnE h cS) (dnF h su st)) ++ ((airW ad 8 cy h su 0 0 0 (fun _ => 0) (fun _ => 0) (dnD h 0) (dnE h (fun _ => 0)) (dnF h su 0)) ++ ((grdW ad 15 cy sea noi) ++ ((rayW ad 18 cy (ur 0) (ur 1) (ur 2) (ur 3) (ur 4) (ur 5) (ur 6) (ur 7)) ++ ((sndW ad 19 cy 12 sn pl pw an hd fq) ++ ((sndW ad 25 cy 6 bn bp bw ban bhd bo) ++ ((conW ad 31 cy cm c1 c2 c3 c4 c5) ++ ((entW ad 37 cy em ep e1 e2 e3 e4 e5) ++ (outW od 0 cy o)))))))))) ++ (mdlW bd 0 cy th h su st sh fl 0 sn bn fm fr cm em lg le lf dl cS cH sea noi pl pw an hd bp bo bw c1 c2 c3 c4 c5 e1 e2 e3 e4 e5))) (hS : va_S (fun q => z0 ≤ q) s.heap H locs) (ls : Array Slot) (hl : lv_has ls 7 [(0, .ref b), (1, .ref (ad 0)), (2, .ref (bd 0)), (3, .ref (od 0)), (4, .int (iI i))]) : W p l e room_1 s m args below meth c H locs (cells) (slots) Q (F0 m 874 ls []) := by
  have hAz : ∀ q : Nat, (fun q => z0 ≤ q) q → z0 ≤ q := fun _ h => h
  refine lv_aload_n M.1 M.2.1 dL_law_874 rfl (lv_at hl 1 rfl) ?_
  refine lv_aload_n M.1 M.2.1 dL_law_875 rfl (lv_at hl 0 rfl) ?_
  refine lv_iload M.1 M.2.1 dL_law_876 (lv_at hl 4 rfl) ?_
  refine zi_push M dL_law_878 ?_
  refine zi_iadd M dL_law_879 ?_
  refine zi_sld M hX hbl hbA hS hL (by omega) (by omega) dL_law_880 ?_
  have hx_1 := xZ_rg xs (i + 1)
  refine lv_aload_n M.1 M.2.1 dL_law_881 rfl (lv_at hl 0 rfl) ?_
  refine lv_iload M.1 M.2.1 dL_law_882 (lv_at hl 4 rfl) ?_
  refine zi_push M dL_law_884 ?_
  refine zi_iadd M dL_law_885 ?_
  refine zi_sld M hX hbl hbA hS hL (by omega) (by omega) dL_law_886 ?_
  have hx_2 := xZ_rg xs (i + 2)
  refine lv_aload_n M.1 M.2.1 dL_law_887 rfl (lv_at hl 0 rfl) ?_
  refine lv_iload M.1 M.2.1 dL_law_888 (lv_at hl 4 rfl) ?_
  refine zi_push M dL_law_890 ?_
  refine zi_iadd M dL_law_891 ?_
  refine zi_sld M hX hbl hbA hS hL (by omega) (by omega) dL_law_892 ?_
  have hx_3 := xZ_rg xs (i + 3)
  refine lv_aload_n M.1 M.2.1 dL_law_893 rfl (lv_at hl 3 rfl) ?_
  refine z_cW2 (zx_runH (As := [.ref (ad 0), .int (iI (xZ xs (i + 1))), .int (iI (xZ xs (i + 2))), .int (iI (xZ xs (i + 3))), .ref (od 0)]) (rest := []) M (c_L_log l hst D cy z0 ad od fm fr h su st sh fl sn em ep o cS cH (dnD h fl) (dnE h cS) (dnF h su st) pl pw an hd fq e1 e2 e3 e4 e5 (xZ xs (i + 1)) (xZ xs (i + 2)) (xZ xs (i + 3)) (by omega) (by omega) (by omega) (by omega) (by omega) (by omega) g_e1 g_e2 g_e3 g_e4 g_e5) hE hN hS hAz (z_cut hP (zD_l hD) hAz [0, 1, 2, 3, 4, 5, 6, 7, 19, 20, 21, 22, 23, 24, 37, 38, 39, 40, 41, 42, 43] rfl (by decide +kernel)) zk_cw_L_log zk_in_RL zk_st_L_log zk_ml_RL_153 rfl rfl zd_L_log ⟨by decide, by decide⟩ rfl hl.1 rfl (Nat.le_of_ble_eq_true rfl) dL_law_894 ⟨by show _ ≤ 601024; omega, by show _ ≤ 7293034; omega⟩) hP hPm hD hS [0, 1, 2, 3, 4, 5, 6, 7, 19, 20, 21, 22, 23, 24, 37, 38, 39, 40, 41, 42, 43] rfl (fun _ => by simp only [List.map_append, airW_adr, entW_adr, outW_adr, rooW_adr, sndW_adr]) (fun r_4 u_4 H locs hp_4 hP hPm hD hS => ?_)
  have hP : va_P D vwCl ((rooW ad 0 cy fm fr) ++ ((airW ad 1 cy h su st sh fl cS cH (dnD h fl) (dnE h cS) (dnF h su st)) ++ ((airW ad 8 cy h su 0 0 0 (fun _ => 0) (fun _ => 0) (dnD h 0) (dnE h (fun _ => 0)) (dnF h su 0)) ++ ((grdW ad 15 cy sea noi) ++ ((rayW ad 18 cy (ur 0) (ur 1) (ur 2) (ur 3) (ur 4) (ur 5) (ur 6) (ur 7)) ++ ((sndW ad 19 cy 12 sn pl pw an hd fq) ++ ((sndW ad 25 cy 6 bn bp bw ban bhd bo) ++ ((conW ad 31 cy cm c1 c2 c3 c4 c5) ++ ((entW ad 37 cy (if u_4.1 = 0 then (em + 1) else em) (if u_4.1 = 0 then (if (lowZ (parP e1 e2 e3 e4 e5 (xZ xs (i + 1)) (xZ xs (i + 2)) (xZ xs (i + 3)) h) em) = -1 then ep else ep + 2) else ep) (if u_4.1 = 0 then (zu e1 em (xZ xs (i + 1))) else e1) (if u_4.1 = 0 then (zu e2 em (xZ xs (i + 2))) else e2) (if u_4.1 = 0 then (zu e3 em (xZ xs (i + 3))) else e3) (if u_4.1 = 0 then (zu e4 em h) else e4) (if u_4.1 = 0 then (zpair (zu e5 em (lowZ (parP e1 e2 e3 e4 e5 (xZ xs (i + 1)) (xZ xs (i + 2)) (xZ xs (i + 3)) h) em)) em (lowZ (parP e1 e2 e3 e4 e5 (xZ xs (i + 1)) (xZ xs (i + 2)) (xZ xs (i + 3)) h) em)) else e5)) ++ (outW od 0 cy u_4.2.1)))))))))) H := hP
  have hD : va_D (fun q => z0 ≤ q) (((rooW ad 0 cy fm fr) ++ ((airW ad 1 cy h su st sh fl cS cH (dnD h fl) (dnE h cS) (dnF h su st)) ++ ((airW ad 8 cy h su 0 0 0 (fun _ => 0) (fun _ => 0) (dnD h 0) (dnE h (fun _ => 0)) (dnF h su 0)) ++ ((grdW ad 15 cy sea noi) ++ ((rayW ad 18 cy (ur 0) (ur 1) (ur 2) (ur 3) (ur 4) (ur 5) (ur 6) (ur 7)) ++ ((sndW ad 19 cy 12 sn pl pw an hd fq) ++ ((sndW ad 25 cy 6 bn bp bw ban bhd bo) ++ ((conW ad 31 cy cm c1 c2 c3 c4 c5) ++ ((entW ad 37 cy (if u_4.1 = 0 then (em + 1) else em) (if u_4.1 = 0 then (if (lowZ (parP e1 e2 e3 e4 e5 (xZ xs (i + 1)) (xZ xs (i + 2)) (xZ xs (i + 3)) h) em) = -1 then ep else ep + 2) else ep) (if u_4.1 = 0 then (zu e1 em (xZ xs (i + 1))) else e1) (if u_4.1 = 0 then (zu e2 em (xZ xs (i + 2))) else e2) (if u_4.1 = 0 then (zu e3 em (xZ xs (i + 3))) else e3) (if u_4.1 = 0 then (zu e4 em h) else e4) (if u_4.1 = 0 then (zpair (zu e5 em (lowZ (parP e1 e2 e3 e4 e5 (xZ xs (i + 1)) (xZ xs (i + 2)) (xZ xs (i + 3)) h) em)) em (lowZ (parP e1 e2 e3 e4 e5 (xZ xs (i + 1)) (xZ xs (i + 2)) (xZ xs (i + 3)) h) em)) else e5)) ++ (outW od 0 cy u_4.2.1)))))))))) ++ (mdlW bd 0 cy th h su st sh fl 0 sn bn fm fr cm em lg le lf dl cS cH sea noi pl pw an hd bp bo bw c1 c2 c3 c4 c5 e1 e2 e3 e4 e5)) := hD
  obtain ⟨u1_4, u2_4, u3_4⟩ := u_4
  dsimp only at hp_4
  rcases hp_4 with ⟨rfl, rfl, hN_4, hv_4⟩ | ⟨rfl, rfl, hN_4, hv_4⟩ | ⟨rfl, rfl, hN_4, hv_4⟩ | ⟨rfl, rfl, hN_4, hv_4⟩
  ·
    have hw_4 := hv_4.symm
    subst hw_4
    have hP : va_P D vwCl ((rooW ad 0 cy fm fr) ++ ((airW ad 1 cy h su st sh fl cS cH (dnD h fl) (dnE h cS) (dnF h su st)) ++ ((airW ad 8 cy h su 0 0 0 (fun _ => 0) (fun _ => 0) (dnD h 0) (dnE h (fun _ => 0)) (dnF h su 0)) ++ ((grdW ad 15 cy sea noi) ++ ((rayW ad 18 cy (ur 0) (ur 1) (ur 2) (ur 3) (ur 4) (ur 5) (ur 6) (ur 7)) ++ ((sndW ad 19 cy 12 sn pl pw an hd fq) ++ ((sndW ad 25 cy 6 bn bp bw ban bhd bo) ++ ((conW ad 31 cy cm c1 c2 c3 c4 c5) ++ ((entW ad 37 cy (em + 1) (if (lowZ (parP e1 e2 e3 e4 e5 (xZ xs (i + 1)) (xZ xs (i + 2)) (xZ xs (i + 3)) h) em) = -1 then ep else ep + 2) (zu e1 em (xZ xs (i + 1))) (zu e2 em (xZ xs (i + 2))) (zu e3 em (xZ xs (i + 3))) (zu e4 em h) (zpair (zu e5 em (lowZ (parP e1 e2 e3 e4 e5 (xZ xs (i + 1)) (xZ xs (i + 2)) (xZ xs (i + 3)) h) em)) em (lowZ (parP e1 e2 e3 e4 e5 (xZ xs (i + 1)) (xZ xs (i + 2)) (xZ xs (i + 3)) h) em))) ++ (outW od 0 cy em)))))))))) H := hP
    have hD : va_D (fun q => z0 ≤ q) (((rooW ad 0 cy fm fr) ++ ((airW ad 1 cy h su st sh fl cS cH (dnD h fl) (dnE h cS) (dnF h su st)) ++ ((airW ad 8 cy h su 0 0 0 (fun _ => 0) (fun _ => 0) (dnD h 0) (dnE h (fun _ => 0)) (dnF h su 0)) ++ ((grdW ad 15 cy sea noi) ++ ((rayW ad 18 cy (ur 0) (ur 1) (ur 2) (ur 3) (ur 4) (ur 5) (ur 6) (ur 7)) ++ ((sndW ad 19 cy 12 sn pl pw an hd fq) ++ ((sndW ad 25 cy 6 bn bp bw ban bhd bo) ++ ((conW ad 31 cy cm c1 c2 c3 c4 c5) ++ ((entW ad 37 cy (em + 1) (if (lowZ (parP e1 e2 e3 e4 e5 (xZ xs (i + 1)) (xZ xs (i + 2)) (xZ xs (i + 3)) h) em) = -1 then ep else ep + 2) (zu e1 em (xZ xs (i + 1))) (zu e2 em (xZ xs (i + 2))) (zu e3 em (xZ xs (i + 3))) (zu e4 em h) (zpair (zu e5 em (lowZ (parP e1 e2 e3 e4 e5 (xZ xs (i + 1)) (xZ xs (i + 2)) (xZ xs (i + 3)) h) em)) em (lowZ (parP e1 e2 e3 e4 e5 (xZ xs (i + 1)) (xZ xs (i + 2)) (xZ xs (i + 3)) h) em))) ++ (outW od 0 cy em)))))))))) ++ (mdlW bd 0 cy th h su st sh fl 0 sn bn fm fr cm em lg le lf dl cS cH sea noi pl pw an hd bp bo bw c1 c2 c3 c4 c5 e1 e2 e3 e4 e5)) := hD
    refine lv_istore (lv' := [(5, .int (iI 0)), (0, .ref (b)), (1, .ref (ad 0)), (2, .ref (bd 0)), (3, .ref (od 0)), (4, .int (iI i))]) M.1 M.2.1 dL_law_897 hl (by decide) rfl (fun ls hl => ?_)
    refine lv_aload_n M.1 M.2.1 dL_law_899 rfl (lv_at hl 3 rfl) ?_
    refine lv_aload_n M.1 M.2.1 dL_law_900 rfl (lv_at hl 1 rfl) ?_
    refine lv_iload M.1 M.2.1 dL_law_901 (lv_at hl 5 rfl) ?_
    refine zi_push M dL_law_903 ?_
    refine zi_iadd M dL_law_904 ?_
    refine zi_sld M hX hbl hbA hS hL (by omega) (by omega) dL_law_905 ?_
    have hx_5 := xZ_rg xs (i + 1)
    refine lv_aload_n M.1 M.2.1 dL_law_906 rfl (lv_at hl 1 rfl) ?_
    refine lv_iload M.1 M.2.1 dL_law_907 (lv_at hl 5 rfl) ?_
    refine zi_push M dL_law_909 ?_
    refine zi_iadd M dL_law_910 ?_
    refine zi_sld M hX hbl hbA hS hL (by omega) (by omega) dL_law_911 ?_
    have hx_6 := xZ_rg xs (i + 2)
    refine lv_aload_n M.1 M.2.1 dL_law_912 rfl (lv_at hl 1 rfl) ?_
    refine lv_iload M.1 M.2.1 dL_law_913 (lv_at hl 5 rfl) ?_
    refine zi_push M dL_law_915 ?_
    refine zi_iadd M dL_law_916 ?_
    refine zi_sld M hX hbl hbA hS hL (by omega) (by omega) dL_law_917 ?_
    have hx_7 := xZ_rg xs (i + 3)
    have hPx := hP
    have hP := hPm
    have hPm := hPx
    have hD := zD_c hD
    refine z_cW2 (z_runV (As := [.int (iI (xZ xs (i + 1))), .int (iI (xZ xs (i + 2))), .int (iI (xZ xs (i + 3)))]) (rest := []) M (c_X7_log l D cy z0 bd th h su st sh fl 0 sn bn fm fr cm em lg le lf dl cS cH sea noi pl pw an hd bp bo bw c1 c2 c3 c4 c5 e1 e2 e3 e4 e5 (xZ xs (i + 1)) (xZ xs (i + 2)) (xZ xs (i + 3)) (by omega) (by omega) (by omega) (by omega) (by omega) (by omega) g_e1 g_e2 g_e3 g_e4 g_e5) hE hS hAz (z_cut hP (zD_l hD) hAz [0, 1, 2, 3, 4, 5, 6, 7, 8, 9, 10, 11, 12, 13, 14, 15, 16, 17, 18, 19, 20, 21] rfl (by decide +kernel)) (zRc.of (ci := 7) (q0 := 0) hE hP rfl rfl) zk_cd_X7_log zk_in_RX7 zk_im_X7_log zk_se_X7_log zk_ml_RL_155 rfl rfl zd_X7_log ⟨by decide, by decide⟩ rfl hl.1 rfl (Nat.le_of_ble_eq_true rfl) dL_law_918 ⟨by show _ ≤ 601024; omega, by show _ ≤ 7293034; omega⟩) hP hPm hD hS [0, 1, 2, 3, 4, 5, 6, 7, 8, 9, 10, 11, 12, 13, 14, 15, 16, 17, 18, 19, 20, 21] rfl (fun _ => by simp only [List.map_append, mdlW_adr]) (fun r_8 u_8 H locs hp_8 hP hPm hD hS => ?_)
    try simp only [mdD_0, mdE_0, mdF_0, mdD_1, mdE_1, mdF_1] at hp_8
    have hP : va_P D vwCl (mdlW bd 0 cy u_8 h su st sh fl 0 sn bn fm fr cm (if u_8 = 0 then (em + 1) else em) lg le lf dl cS cH sea noi pl pw an hd bp bo bw c1 c2 c3 c4 c5 (if u_8 = 0 then (zu e1 em (xZ xs (i + 1))) else e1) (if u_8 = 0 then (zu e2 em (xZ xs (i + 2))) else e2) (if u_8 = 0 then (zu e3 em (xZ xs (i + 3))) else e3) (if u_8 = 0 then (zu e4 em h) else e4) (if u_8 = 0 then (zpair (zu e5 em (lowZ (parP e1 e2 e3 e4 e5 (xZ xs (i + 1)) (xZ xs (i + 2)) (xZ xs (i + 3)) h) em)) em (lowZ (parP e1 e2 e3 e4 e5 (xZ xs (i + 1)) (xZ xs (i + 2)) (xZ xs (i + 3)) h) em)) else e5)) H := hP
    have hD : va_D (fun q => z0 ≤ q) ((mdlW bd 0 cy u_8 h su st sh fl 0 sn bn fm fr cm (if u_8 = 0 then (em + 1) else em) lg le lf dl cS cH sea noi pl pw an hd bp bo bw c1 c2 c3 c4 c5 (if u_8 = 0 then (zu e1 em (xZ xs (i + 1))) else e1) (if u_8 = 0 then (zu e2 em (xZ xs (i + 2))) else e2) (if u_8 = 0 then (zu e3 em (xZ xs (i + 3))) else e3) (if u_8 = 0 then (zu e4 em h) else e4) (if u_8 = 0 then (zpair (zu e5 em (lowZ (parP e1 e2 e3 e4 e5 (xZ xs (i + 1)) (xZ xs (i + 2)) (xZ xs (i + 3)) h) em)) em (lowZ (parP e1 e2 e3 e4 e5 (xZ xs (i + 1)) (xZ xs (i + 2)) (xZ xs (i + 3)) h) em)) else e5)) ++ ((rooW ad 0 cy fm fr) ++ ((airW ad 1 cy h su st sh fl cS cH (dnD h fl) (dnE h cS) (dnF h su st)) ++ ((airW ad 8 cy h su 0 0 0 (fun _ => 0) (fun _ => 0) (dnD h 0) (dnE h (fun _ => 0)) (dnF h su 0)) ++ ((grdW ad 15 cy sea noi) ++ ((rayW ad 18 cy (ur 0) (ur 1) (ur 2) (ur 3) (ur 4) (ur 5) (ur 6) (ur 7)) ++ ((sndW ad 19 cy 12 sn pl pw an hd fq) ++ ((sndW ad 25 cy 6 bn bp bw ban bhd bo) ++ ((conW ad 31 cy cm c1 c2 c3 c4 c5) ++ ((entW ad 37 cy (em + 1) (if (lowZ (parP e1 e2 e3 e4 e5 (xZ xs (i + 1)) (xZ xs (i + 2)) (xZ xs (i + 3)) h) em) = -1 then ep else ep + 2) (zu e1 em (xZ xs (i + 1))) (zu e2 em (xZ xs (i + 2))) (zu e3 em (xZ xs (i + 3))) (zu e4 em h) (zpair (zu e5 em (lowZ (parP e1 e2 e3 e4 e5 (xZ xs (i + 1)) (xZ xs (i + 2)) (xZ xs (i + 3)) h) em)) em (lowZ (parP e1 e2 e3 e4 e5 (xZ xs (i + 1)) (xZ xs (i + 2)) (xZ xs (i + 3)) h) em))) ++ (outW od 0 cy em))))))))))) := hD
    rcases hp_8 with ⟨rfl, hN_8, rfl⟩ | ⟨rfl, hN_8, rfl⟩ | ⟨rfl, hN_8, rfl⟩ | ⟨rfl, hN_8, rfl⟩
    ·
      have hP : va_P D vwCl (mdlW bd 0 cy 0 h su st sh fl 0 sn bn fm fr cm (em + 1) lg le lf dl cS cH sea noi pl pw an hd bp bo bw c1 c2 c3 c4 c5 (zu e1 em (xZ xs (i + 1))) (zu e2 em (xZ xs (i + 2))) (zu e3 em (xZ xs (i + 3))) (zu e4 em h) (zpair (zu e5 em (lowZ (parP e1 e2 e3 e4 e5 (xZ xs (i + 1)) (xZ xs (i + 2)) (xZ xs (i + 3)) h) em)) em (lowZ (parP e1 e2 e3 e4 e5 (xZ xs (i + 1)) (xZ xs (i + 2)) (xZ xs (i + 3)) h) em))) H := hP
      have hD : va_D (fun q => z0 ≤ q) ((mdlW bd 0 cy 0 h su st sh fl 0 sn bn fm fr cm (em + 1) lg le lf dl cS cH sea noi pl pw an hd bp bo bw c1 c2 c3 c4 c5 (zu e1 em (xZ xs (i + 1))) (zu e2 em (xZ xs (i + 2))) (zu e3 em (xZ xs (i + 3))) (zu e4 em h) (zpair (zu e5 em (lowZ (parP e1 e2 e3 e4 e5 (xZ xs (i + 1)) (xZ xs (i + 2)) (xZ xs (i + 3)) h) em)) em (lowZ (parP e1 e2 e3 e4 e5 (xZ xs (i + 1)) (xZ xs (i + 2)) (xZ xs (i + 3)) h) em))) ++ ((rooW ad 0 cy fm fr) ++ ((airW ad 1 cy h su st sh fl cS cH (dnD h fl) (dnE h cS) (dnF h su st)) ++ ((airW ad 8 cy h su 0 0 0 (fun _ => 0) (fun _ => 0) (dnD h 0) (dnE h (fun _ => 0)) (dnF h su 0)) ++ ((grdW ad 15 cy sea noi) ++ ((rayW ad 18 cy (ur 0) (ur 1) (ur 2) (ur 3) (ur 4) (ur 5) (ur 6) (ur 7)) ++ ((sndW ad 19 cy 12 sn pl pw an hd fq) ++ ((sndW ad 25 cy 6 bn bp bw ban bhd bo) ++ ((conW ad 31 cy cm c1 c2 c3 c4 c5) ++ ((entW ad 37 cy (em + 1) (if (lowZ (parP e1 e2 e3 e4 e5 (xZ xs (i + 1)) (xZ xs (i + 2)) (xZ xs (i + 3)) h) em) = -1 then ep else ep + 2) (zu e1 em (xZ xs (i + 1))) (zu e2 em (xZ xs (i + 2))) (zu e3 em (xZ xs (i + 3))) (zu e4 em h) (zpair (zu e5 em (lowZ (parP e1 e2 e3 e4 e5 (xZ xs (i + 1)) (xZ xs (i + 2)) (xZ xs (i + 3)) h) em)) em (lowZ (parP e1 e2 e3 e4 e5 (xZ xs (i + 1)) (xZ xs (i + 2)) (xZ xs (i + 3)) h) em))) ++ (outW od 0 cy em))))))))))) := hD
      refine lv_istore (lv' := [(6, .int (iI em)), (5, .int (iI 0)), (0, .ref (b)), (1, .ref (ad 0)), (2, .ref (bd 0)), (3, .ref (od 0)), (4, .int (iI i))]) M.1 M.2.1 dL_law_921 hl (by decide) rfl (fun ls hl => ?_)
      refine lv_aload_n M.1 M.2.1 dL_law_923 rfl (lv_at hl 4 rfl) ?_
      refine z_cR (z_runV (As := []) (rest := []) M (c_X7_thrown l D cy z0 bd 0 h su st sh fl 0 sn bn fm fr cm (em + 1) lg le lf dl cS cH sea noi pl pw an hd bp bo bw c1 c2 c3 c4 c5 (zu e1 em (xZ xs (i + 1))) (zu e2 em (xZ xs (i + 2))) (zu e3 em (xZ xs (i + 3))) (zu e4 em h) (zpair (zu e5 em (lowZ (parP e1 e2 e3 e4 e5 (xZ xs (i + 1)) (xZ xs (i + 2)) (xZ xs (i + 3)) h) em)) em (lowZ (parP e1 e2 e3 e4 e5 (xZ xs (i + 1)) (xZ xs (i + 2)) (xZ xs (i + 3)) h) em))) hE hS hAz hP (zRc.of (ci := 7) (q0 := 0) hE hP rfl rfl) zk_cd_X7_thrown zk_in_RX7 zk_im_X7_thrown zk_se_X7_thrown zk_ml_RL_116 rfl rfl zd_X7_thrown ⟨by decide, by decide⟩ rfl hl.1 rfl (Nat.le_of_ble_eq_true rfl) dL_law_924 ⟨by show _ ≤ 601024; omega, by show _ ≤ 7293034; omega⟩) ?_
      refine lv_iload M.1 M.2.1 dL_law_927 (lv_at hl 1 rfl) ?_
      refine zi_same (tgt := 934) M dL_law_929 (by decide) ?_
      refine lv_iload M.1 M.2.1 dL_law_934 (lv_at hl 1 rfl) ?_
      refine zi_if_ne (tgt := 951) M dL_law_936 (by decide) ⟨by decide, by decide⟩ (fun q => absurd q (by decide)) (fun _ => ?_)
      refine lv_aload_n M.1 M.2.1 dL_law_939 rfl (lv_at hl 5 rfl) ?_
      refine zi_push M dL_law_940 ?_
      refine zi_lald M hE hPm 43 rfl dL_law_941 ?_
      refine lv_iload M.1 M.2.1 dL_law_942 (lv_at hl 0 rfl) ?_
      refine zi_i2l M dL_law_944 ?_
      refine zi_lcmpE M dL_law_945 ?_
      refine zi_if_eq (tgt := 951) M dL_law_946 (by decide) ⟨by decide, by decide⟩ (fun _ => ?_) (fun q => absurd q (by decide))
      refine zi_goto (tgt := 2286) M dL_law_951 (by decide) ?_
      have hPx := hP
      have hP := hPm
      have hPm := hPx
      have hD := zD_c hD
      have hlw := lowZ_p (e1 := e1) (e2 := e2) (e3 := e3) (e4 := e4) (e5 := e5) (x := xZ xs (i + 1)) (y := xZ xs (i + 2)) (f := xZ xs (i + 3)) (t := h) h_em.1
      refine W.widen (k := cells + 6) (n := slots + 36) (by omega) (by omega) ?_
      exact hback h su st sh fl sn bn cm (em + 1) (if (lowZ (parP e1 e2 e3 e4 e5 (xZ xs (i + 1)) (xZ xs (i + 2)) (xZ xs (i + 3)) h) em) = -1 then ep else ep + 2) fm fr 0 em lg le lf dl cS cH sea noi pl pw an hd fq bp bw ban bhd bo c1 c2 c3 c4 c5 (zu e1 em (xZ xs (i + 1))) (zu e2 em (xZ xs (i + 2))) (zu e3 em (xZ xs (i + 3))) (zu e4 em h) (zpair (zu e5 em (lowZ (parP e1 e2 e3 e4 e5 (xZ xs (i + 1)) (xZ xs (i + 2)) (xZ xs (i + 3)) h) em)) em (lowZ (parP e1 e2 e3 e4 e5 (xZ xs (i + 1)) (xZ xs (i + 2)) (xZ xs (i + 3)) h) em)) ur h_h h_su h_st h_sh h_fl h_sn h_bn h_cm (by omega) g_cS g_cH g_sea g_noi g_pl g_pw g_an g_hd g_bp g_bw g_ban g_bhd g_c1 g_c2 g_c3 g_c4 g_c5 (zrg_zu g_e1 (by omega)) (zrg_zu g_e2 (by omega)) (zrg_zu g_e3 (by omega)) (zrg_zu g_e4 (by omega)) (zrg_pair g_e5 (by omega) (by omega)) hbo (by rw [prF_add h_em.1 hlw, hep]) H locs hP hPm hD hS ls (lv_sub hl [2, 3, 4, 5, 6] rfl)
    ·
      have hP : va_P D vwCl (mdlW bd 0 cy 1 h su st sh fl 0 sn bn fm fr cm em lg le lf dl cS cH sea noi pl pw an hd bp bo bw c1 c2 c3 c4 c5 e1 e2 e3 e4 e5) H := hP
      have hD : va_D (fun q => z0 ≤ q) ((mdlW bd 0 cy 1 h su st sh fl 0 sn bn fm fr cm em lg le lf dl cS cH sea noi pl pw an hd bp bo bw c1 c2 c3 c4 c5 e1 e2 e3 e4 e5) ++ ((rooW ad 0 cy fm fr) ++ ((airW ad 1 cy h su st sh fl cS cH (dnD h fl) (dnE h cS) (dnF h su st)) ++ ((airW ad 8 cy h su 0 0 0 (fun _ => 0) (fun _ => 0) (dnD h 0) (dnE h (fun _ => 0)) (dnF h su 0)) ++ ((grdW ad 15 cy sea noi) ++ ((rayW ad 18 cy (ur 0) (ur 1) (ur 2) (ur 3) (ur 4) (ur 5) (ur 6) (ur 7)) ++ ((sndW ad 19 cy 12 sn pl pw an hd fq) ++ ((sndW ad 25 cy 6 bn bp bw ban bhd bo) ++ ((conW ad 31 cy cm c1 c2 c3 c4 c5) ++ ((entW ad 37 cy (em + 1) (if (lowZ (parP e1 e2 e3 e4 e5 (xZ xs (i + 1)) (xZ xs (i + 2)) (xZ xs (i + 3)) h) em) = -1 then ep else ep + 2) (zu e1 em (xZ xs (i + 1))) (zu e2 em (xZ xs (i + 2))) (zu e3 em (xZ xs (i + 3))) (zu e4 em h) (zpair (zu e5 em (lowZ (parP e1 e2 e3 e4 e5 (xZ xs (i + 1)) (xZ xs (i + 2)) (xZ xs (i + 3)) h) em)) em (lowZ (parP e1 e2 e3 e4 e5 (xZ xs (i + 1)) (xZ xs (i + 2)) (xZ xs (i + 3)) h) em))) ++ (outW od 0 cy em))))))))))) := hD
      exfalso
      omega
    ·
      have hP : va_P D vwCl (mdlW bd 0 cy 2 h su st sh fl 0 sn bn fm fr cm em lg le lf dl cS cH sea noi pl pw an hd bp bo bw c1 c2 c3 c4 c5 e1 e2 e3 e4 e5) H := hP
      have hD : va_D (fun q => z0 ≤ q) ((mdlW bd 0 cy 2 h su st sh fl 0 sn bn fm fr cm em lg le lf dl cS cH sea noi pl pw an hd bp bo bw c1 c2 c3 c4 c5 e1 e2 e3 e4 e5) ++ ((rooW ad 0 cy fm fr) ++ ((airW ad 1 cy h su st sh fl cS cH (dnD h fl) (dnE h cS) (dnF h su st)) ++ ((airW ad 8 cy h su 0 0 0 (fun _ => 0) (fun _ => 0) (dnD h 0) (dnE h (fun _ => 0)) (dnF h su 0)) ++ ((grdW ad 15 cy sea noi) ++ ((rayW ad 18 cy (ur 0) (ur 1) (ur 2) (ur 3) (ur 4) (ur 5) (ur 6) (ur 7)) ++ ((sndW ad 19 cy 12 sn pl pw an hd fq) ++ ((sndW ad 25 cy 6 bn bp bw ban bhd bo) ++ ((conW ad 31 cy cm c1 c2 c3 c4 c5) ++ ((entW ad 37 cy (em + 1) (if (lowZ (parP e1 e2 e3 e4 e5 (xZ xs (i + 1)) (xZ xs (i + 2)) (xZ xs (i + 3)) h) em) = -1 then ep else ep + 2) (zu e1 em (xZ xs (i + 1))) (zu e2 em (xZ xs (i + 2))) (zu e3 em (xZ xs (i + 3))) (zu e4 em h) (zpair (zu e5 em (lowZ (parP e1 e2 e3 e4 e5 (xZ xs (i + 1)) (xZ xs (i + 2)) (xZ xs (i + 3)) h) em)) em (lowZ (parP e1 e2 e3 e4 e5 (xZ xs (i + 1)) (xZ xs (i + 2)) (xZ xs (i + 3)) h) em))) ++ (outW od 0 cy em))))))))))) := hD
      exfalso
      omega
    ·
      have hP : va_P D vwCl (mdlW bd 0 cy 3 h su st sh fl 0 sn bn fm fr cm em lg le lf dl cS cH sea noi pl pw an hd bp bo bw c1 c2 c3 c4 c5 e1 e2 e3 e4 e5) H := hP
      have hD : va_D (fun q => z0 ≤ q) ((mdlW bd 0 cy 3 h su st sh fl 0 sn bn fm fr cm em lg le lf dl cS cH sea noi pl pw an hd bp bo bw c1 c2 c3 c4 c5 e1 e2 e3 e4 e5) ++ ((rooW ad 0 cy fm fr) ++ ((airW ad 1 cy h su st sh fl cS cH (dnD h fl) (dnE h cS) (dnF h su st)) ++ ((airW ad 8 cy h su 0 0 0 (fun _ => 0) (fun _ => 0) (dnD h 0) (dnE h (fun _ => 0)) (dnF h su 0)) ++ ((grdW ad 15 cy sea noi) ++ ((rayW ad 18 cy (ur 0) (ur 1) (ur 2) (ur 3) (ur 4) (ur 5) (ur 6) (ur 7)) ++ ((sndW ad 19 cy 12 sn pl pw an hd fq) ++ ((sndW ad 25 cy 6 bn bp bw ban bhd bo) ++ ((conW ad 31 cy cm c1 c2 c3 c4 c5) ++ ((entW ad 37 cy (em + 1) (if (lowZ (parP e1 e2 e3 e4 e5 (xZ xs (i + 1)) (xZ xs (i + 2)) (xZ xs (i + 3)) h) em) = -1 then ep else ep + 2) (zu e1 em (xZ xs (i + 1))) (zu e2 em (xZ xs (i + 2))) (zu e3 em (xZ xs (i + 3))) (zu e4 em h) (zpair (zu e5 em (lowZ (parP e1 e2 e3 e4 e5 (xZ xs (i + 1)) (xZ xs (i + 2)) (xZ xs (i + 3)) h) em)) em (lowZ (parP e1 e2 e3 e4 e5 (xZ xs (i + 1)) (xZ xs (i + 2)) (xZ xs (i + 3)) h) em))) ++ (outW od 0 cy em))))))))))) := hD
      exfalso
      omega
  ·
    have hw_4 := hv_4.symm
    subst hw_4
    have hP : va_P D vwCl ((rooW ad 0 cy fm fr) ++ ((airW ad 1 cy h su st sh fl cS cH (dnD h fl) (dnE h cS) (dnF h su st)) ++ ((airW ad 8 cy h su 0 0 0 (fun _ => 0) (fun _ => 0) (dnD h 0) (dnE h (fun _ => 0)) (dnF h su 0)) ++ ((grdW ad 15 cy sea noi) ++ ((rayW ad 18 cy (ur 0) (ur 1) (ur 2) (ur 3) (ur 4) (ur 5) (ur 6) (ur 7)) ++ ((sndW ad 19 cy 12 sn pl pw an hd fq) ++ ((sndW ad 25 cy 6 bn bp bw ban bhd bo) ++ ((conW ad 31 cy cm c1 c2 c3 c4 c5) ++ ((entW ad 37 cy em ep e1 e2 e3 e4 e5) ++ (outW od 0 cy o)))))))))) H := hP
    have hD : va_D (fun q => z0 ≤ q) (((rooW ad 0 cy fm fr) ++ ((airW ad 1 cy h su st sh fl cS cH (dnD h fl) (dnE h cS) (dnF h su st)) ++ ((airW ad 8 cy h su 0 0 0 (fun _ => 0) (fun _ => 0) (dnD h 0) (dnE h (fun _ => 0)) (dnF h su 0)) ++ ((grdW ad 15 cy sea noi) ++ ((rayW ad 18 cy (ur 0) (ur 1) (ur 2) (ur 3) (ur 4) (ur 5) (ur 6) (ur 7)) ++ ((sndW ad 19 cy 12 sn pl pw an hd fq) ++ ((sndW ad 25 cy 6 bn bp bw ban bhd bo) ++ ((conW ad 31 cy cm c1 c2 c3 c4 c5) ++ ((entW ad 37 cy em ep e1 e2 e3 e4 e5) ++ (outW od 0 cy o)))))))))) ++ (mdlW bd 0 cy th h su st sh fl 0 sn bn fm fr cm em lg le lf dl cS cH sea noi pl pw an hd bp bo bw c1 c2 c3 c4 c5 e1 e2 e3 e4 e5)) := hD
    refine lv_istore (lv' := [(5, .int (iI 1)), (0, .ref (b)), (1, .ref (ad 0)), (2, .ref (bd 0)), (3, .ref (od 0)), (4, .int (iI i))]) M.1 M.2.1 dL_law_897 hl (by decide) rfl (fun ls hl => ?_)
    refine lv_aload_n M.1 M.2.1 dL_law_899 rfl (lv_at hl 3 rfl) ?_
    refine lv_aload_n M.1 M.2.1 dL_law_900 rfl (lv_at hl 1 rfl) ?_
    refine lv_iload M.1 M.2.1 dL_law_901 (lv_at hl 5 rfl) ?_
    refine zi_push M dL_law_903 ?_
    refine zi_iadd M dL_law_904 ?_
    refine zi_sld M hX hbl hbA hS hL (by omega) (by omega) dL_law_905 ?_
    have hx_9 := xZ_rg xs (i + 1)
    refine lv_aload_n M.1 M.2.1 dL_law_906 rfl (lv_at hl 1 rfl) ?_
    refine lv_iload M.1 M.2.1 dL_law_907 (lv_at hl 5 rfl) ?_
    refine zi_push M dL_law_909 ?_
    refine zi_iadd M dL_law_910 ?_
    refine zi_sld M hX hbl hbA hS hL (by omega) (by omega) dL_law_911 ?_
    have hx_10 := xZ_rg xs (i + 2)
    refine lv_aload_n M.1 M.2.1 dL_law_912 rfl (lv_at hl 1 rfl) ?_
    refine lv_iload M.1 M.2.1 dL_law_913 (lv_at hl 5 rfl) ?_
    refine zi_push M dL_law_915 ?_
    refine zi_iadd M dL_law_916 ?_
    refine zi_sld M hX hbl hbA hS hL (by omega) (by omega) dL_law_917 ?_
    have hx_11 := xZ_rg xs (i + 3)
    have hPx := hP
    have hP := hPm
    have hPm := hPx
    have hD := zD_c hD
    refine z_cW2 (z_runV (As := [.int (iI (xZ xs (i + 1))), .int (iI (xZ xs (i + 2))), .int (iI (xZ xs (i + 3)))]) (rest := []) M (c_X7_log l D cy z0 bd th h su st sh fl 0 sn bn fm fr cm em lg le lf dl cS cH sea noi pl pw an hd bp bo bw c1 c2 c3 c4 c5 e1 e2 e3 e4 e5 (xZ xs (i + 1)) (xZ xs (i + 2)) (xZ xs (i + 3)) (by omega) (by omega) (by omega) (by omega) (by omega) (by omega) g_e1 g_e2 g_e3 g_e4 g_e5) hE hS hAz (z_cut hP (zD_l hD) hAz [0, 1, 2, 3, 4, 5, 6, 7, 8, 9, 10, 11, 12, 13, 14, 15, 16, 17, 18, 19, 20, 21] rfl (by decide +kernel)) (zRc.of (ci := 7) (q0 := 0) hE hP rfl rfl) zk_cd_X7_log zk_in_RX7 zk_im_X7_log zk_se_X7_log zk_ml_RL_155 rfl rfl zd_X7_log ⟨by decide, by decide⟩ rfl hl.1 rfl (Nat.le_of_ble_eq_true rfl) dL_law_918 ⟨by show _ ≤ 601024; omega, by show _ ≤ 7293034; omega⟩) hP hPm hD hS [0, 1, 2, 3, 4, 5, 6, 7, 8, 9, 10, 11, 12, 13, 14, 15, 16, 17, 18, 19, 20, 21] rfl (fun _ => by simp only [List.map_append, mdlW_adr]) (fun r_12 u_12 H locs hp_12 hP hPm hD hS => ?_)
    try simp only [mdD_0, mdE_0, mdF_0, mdD_1, mdE_1, mdF_1] at hp_12
    have hP : va_P D vwCl (mdlW bd 0 cy u_12 h su st sh fl 0 sn bn fm fr cm (if u_12 = 0 then (em + 1) else em) lg le lf dl cS cH sea noi pl pw an hd bp bo bw c1 c2 c3 c4 c5 (if u_12 = 0 then (zu e1 em (xZ xs (i + 1))) else e1) (if u_12 = 0 then (zu e2 em (xZ xs (i + 2))) else e2) (if u_12 = 0 then (zu e3 em (xZ xs (i + 3))) else e3) (if u_12 = 0 then (zu e4 em h) else e4) (if u_12 = 0 then (zpair (zu e5 em (lowZ (parP e1 e2 e3 e4 e5 (xZ xs (i + 1)) (xZ xs (i + 2)) (xZ xs (i + 3)) h) em)) em (lowZ (parP e1 e2 e3 e4 e5 (xZ xs (i + 1)) (xZ xs (i + 2)) (xZ xs (i + 3)) h) em)) else e5)) H := hP
    have hD : va_D (fun q => z0 ≤ q) ((mdlW bd 0 cy u_12 h su st sh fl 0 sn bn fm fr cm (if u_12 = 0 then (em + 1) else em) lg le lf dl cS cH sea noi pl pw an hd bp bo bw c1 c2 c3 c4 c5 (if u_12 = 0 then (zu e1 em (xZ xs (i + 1))) else e1) (if u_12 = 0 then (zu e2 em (xZ xs (i + 2))) else e2) (if u_12 = 0 then (zu e3 em (xZ xs (i + 3))) else e3) (if u_12 = 0 then (zu e4 em h) else e4) (if u_12 = 0 then (zpair (zu e5 em (lowZ (parP e1 e2 e3 e4 e5 (xZ xs (i + 1)) (xZ xs (i + 2)) (xZ xs (i + 3)) h) em)) em (lowZ (parP e1 e2 e3 e4 e5 (xZ xs (i + 1)) (xZ xs (i + 2)) (xZ xs (i + 3)) h) em)) else e5)) ++ ((rooW ad 0 cy fm fr) ++ ((airW ad 1 cy h su st sh fl cS cH (dnD h fl) (dnE h cS) (dnF h su st)) ++ ((airW ad 8 cy h su 0 0 0 (fun _ => 0) (fun _ => 0) (dnD h 0) (dnE h (fun _ => 0)) (dnF h su 0)) ++ ((grdW ad 15 cy sea noi) ++ ((rayW ad 18 cy (ur 0) (ur 1) (ur 2) (ur 3) (ur 4) (ur 5) (ur 6) (ur 7)) ++ ((sndW ad 19 cy 12 sn pl pw an hd fq) ++ ((sndW ad 25 cy 6 bn bp bw ban bhd bo) ++ ((conW ad 31 cy cm c1 c2 c3 c4 c5) ++ ((entW ad 37 cy em ep e1 e2 e3 e4 e5) ++ (outW od 0 cy o))))))))))) := hD
    rcases hp_12 with ⟨rfl, hN_12, rfl⟩ | ⟨rfl, hN_12, rfl⟩ | ⟨rfl, hN_12, rfl⟩ | ⟨rfl, hN_12, rfl⟩
    ·
      have hP : va_P D vwCl (mdlW bd 0 cy 0 h su st sh fl 0 sn bn fm fr cm (em + 1) lg le lf dl cS cH sea noi pl pw an hd bp bo bw c1 c2 c3 c4 c5 (zu e1 em (xZ xs (i + 1))) (zu e2 em (xZ xs (i + 2))) (zu e3 em (xZ xs (i + 3))) (zu e4 em h) (zpair (zu e5 em (lowZ (parP e1 e2 e3 e4 e5 (xZ xs (i + 1)) (xZ xs (i + 2)) (xZ xs (i + 3)) h) em)) em (lowZ (parP e1 e2 e3 e4 e5 (xZ xs (i + 1)) (xZ xs (i + 2)) (xZ xs (i + 3)) h) em))) H := hP
      have hD : va_D (fun q => z0 ≤ q) ((mdlW bd 0 cy 0 h su st sh fl 0 sn bn fm fr cm (em + 1) lg le lf dl cS cH sea noi pl pw an hd bp bo bw c1 c2 c3 c4 c5 (zu e1 em (xZ xs (i + 1))) (zu e2 em (xZ xs (i + 2))) (zu e3 em (xZ xs (i + 3))) (zu e4 em h) (zpair (zu e5 em (lowZ (parP e1 e2 e3 e4 e5 (xZ xs (i + 1)) (xZ xs (i + 2)) (xZ xs (i + 3)) h) em)) em (lowZ (parP e1 e2 e3 e4 e5 (xZ xs (i + 1)) (xZ xs (i + 2)) (xZ xs (i + 3)) h) em))) ++ ((rooW ad 0 cy fm fr) ++ ((airW ad 1 cy h su st sh fl cS cH (dnD h fl) (dnE h cS) (dnF h su st)) ++ ((airW ad 8 cy h su 0 0 0 (fun _ => 0) (fun _ => 0) (dnD h 0) (dnE h (fun _ => 0)) (dnF h su 0)) ++ ((grdW ad 15 cy sea noi) ++ ((rayW ad 18 cy (ur 0) (ur 1) (ur 2) (ur 3) (ur 4) (ur 5) (ur 6) (ur 7)) ++ ((sndW ad 19 cy 12 sn pl pw an hd fq) ++ ((sndW ad 25 cy 6 bn bp bw ban bhd bo) ++ ((conW ad 31 cy cm c1 c2 c3 c4 c5) ++ ((entW ad 37 cy em ep e1 e2 e3 e4 e5) ++ (outW od 0 cy o))))))))))) := hD
      exfalso
      omega
    ·
      have hP : va_P D vwCl (mdlW bd 0 cy 1 h su st sh fl 0 sn bn fm fr cm em lg le lf dl cS cH sea noi pl pw an hd bp bo bw c1 c2 c3 c4 c5 e1 e2 e3 e4 e5) H := hP
      have hD : va_D (fun q => z0 ≤ q) ((mdlW bd 0 cy 1 h su st sh fl 0 sn bn fm fr cm em lg le lf dl cS cH sea noi pl pw an hd bp bo bw c1 c2 c3 c4 c5 e1 e2 e3 e4 e5) ++ ((rooW ad 0 cy fm fr) ++ ((airW ad 1 cy h su st sh fl cS cH (dnD h fl) (dnE h cS) (dnF h su st)) ++ ((airW ad 8 cy h su 0 0 0 (fun _ => 0) (fun _ => 0) (dnD h 0) (dnE h (fun _ => 0)) (dnF h su 0)) ++ ((grdW ad 15 cy sea noi) ++ ((rayW ad 18 cy (ur 0) (ur 1) (ur 2) (ur 3) (ur 4) (ur 5) (ur 6) (ur 7)) ++ ((sndW ad 19 cy 12 sn pl pw an hd fq) ++ ((sndW ad 25 cy 6 bn bp bw ban bhd bo) ++ ((conW ad 31 cy cm c1 c2 c3 c4 c5) ++ ((entW ad 37 cy em ep e1 e2 e3 e4 e5) ++ (outW od 0 cy o))))))))))) := hD
      refine lv_istore (lv' := [(6, .int (iI 0)), (5, .int (iI 1)), (0, .ref (b)), (1, .ref (ad 0)), (2, .ref (bd 0)), (3, .ref (od 0)), (4, .int (iI i))]) M.1 M.2.1 dL_law_921 hl (by decide) rfl (fun ls hl => ?_)
      refine lv_aload_n M.1 M.2.1 dL_law_923 rfl (lv_at hl 4 rfl) ?_
      refine z_cR (z_runV (As := []) (rest := []) M (c_X7_thrown l D cy z0 bd 1 h su st sh fl 0 sn bn fm fr cm em lg le lf dl cS cH sea noi pl pw an hd bp bo bw c1 c2 c3 c4 c5 e1 e2 e3 e4 e5) hE hS hAz hP (zRc.of (ci := 7) (q0 := 0) hE hP rfl rfl) zk_cd_X7_thrown zk_in_RX7 zk_im_X7_thrown zk_se_X7_thrown zk_ml_RL_116 rfl rfl zd_X7_thrown ⟨by decide, by decide⟩ rfl hl.1 rfl (Nat.le_of_ble_eq_true rfl) dL_law_924 ⟨by show _ ≤ 601024; omega, by show _ ≤ 7293034; omega⟩) ?_
      refine lv_iload M.1 M.2.1 dL_law_927 (lv_at hl 1 rfl) ?_
      refine zi_same (tgt := 934) M dL_law_929 (by decide) ?_
      refine lv_iload M.1 M.2.1 dL_law_934 (lv_at hl 1 rfl) ?_
      refine zi_if_ne (tgt := 951) M dL_law_936 (by decide) ⟨by decide, by decide⟩ (fun _ => ?_) (fun q => absurd q (by decide))
      refine zi_goto (tgt := 2286) M dL_law_951 (by decide) ?_
      have hPx := hP
      have hP := hPm
      have hPm := hPx
      have hD := zD_c hD
      refine W.widen (k := cells + 6) (n := slots + 36) (by omega) (by omega) ?_
      exact hback h su st sh fl sn bn cm em ep fm fr 1 o lg le lf dl cS cH sea noi pl pw an hd fq bp bw ban bhd bo c1 c2 c3 c4 c5 e1 e2 e3 e4 e5 ur h_h h_su h_st h_sh h_fl h_sn h_bn h_cm h_em g_cS g_cH g_sea g_noi g_pl g_pw g_an g_hd g_bp g_bw g_ban g_bhd g_c1 g_c2 g_c3 g_c4 g_c5 g_e1 g_e2 g_e3 g_e4 g_e5 hbo hep H locs hP hPm hD hS ls (lv_sub hl [2, 3, 4, 5, 6] rfl)
    ·
      have hP : va_P D vwCl (mdlW bd 0 cy 2 h su st sh fl 0 sn bn fm fr cm em lg le lf dl cS cH sea noi pl pw an hd bp bo bw c1 c2 c3 c4 c5 e1 e2 e3 e4 e5) H := hP
      have hD : va_D (fun q => z0 ≤ q) ((mdlW bd 0 cy 2 h su st sh fl 0 sn bn fm fr cm em lg le lf dl cS cH sea noi pl pw an hd bp bo bw c1 c2 c3 c4 c5 e1 e2 e3 e4 e5) ++ ((rooW ad 0 cy fm fr) ++ ((airW ad 1 cy h su st sh fl cS cH (dnD h fl) (dnE h cS) (dnF h su st)) ++ ((airW ad 8 cy h su 0 0 0 (fun _ => 0) (fun _ => 0) (dnD h 0) (dnE h (fun _ => 0)) (dnF h su 0)) ++ ((grdW ad 15 cy sea noi) ++ ((rayW ad 18 cy (ur 0) (ur 1) (ur 2) (ur 3) (ur 4) (ur 5) (ur 6) (ur 7)) ++ ((sndW ad 19 cy 12 sn pl pw an hd fq) ++ ((sndW ad 25 cy 6 bn bp bw ban bhd bo) ++ ((conW ad 31 cy cm c1 c2 c3 c4 c5) ++ ((entW ad 37 cy em ep e1 e2 e3 e4 e5) ++ (outW od 0 cy o))))))))))) := hD
      exfalso
      omega
    ·
      have hP : va_P D vwCl (mdlW bd 0 cy 3 h su st sh fl 0 sn bn fm fr cm em lg le lf dl cS cH sea noi pl pw an hd bp bo bw c1 c2 c3 c4 c5 e1 e2 e3 e4 e5) H := hP
      have hD : va_D (fun q => z0 ≤ q) ((mdlW bd 0 cy 3 h su st sh fl 0 sn bn fm fr cm em lg le lf dl cS cH sea noi pl pw an hd bp bo bw c1 c2 c3 c4 c5 e1 e2 e3 e4 e5) ++ ((rooW ad 0 cy fm fr) ++ ((airW ad 1 cy h su st sh fl cS cH (dnD h fl) (dnE h cS) (dnF h su st)) ++ ((airW ad 8 cy h su 0 0 0 (fun _ => 0) (fun _ => 0) (dnD h 0) (dnE h (fun _ => 0)) (dnF h su 0)) ++ ((grdW ad 15 cy sea noi) ++ ((rayW ad 18 cy (ur 0) (ur 1) (ur 2) (ur 3) (ur 4) (ur 5) (ur 6) (ur 7)) ++ ((sndW ad 19 cy 12 sn pl pw an hd fq) ++ ((sndW ad 25 cy 6 bn bp bw ban bhd bo) ++ ((conW ad 31 cy cm c1 c2 c3 c4 c5) ++ ((entW ad 37 cy em ep e1 e2 e3 e4 e5) ++ (outW od 0 cy o))))))))))) := hD
      exfalso
      omega
  ·
    have hw_4 := hv_4.symm
    subst hw_4
    have hP : va_P D vwCl ((rooW ad 0 cy fm fr) ++ ((airW ad 1 cy h su st sh fl cS cH (dnD h fl) (dnE h cS) (dnF h su st)) ++ ((airW ad 8 cy h su 0 0 0 (fun _ => 0) (fun _ => 0) (dnD h 0) (dnE h (fun _ => 0)) (dnF h su 0)) ++ ((grdW ad 15 cy sea noi) ++ ((rayW ad 18 cy (ur 0) (ur 1) (ur 2) (ur 3) (ur 4) (ur 5) (ur 6) (ur 7)) ++ ((sndW ad 19 cy 12 sn pl pw an hd fq) ++ ((sndW ad 25 cy 6 bn bp bw ban bhd bo) ++ ((conW ad 31 cy cm c1 c2 c3 c4 c5) ++ ((entW ad 37 cy em ep e1 e2 e3 e4 e5) ++ (outW od 0 cy o)))))))))) H := hP
    have hD : va_D (fun q => z0 ≤ q) (((rooW ad 0 cy fm fr) ++ ((airW ad 1 cy h su st sh fl cS cH (dnD h fl) (dnE h cS) (dnF h su st)) ++ ((airW ad 8 cy h su 0 0 0 (fun _ => 0) (fun _ => 0) (dnD h 0) (dnE h (fun _ => 0)) (dnF h su 0)) ++ ((grdW ad 15 cy sea noi) ++ ((rayW ad 18 cy (ur 0) (ur 1) (ur 2) (ur 3) (ur 4) (ur 5) (ur 6) (ur 7)) ++ ((sndW ad 19 cy 12 sn pl pw an hd fq) ++ ((sndW ad 25 cy 6 bn bp bw ban bhd bo) ++ ((conW ad 31 cy cm c1 c2 c3 c4 c5) ++ ((entW ad 37 cy em ep e1 e2 e3 e4 e5) ++ (outW od 0 cy o)))))))))) ++ (mdlW bd 0 cy th h su st sh fl 0 sn bn fm fr cm em lg le lf dl cS cH sea noi pl pw an hd bp bo bw c1 c2 c3 c4 c5 e1 e2 e3 e4 e5)) := hD
    refine lv_istore (lv' := [(5, .int (iI 2)), (0, .ref (b)), (1, .ref (ad 0)), (2, .ref (bd 0)), (3, .ref (od 0)), (4, .int (iI i))]) M.1 M.2.1 dL_law_897 hl (by decide) rfl (fun ls hl => ?_)
    refine lv_aload_n M.1 M.2.1 dL_law_899 rfl (lv_at hl 3 rfl) ?_
    refine lv_aload_n M.1 M.2.1 dL_law_900 rfl (lv_at hl 1 rfl) ?_
    refine lv_iload M.1 M.2.1 dL_law_901 (lv_at hl 5 rfl) ?_
    refine zi_push M dL_law_903 ?_
    refine zi_iadd M dL_law_904 ?_
    refine zi_sld M hX hbl hbA hS hL (by omega) (by omega) dL_law_905 ?_
    have hx_13 := xZ_rg xs (i + 1)
    refine lv_aload_n M.1 M.2.1 dL_law_906 rfl (lv_at hl 1 rfl) ?_
    refine lv_iload M.1 M.2.1 dL_law_907 (lv_at hl 5 rfl) ?_
    refine zi_push M dL_law_909 ?_
    refine zi_iadd M dL_law_910 ?_
    refine zi_sld M hX hbl hbA hS hL (by omega) (by omega) dL_law_911 ?_
    have hx_14 := xZ_rg xs (i + 2)
    refine lv_aload_n M.1 M.2.1 dL_law_912 rfl (lv_at hl 1 rfl) ?_
    refine lv_iload M.1 M.2.1 dL_law_913 (lv_at hl 5 rfl) ?_
    refine zi_push M dL_law_915 ?_
    refine zi_iadd M dL_law_916 ?_
    refine zi_sld M hX hbl hbA hS hL (by omega) (by omega) dL_law_917 ?_
    have hx_15 := xZ_rg xs (i + 3)
    have hPx := hP
    have hP := hPm
    have hPm := hPx
    have hD := zD_c hD
    refine z_cW2 (z_runV (As := [.int (iI (xZ xs (i + 1))), .int (iI (xZ xs (i + 2))), .int (iI (xZ xs (i + 3)))]) (rest := []) M (c_X7_log l D cy z0 bd th h su st sh fl 0 sn bn fm fr cm em lg le lf dl cS cH sea noi pl pw an hd bp bo bw c1 c2 c3 c4 c5 e1 e2 e3 e4 e5 (xZ xs (i + 1)) (xZ xs (i + 2)) (xZ xs (i + 3)) (by omega) (by omega) (by omega) (by omega) (by omega) (by omega) g_e1 g_e2 g_e3 g_e4 g_e5) hE hS hAz (z_cut hP (zD_l hD) hAz [0, 1, 2, 3, 4, 5, 6, 7, 8, 9, 10, 11, 12, 13, 14, 15, 16, 17, 18, 19, 20, 21] rfl (by decide +kernel)) (zRc.of (ci := 7) (q0 := 0) hE hP rfl rfl) zk_cd_X7_log zk_in_RX7 zk_im_X7_log zk_se_X7_log zk_ml_RL_155 rfl rfl zd_X7_log ⟨by decide, by decide⟩ rfl hl.1 rfl (Nat.le_of_ble_eq_true rfl) dL_law_918 ⟨by show _ ≤ 601024; omega, by show _ ≤ 7293034; omega⟩) hP hPm hD hS [0, 1, 2, 3, 4, 5, 6, 7, 8, 9, 10, 11, 12, 13, 14, 15, 16, 17, 18, 19, 20, 21] rfl (fun _ => by simp only [List.map_append, mdlW_adr]) (fun r_16 u_16 H locs hp_16 hP hPm hD hS => ?_)
    try simp only [mdD_0, mdE_0, mdF_0, mdD_1, mdE_1, mdF_1] at hp_16
    have hP : va_P D vwCl (mdlW bd 0 cy u_16 h su st sh fl 0 sn bn fm fr cm (if u_16 = 0 then (em + 1) else em) lg le lf dl cS cH sea noi pl pw an hd bp bo bw c1 c2 c3 c4 c5 (if u_16 = 0 then (zu e1 em (xZ xs (i + 1))) else e1) (if u_16 = 0 then (zu e2 em (xZ xs (i + 2))) else e2) (if u_16 = 0 then (zu e3 em (xZ xs (i + 3))) else e3) (if u_16 = 0 then (zu e4 em h) else e4) (if u_16 = 0 then (zpair (zu e5 em (lowZ (parP e1 e2 e3 e4 e5 (xZ xs (i + 1)) (xZ xs (i + 2)) (xZ xs (i + 3)) h) em)) em (lowZ (parP e1 e2 e3 e4 e5 (xZ xs (i + 1)) (xZ xs (i + 2)) (xZ xs (i + 3)) h) em)) else e5)) H := hP
    have hD : va_D (fun q => z0 ≤ q) ((mdlW bd 0 cy u_16 h su st sh fl 0 sn bn fm fr cm (if u_16 = 0 then (em + 1) else em) lg le lf dl cS cH sea noi pl pw an hd bp bo bw c1 c2 c3 c4 c5 (if u_16 = 0 then (zu e1 em (xZ xs (i + 1))) else e1) (if u_16 = 0 then (zu e2 em (xZ xs (i + 2))) else e2) (if u_16 = 0 then (zu e3 em (xZ xs (i + 3))) else e3) (if u_16 = 0 then (zu e4 em h) else e4) (if u_16 = 0 then (zpair (zu e5 em (lowZ (parP e1 e2 e3 e4 e5 (xZ xs (i + 1)) (xZ xs (i + 2)) (xZ xs (i + 3)) h) em)) em (lowZ (parP e1 e2 e3 e4 e5 (xZ xs (i + 1)) (xZ xs (i + 2)) (xZ xs (i + 3)) h) em)) else e5)) ++ ((rooW ad 0 cy fm fr) ++ ((airW ad 1 cy h su st sh fl cS cH (dnD h fl) (dnE h cS) (dnF h su st)) ++ ((airW ad 8 cy h su 0 0 0 (fun _ => 0) (fun _ => 0) (dnD h 0) (dnE h (fun _ => 0)) (dnF h su 0)) ++ ((grdW ad 15 cy sea noi) ++ ((rayW ad 18 cy (ur 0) (ur 1) (ur 2) (ur 3) (ur 4) (ur 5) (ur 6) (ur 7)) ++ ((sndW ad 19 cy 12 sn pl pw an hd fq) ++ ((sndW ad 25 cy 6 bn bp bw ban bhd bo) ++ ((conW ad 31 cy cm c1 c2 c3 c4 c5) ++ ((entW ad 37 cy em ep e1 e2 e3 e4 e5) ++ (outW od 0 cy o))))))))))) := hD
    rcases hp_16 with ⟨rfl, hN_16, rfl⟩ | ⟨rfl, hN_16, rfl⟩ | ⟨rfl, hN_16, rfl⟩ | ⟨rfl, hN_16, rfl⟩
    ·
      have hP : va_P D vwCl (mdlW bd 0 cy 0 h su st sh fl 0 sn bn fm fr cm (em + 1) lg le lf dl cS cH sea noi pl pw an hd bp bo bw c1 c2 c3 c4 c5 (zu e1 em (xZ xs (i + 1))) (zu e2 em (xZ xs (i + 2))) (zu e3 em (xZ xs (i + 3))) (zu e4 em h) (zpair (zu e5 em (lowZ (parP e1 e2 e3 e4 e5 (xZ xs (i + 1)) (xZ xs (i + 2)) (xZ xs (i + 3)) h) em)) em (lowZ (parP e1 e2 e3 e4 e5 (xZ xs (i + 1)) (xZ xs (i + 2)) (xZ xs (i + 3)) h) em))) H := hP
      have hD : va_D (fun q => z0 ≤ q) ((mdlW bd 0 cy 0 h su st sh fl 0 sn bn fm fr cm (em + 1) lg le lf dl cS cH sea noi pl pw an hd bp bo bw c1 c2 c3 c4 c5 (zu e1 em (xZ xs (i + 1))) (zu e2 em (xZ xs (i + 2))) (zu e3 em (xZ xs (i + 3))) (zu e4 em h) (zpair (zu e5 em (lowZ (parP e1 e2 e3 e4 e5 (xZ xs (i + 1)) (xZ xs (i + 2)) (xZ xs (i + 3)) h) em)) em (lowZ (parP e1 e2 e3 e4 e5 (xZ xs (i + 1)) (xZ xs (i + 2)) (xZ xs (i + 3)) h) em))) ++ ((rooW ad 0 cy fm fr) ++ ((airW ad 1 cy h su st sh fl cS cH (dnD h fl) (dnE h cS) (dnF h su st)) ++ ((airW ad 8 cy h su 0 0 0 (fun _ => 0) (fun _ => 0) (dnD h 0) (dnE h (fun _ => 0)) (dnF h su 0)) ++ ((grdW ad 15 cy sea noi) ++ ((rayW ad 18 cy (ur 0) (ur 1) (ur 2) (ur 3) (ur 4) (ur 5) (ur 6) (ur 7)) ++ ((sndW ad 19 cy 12 sn pl pw an hd fq) ++ ((sndW ad 25 cy 6 bn bp bw ban bhd bo) ++ ((conW ad 31 cy cm c1 c2 c3 c4 c5) ++ ((entW ad 37 cy em ep e1 e2 e3 e4 e5) ++ (outW od 0 cy o))))))))))) := hD
      exfalso
      omega
    ·
      have hP : va_P D vwCl (mdlW bd 0 cy 1 h su st sh fl 0 sn bn fm fr cm em lg le lf dl cS cH sea noi pl pw an hd bp bo bw c1 c2 c3 c4 c5 e1 e2 e3 e4 e5) H := hP
      have hD : va_D (fun q => z0 ≤ q) ((mdlW bd 0 cy 1 h su st sh fl 0 sn bn fm fr cm em lg le lf dl cS cH sea noi pl pw an hd bp bo bw c1 c2 c3 c4 c5 e1 e2 e3 e4 e5) ++ ((rooW ad 0 cy fm fr) ++ ((airW ad 1 cy h su st sh fl cS cH (dnD h fl) (dnE h cS) (dnF h su st)) ++ ((airW ad 8 cy h su 0 0 0 (fun _ => 0) (fun _ => 0) (dnD h 0) (dnE h (fun _ => 0)) (dnF h su 0)) ++ ((grdW ad 15 cy sea noi) ++ ((rayW ad 18 cy (ur 0) (ur 1) (ur 2) (ur 3) (ur 4) (ur 5) (ur 6) (ur 7)) ++ ((sndW ad 19 cy 12 sn pl pw an hd fq) ++ ((sndW ad 25 cy 6 bn bp bw ban bhd bo) ++ ((conW ad 31 cy cm c1 c2 c3 c4 c5) ++ ((entW ad 37 cy em ep e1 e2 e3 e4 e5) ++ (outW od 0 cy o))))))))))) := hD
      exfalso
      omega
    ·
      have hP : va_P D vwCl (mdlW bd 0 cy 2 h su st sh fl 0 sn bn fm fr cm em lg le lf dl cS cH sea noi pl pw an hd bp bo bw c1 c2 c3 c4 c5 e1 e2 e3 e4 e5) H := hP
      have hD : va_D (fun q => z0 ≤ q) ((mdlW bd 0 cy 2 h su st sh fl 0 sn bn fm fr cm em lg le lf dl cS cH sea noi pl pw an hd bp bo bw c1 c2 c3 c4 c5 e1 e2 e3 e4 e5) ++ ((rooW ad 0 cy fm fr) ++ ((airW ad 1 cy h su st sh fl cS cH (dnD h fl) (dnE h cS) (dnF h su st)) ++ ((airW ad 8 cy h su 0 0 0 (fun _ => 0) (fun _ => 0) (dnD h 0) (dnE h (fun _ => 0)) (dnF h su 0)) ++ ((grdW ad 15 cy sea noi) ++ ((rayW ad 18 cy (ur 0) (ur 1) (ur 2) (ur 3) (ur 4) (ur 5) (ur 6) (ur 7)) ++ ((sndW ad 19 cy 12 sn pl pw an hd fq) ++ ((sndW ad 25 cy 6 bn bp bw ban bhd bo) ++ ((conW ad 31 cy cm c1 c2 c3 c4 c5) ++ ((entW ad 37 cy em ep e1 e2 e3 e4 e5) ++ (outW od 0 cy o))))))))))) := hD
      refine lv_istore (lv' := [(6, .int (iI 0)), (5, .int (iI 2)), (0, .ref (b)), (1, .ref (ad 0)), (2, .ref (bd 0)), (3, .ref (od 0)), (4, .int (iI i))]) M.1 M.2.1 dL_law_921 hl (by decide) rfl (fun ls hl => ?_)
      refine lv_aload_n M.1 M.2.1 dL_law_923 rfl (lv_at hl 4 rfl) ?_
      refine z_cR (z_runV (As := []) (rest := []) M (c_X7_thrown l D cy z0 bd 2 h su st sh fl 0 sn bn fm fr cm em lg le lf dl cS cH sea noi pl pw an hd bp bo bw c1 c2 c3 c4 c5 e1 e2 e3 e4 e5) hE hS hAz hP (zRc.of (ci := 7) (q0 := 0) hE hP rfl rfl) zk_cd_X7_thrown zk_in_RX7 zk_im_X7_thrown zk_se_X7_thrown zk_ml_RL_116 rfl rfl zd_X7_thrown ⟨by decide, by decide⟩ rfl hl.1 rfl (Nat.le_of_ble_eq_true rfl) dL_law_924 ⟨by show _ ≤ 601024; omega, by show _ ≤ 7293034; omega⟩) ?_
      refine lv_iload M.1 M.2.1 dL_law_927 (lv_at hl 1 rfl) ?_
      refine zi_same (tgt := 934) M dL_law_929 (by decide) ?_
      refine lv_iload M.1 M.2.1 dL_law_934 (lv_at hl 1 rfl) ?_
      refine zi_if_ne (tgt := 951) M dL_law_936 (by decide) ⟨by decide, by decide⟩ (fun _ => ?_) (fun q => absurd q (by decide))
      refine zi_goto (tgt := 2286) M dL_law_951 (by decide) ?_
      have hPx := hP
      have hP := hPm
      have hPm := hPx
      have hD := zD_c hD
      refine W.widen (k := cells + 6) (n := slots + 36) (by omega) (by omega) ?_
      exact hback h su st sh fl sn bn cm em ep fm fr 2 o lg le lf dl cS cH sea noi pl pw an hd fq bp bw ban bhd bo c1 c2 c3 c4 c5 e1 e2 e3 e4 e5 ur h_h h_su h_st h_sh h_fl h_sn h_bn h_cm h_em g_cS g_cH g_sea g_noi g_pl g_pw g_an g_hd g_bp g_bw g_ban g_bhd g_c1 g_c2 g_c3 g_c4 g_c5 g_e1 g_e2 g_e3 g_e4 g_e5 hbo hep H locs hP hPm hD hS ls (lv_sub hl [2, 3, 4, 5, 6] rfl)
    ·
      have hP : va_P D vwCl (mdlW bd 0 cy 3 h su st sh fl 0 sn bn fm fr cm em lg le lf dl cS cH sea noi pl pw an hd bp bo bw c1 c2 c3 c4 c5 e1 e2 e3 e4 e5) H := hP
      have hD : va_D (fun q => z0 ≤ q) ((mdlW bd 0 cy 3 h su st sh fl 0 sn bn fm fr cm em lg le lf dl cS cH sea noi pl pw an hd bp bo bw c1 c2 c3 c4 c5 e1 e2 e3 e4 e5) ++ ((rooW ad 0 cy fm fr) ++ ((airW ad 1 cy h su st sh fl cS cH (dnD h fl) (dnE h cS) (dnF h su st)) ++ ((airW ad 8 cy h su 0 0 0 (fun _ => 0) (fun _ => 0) (dnD h 0) (dnE h (fun _ => 0)) (dnF h su 0)) ++ ((grdW ad 15 cy sea noi) ++ ((rayW ad 18 cy (ur 0) (ur 1) (ur 2) (ur 3) (ur 4) (ur 5) (ur 6) (ur 7)) ++ ((sndW ad 19 cy 12 sn pl pw an hd fq) ++ ((sndW ad 25 cy 6 bn bp bw ban bhd bo) ++ ((conW ad 31 cy cm c1 c2 c3 c4 c5) ++ ((entW ad 37 cy em ep e1 e2 e3 e4 e5) ++ (outW od 0 cy o))))))))))) := hD
      exfalso
      omega
  ·
    have hw_4 := hv_4.symm
    subst hw_4
    have hP : va_P D vwCl ((rooW ad 0 cy fm fr) ++ ((airW ad 1 cy h su st sh fl cS cH (dnD h fl) (dnE h cS) (dnF h su st)) ++ ((airW ad 8 cy h su 0 0 0 (fun _ => 0) (fun _ => 0) (dnD h 0) (dnE h (fun _ => 0)) (dnF h su 0)) ++ ((grdW ad 15 cy sea noi) ++ ((rayW ad 18 cy (ur 0) (ur 1) (ur 2) (ur 3) (ur 4) (ur 5) (ur 6) (ur 7)) ++ ((sndW ad 19 cy 12 sn pl pw an hd fq) ++ ((sndW ad 25 cy 6 bn bp bw ban bhd bo) ++ ((conW ad 31 cy cm c1 c2 c3 c4 c5) ++ ((entW ad 37 cy em ep e1 e2 e3 e4 e5) ++ (outW od 0 cy o)))))))))) H := hP
    have hD : va_D (fun q => z0 ≤ q) (((rooW ad 0 cy fm fr) ++ ((airW ad 1 cy h su st sh fl cS cH (dnD h fl) (dnE h cS) (dnF h su st)) ++ ((airW ad 8 cy h su 0 0 0 (fun _ => 0) (fun _ => 0) (dnD h 0) (dnE h (fun _ => 0)) (dnF h su 0)) ++ ((grdW ad 15 cy sea noi) ++ ((rayW ad 18 cy (ur 0) (ur 1) (ur 2) (ur 3) (ur 4) (ur 5) (ur 6) (ur 7)) ++ ((sndW ad 19 cy 12 sn pl pw an hd fq) ++ ((sndW ad 25 cy 6 bn bp bw ban bhd bo) ++ ((conW ad 31 cy cm c1 c2 c3 c4 c5) ++ ((entW ad 37 cy em ep e1 e2 e3 e4 e5) ++ (outW od 0 cy o)))))))))) ++ (mdlW bd 0 cy th h su st sh fl 0 sn bn fm fr cm em lg le lf dl cS cH sea noi pl pw an hd bp bo bw c1 c2 c3 c4 c5 e1 e2 e3 e4 e5)) := hD
    refine lv_istore (lv' := [(5, .int (iI 3)), (0, .ref (b)), (1, .ref (ad 0)), (2, .ref (bd 0)), (3, .ref (od 0)), (4, .int (iI i))]) M.1 M.2.1 dL_law_897 hl (by decide) rfl (fun ls hl => ?_)
    refine lv_aload_n M.1 M.2.1 dL_law_899 rfl (lv_at hl 3 rfl) ?_
    refine lv_aload_n M.1 M.2.1 dL_law_900 rfl (lv_at hl 1 rfl) ?_
    refine lv_iload M.1 M.2.1 dL_law_901 (lv_at hl 5 rfl) ?_
    refine zi_push M dL_law_903 ?_
    refine zi_iadd M dL_law_904 ?_
    refine zi_sld M hX hbl hbA hS hL (by omega) (by omega) dL_law_905 ?_
    have hx_17 := xZ_rg xs (i + 1)
    refine lv_aload_n M.1 M.2.1 dL_law_906 rfl (lv_at hl 1 rfl) ?_
    refine lv_iload M.1 M.2.1 dL_law_907 (lv_at hl 5 rfl) ?_
    refine zi_push M dL_law_909 ?_
    refine zi_iadd M dL_law_910 ?_
    refine zi_sld M hX hbl hbA hS hL (by omega) (by omega) dL_law_911 ?_
    have hx_18 := xZ_rg xs (i + 2)
    refine lv_aload_n M.1 M.2.1 dL_law_912 rfl (lv_at hl 1 rfl) ?_
    refine lv_iload M.1 M.2.1 dL_law_913 (lv_at hl 5 rfl) ?_
    refine zi_push M dL_law_915 ?_
    refine zi_iadd M dL_law_916 ?_
    refine zi_sld M hX hbl hbA hS hL (by omega) (by omega) dL_law_917 ?_
    have hx_19 := xZ_rg xs (i + 3)
    have hPx := hP
    have hP := hPm
    have hPm := hPx
    have hD := zD_c hD
    refine z_cW2 (z_runV (As := [.int (iI (xZ xs (i + 1))), .int (iI (xZ xs (i + 2))), .int (iI (xZ xs (i + 3)))]) (rest := []) M (c_X7_log l D cy z0 bd th h su st sh fl 0 sn bn fm fr cm em lg le lf dl cS cH sea noi pl pw an hd bp bo bw c1 c2 c3 c4 c5 e1 e2 e3 e4 e5 (xZ xs (i + 1)) (xZ xs (i + 2)) (xZ xs (i + 3)) (by omega) (by omega) (by omega) (by omega) (by omega) (by omega) g_e1 g_e2 g_e3 g_e4 g_e5) hE hS hAz (z_cut hP (zD_l hD) hAz [0, 1, 2, 3, 4, 5, 6, 7, 8, 9, 10, 11, 12, 13, 14, 15, 16, 17, 18, 19, 20, 21] rfl (by decide +kernel)) (zRc.of (ci := 7) (q0 := 0) hE hP rfl rfl) zk_cd_X7_log zk_in_RX7 zk_im_X7_log zk_se_X7_log zk_ml_RL_155 rfl rfl zd_X7_log ⟨by decide, by decide⟩ rfl hl.1 rfl (Nat.le_of_ble_eq_true rfl) dL_law_918 ⟨by show _ ≤ 601024; omega, by show _ ≤ 7293034; omega⟩) hP hPm hD hS [0, 1, 2, 3, 4, 5, 6, 7, 8, 9, 10, 11, 12, 13, 14, 15, 16, 17, 18, 19, 20, 21] rfl (fun _ => by simp only [List.map_append, mdlW_adr]) (fun r_20 u_20 H locs hp_20 hP hPm hD hS => ?_)
    try simp only [mdD_0, mdE_0, mdF_0, mdD_1, mdE_1, mdF_1] at hp_20
    have hP : va_P D vwCl (mdlW bd 0 cy u_20 h su st sh fl 0 sn bn fm fr cm (if u_20 = 0 then (em + 1) else em) lg le lf dl cS cH sea noi pl pw an hd bp bo bw c1 c2 c3 c4 c5 (if u_20 = 0 then (zu e1 em (xZ xs (i + 1))) else e1) (if u_20 = 0 then (zu e2 em (xZ xs (i + 2))) else e2) (if u_20 = 0 then (zu e3 em (xZ xs (i + 3))) else e3) (if u_20 = 0 then (zu e4 em h) else e4) (if u_20 = 0 then (zpair (zu e5 em (lowZ (parP e1 e2 e3 e4 e5 (xZ xs (i + 1)) (xZ xs (i + 2)) (xZ xs (i + 3)) h) em)) em (lowZ (parP e1 e2 e3 e4 e5 (xZ xs (i + 1)) (xZ xs (i + 2)) (xZ xs (i + 3)) h) em)) else e5)) H := hP
    have hD : va_D (fun q => z0 ≤ q) ((mdlW bd 0 cy u_20 h su st sh fl 0 sn bn fm fr cm (if u_20 = 0 then (em + 1) else em) lg le lf dl cS cH sea noi pl pw an hd bp bo bw c1 c2 c3 c4 c5 (if u_20 = 0 then (zu e1 em (xZ xs (i + 1))) else e1) (if u_20 = 0 then (zu e2 em (xZ xs (i + 2))) else e2) (if u_20 = 0 then (zu e3 em (xZ xs (i + 3))) else e3) (if u_20 = 0 then (zu e4 em h) else e4) (if u_20 = 0 then (zpair (zu e5 em (lowZ (parP e1 e2 e3 e4 e5 (xZ xs (i + 1)) (xZ xs (i + 2)) (xZ xs (i + 3)) h) em)) em (lowZ (parP e1 e2 e3 e4 e5 (xZ xs (i + 1)) (xZ xs (i + 2)) (xZ xs (i + 3)) h) em)) else e5)) ++ ((rooW ad 0 cy fm fr) ++ ((airW ad 1 cy h su st sh fl cS cH (dnD h fl) (dnE h cS) (dnF h su st)) ++ ((airW ad 8 cy h su 0 0 0 (fun _ => 0) (fun _ => 0) (dnD h 0) (dnE h (fun _ => 0)) (dnF h su 0)) ++ ((grdW ad 15 cy sea noi) ++ ((rayW ad 18 cy (ur 0) (ur 1) (ur 2) (ur 3) (ur 4) (ur 5) (ur 6) (ur 7)) ++ ((sndW ad 19 cy 12 sn pl pw an hd fq) ++ ((sndW ad 25 cy 6 bn bp bw ban bhd bo) ++ ((conW ad 31 cy cm c1 c2 c3 c4 c5) ++ ((entW ad 37 cy em ep e1 e2 e3 e4 e5) ++ (outW od 0 cy o))))))))))) := hD
    rcases hp_20 with ⟨rfl, hN_20, rfl⟩ | ⟨rfl, hN_20, rfl⟩ | ⟨rfl, hN_20, rfl⟩ | ⟨rfl, hN_20, rfl⟩
    ·
      have hP : va_P D vwCl (mdlW bd 0 cy 0 h su st sh fl 0 sn bn fm fr cm (em + 1) lg le lf dl cS cH sea noi pl pw an hd bp bo bw c1 c2 c3 c4 c5 (zu e1 em (xZ xs (i + 1))) (zu e2 em (xZ xs (i + 2))) (zu e3 em (xZ xs (i + 3))) (zu e4 em h) (zpair (zu e5 em (lowZ (parP e1 e2 e3 e4 e5 (xZ xs (i + 1)) (xZ xs (i + 2)) (xZ xs (i + 3)) h) em)) em (lowZ (parP e1 e2 e3 e4 e5 (xZ xs (i + 1)) (xZ xs (i + 2)) (xZ xs (i + 3)) h) em))) H := hP
      have hD : va_D (fun q => z0 ≤ q) ((mdlW bd 0 cy 0 h su st sh fl 0 sn bn fm fr cm (em + 1) lg le lf dl cS cH sea noi pl pw an hd bp bo bw c1 c2 c3 c4 c5 (zu e1 em (xZ xs (i + 1))) (zu e2 em (xZ xs (i + 2))) (zu e3 em (xZ xs (i + 3))) (zu e4 em h) (zpair (zu e5 em (lowZ (parP e1 e2 e3 e4 e5 (xZ xs (i + 1)) (xZ xs (i + 2)) (xZ xs (i + 3)) h) em)) em (lowZ (parP e1 e2 e3 e4 e5 (xZ xs (i + 1)) (xZ xs (i + 2)) (xZ xs (i + 3)) h) em))) ++ ((rooW ad 0 cy fm fr) ++ ((airW ad 1 cy h su st sh fl cS cH (dnD h fl) (dnE h cS) (dnF h su st)) ++ ((airW ad 8 cy h su 0 0 0 (fun _ => 0) (fun _ => 0) (dnD h 0) (dnE h (fun _ => 0)) (dnF h su 0)) ++ ((grdW ad 15 cy sea noi) ++ ((rayW ad 18 cy (ur 0) (ur 1) (ur 2) (ur 3) (ur 4) (ur 5) (ur 6) (ur 7)) ++ ((sndW ad 19 cy 12 sn pl pw an hd fq) ++ ((sndW ad 25 cy 6 bn bp bw ban bhd bo) ++ ((conW ad 31 cy cm c1 c2 c3 c4 c5) ++ ((entW ad 37 cy em ep e1 e2 e3 e4 e5) ++ (outW od 0 cy o))))))))))) := hD
      exfalso
      omega
    ·
      have hP : va_P D vwCl (mdlW bd 0 cy 1 h su st sh fl 0 sn bn fm fr cm em lg le lf dl cS cH sea noi pl pw an hd bp bo bw c1 c2 c3 c4 c5 e1 e2 e3 e4 e5) H := hP
      have hD : va_D (fun q => z0 ≤ q) ((mdlW bd 0 cy 1 h su st sh fl 0 sn bn fm fr cm em lg le lf dl cS cH sea noi pl pw an hd bp bo bw c1 c2 c3 c4 c5 e1 e2 e3 e4 e5) ++ ((rooW ad 0 cy fm fr) ++ ((airW ad 1 cy h su st sh fl cS cH (dnD h fl) (dnE h cS) (dnF h su st)) ++ ((airW ad 8 cy h su 0 0 0 (fun _ => 0) (fun _ => 0) (dnD h 0) (dnE h (fun _ => 0)) (dnF h su 0)) ++ ((grdW ad 15 cy sea noi) ++ ((rayW ad 18 cy (ur 0) (ur 1) (ur 2) (ur 3) (ur 4) (ur 5) (ur 6) (ur 7)) ++ ((sndW ad 19 cy 12 sn pl pw an hd fq) ++ ((sndW ad 25 cy 6 bn bp bw ban bhd bo) ++ ((conW ad 31 cy cm c1 c2 c3 c4 c5) ++ ((entW ad 37 cy em ep e1 e2 e3 e4 e5) ++ (outW od 0 cy o))))))))))) := hD
      exfalso
      omega
    ·
      have hP : va_P D vwCl (mdlW bd 0 cy 2 h su st sh fl 0 sn bn fm fr cm em lg le lf dl cS cH sea noi pl pw an hd bp bo bw c1 c2 c3 c4 c5 e1 e2 e3 e4 e5) H := hP
      have hD : va_D (fun q => z0 ≤ q) ((mdlW bd 0 cy 2 h su st sh fl 0 sn bn fm fr cm em lg le lf dl cS cH sea noi pl pw an hd bp bo bw c1 c2 c3 c4 c5 e1 e2 e3 e4 e5) ++ ((rooW ad 0 cy fm fr) ++ ((airW ad 1 cy h su st sh fl cS cH (dnD h fl) (dnE h cS) (dnF h su st)) ++ ((airW ad 8 cy h su 0 0 0 (fun _ => 0) (fun _ => 0) (dnD h 0) (dnE h (fun _ => 0)) (dnF h su 0)) ++ ((grdW ad 15 cy sea noi) ++ ((rayW ad 18 cy (ur 0) (ur 1) (ur 2) (ur 3) (ur 4) (ur 5) (ur 6) (ur 7)) ++ ((sndW ad 19 cy 12 sn pl pw an hd fq) ++ ((sndW ad 25 cy 6 bn bp bw ban bhd bo) ++ ((conW ad 31 cy cm c1 c2 c3 c4 c5) ++ ((entW ad 37 cy em ep e1 e2 e3 e4 e5) ++ (outW od 0 cy o))))))))))) := hD
      exfalso
      omega
    ·
      have hP : va_P D vwCl (mdlW bd 0 cy 3 h su st sh fl 0 sn bn fm fr cm em lg le lf dl cS cH sea noi pl pw an hd bp bo bw c1 c2 c3 c4 c5 e1 e2 e3 e4 e5) H := hP
      have hD : va_D (fun q => z0 ≤ q) ((mdlW bd 0 cy 3 h su st sh fl 0 sn bn fm fr cm em lg le lf dl cS cH sea noi pl pw an hd bp bo bw c1 c2 c3 c4 c5 e1 e2 e3 e4 e5) ++ ((rooW ad 0 cy fm fr) ++ ((airW ad 1 cy h su st sh fl cS cH (dnD h fl) (dnE h cS) (dnF h su st)) ++ ((airW ad 8 cy h su 0 0 0 (fun _ => 0) (fun _ => 0) (dnD h 0) (dnE h (fun _ => 0)) (dnF h su 0)) ++ ((grdW ad 15 cy sea noi) ++ ((rayW ad 18 cy (ur 0) (ur 1) (ur 2) (ur 3) (ur 4) (ur 5) (ur 6) (ur 7)) ++ ((sndW ad 19 cy 12 sn pl pw an hd fq) ++ ((sndW ad 25 cy 6 bn bp bw ban bhd bo) ++ ((conW ad 31 cy cm c1 c2 c3 c4 c5) ++ ((entW ad 37 cy em ep e1 e2 e3 e4 e5) ++ (outW od 0 cy o))))))))))) := hD
      refine lv_istore (lv' := [(6, .int (iI 0)), (5, .int (iI 3)), (0, .ref (b)), (1, .ref (ad 0)), (2, .ref (bd 0)), (3, .ref (od 0)), (4, .int (iI i))]) M.1 M.2.1 dL_law_921 hl (by decide) rfl (fun ls hl => ?_)
      refine lv_aload_n M.1 M.2.1 dL_law_923 rfl (lv_at hl 4 rfl) ?_
      refine z_cR (z_runV (As := []) (rest := []) M (c_X7_thrown l D cy z0 bd 3 h su st sh fl 0 sn bn fm fr cm em lg le lf dl cS cH sea noi pl pw an hd bp bo bw c1 c2 c3 c4 c5 e1 e2 e3 e4 e5) hE hS hAz hP (zRc.of (ci := 7) (q0 := 0) hE hP rfl rfl) zk_cd_X7_thrown zk_in_RX7 zk_im_X7_thrown zk_se_X7_thrown zk_ml_RL_116 rfl rfl zd_X7_thrown ⟨by decide, by decide⟩ rfl hl.1 rfl (Nat.le_of_ble_eq_true rfl) dL_law_924 ⟨by show _ ≤ 601024; omega, by show _ ≤ 7293034; omega⟩) ?_
      refine lv_iload M.1 M.2.1 dL_law_927 (lv_at hl 1 rfl) ?_
      refine zi_same (tgt := 934) M dL_law_929 (by decide) ?_
      refine lv_iload M.1 M.2.1 dL_law_934 (lv_at hl 1 rfl) ?_
      refine zi_if_ne (tgt := 951) M dL_law_936 (by decide) ⟨by decide, by decide⟩ (fun _ => ?_) (fun q => absurd q (by decide))
      refine zi_goto (tgt := 2286) M dL_law_951 (by decide) ?_
      have hPx := hP
      have hP := hPm
      have hPm := hPx
      have hD := zD_c hD
      refine W.widen (k := cells + 6) (n := slots + 36) (by omega) (by omega) ?_
      exact hback h su st sh fl sn bn cm em ep fm fr 3 o lg le lf dl cS cH sea noi pl pw an hd fq bp bw ban bhd bo c1 c2 c3 c4 c5 e1 e2 e3 e4 e5 ur h_h h_su h_st h_sh h_fl h_sn h_bn h_cm h_em g_cS g_cH g_sea g_noi g_pl g_pw g_an g_hd g_bp g_bw g_ban g_bhd g_c1 g_c2 g_c3 g_c4 g_c5 g_e1 g_e2 g_e3 g_e4 g_e5 hbo hep H locs hP hPm hD hS ls (lv_sub hl [2, 3, 4, 5, 6] rfl)
