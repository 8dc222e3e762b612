/-! the law, case by case -/
set_option maxRecDepth 100000 in
set_option maxHeartbeats 8000000 in
theorem lw_case11 (l : Launch) (D : va_G) (cy : Nat → ClassId) (z0 : Nat) (ad bd od : Nat → Nat) (p : Program) (e : Env) (s : State) (m : MethodId) (args : Array Value) (below : List Frame) (meth : Method) (c : Code) (b : Nat) (i : Int) (Q : State → Prop) (cells slots : Nat) (hst : l.stackTraces = false) (hL7 : ∀ q : Nat, q = 0 → True) (b_L : Nat) (xs : Nat → Int32) (M : zM p s m args c cL_law RL 7) (hE : zE D cy z0 s) (hN : zNc s) (hL : b_L ≤ 3584) (hX : va_X b b_L xs s s.heap) (hbl : b < s.heap.size) (hbA : ¬ z0 ≤ b) (hi : 0 ≤ i ∧ i + 7 ≤ b_L) (hc : cells + 6 ≤ 601024) (hs : slots + 36 ≤ 7293034) (hback : lwB l D cy z0 ad bd od p e s m args below meth c b i Q cells slots) (h su st sh fl sn bn cm em ep fm fr th o lg le lf dl : Int) (cS cH sea noi pl pw an hd fq bp bw ban bhd bo c1 c2 c3 c4 c5 e1 e2 e3 e4 e5 : Int → Int) (ur : Nat → Int) (h_h : 0 ≤ h ∧ h ≤ 5000) (h_su : 0 ≤ su ∧ su ≤ 100) (h_st : 0 ≤ st ∧ st ≤ 60) (h_sh : 0 ≤ sh ∧ sh ≤ 72) (h_fl : 0 ≤ fl ∧ fl ≤ 80) (h_sn : 0 ≤ sn ∧ sn ≤ 12) (h_bn : 0 ≤ bn ∧ bn ≤ 6) (h_cm : 0 ≤ cm ∧ cm ≤ 60) (h_em : 0 ≤ em ∧ em ≤ 80) (g_cS : zrg 48 0 100 cS) (g_cH : zrg 48 0 24 cH) (g_sea : zrg 48 0 1 sea) (g_noi : zrg 48 0 40 noi) (g_pl : zrg 12 0 47 pl) (g_pw : zrg 12 0 80 pw) (g_an : zrg 12 0 2 an) (g_hd : zrg 12 0 2 hd) (g_bp : zrg 6 0 47 bp) (g_bw : zrg 6 0 80 bw) (g_ban : zrg 6 0 2 ban) (g_bhd : zrg 6 0 2 bhd) (g_c1 : zrg 60 0 11 c1) (g_c2 : zrg 60 0 11 c2) (g_c3 : zrg 60 0 300 c3) (g_c4 : zrg 60 0 2 c4) (g_c5 : zrg 60 0 5000 c5) (g_e1 : zrg 80 0 11 e1) (g_e2 : zrg 80 0 11 e2) (g_e3 : zrg 80 0 300 e3) (g_e4 : zrg 80 0 5000 e4) (g_e5 : zrg 80 (-1) 79 e5) (hbo : ∀ n : Int, 0 ≤ n → n < bn → (10 ≤ bo n ∧ bo n ≤ 300) ∧ ban n = 2 ∧ bhd n = 2) (hep : ep = prF e5 em.toNat) (H : Heap) (locs : List Loc) (hP : va_P D vwCl ((rooW ad 0 cy fm fr) ++ ((airW ad 1 cy h su st sh fl cS cH (dnD h fl) (dnE h cS) (dnF h su st)) ++ ((airW ad 8 cy h su 0 0 0 (fun _ => 0) (fun _ => 0) (dnD h 0) (dnE h (fun _ => 0)) (dnF h su 0)) ++ ((grdW ad 15 cy sea noi) ++ ((rayW ad 18 cy (ur 0) (ur 1) (ur 2) (ur 3) (ur 4) (ur 5) (ur 6) (ur 7)) ++ ((sndW ad 19 cy 12 sn pl pw an hd fq) ++ ((sndW ad 25 cy 6 bn bp bw ban bhd bo) ++ ((conW ad 31 cy cm c1 c2 c3 c4 c5) ++ ((entW ad 37 cy em ep e1 e2 e3 e4 e5) ++ (outW od 0 cy o)))))))))) H) (hPm : va_P D vwCl (mdlW bd 0 cy th h su st sh fl 0 sn bn fm fr cm em lg le lf dl cS cH sea noi pl pw an hd bp bo bw c1 c2 c3 c4 c5 e1 e2 e3 e4 e5) H) (hD : va_D (fun q => z0 ≤ q) (((rooW ad 0 cy fm fr) ++ ((airW ad 1 cy h su st sh fl cS cH (dnD h fl) (dnE h cS) (dnF h su st)) ++ ((airW ad 8 cy h su 0 0 0 (fun _ => 0) (fun _ => 0) (dnD h 0) (dnE h (fun _ => 0)) (dnF h su 0)) ++ ((grdW ad 15 cy sea noi) ++ ((rayW ad 18 cy (ur 0) (ur 1) (ur 2) (ur 3) (ur 4) (ur 5) (ur 6) (ur 7)) ++ ((sndW ad 19 cy 12 sn pl pw an hd fq) ++ ((sndW ad 25 cy 6 bn bp bw ban bhd bo) ++ ((conW ad 31 cy cm c1 c2 c3 c4 c5) ++ ((entW ad 37 cy em ep e1 e2 e3 e4 e5) ++ (outW od 0 cy o)))))))))) ++ (mdlW bd 0 cy th h su st sh fl 0 sn bn fm fr cm em lg le lf dl cS cH sea noi pl pw an hd bp bo bw c1 c2 c3 c4 c5 e1 e2 e3 e4 e5))) (hS : va_S (fun q => z0 ≤ q) s.heap H locs) (ls : Array Slot) (hl : lv_has ls 7 [(0, .ref b), (1, .ref (ad 0)), (2, .ref (bd 0)), (3, .ref (od 0)), (4, .int (iI i))]) : W p l e room_1 s m args below meth c H locs (cells) (slots) Q (F0 m 954 ls []) := by
  have hAz : ∀ q : Nat, (fun q => z0 ≤ q) q → z0 ≤ q := fun _ h => h
  refine lv_aload_n M.1 M.2.1 dL_law_954 rfl (lv_at hl 1 rfl) ?_
  refine lv_aload_n M.1 M.2.1 dL_law_955 rfl (lv_at hl 0 rfl) ?_
  refine lv_iload M.1 M.2.1 dL_law_956 (lv_at hl 4 rfl) ?_
  refine zi_push M dL_law_958 ?_
  refine zi_iadd M dL_law_959 ?_
  refine zi_sld M hX hbl hbA hS hL (by omega) (by omega) dL_law_960 ?_
  have hx_1 := xZ_rg xs (i + 1)
  refine lv_aload_n M.1 M.2.1 dL_law_961 rfl (lv_at hl 3 rfl) ?_
  refine z_cW2 (zx_runH (As := [.ref (ad 0), .int (iI (xZ xs (i + 1))), .ref (od 0)]) (rest := []) M (c_L_listen l hst D cy z0 ad od fm fr h su st sh fl h su 0 0 0 (ur 0) (ur 1) (ur 2) (ur 3) (ur 4) (ur 5) (ur 6) (ur 7) bn o cS cH (dnD h fl) (dnE h cS) (dnF h su st) (fun _ => 0) (fun _ => 0) (dnD h 0) (dnE h (fun _ => 0)) (dnF h su 0) sea noi bp bw ban bhd bo (xZ xs (i + 1)) (by omega) (dnD_rg h_fl) (dnE_rg g_cS) (dnF_rg h_su h_st) (dnD_rg (by omega)) (dnE_rg (zZ_rg 48 100 (by decide))) (dnF_rg h_su (by omega)) g_sea g_noi g_bp g_bw g_ban g_bhd (by omega) (by omega) (fun n a b => (hbo n a b).1)) hE hN hS hAz (z_cut hP (zD_l hD) hAz [0, 1, 2, 3, 4, 5, 6, 7, 8, 9, 10, 11, 12, 13, 14, 15, 16, 17, 18, 25, 26, 27, 28, 29, 30, 43] rfl (by decide +kernel)) zk_cw_L_listen zk_in_RL zk_st_L_listen zk_ml_RL_156 rfl rfl zd_L_listen ⟨by decide, by decide⟩ rfl hl.1 rfl (Nat.le_of_ble_eq_true rfl) dL_law_962 ⟨by show _ ≤ 601024; omega, by show _ ≤ 7293034; omega⟩) hP hPm hD hS [0, 1, 2, 3, 4, 5, 6, 7, 8, 9, 10, 11, 12, 13, 14, 15, 16, 17, 18, 25, 26, 27, 28, 29, 30, 43] rfl (fun _ => by simp only [List.map_append, airW_adr, grdW_adr, outW_adr, rayW_adr, rooW_adr, sndW_adr]) (fun r_2 u_2 H locs hp_2 hP hPm hD hS => ?_)
  have hP : va_P D vwCl ((rooW ad 0 cy (if u_2.1 = 0 then (fm + bn) else fm) (if u_2.1 = 0 then (fr + lrF (dnE h cS) (dnF h su st) (dnD h fl) (dnE h (fun _ => 0)) (dnF h su 0) (dnD h 0) sea noi h bp bw ban bhd bo (xZ xs (i + 1)) bn.toNat) else fr)) ++ ((airW ad 1 cy h su st sh fl cS cH (dnD h fl) (dnE h cS) (dnF h su st)) ++ ((airW ad 8 cy h su 0 0 0 (fun _ => 0) (fun _ => 0) (dnD h 0) (dnE h (fun _ => 0)) (dnF h su 0)) ++ ((grdW ad 15 cy sea noi) ++ ((rayW ad 18 cy (u_2.2.2 0) (u_2.2.2 1) (u_2.2.2 2) (u_2.2.2 3) (u_2.2.2 4) (u_2.2.2 5) (u_2.2.2 6) (u_2.2.2 7)) ++ ((sndW ad 19 cy 12 sn pl pw an hd fq) ++ ((sndW ad 25 cy 6 bn bp bw ban bhd bo) ++ ((conW ad 31 cy cm c1 c2 c3 c4 c5) ++ ((entW ad 37 cy em ep e1 e2 e3 e4 e5) ++ (outW od 0 cy u_2.2.1)))))))))) H := hP
  have hD : va_D (fun q => z0 ≤ q) (((rooW ad 0 cy (if u_2.1 = 0 then (fm + bn) else fm) (if u_2.1 = 0 then (fr + lrF (dnE h cS) (dnF h su st) (dnD h fl) (dnE h (fun _ => 0)) (dnF h su 0) (dnD h 0) sea noi h bp bw ban bhd bo (xZ xs (i + 1)) bn.toNat) else fr)) ++ ((airW ad 1 cy h su st sh fl cS cH (dnD h fl) (dnE h cS) (dnF h su st)) ++ ((airW ad 8 cy h su 0 0 0 (fun _ => 0) (fun _ => 0) (dnD h 0) (dnE h (fun _ => 0)) (dnF h su 0)) ++ ((grdW ad 15 cy sea noi) ++ ((rayW ad 18 cy (u_2.2.2 0) (u_2.2.2 1) (u_2.2.2 2) (u_2.2.2 3) (u_2.2.2 4) (u_2.2.2 5) (u_2.2.2 6) (u_2.2.2 7)) ++ ((sndW ad 19 cy 12 sn pl pw an hd fq) ++ ((sndW ad 25 cy 6 bn bp bw ban bhd bo) ++ ((conW ad 31 cy cm c1 c2 c3 c4 c5) ++ ((entW ad 37 cy em ep e1 e2 e3 e4 e5) ++ (outW od 0 cy u_2.2.1)))))))))) ++ (mdlW bd 0 cy th h su st sh fl 0 sn bn fm fr cm em lg le lf dl cS cH sea noi pl pw an hd bp bo bw c1 c2 c3 c4 c5 e1 e2 e3 e4 e5)) := hD
  obtain ⟨u1_2, u2_2, u3_2⟩ := u_2
  dsimp only at hp_2
  rcases hp_2 with ⟨rfl, rfl, hN_2, hv_2⟩ | ⟨rfl, rfl, hN_2, hv_2⟩
  ·
    have hw_2 := hv_2.symm
    subst hw_2
    have hP : va_P D vwCl ((rooW ad 0 cy (fm + bn) (fr + lrF (dnE h cS) (dnF h su st) (dnD h fl) (dnE h (fun _ => 0)) (dnF h su 0) (dnD h 0) sea noi h bp bw ban bhd bo (xZ xs (i + 1)) bn.toNat)) ++ ((airW ad 1 cy h su st sh fl cS cH (dnD h fl) (dnE h cS) (dnF h su st)) ++ ((airW ad 8 cy h su 0 0 0 (fun _ => 0) (fun _ => 0) (dnD h 0) (dnE h (fun _ => 0)) (dnF h su 0)) ++ ((grdW ad 15 cy sea noi) ++ ((rayW ad 18 cy (u3_2 0) (u3_2 1) (u3_2 2) (u3_2 3) (u3_2 4) (u3_2 5) (u3_2 6) (u3_2 7)) ++ ((sndW ad 19 cy 12 sn pl pw an hd fq) ++ ((sndW ad 25 cy 6 bn bp bw ban bhd bo) ++ ((conW ad 31 cy cm c1 c2 c3 c4 c5) ++ ((entW ad 37 cy em ep e1 e2 e3 e4 e5) ++ (outW od 0 cy (liF (dnE h cS) (dnF h su st) (dnD h fl) sea noi h bp bw ban bhd bo (xZ xs (i + 1)) bn.toNat))))))))))) H := hP
    have hD : va_D (fun q => z0 ≤ q) (((rooW ad 0 cy (fm + bn) (fr + lrF (dnE h cS) (dnF h su st) (dnD h fl) (dnE h (fun _ => 0)) (dnF h su 0) (dnD h 0) sea noi h bp bw ban bhd bo (xZ xs (i + 1)) bn.toNat)) ++ ((airW ad 1 cy h su st sh fl cS cH (dnD h fl) (dnE h cS) (dnF h su st)) ++ ((airW ad 8 cy h su 0 0 0 (fun _ => 0) (fun _ => 0) (dnD h 0) (dnE h (fun _ => 0)) (dnF h su 0)) ++ ((grdW ad 15 cy sea noi) ++ ((rayW ad 18 cy (u3_2 0) (u3_2 1) (u3_2 2) (u3_2 3) (u3_2 4) (u3_2 5) (u3_2 6) (u3_2 7)) ++ ((sndW ad 19 cy 12 sn pl pw an hd fq) ++ ((sndW ad 25 cy 6 bn bp bw ban bhd bo) ++ ((conW ad 31 cy cm c1 c2 c3 c4 c5) ++ ((entW ad 37 cy em ep e1 e2 e3 e4 e5) ++ (outW od 0 cy (liF (dnE h cS) (dnF h su st) (dnD h fl) sea noi h bp bw ban bhd bo (xZ xs (i + 1)) bn.toNat))))))))))) ++ (mdlW bd 0 cy th h su st sh fl 0 sn bn fm fr cm em lg le lf dl cS cH sea noi pl pw an hd bp bo bw c1 c2 c3 c4 c5 e1 e2 e3 e4 e5)) := hD
    refine lv_istore (lv' := [(5, .int (iI 0)), (0, .ref (b)), (1, .ref (ad 0)), (2, .ref (bd 0)), (3, .ref (od 0)), (4, .int (iI i))]) M.1 M.2.1 dL_law_965 hl (by decide) rfl (fun ls hl => ?_)
    refine lv_aload_n M.1 M.2.1 dL_law_967 rfl (lv_at hl 3 rfl) ?_
    refine lv_aload_n M.1 M.2.1 dL_law_968 rfl (lv_at hl 1 rfl) ?_
    refine lv_iload M.1 M.2.1 dL_law_969 (lv_at hl 5 rfl) ?_
    refine zi_push M dL_law_971 ?_
    refine zi_iadd M dL_law_972 ?_
    refine zi_sld M hX hbl hbA hS hL (by omega) (by omega) dL_law_973 ?_
    have hx_3 := xZ_rg xs (i + 1)
    have hPx := hP
    have hP := hPm
    have hPm := hPx
    have hD := zD_c hD
    refine z_cW2 (z_runV (As := [.int (iI (xZ xs (i + 1)))]) (rest := []) M (c_X7_listen l D cy z0 bd th h su st sh fl 0 sn bn fm fr cm em lg le lf dl cS cH sea noi pl pw an hd bp bo bw c1 c2 c3 c4 c5 e1 e2 e3 e4 e5 (xZ xs (i + 1)) (by omega) (by omega) (by omega) (by omega) (by omega) g_cS (by omega) (by omega) g_sea g_noi g_bp g_bw (by omega) (fun n a b => (hbo n a b).1)) hE hS hAz (z_cut hP (zD_l hD) hAz [0, 1, 2, 3, 4, 5, 6, 7, 8, 9, 10, 11, 12, 13, 14, 15, 16, 17, 18, 19, 20, 21] rfl (by decide +kernel)) (zRc.of (ci := 7) (q0 := 0) hE hP rfl rfl) zk_cd_X7_listen zk_in_RX7 zk_im_X7_listen zk_se_X7_listen zk_ml_RL_158 rfl rfl zd_X7_listen ⟨by decide, by decide⟩ rfl hl.1 rfl (Nat.le_of_ble_eq_true rfl) dL_law_974 ⟨by show _ ≤ 601024; omega, by show _ ≤ 7293034; omega⟩) hP hPm hD hS [0, 1, 2, 3, 4, 5, 6, 7, 8, 9, 10, 11, 12, 13, 14, 15, 16, 17, 18, 19, 20, 21] rfl (fun _ => by simp only [List.map_append, mdlW_adr]) (fun r_4 u_4 H locs hp_4 hP hPm hD hS => ?_)
    try simp only [mdD_0, mdE_0, mdF_0, mdD_1, mdE_1, mdF_1] at hp_4
    have hP : va_P D vwCl (mdlW bd 0 cy (u_4 4) h su st sh fl (if u_4 4 = 0 then 0 else 0) sn bn (if u_4 4 = 0 then (fm + bn) else fm) (if u_4 4 = 0 then (fr + lrF (dnE h cS) (dnF h su st) (dnD h fl) (dnE h (fun _ => 0)) (dnF h su 0) (dnD h 0) sea noi h bp bw (fun _ => 2) (fun _ => 2) bo (xZ xs (i + 1)) bn.toNat) else fr) cm em (u_4 0) (u_4 1) (u_4 2) (u_4 3) cS cH sea noi pl pw an hd bp bo bw c1 c2 c3 c4 c5 e1 e2 e3 e4 e5) H := hP
    have hD : va_D (fun q => z0 ≤ q) ((mdlW bd 0 cy (u_4 4) h su st sh fl (if u_4 4 = 0 then 0 else 0) sn bn (if u_4 4 = 0 then (fm + bn) else fm) (if u_4 4 = 0 then (fr + lrF (dnE h cS) (dnF h su st) (dnD h fl) (dnE h (fun _ => 0)) (dnF h su 0) (dnD h 0) sea noi h bp bw (fun _ => 2) (fun _ => 2) bo (xZ xs (i + 1)) bn.toNat) else fr) cm em (u_4 0) (u_4 1) (u_4 2) (u_4 3) cS cH sea noi pl pw an hd bp bo bw c1 c2 c3 c4 c5 e1 e2 e3 e4 e5) ++ ((rooW ad 0 cy (fm + bn) (fr + lrF (dnE h cS) (dnF h su st) (dnD h fl) (dnE h (fun _ => 0)) (dnF h su 0) (dnD h 0) sea noi h bp bw ban bhd bo (xZ xs (i + 1)) bn.toNat)) ++ ((airW ad 1 cy h su st sh fl cS cH (dnD h fl) (dnE h cS) (dnF h su st)) ++ ((airW ad 8 cy h su 0 0 0 (fun _ => 0) (fun _ => 0) (dnD h 0) (dnE h (fun _ => 0)) (dnF h su 0)) ++ ((grdW ad 15 cy sea noi) ++ ((rayW ad 18 cy (u3_2 0) (u3_2 1) (u3_2 2) (u3_2 3) (u3_2 4) (u3_2 5) (u3_2 6) (u3_2 7)) ++ ((sndW ad 19 cy 12 sn pl pw an hd fq) ++ ((sndW ad 25 cy 6 bn bp bw ban bhd bo) ++ ((conW ad 31 cy cm c1 c2 c3 c4 c5) ++ ((entW ad 37 cy em ep e1 e2 e3 e4 e5) ++ (outW od 0 cy (liF (dnE h cS) (dnF h su st) (dnD h fl) sea noi h bp bw ban bhd bo (xZ xs (i + 1)) bn.toNat)))))))))))) := hD
    rcases hp_4 with ⟨xa_4, xb_4, xc_4, xd_4, rfl, hN_4, rfl⟩ | ⟨rfl, hN_4, rfl⟩
    ·
      have hP : va_P D vwCl (mdlW bd 0 cy 0 h su st sh fl 0 sn bn (fm + bn) (fr + lrF (dnE h cS) (dnF h su st) (dnD h fl) (dnE h (fun _ => 0)) (dnF h su 0) (dnD h 0) sea noi h bp bw (fun _ => 2) (fun _ => 2) bo (xZ xs (i + 1)) bn.toNat) cm em xa_4 xb_4 xc_4 xd_4 cS cH sea noi pl pw an hd bp bo bw c1 c2 c3 c4 c5 e1 e2 e3 e4 e5) H := hP
      have hD : va_D (fun q => z0 ≤ q) ((mdlW bd 0 cy 0 h su st sh fl 0 sn bn (fm + bn) (fr + lrF (dnE h cS) (dnF h su st) (dnD h fl) (dnE h (fun _ => 0)) (dnF h su 0) (dnD h 0) sea noi h bp bw (fun _ => 2) (fun _ => 2) bo (xZ xs (i + 1)) bn.toNat) cm em xa_4 xb_4 xc_4 xd_4 cS cH sea noi pl pw an hd bp bo bw c1 c2 c3 c4 c5 e1 e2 e3 e4 e5) ++ ((rooW ad 0 cy (fm + bn) (fr + lrF (dnE h cS) (dnF h su st) (dnD h fl) (dnE h (fun _ => 0)) (dnF h su 0) (dnD h 0) sea noi h bp bw ban bhd bo (xZ xs (i + 1)) bn.toNat)) ++ ((airW ad 1 cy h su st sh fl cS cH (dnD h fl) (dnE h cS) (dnF h su st)) ++ ((airW ad 8 cy h su 0 0 0 (fun _ => 0) (fun _ => 0) (dnD h 0) (dnE h (fun _ => 0)) (dnF h su 0)) ++ ((grdW ad 15 cy sea noi) ++ ((rayW ad 18 cy (u3_2 0) (u3_2 1) (u3_2 2) (u3_2 3) (u3_2 4) (u3_2 5) (u3_2 6) (u3_2 7)) ++ ((sndW ad 19 cy 12 sn pl pw an hd fq) ++ ((sndW ad 25 cy 6 bn bp bw ban bhd bo) ++ ((conW ad 31 cy cm c1 c2 c3 c4 c5) ++ ((entW ad 37 cy em ep e1 e2 e3 e4 e5) ++ (outW od 0 cy (liF (dnE h cS) (dnF h su st) (dnD h fl) sea noi h bp bw ban bhd bo (xZ xs (i + 1)) bn.toNat)))))))))))) := hD
      have hfr := lrF_congr (dE := dnE h cS) (dF := dnF h su st) (dD := dnD h fl) (kE := dnE h (fun _ => 0)) (kF := dnF h su 0) (kD := dnD h 0) (sea := sea) (noi := noi) (h := h) (bpl := bp) (bpw := bw) (ban := fun _ => 2) (bhd := fun _ => 2) (ban' := ban) (bhd' := bhd) (bfq := bo) (q := (xZ xs (i + 1))) bn.toNat (fun j h0 h1 => ⟨(hbo j h0 (by omega)).2.1.symm, (hbo j h0 (by omega)).2.2.symm⟩)
      rw [hfr] at hP hD
      refine z_rw (b := liF (dnE h cS) (dnF h su st) (dnD h fl) sea noi h bp bw ban bhd bo (xZ xs (i + 1)) bn.toNat) (liF_congr bn.toNat (fun j h0 h1 => ⟨(hbo j h0 (by omega)).2.1.symm, (hbo j h0 (by omega)).2.2.symm⟩)) ?_
      refine lv_istore (lv' := [(6, .int (iI (liF (dnE h cS) (dnF h su st) (dnD h fl) sea noi h bp bw ban bhd bo (xZ xs (i + 1)) bn.toNat))), (5, .int (iI 0)), (0, .ref (b)), (1, .ref (ad 0)), (2, .ref (bd 0)), (3, .ref (od 0)), (4, .int (iI i))]) M.1 M.2.1 dL_law_977 hl (by decide) rfl (fun ls hl => ?_)
      refine lv_aload_n M.1 M.2.1 dL_law_979 rfl (lv_at hl 4 rfl) ?_
      refine z_cR (z_runV (As := []) (rest := []) M (c_X7_thrown l D cy z0 bd 0 h su st sh fl 0 sn bn (fm + bn) (fr + lrF (dnE h cS) (dnF h su st) (dnD h fl) (dnE h (fun _ => 0)) (dnF h su 0) (dnD h 0) sea noi h bp bw ban bhd bo (xZ xs (i + 1)) bn.toNat) cm em xa_4 xb_4 xc_4 xd_4 cS cH sea noi pl pw an hd bp bo bw c1 c2 c3 c4 c5 e1 e2 e3 e4 e5) hE hS hAz hP (zRc.of (ci := 7) (q0 := 0) hE hP rfl rfl) zk_cd_X7_thrown zk_in_RX7 zk_im_X7_thrown zk_se_X7_thrown zk_ml_RL_116 rfl rfl zd_X7_thrown ⟨by decide, by decide⟩ rfl hl.1 rfl (Nat.le_of_ble_eq_true rfl) dL_law_980 ⟨by show _ ≤ 601024; omega, by show _ ≤ 7293034; omega⟩) ?_
      refine lv_iload M.1 M.2.1 dL_law_983 (lv_at hl 1 rfl) ?_
      refine zi_same (tgt := 990) M dL_law_985 (by decide) ?_
      refine lv_iload M.1 M.2.1 dL_law_990 (lv_at hl 1 rfl) ?_
      refine zi_if_ne (tgt := 1007) M dL_law_992 (by decide) ⟨by decide, by decide⟩ (fun q => absurd q (by decide)) (fun _ => ?_)
      refine lv_aload_n M.1 M.2.1 dL_law_995 rfl (lv_at hl 5 rfl) ?_
      refine zi_push M dL_law_996 ?_
      refine zi_lald M hE hPm 43 rfl dL_law_997 ?_
      refine lv_iload M.1 M.2.1 dL_law_998 (lv_at hl 0 rfl) ?_
      refine zi_i2l M dL_law_1000 ?_
      refine zi_lcmpE M dL_law_1001 ?_
      refine zi_if_eq (tgt := 1007) M dL_law_1002 (by decide) ⟨by decide, by decide⟩ (fun _ => ?_) (fun q => absurd q (by decide))
      refine zi_goto (tgt := 2286) M dL_law_1007 (by decide) ?_
      have hPx := hP
      have hP := hPm
      have hPm := hPx
      have hD := zD_c hD
      refine W.widen (k := cells + 6) (n := slots + 36) (by omega) (by omega) ?_
      exact hback h su st sh fl sn bn cm em ep (fm + bn) (fr + lrF (dnE h cS) (dnF h su st) (dnD h fl) (dnE h (fun _ => 0)) (dnF h su 0) (dnD h 0) sea noi h bp bw ban bhd bo (xZ xs (i + 1)) bn.toNat) 0 (liF (dnE h cS) (dnF h su st) (dnD h fl) sea noi h bp bw ban bhd bo (xZ xs (i + 1)) bn.toNat) xa_4 xb_4 xc_4 xd_4 cS cH sea noi pl pw an hd fq bp bw ban bhd bo c1 c2 c3 c4 c5 e1 e2 e3 e4 e5 u3_2 h_h h_su h_st h_sh h_fl h_sn h_bn h_cm h_em g_cS g_cH g_sea g_noi g_pl g_pw g_an g_hd g_bp g_bw g_ban g_bhd g_c1 g_c2 g_c3 g_c4 g_c5 g_e1 g_e2 g_e3 g_e4 g_e5 hbo hep H locs hP hPm hD hS ls (lv_sub hl [2, 3, 4, 5, 6] rfl)
    ·
      have hP : va_P D vwCl (mdlW bd 0 cy 1 h su st sh fl 0 sn bn fm fr cm em lg le lf dl cS cH sea noi pl pw an hd bp bo bw c1 c2 c3 c4 c5 e1 e2 e3 e4 e5) H := hP
      have hD : va_D (fun q => z0 ≤ q) ((mdlW bd 0 cy 1 h su st sh fl 0 sn bn fm fr cm em lg le lf dl cS cH sea noi pl pw an hd bp bo bw c1 c2 c3 c4 c5 e1 e2 e3 e4 e5) ++ ((rooW ad 0 cy (fm + bn) (fr + lrF (dnE h cS) (dnF h su st) (dnD h fl) (dnE h (fun _ => 0)) (dnF h su 0) (dnD h 0) sea noi h bp bw ban bhd bo (xZ xs (i + 1)) bn.toNat)) ++ ((airW ad 1 cy h su st sh fl cS cH (dnD h fl) (dnE h cS) (dnF h su st)) ++ ((airW ad 8 cy h su 0 0 0 (fun _ => 0) (fun _ => 0) (dnD h 0) (dnE h (fun _ => 0)) (dnF h su 0)) ++ ((grdW ad 15 cy sea noi) ++ ((rayW ad 18 cy (u3_2 0) (u3_2 1) (u3_2 2) (u3_2 3) (u3_2 4) (u3_2 5) (u3_2 6) (u3_2 7)) ++ ((sndW ad 19 cy 12 sn pl pw an hd fq) ++ ((sndW ad 25 cy 6 bn bp bw ban bhd bo) ++ ((conW ad 31 cy cm c1 c2 c3 c4 c5) ++ ((entW ad 37 cy em ep e1 e2 e3 e4 e5) ++ (outW od 0 cy (liF (dnE h cS) (dnF h su st) (dnD h fl) sea noi h bp bw ban bhd bo (xZ xs (i + 1)) bn.toNat)))))))))))) := hD
      exfalso
      omega
  ·
    have hw_2 := hv_2.symm
    subst hw_2
    have hP : va_P D vwCl ((rooW ad 0 cy fm fr) ++ ((airW ad 1 cy h su st sh fl cS cH (dnD h fl) (dnE h cS) (dnF h su st)) ++ ((airW ad 8 cy h su 0 0 0 (fun _ => 0) (fun _ => 0) (dnD h 0) (dnE h (fun _ => 0)) (dnF h su 0)) ++ ((grdW ad 15 cy sea noi) ++ ((rayW ad 18 cy (u3_2 0) (u3_2 1) (u3_2 2) (u3_2 3) (u3_2 4) (u3_2 5) (u3_2 6) (u3_2 7)) ++ ((sndW ad 19 cy 12 sn pl pw an hd fq) ++ ((sndW ad 25 cy 6 bn bp bw ban bhd bo) ++ ((conW ad 31 cy cm c1 c2 c3 c4 c5) ++ ((entW ad 37 cy em ep e1 e2 e3 e4 e5) ++ (outW od 0 cy o)))))))))) H := hP
    have hD : va_D (fun q => z0 ≤ q) (((rooW ad 0 cy fm fr) ++ ((airW ad 1 cy h su st sh fl cS cH (dnD h fl) (dnE h cS) (dnF h su st)) ++ ((airW ad 8 cy h su 0 0 0 (fun _ => 0) (fun _ => 0) (dnD h 0) (dnE h (fun _ => 0)) (dnF h su 0)) ++ ((grdW ad 15 cy sea noi) ++ ((rayW ad 18 cy (u3_2 0) (u3_2 1) (u3_2 2) (u3_2 3) (u3_2 4) (u3_2 5) (u3_2 6) (u3_2 7)) ++ ((sndW ad 19 cy 12 sn pl pw an hd fq) ++ ((sndW ad 25 cy 6 bn bp bw ban bhd bo) ++ ((conW ad 31 cy cm c1 c2 c3 c4 c5) ++ ((entW ad 37 cy em ep e1 e2 e3 e4 e5) ++ (outW od 0 cy o)))))))))) ++ (mdlW bd 0 cy th h su st sh fl 0 sn bn fm fr cm em lg le lf dl cS cH sea noi pl pw an hd bp bo bw c1 c2 c3 c4 c5 e1 e2 e3 e4 e5)) := hD
    refine lv_istore (lv' := [(5, .int (iI 1)), (0, .ref (b)), (1, .ref (ad 0)), (2, .ref (bd 0)), (3, .ref (od 0)), (4, .int (iI i))]) M.1 M.2.1 dL_law_965 hl (by decide) rfl (fun ls hl => ?_)
    refine lv_aload_n M.1 M.2.1 dL_law_967 rfl (lv_at hl 3 rfl) ?_
    refine lv_aload_n M.1 M.2.1 dL_law_968 rfl (lv_at hl 1 rfl) ?_
    refine lv_iload M.1 M.2.1 dL_law_969 (lv_at hl 5 rfl) ?_
    refine zi_push M dL_law_971 ?_
    refine zi_iadd M dL_law_972 ?_
    refine zi_sld M hX hbl hbA hS hL (by omega) (by omega) dL_law_973 ?_
    have hx_5 := xZ_rg xs (i + 1)
    have hPx := hP
    have hP := hPm
    have hPm := hPx
    have hD := zD_c hD
    refine z_cW2 (z_runV (As := [.int (iI (xZ xs (i + 1)))]) (rest := []) M (c_X7_listen l D cy z0 bd th h su st sh fl 0 sn bn fm fr cm em lg le lf dl cS cH sea noi pl pw an hd bp bo bw c1 c2 c3 c4 c5 e1 e2 e3 e4 e5 (xZ xs (i + 1)) (by omega) (by omega) (by omega) (by omega) (by omega) g_cS (by omega) (by omega) g_sea g_noi g_bp g_bw (by omega) (fun n a b => (hbo n a b).1)) hE hS hAz (z_cut hP (zD_l hD) hAz [0, 1, 2, 3, 4, 5, 6, 7, 8, 9, 10, 11, 12, 13, 14, 15, 16, 17, 18, 19, 20, 21] rfl (by decide +kernel)) (zRc.of (ci := 7) (q0 := 0) hE hP rfl rfl) zk_cd_X7_listen zk_in_RX7 zk_im_X7_listen zk_se_X7_listen zk_ml_RL_158 rfl rfl zd_X7_listen ⟨by decide, by decide⟩ rfl hl.1 rfl (Nat.le_of_ble_eq_true rfl) dL_law_974 ⟨by show _ ≤ 601024; omega, by show _ ≤ 7293034; omega⟩) hP hPm hD hS [0, 1, 2, 3, 4, 5, 6, 7, 8, 9, 10, 11, 12, 13, 14, 15, 16, 17, 18, 19, 20, 21] rfl (fun _ => by simp only [List.map_append, mdlW_adr]) (fun r_6 u_6 H locs hp_6 hP hPm hD hS => ?_)
    try simp only [mdD_0, mdE_0, mdF_0, mdD_1, mdE_1, mdF_1] at hp_6
    have hP : va_P D vwCl (mdlW bd 0 cy (u_6 4) h su st sh fl (if u_6 4 = 0 then 0 else 0) sn bn (if u_6 4 = 0 then (fm + bn) else fm) (if u_6 4 = 0 then (fr + lrF (dnE h cS) (dnF h su st) (dnD h fl) (dnE h (fun _ => 0)) (dnF h su 0) (dnD h 0) sea noi h bp bw (fun _ => 2) (fun _ => 2) bo (xZ xs (i + 1)) bn.toNat) else fr) cm em (u_6 0) (u_6 1) (u_6 2) (u_6 3) cS cH sea noi pl pw an hd bp bo bw c1 c2 c3 c4 c5 e1 e2 e3 e4 e5) H := hP
    have hD : va_D (fun q => z0 ≤ q) ((mdlW bd 0 cy (u_6 4) h su st sh fl (if u_6 4 = 0 then 0 else 0) sn bn (if u_6 4 = 0 then (fm + bn) else fm) (if u_6 4 = 0 then (fr + lrF (dnE h cS) (dnF h su st) (dnD h fl) (dnE h (fun _ => 0)) (dnF h su 0) (dnD h 0) sea noi h bp bw (fun _ => 2) (fun _ => 2) bo (xZ xs (i + 1)) bn.toNat) else fr) cm em (u_6 0) (u_6 1) (u_6 2) (u_6 3) cS cH sea noi pl pw an hd bp bo bw c1 c2 c3 c4 c5 e1 e2 e3 e4 e5) ++ ((rooW ad 0 cy fm fr) ++ ((airW ad 1 cy h su st sh fl cS cH (dnD h fl) (dnE h cS) (dnF h su st)) ++ ((airW ad 8 cy h su 0 0 0 (fun _ => 0) (fun _ => 0) (dnD h 0) (dnE h (fun _ => 0)) (dnF h su 0)) ++ ((grdW ad 15 cy sea noi) ++ ((rayW ad 18 cy (u3_2 0) (u3_2 1) (u3_2 2) (u3_2 3) (u3_2 4) (u3_2 5) (u3_2 6) (u3_2 7)) ++ ((sndW ad 19 cy 12 sn pl pw an hd fq) ++ ((sndW ad 25 cy 6 bn bp bw ban bhd bo) ++ ((conW ad 31 cy cm c1 c2 c3 c4 c5) ++ ((entW ad 37 cy em ep e1 e2 e3 e4 e5) ++ (outW od 0 cy o))))))))))) := hD
    rcases hp_6 with ⟨xa_6, xb_6, xc_6, xd_6, rfl, hN_6, rfl⟩ | ⟨rfl, hN_6, rfl⟩
    ·
      have hP : va_P D vwCl (mdlW bd 0 cy 0 h su st sh fl 0 sn bn (fm + bn) (fr + lrF (dnE h cS) (dnF h su st) (dnD h fl) (dnE h (fun _ => 0)) (dnF h su 0) (dnD h 0) sea noi h bp bw (fun _ => 2) (fun _ => 2) bo (xZ xs (i + 1)) bn.toNat) cm em xa_6 xb_6 xc_6 xd_6 cS cH sea noi pl pw an hd bp bo bw c1 c2 c3 c4 c5 e1 e2 e3 e4 e5) H := hP
      have hD : va_D (fun q => z0 ≤ q) ((mdlW bd 0 cy 0 h su st sh fl 0 sn bn (fm + bn) (fr + lrF (dnE h cS) (dnF h su st) (dnD h fl) (dnE h (fun _ => 0)) (dnF h su 0) (dnD h 0) sea noi h bp bw (fun _ => 2) (fun _ => 2) bo (xZ xs (i + 1)) bn.toNat) cm em xa_6 xb_6 xc_6 xd_6 cS cH sea noi pl pw an hd bp bo bw c1 c2 c3 c4 c5 e1 e2 e3 e4 e5) ++ ((rooW ad 0 cy fm fr) ++ ((airW ad 1 cy h su st sh fl cS cH (dnD h fl) (dnE h cS) (dnF h su st)) ++ ((airW ad 8 cy h su 0 0 0 (fun _ => 0) (fun _ => 0) (dnD h 0) (dnE h (fun _ => 0)) (dnF h su 0)) ++ ((grdW ad 15 cy sea noi) ++ ((rayW ad 18 cy (u3_2 0) (u3_2 1) (u3_2 2) (u3_2 3) (u3_2 4) (u3_2 5) (u3_2 6) (u3_2 7)) ++ ((sndW ad 19 cy 12 sn pl pw an hd fq) ++ ((sndW ad 25 cy 6 bn bp bw ban bhd bo) ++ ((conW ad 31 cy cm c1 c2 c3 c4 c5) ++ ((entW ad 37 cy em ep e1 e2 e3 e4 e5) ++ (outW od 0 cy o))))))))))) := hD
      exfalso
      omega
    ·
      have hP : va_P D vwCl (mdlW bd 0 cy 1 h su st sh fl 0 sn bn fm fr cm em lg le lf dl cS cH sea noi pl pw an hd bp bo bw c1 c2 c3 c4 c5 e1 e2 e3 e4 e5) H := hP
      have hD : va_D (fun q => z0 ≤ q) ((mdlW bd 0 cy 1 h su st sh fl 0 sn bn fm fr cm em lg le lf dl cS cH sea noi pl pw an hd bp bo bw c1 c2 c3 c4 c5 e1 e2 e3 e4 e5) ++ ((rooW ad 0 cy fm fr) ++ ((airW ad 1 cy h su st sh fl cS cH (dnD h fl) (dnE h cS) (dnF h su st)) ++ ((airW ad 8 cy h su 0 0 0 (fun _ => 0) (fun _ => 0) (dnD h 0) (dnE h (fun _ => 0)) (dnF h su 0)) ++ ((grdW ad 15 cy sea noi) ++ ((rayW ad 18 cy (u3_2 0) (u3_2 1) (u3_2 2) (u3_2 3) (u3_2 4) (u3_2 5) (u3_2 6) (u3_2 7)) ++ ((sndW ad 19 cy 12 sn pl pw an hd fq) ++ ((sndW ad 25 cy 6 bn bp bw ban bhd bo) ++ ((conW ad 31 cy cm c1 c2 c3 c4 c5) ++ ((entW ad 37 cy em ep e1 e2 e3 e4 e5) ++ (outW od 0 cy o))))))))))) := hD
      refine lv_istore (lv' := [(6, .int (iI 0)), (5, .int (iI 1)), (0, .ref (b)), (1, .ref (ad 0)), (2, .ref (bd 0)), (3, .ref (od 0)), (4, .int (iI i))]) M.1 M.2.1 dL_law_977 hl (by decide) rfl (fun ls hl => ?_)
      refine lv_aload_n M.1 M.2.1 dL_law_979 rfl (lv_at hl 4 rfl) ?_
      refine z_cR (z_runV (As := []) (rest := []) M (c_X7_thrown l D cy z0 bd 1 h su st sh fl 0 sn bn fm fr cm em lg le lf dl cS cH sea noi pl pw an hd bp bo bw c1 c2 c3 c4 c5 e1 e2 e3 e4 e5) hE hS hAz hP (zRc.of (ci := 7) (q0 := 0) hE hP rfl rfl) zk_cd_X7_thrown zk_in_RX7 zk_im_X7_thrown zk_se_X7_thrown zk_ml_RL_116 rfl rfl zd_X7_thrown ⟨by decide, by decide⟩ rfl hl.1 rfl (Nat.le_of_ble_eq_true rfl) dL_law_980 ⟨by show _ ≤ 601024; omega, by show _ ≤ 7293034; omega⟩) ?_
      refine lv_iload M.1 M.2.1 dL_law_983 (lv_at hl 1 rfl) ?_
      refine zi_same (tgt := 990) M dL_law_985 (by decide) ?_
      refine lv_iload M.1 M.2.1 dL_law_990 (lv_at hl 1 rfl) ?_
      refine zi_if_ne (tgt := 1007) M dL_law_992 (by decide) ⟨by decide, by decide⟩ (fun _ => ?_) (fun q => absurd q (by decide))
      refine zi_goto (tgt := 2286) M dL_law_1007 (by decide) ?_
      have hPx := hP
      have hP := hPm
      have hPm := hPx
      have hD := zD_c hD
      refine W.widen (k := cells + 6) (n := slots + 36) (by omega) (by omega) ?_
      exact hback h su st sh fl sn bn cm em ep fm fr 1 o lg le lf dl cS cH sea noi pl pw an hd fq bp bw ban bhd bo c1 c2 c3 c4 c5 e1 e2 e3 e4 e5 u3_2 h_h h_su h_st h_sh h_fl h_sn h_bn h_cm h_em g_cS g_cH g_sea g_noi g_pl g_pw g_an g_hd g_bp g_bw g_ban g_bhd g_c1 g_c2 g_c3 g_c4 g_c5 g_e1 g_e2 g_e3 g_e4 g_e5 hbo hep H locs hP hPm hD hS ls (lv_sub hl [2, 3, 4, 5, 6] rfl)

set_option maxRecDepth 100000 in
set_option maxHeartbeats 8000000 in
theorem lw_case12 (l : Launch) (D : va_G) (cy : Nat → ClassId) (z0 : Nat) (ad bd od : Nat → Nat) (p : Program) (e : Env) (s : State) (m : MethodId) (args : Array Value) (below : List Frame) (meth : Method) (c : Code) (b : Nat) (i : Int) (Q : State → Prop) (cells slots : Nat) (hst : l.stackTraces = false) (hL7 : ∀ q : Nat, q = 0 → True) (b_L : Nat) (xs : Nat → Int32) (M : zM p s m args c cL_law RL 7) (hE : zE D cy z0 s) (hN : zNc s) (hL : b_L ≤ 3584) (hX : va_X b b_L xs s s.heap) (hbl : b < s.heap.size) (hbA : ¬ z0 ≤ b) (hi : 0 ≤ i ∧ i + 7 ≤ b_L) (hc : cells + 6 ≤ 601024) (hs : slots + 36 ≤ 7293034) (hback : lwB l D cy z0 ad bd od p e s m args below meth c b i Q cells slots) (h su st sh fl sn bn cm em ep fm fr th o lg le lf dl : Int) (cS cH sea noi pl pw an hd fq bp bw ban bhd bo c1 c2 c3 c4 c5 e1 e2 e3 e4 e5 : Int → Int) (ur : Nat → Int) (h_h : 0 ≤ h ∧ h ≤ 5000) (h_su : 0 ≤ su ∧ su ≤ 100) (h_st : 0 ≤ st ∧ st ≤ 60) (h_sh : 0 ≤ sh ∧ sh ≤ 72) (h_fl : 0 ≤ fl ∧ fl ≤ 80) (h_sn : 0 ≤ sn ∧ sn ≤ 12) (h_bn : 0 ≤ bn ∧ bn ≤ 6) (h_cm : 0 ≤ cm ∧ cm ≤ 60) (h_em : 0 ≤ em ∧ em ≤ 80) (g_cS : zrg 48 0 100 cS) (g_cH : zrg 48 0 24 cH) (g_sea : zrg 48 0 1 sea) (g_noi : zrg 48 0 40 noi) (g_pl : zrg 12 0 47 pl) (g_pw : zrg 12 0 80 pw) (g_an : zrg 12 0 2 an) (g_hd : zrg 12 0 2 hd) (g_bp : zrg 6 0 47 bp) (g_bw : zrg 6 0 80 bw) (g_ban : zrg 6 0 2 ban) (g_bhd : zrg 6 0 2 bhd) (g_c1 : zrg 60 0 11 c1) (g_c2 : zrg 60 0 11 c2) (g_c3 : zrg 60 0 300 c3) (g_c4 : zrg 60 0 2 c4) (g_c5 : zrg 60 0 5000 c5) (g_e1 : zrg 80 0 11 e1) (g_e2 : zrg 80 0 11 e2) (g_e3 : zrg 80 0 300 e3) (g_e4 : zrg 80 0 5000 e4) (g_e5 : zrg 80 (-1) 79 e5) (hbo : ∀ n : Int, 0 ≤ n → n < bn → (10 ≤ bo n ∧ bo n ≤ 300) ∧ ban n = 2 ∧ bhd n = 2) (hep : ep = prF e5 em.toNat) (H : Heap) (locs : List Loc) (hP : va_P D vwCl ((rooW ad 0 cy fm fr) ++ ((airW ad 1 cy h su st sh fl cS cH (dnD h fl) (dnE h cS) (dnF h su st)) ++ ((airW ad 8 cy h su 0 0 0 (fun _ => 0) (fun _ => 0) (dnD h 0) (dnE h (fun _ => 0)) (dnF h su 0)) ++ ((grdW ad 15 cy sea noi) ++ ((rayW ad 18 cy (ur 0) (ur 1) (ur 2) (ur 3) (ur 4) (ur 5) (ur 6) (ur 7)) ++ ((sndW ad 19 cy 12 sn pl pw an hd fq) ++ ((sndW ad 25 cy 6 bn bp bw ban bhd bo) ++ ((conW ad 31 cy cm c1 c2 c3 c4 c5) ++ ((entW ad 37 cy em ep e1 e2 e3 e4 e5) ++ (outW od 0 cy o)))))))))) H) (hPm : va_P D vwCl (mdlW bd 0 cy th h su st sh fl 0 sn bn fm fr cm em lg le lf dl cS cH sea noi pl pw an hd bp bo bw c1 c2 c3 c4 c5 e1 e2 e3 e4 e5) H) (hD : va_D (fun q => z0 ≤ q) (((rooW ad 0 cy fm fr) ++ ((airW ad 1 cy h su st sh fl cS cH (dnD h fl) (dnE h cS) (dnF h su st)) ++ ((airW ad 8 cy h su 0 0 0 (fun _ => 0) (fun _ => 0) (dnD h 0) (dnE h (fun _ => 0)) (dnF h su 0)) ++ ((grdW ad 15 cy sea noi) ++ ((rayW ad 18 cy (ur 0) (ur 1) (ur 2) (ur 3) (ur 4) (ur 5) (ur 6) (ur 7)) ++ ((sndW ad 19 cy 12 sn pl pw an hd fq) ++ ((sndW ad 25 cy 6 bn bp bw ban bhd bo) ++ ((conW ad 31 cy cm c1 c2 c3 c4 c5) ++ ((entW ad 37 cy em ep e1 e2 e3 e4 e5) ++ (outW od 0 cy o)))))))))) ++ (mdlW bd 0 cy th h su st sh fl 0 sn bn fm fr cm em lg le lf dl cS cH sea noi pl pw an hd bp bo bw c1 c2 c3 c4 c5 e1 e2 e3 e4 e5))) (hS : va_S (fun q => z0 ≤ q) s.heap H locs) (ls : Array Slot) (hl : lv_has ls 7 [(0, .ref b), (1, .ref (ad 0)), (2, .ref (bd 0)), (3, .ref (od 0)), (4, .int (iI i))]) : W p l e room_1 s m args below meth c H locs (cells) (slots) Q (F0 m 1010 ls []) := by
  have hAz : ∀ q : Nat, (fun q => z0 ≤ q) q → z0 ≤ q := fun _ h => h
  refine lv_aload_n M.1 M.2.1 dL_law_1010 rfl (lv_at hl 1 rfl) ?_
  refine z_cR (z_runV (As := []) (rest := []) M (c_X6_hour l D cy z0 ad fm fr h su st sh fl cS cH (dnD h fl) (dnE h cS) (dnF h su st)) hE hS hAz (hP.sub [0, 1, 2, 3, 4, 5, 6, 7] rfl) (zRc.of (ci := 6) (q0 := 0) hE hP rfl rfl) zk_cd_X6_hour zk_in_RX6 zk_im_X6_hour zk_se_X6_hour zk_ml_RL_159 rfl rfl zd_X6_hour ⟨by decide, by decide⟩ rfl hl.1 rfl (Nat.le_of_ble_eq_true rfl) dL_law_1011 ⟨by show _ ≤ 601024; omega, by show _ ≤ 7293034; omega⟩) ?_
  refine lv_aload_n M.1 M.2.1 dL_law_1014 rfl (lv_at hl 2 rfl) ?_
  have hPx := hP
  have hP := hPm
  have hPm := hPx
  have hD := zD_c hD
  refine z_cW2 (z_runV (As := []) (rest := [.int (iI h)]) M (c_X7_hour l D cy z0 bd th h su st sh fl 0 sn bn fm fr cm em lg le lf dl cS cH sea noi pl pw an hd bp bo bw c1 c2 c3 c4 c5 e1 e2 e3 e4 e5) hE hS hAz (z_cut hP (zD_l hD) hAz [0, 1, 2, 3, 4, 5, 6, 7, 8, 9, 10, 11, 12, 13, 14, 15, 16, 17, 18, 19, 20, 21] rfl (by decide +kernel)) (zRc.of (ci := 7) (q0 := 0) hE hP rfl rfl) zk_cd_X7_hour zk_in_RX7 zk_im_X7_hour zk_se_X7_hour zk_ml_RL_162 rfl rfl zd_X7_hour ⟨by decide, by decide⟩ rfl hl.1 rfl (Nat.le_of_ble_eq_true rfl) dL_law_1015 ⟨by show _ ≤ 601024; omega, by show _ ≤ 7293034; omega⟩) hP hPm hD hS [0, 1, 2, 3, 4, 5, 6, 7, 8, 9, 10, 11, 12, 13, 14, 15, 16, 17, 18, 19, 20, 21] rfl (fun _ => by simp only [List.map_append, mdlW_adr]) (fun r_1 u_1 H locs hp_1 hP hPm hD hS => ?_)
  try simp only [mdD_0, mdE_0, mdF_0, mdD_1, mdE_1, mdF_1] at hp_1
  have hP : va_P D vwCl (mdlW bd 0 cy 0 h su st sh fl 0 sn bn fm fr cm em lg le lf dl cS cH sea noi pl pw an hd bp bo bw c1 c2 c3 c4 c5 e1 e2 e3 e4 e5) H := hP
  have hD : va_D (fun q => z0 ≤ q) ((mdlW bd 0 cy 0 h su st sh fl 0 sn bn fm fr cm em lg le lf dl cS cH sea noi pl pw an hd bp bo bw c1 c2 c3 c4 c5 e1 e2 e3 e4 e5) ++ ((rooW ad 0 cy fm fr) ++ ((airW ad 1 cy h su st sh fl cS cH (dnD h fl) (dnE h cS) (dnF h su st)) ++ ((airW ad 8 cy h su 0 0 0 (fun _ => 0) (fun _ => 0) (dnD h 0) (dnE h (fun _ => 0)) (dnF h su 0)) ++ ((grdW ad 15 cy sea noi) ++ ((rayW ad 18 cy (ur 0) (ur 1) (ur 2) (ur 3) (ur 4) (ur 5) (ur 6) (ur 7)) ++ ((sndW ad 19 cy 12 sn pl pw an hd fq) ++ ((sndW ad 25 cy 6 bn bp bw ban bhd bo) ++ ((conW ad 31 cy cm c1 c2 c3 c4 c5) ++ ((entW ad 37 cy em ep e1 e2 e3 e4 e5) ++ (outW od 0 cy o))))))))))) := hD
  subst hp_1
  refine zi_same (tgt := 2286) M dL_law_1018 (by decide) ?_
  have hPx := hP
  have hP := hPm
  have hPm := hPx
  have hD := zD_c hD
  refine W.widen (k := cells + 6) (n := slots + 36) (by omega) (by omega) ?_
  exact hback h su st sh fl sn bn cm em ep fm fr 0 o lg le lf dl cS cH sea noi pl pw an hd fq bp bw ban bhd bo c1 c2 c3 c4 c5 e1 e2 e3 e4 e5 ur h_h h_su h_st h_sh h_fl h_sn h_bn h_cm h_em g_cS g_cH g_sea g_noi g_pl g_pw g_an g_hd g_bp g_bw g_ban g_bhd g_c1 g_c2 g_c3 g_c4 g_c5 g_e1 g_e2 g_e3 g_e4 g_e5 hbo hep H locs hP hPm hD hS ls (lv_sub hl [0, 1, 2, 3, 4] rfl)

set_option maxRecDepth 100000 in
set_option maxHeartbeats 8000000 in
theorem lw_case13 (l : Launch) (D : va_G) (cy : Nat → ClassId) (z0 : Nat) (ad bd od : Nat → Nat) (p : Program) (e : Env) (s : State) (m : MethodId) (args : Array Value) (below : List Frame) (meth : Method) (c : Code) (b : Nat) (i : Int) (Q : State → Prop) (cells slots : Nat) (hst : l.stackTraces = false) (hL7 : ∀ q : Nat, q = 0 → True) (b_L : Nat) (xs : Nat → Int32) (M : zM p s m args c cL_law RL 7) (hE : zE D cy z0 s) (hN : zNc s) (hL : b_L ≤ 3584) (hX : va_X b b_L xs s s.heap) (hbl : b < s.heap.size) (hbA : ¬ z0 ≤ b) (hi : 0 ≤ i ∧ i + 7 ≤ b_L) (hc : cells + 6 ≤ 601024) (hs : slots + 36 ≤ 7293034) (hback : lwB l D cy z0 ad bd od p e s m args below meth c b i Q cells slots) (h su st sh fl sn bn cm em ep fm fr th o lg le lf dl : Int) (cS cH sea noi pl pw an hd fq bp bw ban bhd bo c1 c2 c3 c4 c5 e1 e2 e3 e4 e5 : Int → Int) (ur : Nat → Int) (h_h : 0 ≤ h ∧ h ≤ 5000) (h_su : 0 ≤ su ∧ su ≤ 100) (h_st : 0 ≤ st ∧ st ≤ 60) (h_sh : 0 ≤ sh ∧ sh ≤ 72) (h_fl : 0 ≤ fl ∧ fl ≤ 80) (h_sn : 0 ≤ sn ∧ sn ≤ 12) (h_bn : 0 ≤ bn ∧ bn ≤ 6) (h_cm : 0 ≤ cm ∧ cm ≤ 60) (h_em : 0 ≤ em ∧ em ≤ 80) (g_cS : zrg 48 0 100 cS) (g_cH : zrg 48 0 24 cH) (g_sea : zrg 48 0 1 sea) (g_noi : zrg 48 0 40 noi) (g_pl : zrg 12 0 47 pl) (g_pw : zrg 12 0 80 pw) (g_an : zrg 12 0 2 an) (g_hd : zrg 12 0 2 hd) (g_bp : zrg 6 0 47 bp) (g_bw : zrg 6 0 80 bw) (g_ban : zrg 6 0 2 ban) (g_bhd : zrg 6 0 2 bhd) (g_c1 : zrg 60 0 11 c1) (g_c2 : zrg 60 0 11 c2) (g_c3 : zrg 60 0 300 c3) (g_c4 : zrg 60 0 2 c4) (g_c5 : zrg 60 0 5000 c5) (g_e1 : zrg 80 0 11 e1) (g_e2 : zrg 80 0 11 e2) (g_e3 : zrg 80 0 300 e3) (g_e4 : zrg 80 0 5000 e4) (g_e5 : zrg 80 (-1) 79 e5) (hbo : ∀ n : Int, 0 ≤ n → n < bn → (10 ≤ bo n ∧ bo n ≤ 300) ∧ ban n = 2 ∧ bhd n = 2) (hep : ep = prF e5 em.toNat) (H : Heap) (locs : List Loc) (hP : va_P D vwCl ((rooW ad 0 cy fm fr) ++ ((airW ad 1 cy h su st sh fl cS cH (dnD h fl) (dnE h cS) (dnF h su st)) ++ ((airW ad 8 cy h su 0 0 0 (fun _ => 0) (fun _ => 0) (dnD h 0) (dnE h (fun _ => 0)) (dnF h su 0)) ++ ((grdW ad 15 cy sea noi) ++ ((rayW ad 18 cy (ur 0) (ur 1) (ur 2) (ur 3) (ur 4) (ur 5) (ur 6) (ur 7)) ++ ((sndW ad 19 cy 12 sn pl pw an hd fq) ++ ((sndW ad 25 cy 6 bn bp bw ban bhd bo) ++ ((conW ad 31 cy cm c1 c2 c3 c4 c5) ++ ((entW ad 37 cy em ep e1 e2 e3 e4 e5) ++ (outW od 0 cy o)))))))))) H) (hPm : va_P D vwCl (mdlW bd 0 cy th h su st sh fl 0 sn bn fm fr cm em lg le lf dl cS cH sea noi pl pw an hd bp bo bw c1 c2 c3 c4 c5 e1 e2 e3 e4 e5) H) (hD : va_D (fun q => z0 ≤ q) (((rooW ad 0 cy fm fr) ++ ((airW ad 1 cy h su st sh fl cS cH (dnD h fl) (dnE h cS) (dnF h su st)) ++ ((airW ad 8 cy h su 0 0 0 (fun _ => 0) (fun _ => 0) (dnD h 0) (dnE h (fun _ => 0)) (dnF h su 0)) ++ ((grdW ad 15 cy sea noi) ++ ((rayW ad 18 cy (ur 0) (ur 1) (ur 2) (ur 3) (ur 4) (ur 5) (ur 6) (ur 7)) ++ ((sndW ad 19 cy 12 sn pl pw an hd fq) ++ ((sndW ad 25 cy 6 bn bp bw ban bhd bo) ++ ((conW ad 31 cy cm c1 c2 c3 c4 c5) ++ ((entW ad 37 cy em ep e1 e2 e3 e4 e5) ++ (outW od 0 cy o)))))))))) ++ (mdlW bd 0 cy th h su st sh fl 0 sn bn fm fr cm em lg le lf dl cS cH sea noi pl pw an hd bp bo bw c1 c2 c3 c4 c5 e1 e2 e3 e4 e5))) (hS : va_S (fun q => z0 ≤ q) s.heap H locs) (ls : Array Slot) (hl : lv_has ls 7 [(0, .ref b), (1, .ref (ad 0)), (2, .ref (bd 0)), (3, .ref (od 0)), (4, .int (iI i))]) : W p l e room_1 s m args below meth c H locs (cells) (slots) Q (F0 m 1023 ls []) := by
  have hAz : ∀ q : Nat, (fun q => z0 ≤ q) q → z0 ≤ q := fun _ h => h
  refine lv_aload_n M.1 M.2.1 dL_law_1023 rfl (lv_at hl 1 rfl) ?_
  refine lv_aload_n M.1 M.2.1 dL_law_1024 rfl (lv_at hl 0 rfl) ?_
  refine lv_iload M.1 M.2.1 dL_law_1025 (lv_at hl 4 rfl) ?_
  refine zi_push M dL_law_1027 ?_
  refine zi_iadd M dL_law_1028 ?_
  refine zi_sld M hX hbl hbA hS hL (by omega) (by omega) dL_law_1029 ?_
  have hx_1 := xZ_rg xs (i + 1)
  refine lv_aload_n M.1 M.2.1 dL_law_1030 rfl (lv_at hl 0 rfl) ?_
  refine lv_iload M.1 M.2.1 dL_law_1031 (lv_at hl 4 rfl) ?_
  refine zi_push M dL_law_1033 ?_
  refine zi_iadd M dL_law_1034 ?_
  refine zi_sld M hX hbl hbA hS hL (by omega) (by omega) dL_law_1035 ?_
  have hx_2 := xZ_rg xs (i + 2)
  refine lv_aload_n M.1 M.2.1 dL_law_1036 rfl (lv_at hl 3 rfl) ?_
  refine z_cW2 (zx_runH (As := [.ref (ad 0), .int (iI (xZ xs (i + 1))), .int (iI (xZ xs (i + 2))), .ref (od 0)]) (rest := []) M (c_L_light l hst D cy z0 ad od fm fr h su st sh fl o cS cH (dnD h fl) (dnE h cS) (dnF h su st) (xZ xs (i + 1)) (xZ xs (i + 2)) (by omega) (by omega) (by omega)) hE hN hS hAz (z_cut hP (zD_l hD) hAz [0, 1, 2, 3, 4, 5, 6, 7, 43] rfl (by decide +kernel)) zk_cw_L_light zk_in_RL zk_st_L_light zk_ml_RL_163 rfl rfl zd_L_light ⟨by decide, by decide⟩ rfl hl.1 rfl (Nat.le_of_ble_eq_true rfl) dL_law_1037 ⟨by show _ ≤ 601024; omega, by show _ ≤ 7293034; omega⟩) hP hPm hD hS [0, 1, 2, 3, 4, 5, 6, 7, 43] rfl (fun _ => by simp only [List.map_append, airW_adr, outW_adr, rooW_adr]) (fun r_3 u_3 H locs hp_3 hP hPm hD hS => ?_)
  have hP : va_P D vwCl ((rooW ad 0 cy fm fr) ++ ((airW ad 1 cy h su st sh fl cS cH (dnD h fl) (dnE h cS) (dnF h su st)) ++ ((airW ad 8 cy h su 0 0 0 (fun _ => 0) (fun _ => 0) (dnD h 0) (dnE h (fun _ => 0)) (dnF h su 0)) ++ ((grdW ad 15 cy sea noi) ++ ((rayW ad 18 cy (ur 0) (ur 1) (ur 2) (ur 3) (ur 4) (ur 5) (ur 6) (ur 7)) ++ ((sndW ad 19 cy 12 sn pl pw an hd fq) ++ ((sndW ad 25 cy 6 bn bp bw ban bhd bo) ++ ((conW ad 31 cy cm c1 c2 c3 c4 c5) ++ ((entW ad 37 cy em ep e1 e2 e3 e4 e5) ++ (outW od 0 cy u_3.2.1)))))))))) H := hP
  have hD : va_D (fun q => z0 ≤ q) (((rooW ad 0 cy fm fr) ++ ((airW ad 1 cy h su st sh fl cS cH (dnD h fl) (dnE h cS) (dnF h su st)) ++ ((airW ad 8 cy h su 0 0 0 (fun _ => 0) (fun _ => 0) (dnD h 0) (dnE h (fun _ => 0)) (dnF h su 0)) ++ ((grdW ad 15 cy sea noi) ++ ((rayW ad 18 cy (ur 0) (ur 1) (ur 2) (ur 3) (ur 4) (ur 5) (ur 6) (ur 7)) ++ ((sndW ad 19 cy 12 sn pl pw an hd fq) ++ ((sndW ad 25 cy 6 bn bp bw ban bhd bo) ++ ((conW ad 31 cy cm c1 c2 c3 c4 c5) ++ ((entW ad 37 cy em ep e1 e2 e3 e4 e5) ++ (outW od 0 cy u_3.2.1)))))))))) ++ (mdlW bd 0 cy th h su st sh fl 0 sn bn fm fr cm em lg le lf dl cS cH sea noi pl pw an hd bp bo bw c1 c2 c3 c4 c5 e1 e2 e3 e4 e5)) := hD
  obtain ⟨u1_3, u2_3, u3_3⟩ := u_3
  dsimp only at hp_3
  rcases hp_3 with ⟨rfl, rfl, hN_3, hv_3⟩ | ⟨rfl, rfl, hN_3, hv_3⟩ | ⟨rfl, rfl, hN_3, hv_3⟩
  ·
    have hw_3 := hv_3.symm
    subst hw_3
    have hP : va_P D vwCl ((rooW ad 0 cy fm fr) ++ ((airW ad 1 cy h su st sh fl cS cH (dnD h fl) (dnE h cS) (dnF h su st)) ++ ((airW ad 8 cy h su 0 0 0 (fun _ => 0) (fun _ => 0) (dnD h 0) (dnE h (fun _ => 0)) (dnF h su 0)) ++ ((grdW ad 15 cy sea noi) ++ ((rayW ad 18 cy (ur 0) (ur 1) (ur 2) (ur 3) (ur 4) (ur 5) (ur 6) (ur 7)) ++ ((sndW ad 19 cy 12 sn pl pw an hd fq) ++ ((sndW ad 25 cy 6 bn bp bw ban bhd bo) ++ ((conW ad 31 cy cm c1 c2 c3 c4 c5) ++ ((entW ad 37 cy em ep e1 e2 e3 e4 e5) ++ (outW od 0 cy (lightZ (h + (xZ xs (i + 2))) (xZ xs (i + 1))))))))))))) H := hP
    have hD : va_D (fun q => z0 ≤ q) (((rooW ad 0 cy fm fr) ++ ((airW ad 1 cy h su st sh fl cS cH (dnD h fl) (dnE h cS) (dnF h su st)) ++ ((airW ad 8 cy h su 0 0 0 (fun _ => 0) (fun _ => 0) (dnD h 0) (dnE h (fun _ => 0)) (dnF h su 0)) ++ ((grdW ad 15 cy sea noi) ++ ((rayW ad 18 cy (ur 0) (ur 1) (ur 2) (ur 3) (ur 4) (ur 5) (ur 6) (ur 7)) ++ ((sndW ad 19 cy 12 sn pl pw an hd fq) ++ ((sndW ad 25 cy 6 bn bp bw ban bhd bo) ++ ((conW ad 31 cy cm c1 c2 c3 c4 c5) ++ ((entW ad 37 cy em ep e1 e2 e3 e4 e5) ++ (outW od 0 cy (lightZ (h + (xZ xs (i + 2))) (xZ xs (i + 1))))))))))))) ++ (mdlW bd 0 cy th h su st sh fl 0 sn bn fm fr cm em lg le lf dl cS cH sea noi pl pw an hd bp bo bw c1 c2 c3 c4 c5 e1 e2 e3 e4 e5)) := hD
    refine lv_istore (lv' := [(5, .int (iI 0)), (0, .ref (b)), (1, .ref (ad 0)), (2, .ref (bd 0)), (3, .ref (od 0)), (4, .int (iI i))]) M.1 M.2.1 dL_law_1040 hl (by decide) rfl (fun ls hl => ?_)
    refine lv_aload_n M.1 M.2.1 dL_law_1042 rfl (lv_at hl 3 rfl) ?_
    refine lv_aload_n M.1 M.2.1 dL_law_1043 rfl (lv_at hl 1 rfl) ?_
    refine lv_iload M.1 M.2.1 dL_law_1044 (lv_at hl 5 rfl) ?_
    refine zi_push M dL_law_1046 ?_
    refine zi_iadd M dL_law_1047 ?_
    refine zi_sld M hX hbl hbA hS hL (by omega) (by omega) dL_law_1048 ?_
    have hx_4 := xZ_rg xs (i + 1)
    refine lv_aload_n M.1 M.2.1 dL_law_1049 rfl (lv_at hl 1 rfl) ?_
    refine lv_iload M.1 M.2.1 dL_law_1050 (lv_at hl 5 rfl) ?_
    refine zi_push M dL_law_1052 ?_
    refine zi_iadd M dL_law_1053 ?_
    refine zi_sld M hX hbl hbA hS hL (by omega) (by omega) dL_law_1054 ?_
    have hx_5 := xZ_rg xs (i + 2)
    have hPx := hP
    have hP := hPm
    have hPm := hPx
    have hD := zD_c hD
    refine z_cW2 (z_runV (As := [.int (iI (xZ xs (i + 1))), .int (iI (xZ xs (i + 2)))]) (rest := []) M (c_X7_light l D cy z0 bd th h su st sh fl 0 sn bn fm fr cm em lg le lf dl cS cH sea noi pl pw an hd bp bo bw c1 c2 c3 c4 c5 e1 e2 e3 e4 e5 (xZ xs (i + 1)) (xZ xs (i + 2)) (by omega) (by omega) (by omega)) hE hS hAz (z_cut hP (zD_l hD) hAz [0, 1, 2, 3, 4, 5, 6, 7, 8, 9, 10, 11, 12, 13, 14, 15, 16, 17, 18, 19, 20, 21] rfl (by decide +kernel)) (zRc.of (ci := 7) (q0 := 0) hE hP rfl rfl) zk_cd_X7_light zk_in_RX7 zk_im_X7_light zk_se_X7_light zk_ml_RL_165 rfl rfl zd_X7_light ⟨by decide, by decide⟩ rfl hl.1 rfl (Nat.le_of_ble_eq_true rfl) dL_law_1055 ⟨by show _ ≤ 601024; omega, by show _ ≤ 7293034; omega⟩) hP hPm hD hS [0, 1, 2, 3, 4, 5, 6, 7, 8, 9, 10, 11, 12, 13, 14, 15, 16, 17, 18, 19, 20, 21] rfl (fun _ => by simp only [List.map_append, mdlW_adr]) (fun r_6 u_6 H locs hp_6 hP hPm hD hS => ?_)
    try simp only [mdD_0, mdE_0, mdF_0, mdD_1, mdE_1, mdF_1] at hp_6
    have hP : va_P D vwCl (mdlW bd 0 cy u_6 h su st sh fl 0 sn bn fm fr cm em lg le lf dl cS cH sea noi pl pw an hd bp bo bw c1 c2 c3 c4 c5 e1 e2 e3 e4 e5) H := hP
    have hD : va_D (fun q => z0 ≤ q) ((mdlW bd 0 cy u_6 h su st sh fl 0 sn bn fm fr cm em lg le lf dl cS cH sea noi pl pw an hd bp bo bw c1 c2 c3 c4 c5 e1 e2 e3 e4 e5) ++ ((rooW ad 0 cy fm fr) ++ ((airW ad 1 cy h su st sh fl cS cH (dnD h fl) (dnE h cS) (dnF h su st)) ++ ((airW ad 8 cy h su 0 0 0 (fun _ => 0) (fun _ => 0) (dnD h 0) (dnE h (fun _ => 0)) (dnF h su 0)) ++ ((grdW ad 15 cy sea noi) ++ ((rayW ad 18 cy (ur 0) (ur 1) (ur 2) (ur 3) (ur 4) (ur 5) (ur 6) (ur 7)) ++ ((sndW ad 19 cy 12 sn pl pw an hd fq) ++ ((sndW ad 25 cy 6 bn bp bw ban bhd bo) ++ ((conW ad 31 cy cm c1 c2 c3 c4 c5) ++ ((entW ad 37 cy em ep e1 e2 e3 e4 e5) ++ (outW od 0 cy (lightZ (h + (xZ xs (i + 2))) (xZ xs (i + 1)))))))))))))) := hD
    rcases hp_6 with ⟨rfl, hN_6, rfl⟩ | ⟨rfl, hN_6, rfl⟩ | ⟨rfl, hN_6, rfl⟩
    ·
      have hP : va_P D vwCl (mdlW bd 0 cy 0 h su st sh fl 0 sn bn fm fr cm em lg le lf dl cS cH sea noi pl pw an hd bp bo bw c1 c2 c3 c4 c5 e1 e2 e3 e4 e5) H := hP
      have hD : va_D (fun q => z0 ≤ q) ((mdlW bd 0 cy 0 h su st sh fl 0 sn bn fm fr cm em lg le lf dl cS cH sea noi pl pw an hd bp bo bw c1 c2 c3 c4 c5 e1 e2 e3 e4 e5) ++ ((rooW ad 0 cy fm fr) ++ ((airW ad 1 cy h su st sh fl cS cH (dnD h fl) (dnE h cS) (dnF h su st)) ++ ((airW ad 8 cy h su 0 0 0 (fun _ => 0) (fun _ => 0) (dnD h 0) (dnE h (fun _ => 0)) (dnF h su 0)) ++ ((grdW ad 15 cy sea noi) ++ ((rayW ad 18 cy (ur 0) (ur 1) (ur 2) (ur 3) (ur 4) (ur 5) (ur 6) (ur 7)) ++ ((sndW ad 19 cy 12 sn pl pw an hd fq) ++ ((sndW ad 25 cy 6 bn bp bw ban bhd bo) ++ ((conW ad 31 cy cm c1 c2 c3 c4 c5) ++ ((entW ad 37 cy em ep e1 e2 e3 e4 e5) ++ (outW od 0 cy (lightZ (h + (xZ xs (i + 2))) (xZ xs (i + 1)))))))))))))) := hD
      refine lv_istore (lv' := [(6, .int (iI (lightZ (h + (xZ xs (i + 2))) (xZ xs (i + 1))))), (5, .int (iI 0)), (0, .ref (b)), (1, .ref (ad 0)), (2, .ref (bd 0)), (3, .ref (od 0)), (4, .int (iI i))]) M.1 M.2.1 dL_law_1058 hl (by decide) rfl (fun ls hl => ?_)
      refine lv_aload_n M.1 M.2.1 dL_law_1060 rfl (lv_at hl 4 rfl) ?_
      refine z_cR (z_runV (As := []) (rest := []) M (c_X7_thrown l D cy z0 bd 0 h su st sh fl 0 sn bn fm fr cm em lg le lf dl cS cH sea noi pl pw an hd bp bo bw c1 c2 c3 c4 c5 e1 e2 e3 e4 e5) hE hS hAz hP (zRc.of (ci := 7) (q0 := 0) hE hP rfl rfl) zk_cd_X7_thrown zk_in_RX7 zk_im_X7_thrown zk_se_X7_thrown zk_ml_RL_116 rfl rfl zd_X7_thrown ⟨by decide, by decide⟩ rfl hl.1 rfl (Nat.le_of_ble_eq_true rfl) dL_law_1061 ⟨by show _ ≤ 601024; omega, by show _ ≤ 7293034; omega⟩) ?_
      refine lv_iload M.1 M.2.1 dL_law_1064 (lv_at hl 1 rfl) ?_
      refine zi_same (tgt := 1071) M dL_law_1066 (by decide) ?_
      refine lv_iload M.1 M.2.1 dL_law_1071 (lv_at hl 1 rfl) ?_
      refine zi_if_ne (tgt := 1088) M dL_law_1073 (by decide) ⟨by decide, by decide⟩ (fun q => absurd q (by decide)) (fun _ => ?_)
      refine lv_aload_n M.1 M.2.1 dL_law_1076 rfl (lv_at hl 5 rfl) ?_
      refine zi_push M dL_law_1077 ?_
      refine zi_lald M hE hPm 43 rfl dL_law_1078 ?_
      refine lv_iload M.1 M.2.1 dL_law_1079 (lv_at hl 0 rfl) ?_
      refine zi_i2l M dL_law_1081 ?_
      refine zi_lcmpE M dL_law_1082 ?_
      refine zi_if_eq (tgt := 1088) M dL_law_1083 (by decide) ⟨by decide, by decide⟩ (fun _ => ?_) (fun q => absurd q (by decide))
      refine zi_goto (tgt := 2286) M dL_law_1088 (by decide) ?_
      have hPx := hP
      have hP := hPm
      have hPm := hPx
      have hD := zD_c hD
      refine W.widen (k := cells + 6) (n := slots + 36) (by omega) (by omega) ?_
      exact hback h su st sh fl sn bn cm em ep fm fr 0 (lightZ (h + (xZ xs (i + 2))) (xZ xs (i + 1))) lg le lf dl cS cH sea noi pl pw an hd fq bp bw ban bhd bo c1 c2 c3 c4 c5 e1 e2 e3 e4 e5 ur h_h h_su h_st h_sh h_fl h_sn h_bn h_cm h_em g_cS g_cH g_sea g_noi g_pl g_pw g_an g_hd g_bp g_bw g_ban g_bhd g_c1 g_c2 g_c3 g_c4 g_c5 g_e1 g_e2 g_e3 g_e4 g_e5 hbo hep H locs hP hPm hD hS ls (lv_sub hl [2, 3, 4, 5, 6] rfl)
    ·
      have hP : va_P D vwCl (mdlW bd 0 cy 1 h su st sh fl 0 sn bn fm fr cm em lg le lf dl cS cH sea noi pl pw an hd bp bo bw c1 c2 c3 c4 c5 e1 e2 e3 e4 e5) H := hP
      have hD : va_D (fun q => z0 ≤ q) ((mdlW bd 0 cy 1 h su st sh fl 0 sn bn fm fr cm em lg le lf dl cS cH sea noi pl pw an hd bp bo bw c1 c2 c3 c4 c5 e1 e2 e3 e4 e5) ++ ((rooW ad 0 cy fm fr) ++ ((airW ad 1 cy h su st sh fl cS cH (dnD h fl) (dnE h cS) (dnF h su st)) ++ ((airW ad 8 cy h su 0 0 0 (fun _ => 0) (fun _ => 0) (dnD h 0) (dnE h (fun _ => 0)) (dnF h su 0)) ++ ((grdW ad 15 cy sea noi) ++ ((rayW ad 18 cy (ur 0) (ur 1) (ur 2) (ur 3) (ur 4) (ur 5) (ur 6) (ur 7)) ++ ((sndW ad 19 cy 12 sn pl pw an hd fq) ++ ((sndW ad 25 cy 6 bn bp bw ban bhd bo) ++ ((conW ad 31 cy cm c1 c2 c3 c4 c5) ++ ((entW ad 37 cy em ep e1 e2 e3 e4 e5) ++ (outW od 0 cy (lightZ (h + (xZ xs (i + 2))) (xZ xs (i + 1)))))))))))))) := hD
      exfalso
      omega
    ·
      have hP : va_P D vwCl (mdlW bd 0 cy 2 h su st sh fl 0 sn bn fm fr cm em lg le lf dl cS cH sea noi pl pw an hd bp bo bw c1 c2 c3 c4 c5 e1 e2 e3 e4 e5) H := hP
      have hD : va_D (fun q => z0 ≤ q) ((mdlW bd 0 cy 2 h su st sh fl 0 sn bn fm fr cm em lg le lf dl cS cH sea noi pl pw an hd bp bo bw c1 c2 c3 c4 c5 e1 e2 e3 e4 e5) ++ ((rooW ad 0 cy fm fr) ++ ((airW ad 1 cy h su st sh fl cS cH (dnD h fl) (dnE h cS) (dnF h su st)) ++ ((airW ad 8 cy h su 0 0 0 (fun _ => 0) (fun _ => 0) (dnD h 0) (dnE h (fun _ => 0)) (dnF h su 0)) ++ ((grdW ad 15 cy sea noi) ++ ((rayW ad 18 cy (ur 0) (ur 1) (ur 2) (ur 3) (ur 4) (ur 5) (ur 6) (ur 7)) ++ ((sndW ad 19 cy 12 sn pl pw an hd fq) ++ ((sndW ad 25 cy 6 bn bp bw ban bhd bo) ++ ((conW ad 31 cy cm c1 c2 c3 c4 c5) ++ ((entW ad 37 cy em ep e1 e2 e3 e4 e5) ++ (outW od 0 cy (lightZ (h + (xZ xs (i + 2))) (xZ xs (i + 1)))))))))))))) := hD
      exfalso
      omega
  ·
    have hw_3 := hv_3.symm
    subst hw_3
    have hP : va_P D vwCl ((rooW ad 0 cy fm fr) ++ ((airW ad 1 cy h su st sh fl cS cH (dnD h fl) (dnE h cS) (dnF h su st)) ++ ((airW ad 8 cy h su 0 0 0 (fun _ => 0) (fun _ => 0) (dnD h 0) (dnE h (fun _ => 0)) (dnF h su 0)) ++ ((grdW ad 15 cy sea noi) ++ ((rayW ad 18 cy (ur 0) (ur 1) (ur 2) (ur 3) (ur 4) (ur 5) (ur 6) (ur 7)) ++ ((sndW ad 19 cy 12 sn pl pw an hd fq) ++ ((sndW ad 25 cy 6 bn bp bw ban bhd bo) ++ ((conW ad 31 cy cm c1 c2 c3 c4 c5) ++ ((entW ad 37 cy em ep e1 e2 e3 e4 e5) ++ (outW od 0 cy o)))))))))) H := hP
    have hD : va_D (fun q => z0 ≤ q) (((rooW ad 0 cy fm fr) ++ ((airW ad 1 cy h su st sh fl cS cH (dnD h fl) (dnE h cS) (dnF h su st)) ++ ((airW ad 8 cy h su 0 0 0 (fun _ => 0) (fun _ => 0) (dnD h 0) (dnE h (fun _ => 0)) (dnF h su 0)) ++ ((grdW ad 15 cy sea noi) ++ ((rayW ad 18 cy (ur 0) (ur 1) (ur 2) (ur 3) (ur 4) (ur 5) (ur 6) (ur 7)) ++ ((sndW ad 19 cy 12 sn pl pw an hd fq) ++ ((sndW ad 25 cy 6 bn bp bw ban bhd bo) ++ ((conW ad 31 cy cm c1 c2 c3 c4 c5) ++ ((entW ad 37 cy em ep e1 e2 e3 e4 e5) ++ (outW od 0 cy o)))))))))) ++ (mdlW bd 0 cy th h su st sh fl 0 sn bn fm fr cm em lg le lf dl cS cH sea noi pl pw an hd bp bo bw c1 c2 c3 c4 c5 e1 e2 e3 e4 e5)) := hD
    refine lv_istore (lv' := [(5, .int (iI 1)), (0, .ref (b)), (1, .ref (ad 0)), (2, .ref (bd 0)), (3, .ref (od 0)), (4, .int (iI i))]) M.1 M.2.1 dL_law_1040 hl (by decide) rfl (fun ls hl => ?_)
    refine lv_aload_n M.1 M.2.1 dL_law_1042 rfl (lv_at hl 3 rfl) ?_
    refine lv_aload_n M.1 M.2.1 dL_law_1043 rfl (lv_at hl 1 rfl) ?_
    refine lv_iload M.1 M.2.1 dL_law_1044 (lv_at hl 5 rfl) ?_
    refine zi_push M dL_law_1046 ?_
    refine zi_iadd M dL_law_1047 ?_
    refine zi_sld M hX hbl hbA hS hL (by omega) (by omega) dL_law_1048 ?_
    have hx_7 := xZ_rg xs (i + 1)
    refine lv_aload_n M.1 M.2.1 dL_law_1049 rfl (lv_at hl 1 rfl) ?_
    refine lv_iload M.1 M.2.1 dL_law_1050 (lv_at hl 5 rfl) ?_
    refine zi_push M dL_law_1052 ?_
    refine zi_iadd M dL_law_1053 ?_
    refine zi_sld M hX hbl hbA hS hL (by omega) (by omega) dL_law_1054 ?_
    have hx_8 := xZ_rg xs (i + 2)
    have hPx := hP
    have hP := hPm
    have hPm := hPx
    have hD := zD_c hD
    refine z_cW2 (z_runV (As := [.int (iI (xZ xs (i + 1))), .int (iI (xZ xs (i + 2)))]) (rest := []) M (c_X7_light l D cy z0 bd th h su st sh fl 0 sn bn fm fr cm em lg le lf dl cS cH sea noi pl pw an hd bp bo bw c1 c2 c3 c4 c5 e1 e2 e3 e4 e5 (xZ xs (i + 1)) (xZ xs (i + 2)) (by omega) (by omega) (by omega)) hE hS hAz (z_cut hP (zD_l hD) hAz [0, 1, 2, 3, 4, 5, 6, 7, 8, 9, 10, 11, 12, 13, 14, 15, 16, 17, 18, 19, 20, 21] rfl (by decide +kernel)) (zRc.of (ci := 7) (q0 := 0) hE hP rfl rfl) zk_cd_X7_light zk_in_RX7 zk_im_X7_light zk_se_X7_light zk_ml_RL_165 rfl rfl zd_X7_light ⟨by decide, by decide⟩ rfl hl.1 rfl (Nat.le_of_ble_eq_true rfl) dL_law_1055 ⟨by show _ ≤ 601024; omega, by show _ ≤ 7293034; omega⟩) hP hPm hD hS [0, 1, 2, 3, 4, 5, 6, 7, 8, 9, 10, 11, 12, 13, 14, 15, 16, 17, 18, 19, 20, 21] rfl (fun _ => by simp only [List.map_append, mdlW_adr]) (fun r_9 u_9 H locs hp_9 hP hPm hD hS => ?_)
    try simp only [mdD_0, mdE_0, mdF_0, mdD_1, mdE_1, mdF_1] at hp_9
    have hP : va_P D vwCl (mdlW bd 0 cy u_9 h su st sh fl 0 sn bn fm fr cm em lg le lf dl cS cH sea noi pl pw an hd bp bo bw c1 c2 c3 c4 c5 e1 e2 e3 e4 e5) H := hP
    have hD : va_D (fun q => z0 ≤ q) ((mdlW bd 0 cy u_9 h su st sh fl 0 sn bn fm fr cm em lg le lf dl cS cH sea noi pl pw an hd bp bo bw c1 c2 c3 c4 c5 e1 e2 e3 e4 e5) ++ ((rooW ad 0 cy fm fr) ++ ((airW ad 1 cy h su st sh fl cS cH (dnD h fl) (dnE h cS) (dnF h su st)) ++ ((airW ad 8 cy h su 0 0 0 (fun _ => 0) (fun _ => 0) (dnD h 0) (dnE h (fun _ => 0)) (dnF h su 0)) ++ ((grdW ad 15 cy sea noi) ++ ((rayW ad 18 cy (ur 0) (ur 1) (ur 2) (ur 3) (ur 4) (ur 5) (ur 6) (ur 7)) ++ ((sndW ad 19 cy 12 sn pl pw an hd fq) ++ ((sndW ad 25 cy 6 bn bp bw ban bhd bo) ++ ((conW ad 31 cy cm c1 c2 c3 c4 c5) ++ ((entW ad 37 cy em ep e1 e2 e3 e4 e5) ++ (outW od 0 cy o))))))))))) := hD
    rcases hp_9 with ⟨rfl, hN_9, rfl⟩ | ⟨rfl, hN_9, rfl⟩ | ⟨rfl, hN_9, rfl⟩
    ·
      have hP : va_P D vwCl (mdlW bd 0 cy 0 h su st sh fl 0 sn bn fm fr cm em lg le lf dl cS cH sea noi pl pw an hd bp bo bw c1 c2 c3 c4 c5 e1 e2 e3 e4 e5) H := hP
      have hD : va_D (fun q => z0 ≤ q) ((mdlW bd 0 cy 0 h su st sh fl 0 sn bn fm fr cm em lg le lf dl cS cH sea noi pl pw an hd bp bo bw c1 c2 c3 c4 c5 e1 e2 e3 e4 e5) ++ ((rooW ad 0 cy fm fr) ++ ((airW ad 1 cy h su st sh fl cS cH (dnD h fl) (dnE h cS) (dnF h su st)) ++ ((airW ad 8 cy h su 0 0 0 (fun _ => 0) (fun _ => 0) (dnD h 0) (dnE h (fun _ => 0)) (dnF h su 0)) ++ ((grdW ad 15 cy sea noi) ++ ((rayW ad 18 cy (ur 0) (ur 1) (ur 2) (ur 3) (ur 4) (ur 5) (ur 6) (ur 7)) ++ ((sndW ad 19 cy 12 sn pl pw an hd fq) ++ ((sndW ad 25 cy 6 bn bp bw ban bhd bo) ++ ((conW ad 31 cy cm c1 c2 c3 c4 c5) ++ ((entW ad 37 cy em ep e1 e2 e3 e4 e5) ++ (outW od 0 cy o))))))))))) := hD
      exfalso
      omega
    ·
      have hP : va_P D vwCl (mdlW bd 0 cy 1 h su st sh fl 0 sn bn fm fr cm em lg le lf dl cS cH sea noi pl pw an hd bp bo bw c1 c2 c3 c4 c5 e1 e2 e3 e4 e5) H := hP
      have hD : va_D (fun q => z0 ≤ q) ((mdlW bd 0 cy 1 h su st sh fl 0 sn bn fm fr cm em lg le lf dl cS cH sea noi pl pw an hd bp bo bw c1 c2 c3 c4 c5 e1 e2 e3 e4 e5) ++ ((rooW ad 0 cy fm fr) ++ ((airW ad 1 cy h su st sh fl cS cH (dnD h fl) (dnE h cS) (dnF h su st)) ++ ((airW ad 8 cy h su 0 0 0 (fun _ => 0) (fun _ => 0) (dnD h 0) (dnE h (fun _ => 0)) (dnF h su 0)) ++ ((grdW ad 15 cy sea noi) ++ ((rayW ad 18 cy (ur 0) (ur 1) (ur 2) (ur 3) (ur 4) (ur 5) (ur 6) (ur 7)) ++ ((sndW ad 19 cy 12 sn pl pw an hd fq) ++ ((sndW ad 25 cy 6 bn bp bw ban bhd bo) ++ ((conW ad 31 cy cm c1 c2 c3 c4 c5) ++ ((entW ad 37 cy em ep e1 e2 e3 e4 e5) ++ (outW od 0 cy o))))))))))) := hD
      refine lv_istore (lv' := [(6, .int (iI 0)), (5, .int (iI 1)), (0, .ref (b)), (1, .ref (ad 0)), (2, .ref (bd 0)), (3, .ref (od 0)), (4, .int (iI i))]) M.1 M.2.1 dL_law_1058 hl (by decide) rfl (fun ls hl => ?_)
      refine lv_aload_n M.1 M.2.1 dL_law_1060 rfl (lv_at hl 4 rfl) ?_
      refine z_cR (z_runV (As := []) (rest := []) M (c_X7_thrown l D cy z0 bd 1 h su st sh fl 0 sn bn fm fr cm em lg le lf dl cS cH sea noi pl pw an hd bp bo bw c1 c2 c3 c4 c5 e1 e2 e3 e4 e5) hE hS hAz hP (zRc.of (ci := 7) (q0 := 0) hE hP rfl rfl) zk_cd_X7_thrown zk_in_RX7 zk_im_X7_thrown zk_se_X7_thrown zk_ml_RL_116 rfl rfl zd_X7_thrown ⟨by decide, by decide⟩ rfl hl.1 rfl (Nat.le_of_ble_eq_true rfl) dL_law_1061 ⟨by show _ ≤ 601024; omega, by show _ ≤ 7293034; omega⟩) ?_
      refine lv_iload M.1 M.2.1 dL_law_1064 (lv_at hl 1 rfl) ?_
      refine zi_same (tgt := 1071) M dL_law_1066 (by decide) ?_
      refine lv_iload M.1 M.2.1 dL_law_1071 (lv_at hl 1 rfl) ?_
      refine zi_if_ne (tgt := 1088) M dL_law_1073 (by decide) ⟨by decide, by decide⟩ (fun _ => ?_) (fun q => absurd q (by decide))
      refine zi_goto (tgt := 2286) M dL_law_1088 (by decide) ?_
      have hPx := hP
      have hP := hPm
      have hPm := hPx
      have hD := zD_c hD
      refine W.widen (k := cells + 6) (n := slots + 36) (by omega) (by omega) ?_
      exact hback h su st sh fl sn bn cm em ep fm fr 1 o lg le lf dl cS cH sea noi pl pw an hd fq bp bw ban bhd bo c1 c2 c3 c4 c5 e1 e2 e3 e4 e5 ur h_h h_su h_st h_sh h_fl h_sn h_bn h_cm h_em g_cS g_cH g_sea g_noi g_pl g_pw g_an g_hd g_bp g_bw g_ban g_bhd g_c1 g_c2 g_c3 g_c4 g_c5 g_e1 g_e2 g_e3 g_e4 g_e5 hbo hep H locs hP hPm hD hS ls (lv_sub hl [2, 3, 4, 5, 6] rfl)
    ·
      have hP : va_P D vwCl (mdlW bd 0 cy 2 h su st sh fl 0 sn bn fm fr cm em lg le lf dl cS cH sea noi pl pw an hd bp bo bw c1 c2 c3 c4 c5 e1 e2 e3 e4 e5) H := hP
      have hD : va_D (fun q => z0 ≤ q) ((mdlW bd 0 cy 2 h su st sh fl 0 sn bn fm fr cm em lg le lf dl cS cH sea noi pl pw an hd bp bo bw c1 c2 c3 c4 c5 e1 e2 e3 e4 e5) ++ ((rooW ad 0 cy fm fr) ++ ((airW ad 1 cy h su st sh fl cS cH (dnD h fl) (dnE h cS) (dnF h su st)) ++ ((airW ad 8 cy h su 0 0 0 (fun _ => 0) (fun _ => 0) (dnD h 0) (dnE h (fun _ => 0)) (dnF h su 0)) ++ ((grdW ad 15 cy sea noi) ++ ((rayW ad 18 cy (ur 0) (ur 1) (ur 2) (ur 3) (ur 4) (ur 5) (ur 6) (ur 7)) ++ ((sndW ad 19 cy 12 sn pl pw an hd fq) ++ ((sndW ad 25 cy 6 bn bp bw ban bhd bo) ++ ((conW ad 31 cy cm c1 c2 c3 c4 c5) ++ ((entW ad 37 cy em ep e1 e2 e3 e4 e5) ++ (outW od 0 cy o))))))))))) := hD
      exfalso
      omega
  ·
    have hw_3 := hv_3.symm
    subst hw_3
    have hP : va_P D vwCl ((rooW ad 0 cy fm fr) ++ ((airW ad 1 cy h su st sh fl cS cH (dnD h fl) (dnE h cS) (dnF h su st)) ++ ((airW ad 8 cy h su 0 0 0 (fun _ => 0) (fun _ => 0) (dnD h 0) (dnE h (fun _ => 0)) (dnF h su 0)) ++ ((grdW ad 15 cy sea noi) ++ ((rayW ad 18 cy (ur 0) (ur 1) (ur 2) (ur 3) (ur 4) (ur 5) (ur 6) (ur 7)) ++ ((sndW ad 19 cy 12 sn pl pw an hd fq) ++ ((sndW ad 25 cy 6 bn bp bw ban bhd bo) ++ ((conW ad 31 cy cm c1 c2 c3 c4 c5) ++ ((entW ad 37 cy em ep e1 e2 e3 e4 e5) ++ (outW od 0 cy o)))))))))) H := hP
    have hD : va_D (fun q => z0 ≤ q) (((rooW ad 0 cy fm fr) ++ ((airW ad 1 cy h su st sh fl cS cH (dnD h fl) (dnE h cS) (dnF h su st)) ++ ((airW ad 8 cy h su 0 0 0 (fun _ => 0) (fun _ => 0) (dnD h 0) (dnE h (fun _ => 0)) (dnF h su 0)) ++ ((grdW ad 15 cy sea noi) ++ ((rayW ad 18 cy (ur 0) (ur 1) (ur 2) (ur 3) (ur 4) (ur 5) (ur 6) (ur 7)) ++ ((sndW ad 19 cy 12 sn pl pw an hd fq) ++ ((sndW ad 25 cy 6 bn bp bw ban bhd bo) ++ ((conW ad 31 cy cm c1 c2 c3 c4 c5) ++ ((entW ad 37 cy em ep e1 e2 e3 e4 e5) ++ (outW od 0 cy o)))))))))) ++ (mdlW bd 0 cy th h su st sh fl 0 sn bn fm fr cm em lg le lf dl cS cH sea noi pl pw an hd bp bo bw c1 c2 c3 c4 c5 e1 e2 e3 e4 e5)) := hD
    refine lv_istore (lv' := [(5, .int (iI 2)), (0, .ref (b)), (1, .ref (ad 0)), (2, .ref (bd 0)), (3, .ref (od 0)), (4, .int (iI i))]) M.1 M.2.1 dL_law_1040 hl (by decide) rfl (fun ls hl => ?_)
    refine lv_aload_n M.1 M.2.1 dL_law_1042 rfl (lv_at hl 3 rfl) ?_
    refine lv_aload_n M.1 M.2.1 dL_law_1043 rfl (lv_at hl 1 rfl) ?_
    refine lv_iload M.1 M.2.1 dL_law_1044 (lv_at hl 5 rfl) ?_
    refine zi_push M dL_law_1046 ?_
    refine zi_iadd M dL_law_1047 ?_
    refine zi_sld M hX hbl hbA hS hL (by omega) (by omega) dL_law_1048 ?_
    have hx_10 := xZ_rg xs (i + 1)
    refine lv_aload_n M.1 M.2.1 dL_law_1049 rfl (lv_at hl 1 rfl) ?_
    refine lv_iload M.1 M.2.1 dL_law_1050 (lv_at hl 5 rfl) ?_
    refine zi_push M dL_law_1052 ?_
    refine zi_iadd M dL_law_1053 ?_
    refine zi_sld M hX hbl hbA hS hL (by omega) (by omega) dL_law_1054 ?_
    have hx_11 := xZ_rg xs (i + 2)
    have hPx := hP
    have hP := hPm
    have hPm := hPx
    have hD := zD_c hD
    refine z_cW2 (z_runV (As := [.int (iI (xZ xs (i + 1))), .int (iI (xZ xs (i + 2)))]) (rest := []) M (c_X7_light l D cy z0 bd th h su st sh fl 0 sn bn fm fr cm em lg le lf dl cS cH sea noi pl pw an hd bp bo bw c1 c2 c3 c4 c5 e1 e2 e3 e4 e5 (xZ xs (i + 1)) (xZ xs (i + 2)) (by omega) (by omega) (by omega)) hE hS hAz (z_cut hP (zD_l hD) hAz [0, 1, 2, 3, 4, 5, 6, 7, 8, 9, 10, 11, 12, 13, 14, 15, 16, 17, 18, 19, 20, 21] rfl (by decide +kernel)) (zRc.of (ci := 7) (q0 := 0) hE hP rfl rfl) zk_cd_X7_light zk_in_RX7 zk_im_X7_light zk_se_X7_light zk_ml_RL_165 rfl rfl zd_X7_light ⟨by decide, by decide⟩ rfl hl.1 rfl (Nat.le_of_ble_eq_true rfl) dL_law_1055 ⟨by show _ ≤ 601024; omega, by show _ ≤ 7293034; omega⟩) hP hPm hD hS [0, 1, 2, 3, 4, 5, 6, 7, 8, 9, 10, 11, 12, 13, 14, 15, 16, 17, 18, 19, 20, 21] rfl (fun _ => by simp only [List.map_append, mdlW_adr]) (fun r_12 u_12 H locs hp_12 hP hPm hD hS => ?_)
    try simp only [mdD_0, mdE_0, mdF_0, mdD_1, mdE_1, mdF_1] at hp_12
    have hP : va_P D vwCl (mdlW bd 0 cy u_12 h su st sh fl 0 sn bn fm fr cm em lg le lf dl cS cH sea noi pl pw an hd bp bo bw c1 c2 c3 c4 c5 e1 e2 e3 e4 e5) H := hP
    have hD : va_D (fun q => z0 ≤ q) ((mdlW bd 0 cy u_12 h su st sh fl 0 sn bn fm fr cm em lg le lf dl cS cH sea noi pl pw an hd bp bo bw c1 c2 c3 c4 c5 e1 e2 e3 e4 e5) ++ ((rooW ad 0 cy fm fr) ++ ((airW ad 1 cy h su st sh fl cS cH (dnD h fl) (dnE h cS) (dnF h su st)) ++ ((airW ad 8 cy h su 0 0 0 (fun _ => 0) (fun _ => 0) (dnD h 0) (dnE h (fun _ => 0)) (dnF h su 0)) ++ ((grdW ad 15 cy sea noi) ++ ((rayW ad 18 cy (ur 0) (ur 1) (ur 2) (ur 3) (ur 4) (ur 5) (ur 6) (ur 7)) ++ ((sndW ad 19 cy 12 sn pl pw an hd fq) ++ ((sndW ad 25 cy 6 bn bp bw ban bhd bo) ++ ((conW ad 31 cy cm c1 c2 c3 c4 c5) ++ ((entW ad 37 cy em ep e1 e2 e3 e4 e5) ++ (outW od 0 cy o))))))))))) := hD
    rcases hp_12 with ⟨rfl, hN_12, rfl⟩ | ⟨rfl, hN_12, rfl⟩ | ⟨rfl, hN_12, rfl⟩
    ·
      have hP : va_P D vwCl (mdlW bd 0 cy 0 h su st sh fl 0 sn bn fm fr cm em lg le lf dl cS cH sea noi pl pw an hd bp bo bw c1 c2 c3 c4 c5 e1 e2 e3 e4 e5) H := hP
      have hD : va_D (fun q => z0 ≤ q) ((mdlW bd 0 cy 0 h su st sh fl 0 sn bn fm fr cm em lg le lf dl cS cH sea noi pl pw an hd bp bo bw c1 c2 c3 c4 c5 e1 e2 e3 e4 e5) ++ ((rooW ad 0 cy fm fr) ++ ((airW ad 1 cy h su st sh fl cS cH (dnD h fl) (dnE h cS) (dnF h su st)) ++ ((airW ad 8 cy h su 0 0 0 (fun _ => 0) (fun _ => 0) (dnD h 0) (dnE h (fun _ => 0)) (dnF h su 0)) ++ ((grdW ad 15 cy sea noi) ++ ((rayW ad 18 cy (ur 0) (ur 1) (ur 2) (ur 3) (ur 4) (ur 5) (ur 6) (ur 7)) ++ ((sndW ad 19 cy 12 sn pl pw an hd fq) ++ ((sndW ad 25 cy 6 bn bp bw ban bhd bo) ++ ((conW ad 31 cy cm c1 c2 c3 c4 c5) ++ ((entW ad 37 cy em ep e1 e2 e3 e4 e5) ++ (outW od 0 cy o))))))))))) := hD
      exfalso
      omega
    ·
      have hP : va_P D vwCl (mdlW bd 0 cy 1 h su st sh fl 0 sn bn fm fr cm em lg le lf dl cS cH sea noi pl pw an hd bp bo bw c1 c2 c3 c4 c5 e1 e2 e3 e4 e5) H := hP
      have hD : va_D (fun q => z0 ≤ q) ((mdlW bd 0 cy 1 h su st sh fl 0 sn bn fm fr cm em lg le lf dl cS cH sea noi pl pw an hd bp bo bw c1 c2 c3 c4 c5 e1 e2 e3 e4 e5) ++ ((rooW ad 0 cy fm fr) ++ ((airW ad 1 cy h su st sh fl cS cH (dnD h fl) (dnE h cS) (dnF h su st)) ++ ((airW ad 8 cy h su 0 0 0 (fun _ => 0) (fun _ => 0) (dnD h 0) (dnE h (fun _ => 0)) (dnF h su 0)) ++ ((grdW ad 15 cy sea noi) ++ ((rayW ad 18 cy (ur 0) (ur 1) (ur 2) (ur 3) (ur 4) (ur 5) (ur 6) (ur 7)) ++ ((sndW ad 19 cy 12 sn pl pw an hd fq) ++ ((sndW ad 25 cy 6 bn bp bw ban bhd bo) ++ ((conW ad 31 cy cm c1 c2 c3 c4 c5) ++ ((entW ad 37 cy em ep e1 e2 e3 e4 e5) ++ (outW od 0 cy o))))))))))) := hD
      exfalso
      omega
    ·
      have hP : va_P D vwCl (mdlW bd 0 cy 2 h su st sh fl 0 sn bn fm fr cm em lg le lf dl cS cH sea noi pl pw an hd bp bo bw c1 c2 c3 c4 c5 e1 e2 e3 e4 e5) H := hP
      have hD : va_D (fun q => z0 ≤ q) ((mdlW bd 0 cy 2 h su st sh fl 0 sn bn fm fr cm em lg le lf dl cS cH sea noi pl pw an hd bp bo bw c1 c2 c3 c4 c5 e1 e2 e3 e4 e5) ++ ((rooW ad 0 cy fm fr) ++ ((airW ad 1 cy h su st sh fl cS cH (dnD h fl) (dnE h cS) (dnF h su st)) ++ ((airW ad 8 cy h su 0 0 0 (fun _ => 0) (fun _ => 0) (dnD h 0) (dnE h (fun _ => 0)) (dnF h su 0)) ++ ((grdW ad 15 cy sea noi) ++ ((rayW ad 18 cy (ur 0) (ur 1) (ur 2) (ur 3) (ur 4) (ur 5) (ur 6) (ur 7)) ++ ((sndW ad 19 cy 12 sn pl pw an hd fq) ++ ((sndW ad 25 cy 6 bn bp bw ban bhd bo) ++ ((conW ad 31 cy cm c1 c2 c3 c4 c5) ++ ((entW ad 37 cy em ep e1 e2 e3 e4 e5) ++ (outW od 0 cy o))))))))))) := hD
      refine lv_istore (lv' := [(6, .int (iI 0)), (5, .int (iI 2)), (0, .ref (b)), (1, .ref (ad 0)), (2, .ref (bd 0)), (3, .ref (od 0)), (4, .int (iI i))]) M.1 M.2.1 dL_law_1058 hl (by decide) rfl (fun ls hl => ?_)
      refine lv_aload_n M.1 M.2.1 dL_law_1060 rfl (lv_at hl 4 rfl) ?_
      refine z_cR (z_runV (As := []) (rest := []) M (c_X7_thrown l D cy z0 bd 2 h su st sh fl 0 sn bn fm fr cm em lg le lf dl cS cH sea noi pl pw an hd bp bo bw c1 c2 c3 c4 c5 e1 e2 e3 e4 e5) hE hS hAz hP (zRc.of (ci := 7) (q0 := 0) hE hP rfl rfl) zk_cd_X7_thrown zk_in_RX7 zk_im_X7_thrown zk_se_X7_thrown zk_ml_RL_116 rfl rfl zd_X7_thrown ⟨by decide, by decide⟩ rfl hl.1 rfl (Nat.le_of_ble_eq_true rfl) dL_law_1061 ⟨by show _ ≤ 601024; omega, by show _ ≤ 7293034; omega⟩) ?_
      refine lv_iload M.1 M.2.1 dL_law_1064 (lv_at hl 1 rfl) ?_
      refine zi_same (tgt := 1071) M dL_law_1066 (by decide) ?_
      refine lv_iload M.1 M.2.1 dL_law_1071 (lv_at hl 1 rfl) ?_
      refine zi_if_ne (tgt := 1088) M dL_law_1073 (by decide) ⟨by decide, by decide⟩ (fun _ => ?_) (fun q => absurd q (by decide))
      refine zi_goto (tgt := 2286) M dL_law_1088 (by decide) ?_
      have hPx := hP
      have hP := hPm
      have hPm := hPx
      have hD := zD_c hD
      refine W.widen (k := cells + 6) (n := slots + 36) (by omega) (by omega) ?_
      exact hback h su st sh fl sn bn cm em ep fm fr 2 o lg le lf dl cS cH sea noi pl pw an hd fq bp bw ban bhd bo c1 c2 c3 c4 c5 e1 e2 e3 e4 e5 ur h_h h_su h_st h_sh h_fl h_sn h_bn h_cm h_em g_cS g_cH g_sea g_noi g_pl g_pw g_an g_hd g_bp g_bw g_ban g_bhd g_c1 g_c2 g_c3 g_c4 g_c5 g_e1 g_e2 g_e3 g_e4 g_e5 hbo hep H locs hP hPm hD hS ls (lv_sub hl [2, 3, 4, 5, 6] rfl)

set_option maxRecDepth 100000 in
set_option maxHeartbeats 8000000 in
theorem lw_case14 (l : Launch) (D : va_G) (cy : Nat → ClassId) (z0 : Nat) (ad bd od : Nat → Nat) (p : Program) (e : Env) (s : State) (m : MethodId) (args : Array Value) (below : List Frame) (meth : Method) (c : Code) (b : Nat) (i : Int) (Q : State → Prop) (cells slots : Nat) (hst : l.stackTraces = false) (hL7 : ∀ q : Nat, q = 0 → True) (b_L : Nat) (xs : Nat → Int32) (M : zM p s m args c cL_law RL 7) (hE : zE D cy z0 s) (hN : zNc s) (hL : b_L ≤ 3584) (hX : va_X b b_L xs s s.heap) (hbl : b < s.heap.size) (hbA : ¬ z0 ≤ b) (hi : 0 ≤ i ∧ i + 7 ≤ b_L) (hc : cells + 6 ≤ 601024) (hs : slots + 36 ≤ 7293034) (hback : lwB l D cy z0 ad bd od p e s m args below meth c b i Q cells slots) (h su st sh fl sn bn cm em ep fm fr th o lg le lf dl : Int) (cS cH sea noi pl pw an hd fq bp bw ban bhd bo c1 c2 c3 c4 c5 e1 e2 e3 e4 e5 : Int → Int) (ur : Nat → Int) (h_h : 0 ≤ h ∧ h ≤ 5000) (h_su : 0 ≤ su ∧ su ≤ 100) (h_st : 0 ≤ st ∧ st ≤ 60) (h_sh : 0 ≤ sh ∧ sh ≤ 72) (h_fl : 0 ≤ fl ∧ fl ≤ 80) (h_sn : 0 ≤ sn ∧ sn ≤ 12) (h_bn : 0 ≤ bn ∧ bn ≤ 6) (h_cm : 0 ≤ cm ∧ cm ≤ 60) (h_em : 0 ≤ em ∧ em ≤ 80) (g_cS : zrg 48 0 100 cS) (g_cH : zrg 48 0 24 cH) (g_sea : zrg 48 0 1 sea) (g_noi : zrg 48 0 40 noi) (g_pl : zrg 12 0 47 pl) (g_pw : zrg 12 0 80 pw) (g_an : zrg 12 0 2 an) (g_hd : zrg 12 0 2 hd) (g_bp : zrg 6 0 47 bp) (g_bw : zrg 6 0 80 bw) (g_ban : zrg 6 0 2 ban) (g_bhd : zrg 6 0 2 bhd) (g_c1 : zrg 60 0 11 c1) (g_c2 : zrg 60 0 11 c2) (g_c3 : zrg 60 0 300 c3) (g_c4 : zrg 60 0 2 c4) (g_c5 : zrg 60 0 5000 c5) (g_e1 : zrg 80 0 11 e1) (g_e2 : zrg 80 0 11 e2) (g_e3 : zrg 80 0 300 e3) (g_e4 : zrg 80 0 5000 e4) (g_e5 : zrg 80 (-1) 79 e5) (hbo : ∀ n : Int, 0 ≤ n → n < bn → (10 ≤ bo n ∧ bo n ≤ 300) ∧ ban n = 2 ∧ bhd n = 2) (hep : ep = prF e5 em.toNat) (H : Heap) (locs : List Loc) (hP : va_P D vwCl ((rooW ad 0 cy fm fr) ++ ((airW ad 1 cy h su st sh fl cS cH (dnD h fl) (dnE h cS) (dnF h su st)) ++ ((airW ad 8 cy h su 0 0 0 (fun _ => 0) (fun _ => 0) (dnD h 0) (dnE h (fun _ => 0)) (dnF h su 0)) ++ ((grdW ad 15 cy sea noi) ++ ((rayW ad 18 cy (ur 0) (ur 1) (ur 2) (ur 3) (ur 4) (ur 5) (ur 6) (ur 7)) ++ ((sndW ad 19 cy 12 sn pl pw an hd fq) ++ ((sndW ad 25 cy 6 bn bp bw ban bhd bo) ++ ((conW ad 31 cy cm c1 c2 c3 c4 c5) ++ ((entW ad 37 cy em ep e1 e2 e3 e4 e5) ++ (outW od 0 cy o)))))))))) H) (hPm : va_P D vwCl (mdlW bd 0 cy th h su st sh fl 0 sn bn fm fr cm em lg le lf dl cS cH sea noi pl pw an hd bp bo bw c1 c2 c3 c4 c5 e1 e2 e3 e4 e5) H) (hD : va_D (fun q => z0 ≤ q) (((rooW ad 0 cy fm fr) ++ ((airW ad 1 cy h su st sh fl cS cH (dnD h fl) (dnE h cS) (dnF h su st)) ++ ((airW ad 8 cy h su 0 0 0 (fun _ => 0) (fun _ => 0) (dnD h 0) (dnE h (fun _ => 0)) (dnF h su 0)) ++ ((grdW ad 15 cy sea noi) ++ ((rayW ad 18 cy (ur 0) (ur 1) (ur 2) (ur 3) (ur 4) (ur 5) (ur 6) (ur 7)) ++ ((sndW ad 19 cy 12 sn pl pw an hd fq) ++ ((sndW ad 25 cy 6 bn bp bw ban bhd bo) ++ ((conW ad 31 cy cm c1 c2 c3 c4 c5) ++ ((entW ad 37 cy em ep e1 e2 e3 e4 e5) ++ (outW od 0 cy o)))))))))) ++ (mdlW bd 0 cy th h su st sh fl 0 sn bn fm fr cm em lg le lf dl cS cH sea noi pl pw an hd bp bo bw c1 c2 c3 c4 c5 e1 e2 e3 e4 e5))) (hS : va_S (fun q => z0 ≤ q) s.heap H locs) (ls : Array Slot) (hl : lv_has ls 7 [(0, .ref b), (1, .ref (ad 0)), (2, .ref (bd 0)), (3, .ref (od 0)), (4, .int (iI i))]) : W p l e room_1 s m args below meth c H locs (cells) (slots) Q (F0 m 1091 ls []) := by
  have hAz : ∀ q : Nat, (fun q => z0 ≤ q) q → z0 ≤ q := fun _ h => h
  refine lv_aload_n M.1 M.2.1 dL_law_1091 rfl (lv_at hl 1 rfl) ?_
  refine lv_aload_n M.1 M.2.1 dL_law_1092 rfl (lv_at hl 0 rfl) ?_
  refine lv_iload M.1 M.2.1 dL_law_1093 (lv_at hl 4 rfl) ?_
  refine zi_push M dL_law_1095 ?_
  refine zi_iadd M dL_law_1096 ?_
  refine zi_sld M hX hbl hbA hS hL (by omega) (by omega) dL_law_1097 ?_
  have hx_1 := xZ_rg xs (i + 1)
  refine lv_aload_n M.1 M.2.1 dL_law_1098 rfl (lv_at hl 0 rfl) ?_
  refine lv_iload M.1 M.2.1 dL_law_1099 (lv_at hl 4 rfl) ?_
  refine zi_push M dL_law_1101 ?_
  refine zi_iadd M dL_law_1102 ?_
  refine zi_sld M hX hbl hbA hS hL (by omega) (by omega) dL_law_1103 ?_
  have hx_2 := xZ_rg xs (i + 2)
  refine lv_aload_n M.1 M.2.1 dL_law_1104 rfl (lv_at hl 3 rfl) ?_
  refine z_cW2 (zx_runH (As := [.ref (ad 0), .int (iI (xZ xs (i + 1))), .int (iI (xZ xs (i + 2))), .ref (od 0)]) (rest := []) M (c_L_density l hst D cy z0 ad od fm fr h su st sh fl o cS cH (dnD h fl) (dnE h cS) (dnF h su st) (xZ xs (i + 1)) (xZ xs (i + 2)) (by omega) (by omega)) hE hN hS hAz (z_cut hP (zD_l hD) hAz [0, 1, 2, 3, 4, 5, 6, 7, 43] rfl (by decide +kernel)) zk_cw_L_density zk_in_RL zk_st_L_density zk_ml_RL_166 rfl rfl zd_L_density ⟨by decide, by decide⟩ rfl hl.1 rfl (Nat.le_of_ble_eq_true rfl) dL_law_1105 ⟨by show _ ≤ 601024; omega, by show _ ≤ 7293034; omega⟩) hP hPm hD hS [0, 1, 2, 3, 4, 5, 6, 7, 43] rfl (fun _ => by simp only [List.map_append, airW_adr, outW_adr, rooW_adr]) (fun r_3 u_3 H locs hp_3 hP hPm hD hS => ?_)
  have hP : va_P D vwCl ((rooW ad 0 cy fm fr) ++ ((airW ad 1 cy h su st sh fl cS cH (dnD h fl) (dnE h cS) (dnF h su st)) ++ ((airW ad 8 cy h su 0 0 0 (fun _ => 0) (fun _ => 0) (dnD h 0) (dnE h (fun _ => 0)) (dnF h su 0)) ++ ((grdW ad 15 cy sea noi) ++ ((rayW ad 18 cy (ur 0) (ur 1) (ur 2) (ur 3) (ur 4) (ur 5) (ur 6) (ur 7)) ++ ((sndW ad 19 cy 12 sn pl pw an hd fq) ++ ((sndW ad 25 cy 6 bn bp bw ban bhd bo) ++ ((conW ad 31 cy cm c1 c2 c3 c4 c5) ++ ((entW ad 37 cy em ep e1 e2 e3 e4 e5) ++ (outW od 0 cy u_3.2.1)))))))))) H := hP
  have hD : va_D (fun q => z0 ≤ q) (((rooW ad 0 cy fm fr) ++ ((airW ad 1 cy h su st sh fl cS cH (dnD h fl) (dnE h cS) (dnF h su st)) ++ ((airW ad 8 cy h su 0 0 0 (fun _ => 0) (fun _ => 0) (dnD h 0) (dnE h (fun _ => 0)) (dnF h su 0)) ++ ((grdW ad 15 cy sea noi) ++ ((rayW ad 18 cy (ur 0) (ur 1) (ur 2) (ur 3) (ur 4) (ur 5) (ur 6) (ur 7)) ++ ((sndW ad 19 cy 12 sn pl pw an hd fq) ++ ((sndW ad 25 cy 6 bn bp bw ban bhd bo) ++ ((conW ad 31 cy cm c1 c2 c3 c4 c5) ++ ((entW ad 37 cy em ep e1 e2 e3 e4 e5) ++ (outW od 0 cy u_3.2.1)))))))))) ++ (mdlW bd 0 cy th h su st sh fl 0 sn bn fm fr cm em lg le lf dl cS cH sea noi pl pw an hd bp bo bw c1 c2 c3 c4 c5 e1 e2 e3 e4 e5)) := hD
  obtain ⟨u1_3, u2_3, u3_3⟩ := u_3
  dsimp only at hp_3
  rcases hp_3 with ⟨rfl, rfl, hN_3, hv_3⟩ | ⟨rfl, rfl, hN_3, hv_3⟩ | ⟨rfl, rfl, hN_3, hv_3⟩
  ·
    have hw_3 := hv_3.symm
    subst hw_3
    have hP : va_P D vwCl ((rooW ad 0 cy fm fr) ++ ((airW ad 1 cy h su st sh fl cS cH (dnD h fl) (dnE h cS) (dnF h su st)) ++ ((airW ad 8 cy h su 0 0 0 (fun _ => 0) (fun _ => 0) (dnD h 0) (dnE h (fun _ => 0)) (dnF h su 0)) ++ ((grdW ad 15 cy sea noi) ++ ((rayW ad 18 cy (ur 0) (ur 1) (ur 2) (ur 3) (ur 4) (ur 5) (ur 6) (ur 7)) ++ ((sndW ad 19 cy 12 sn pl pw an hd fq) ++ ((sndW ad 25 cy 6 bn bp bw ban bhd bo) ++ ((conW ad 31 cy cm c1 c2 c3 c4 c5) ++ ((entW ad 37 cy em ep e1 e2 e3 e4 e5) ++ (outW od 0 cy (tell3 (dnD h fl) (dnE h cS) (dnF h su st) (xZ xs (i + 2)) (xZ xs (i + 1))))))))))))) H := hP
    have hD : va_D (fun q => z0 ≤ q) (((rooW ad 0 cy fm fr) ++ ((airW ad 1 cy h su st sh fl cS cH (dnD h fl) (dnE h cS) (dnF h su st)) ++ ((airW ad 8 cy h su 0 0 0 (fun _ => 0) (fun _ => 0) (dnD h 0) (dnE h (fun _ => 0)) (dnF h su 0)) ++ ((grdW ad 15 cy sea noi) ++ ((rayW ad 18 cy (ur 0) (ur 1) (ur 2) (ur 3) (ur 4) (ur 5) (ur 6) (ur 7)) ++ ((sndW ad 19 cy 12 sn pl pw an hd fq) ++ ((sndW ad 25 cy 6 bn bp bw ban bhd bo) ++ ((conW ad 31 cy cm c1 c2 c3 c4 c5) ++ ((entW ad 37 cy em ep e1 e2 e3 e4 e5) ++ (outW od 0 cy (tell3 (dnD h fl) (dnE h cS) (dnF h su st) (xZ xs (i + 2)) (xZ xs (i + 1))))))))))))) ++ (mdlW bd 0 cy th h su st sh fl 0 sn bn fm fr cm em lg le lf dl cS cH sea noi pl pw an hd bp bo bw c1 c2 c3 c4 c5 e1 e2 e3 e4 e5)) := hD
    refine lv_istore (lv' := [(5, .int (iI 0)), (0, .ref (b)), (1, .ref (ad 0)), (2, .ref (bd 0)), (3, .ref (od 0)), (4, .int (iI i))]) M.1 M.2.1 dL_law_1108 hl (by decide) rfl (fun ls hl => ?_)
    refine lv_aload_n M.1 M.2.1 dL_law_1110 rfl (lv_at hl 3 rfl) ?_
    refine lv_aload_n M.1 M.2.1 dL_law_1111 rfl (lv_at hl 1 rfl) ?_
    refine lv_iload M.1 M.2.1 dL_law_1112 (lv_at hl 5 rfl) ?_
    refine zi_push M dL_law_1114 ?_
    refine zi_iadd M dL_law_1115 ?_
    refine zi_sld M hX hbl hbA hS hL (by omega) (by omega) dL_law_1116 ?_
    have hx_4 := xZ_rg xs (i + 1)
    refine lv_aload_n M.1 M.2.1 dL_law_1117 rfl (lv_at hl 1 rfl) ?_
    refine lv_iload M.1 M.2.1 dL_law_1118 (lv_at hl 5 rfl) ?_
    refine zi_push M dL_law_1120 ?_
    refine zi_iadd M dL_law_1121 ?_
    refine zi_sld M hX hbl hbA hS hL (by omega) (by omega) dL_law_1122 ?_
    have hx_5 := xZ_rg xs (i + 2)
    have hPx := hP
    have hP := hPm
    have hPm := hPx
    have hD := zD_c hD
    refine z_cW2 (z_runV (As := [.int (iI (xZ xs (i + 1))), .int (iI (xZ xs (i + 2)))]) (rest := []) M (c_X7_density l D cy z0 bd th h su st sh fl 0 sn bn fm fr cm em lg le lf dl cS cH sea noi pl pw an hd bp bo bw c1 c2 c3 c4 c5 e1 e2 e3 e4 e5 (xZ xs (i + 1)) (xZ xs (i + 2)) (by omega) (by omega) (by omega) (by omega) (by omega) (by omega) g_cS (by omega)) hE hS hAz (z_cut hP (zD_l hD) hAz [0, 1, 2, 3, 4, 5, 6, 7, 8, 9, 10, 11, 12, 13, 14, 15, 16, 17, 18, 19, 20, 21] rfl (by decide +kernel)) (zRc.of (ci := 7) (q0 := 0) hE hP rfl rfl) zk_cd_X7_density zk_in_RX7 zk_im_X7_density zk_se_X7_density zk_ml_RL_168 rfl rfl zd_X7_density ⟨by decide, by decide⟩ rfl hl.1 rfl (Nat.le_of_ble_eq_true rfl) dL_law_1123 ⟨by show _ ≤ 601024; omega, by show _ ≤ 7293034; omega⟩) hP hPm hD hS [0, 1, 2, 3, 4, 5, 6, 7, 8, 9, 10, 11, 12, 13, 14, 15, 16, 17, 18, 19, 20, 21] rfl (fun _ => by simp only [List.map_append, mdlW_adr]) (fun r_6 u_6 H locs hp_6 hP hPm hD hS => ?_)
    try simp only [mdD_0, mdE_0, mdF_0, mdD_1, mdE_1, mdF_1] at hp_6
    have hP : va_P D vwCl (mdlW bd 0 cy u_6 h su st sh fl 0 sn bn fm fr cm em lg le lf dl cS cH sea noi pl pw an hd bp bo bw c1 c2 c3 c4 c5 e1 e2 e3 e4 e5) H := hP
    have hD : va_D (fun q => z0 ≤ q) ((mdlW bd 0 cy u_6 h su st sh fl 0 sn bn fm fr cm em lg le lf dl cS cH sea noi pl pw an hd bp bo bw c1 c2 c3 c4 c5 e1 e2 e3 e4 e5) ++ ((rooW ad 0 cy fm fr) ++ ((airW ad 1 cy h su st sh fl cS cH (dnD h fl) (dnE h cS) (dnF h su st)) ++ ((airW ad 8 cy h su 0 0 0 (fun _ => 0) (fun _ => 0) (dnD h 0) (dnE h (fun _ => 0)) (dnF h su 0)) ++ ((grdW ad 15 cy sea noi) ++ ((rayW ad 18 cy (ur 0) (ur 1) (ur 2) (ur 3) (ur 4) (ur 5) (ur 6) (ur 7)) ++ ((sndW ad 19 cy 12 sn pl pw an hd fq) ++ ((sndW ad 25 cy 6 bn bp bw ban bhd bo) ++ ((conW ad 31 cy cm c1 c2 c3 c4 c5) ++ ((entW ad 37 cy em ep e1 e2 e3 e4 e5) ++ (outW od 0 cy (tell3 (dnD h fl) (dnE h cS) (dnF h su st) (xZ xs (i + 2)) (xZ xs (i + 1)))))))))))))) := hD
    rcases hp_6 with ⟨rfl, hN_6, rfl⟩ | ⟨rfl, hN_6, rfl⟩ | ⟨rfl, hN_6, rfl⟩
    ·
      have hP : va_P D vwCl (mdlW bd 0 cy 0 h su st sh fl 0 sn bn fm fr cm em lg le lf dl cS cH sea noi pl pw an hd bp bo bw c1 c2 c3 c4 c5 e1 e2 e3 e4 e5) H := hP
      have hD : va_D (fun q => z0 ≤ q) ((mdlW bd 0 cy 0 h su st sh fl 0 sn bn fm fr cm em lg le lf dl cS cH sea noi pl pw an hd bp bo bw c1 c2 c3 c4 c5 e1 e2 e3 e4 e5) ++ ((rooW ad 0 cy fm fr) ++ ((airW ad 1 cy h su st sh fl cS cH (dnD h fl) (dnE h cS) (dnF h su st)) ++ ((airW ad 8 cy h su 0 0 0 (fun _ => 0) (fun _ => 0) (dnD h 0) (dnE h (fun _ => 0)) (dnF h su 0)) ++ ((grdW ad 15 cy sea noi) ++ ((rayW ad 18 cy (ur 0) (ur 1) (ur 2) (ur 3) (ur 4) (ur 5) (ur 6) (ur 7)) ++ ((sndW ad 19 cy 12 sn pl pw an hd fq) ++ ((sndW ad 25 cy 6 bn bp bw ban bhd bo) ++ ((conW ad 31 cy cm c1 c2 c3 c4 c5) ++ ((entW ad 37 cy em ep e1 e2 e3 e4 e5) ++ (outW od 0 cy (tell3 (dnD h fl) (dnE h cS) (dnF h su st) (xZ xs (i + 2)) (xZ xs (i + 1)))))))))))))) := hD
      refine lv_istore (lv' := [(6, .int (iI (tell3 (dnD h fl) (dnE h cS) (dnF h su st) (xZ xs (i + 2)) (xZ xs (i + 1))))), (5, .int (iI 0)), (0, .ref (b)), (1, .ref (ad 0)), (2, .ref (bd 0)), (3, .ref (od 0)), (4, .int (iI i))]) M.1 M.2.1 dL_law_1126 hl (by decide) rfl (fun ls hl => ?_)
      refine lv_aload_n M.1 M.2.1 dL_law_1128 rfl (lv_at hl 4 rfl) ?_
      refine z_cR (z_runV (As := []) (rest := []) M (c_X7_thrown l D cy z0 bd 0 h su st sh fl 0 sn bn fm fr cm em lg le lf dl cS cH sea noi pl pw an hd bp bo bw c1 c2 c3 c4 c5 e1 e2 e3 e4 e5) hE hS hAz hP (zRc.of (ci := 7) (q0 := 0) hE hP rfl rfl) zk_cd_X7_thrown zk_in_RX7 zk_im_X7_thrown zk_se_X7_thrown zk_ml_RL_116 rfl rfl zd_X7_thrown ⟨by decide, by decide⟩ rfl hl.1 rfl (Nat.le_of_ble_eq_true rfl) dL_law_1129 ⟨by show _ ≤ 601024; omega, by show _ ≤ 7293034; omega⟩) ?_
      refine lv_iload M.1 M.2.1 dL_law_1132 (lv_at hl 1 rfl) ?_
      refine zi_same (tgt := 1139) M dL_law_1134 (by decide) ?_
      refine lv_iload M.1 M.2.1 dL_law_1139 (lv_at hl 1 rfl) ?_
      refine zi_if_ne (tgt := 1156) M dL_law_1141 (by decide) ⟨by decide, by decide⟩ (fun q => absurd q (by decide)) (fun _ => ?_)
      refine lv_aload_n M.1 M.2.1 dL_law_1144 rfl (lv_at hl 5 rfl) ?_
      refine zi_push M dL_law_1145 ?_
      refine zi_lald M hE hPm 43 rfl dL_law_1146 ?_
      refine lv_iload M.1 M.2.1 dL_law_1147 (lv_at hl 0 rfl) ?_
      refine zi_i2l M dL_law_1149 ?_
      refine zi_lcmpE M dL_law_1150 ?_
      refine zi_if_eq (tgt := 1156) M dL_law_1151 (by decide) ⟨by decide, by decide⟩ (fun _ => ?_) (fun q => absurd q (by decide))
      refine zi_goto (tgt := 2286) M dL_law_1156 (by decide) ?_
      have hPx := hP
      have hP := hPm
      have hPm := hPx
      have hD := zD_c hD
      refine W.widen (k := cells + 6) (n := slots + 36) (by omega) (by omega) ?_
      exact hback h su st sh fl sn bn cm em ep fm fr 0 (tell3 (dnD h fl) (dnE h cS) (dnF h su st) (xZ xs (i + 2)) (xZ xs (i + 1))) lg le lf dl cS cH sea noi pl pw an hd fq bp bw ban bhd bo c1 c2 c3 c4 c5 e1 e2 e3 e4 e5 ur h_h h_su h_st h_sh h_fl h_sn h_bn h_cm h_em g_cS g_cH g_sea g_noi g_pl g_pw g_an g_hd g_bp g_bw g_ban g_bhd g_c1 g_c2 g_c3 g_c4 g_c5 g_e1 g_e2 g_e3 g_e4 g_e5 hbo hep H locs hP hPm hD hS ls (lv_sub hl [2, 3, 4, 5, 6] rfl)
    ·
      have hP : va_P D vwCl (mdlW bd 0 cy 1 h su st sh fl 0 sn bn fm fr cm em lg le lf dl cS cH sea noi pl pw an hd bp bo bw c1 c2 c3 c4 c5 e1 e2 e3 e4 e5) H := hP
      have hD : va_D (fun q => z0 ≤ q) ((mdlW bd 0 cy 1 h su st sh fl 0 sn bn fm fr cm em lg le lf dl cS cH sea noi pl pw an hd bp bo bw c1 c2 c3 c4 c5 e1 e2 e3 e4 e5) ++ ((rooW ad 0 cy fm fr) ++ ((airW ad 1 cy h su st sh fl cS cH (dnD h fl) (dnE h cS) (dnF h su st)) ++ ((airW ad 8 cy h su 0 0 0 (fun _ => 0) (fun _ => 0) (dnD h 0) (dnE h (fun _ => 0)) (dnF h su 0)) ++ ((grdW ad 15 cy sea noi) ++ ((rayW ad 18 cy (ur 0) (ur 1) (ur 2) (ur 3) (ur 4) (ur 5) (ur 6) (ur 7)) ++ ((sndW ad 19 cy 12 sn pl pw an hd fq) ++ ((sndW ad 25 cy 6 bn bp bw ban bhd bo) ++ ((conW ad 31 cy cm c1 c2 c3 c4 c5) ++ ((entW ad 37 cy em ep e1 e2 e3 e4 e5) ++ (outW od 0 cy (tell3 (dnD h fl) (dnE h cS) (dnF h su st) (xZ xs (i + 2)) (xZ xs (i + 1)))))))))))))) := hD
      exfalso
      omega
    ·
      have hP : va_P D vwCl (mdlW bd 0 cy 2 h su st sh fl 0 sn bn fm fr cm em lg le lf dl cS cH sea noi pl pw an hd bp bo bw c1 c2 c3 c4 c5 e1 e2 e3 e4 e5) H := hP
      have hD : va_D (fun q => z0 ≤ q) ((mdlW bd 0 cy 2 h su st sh fl 0 sn bn fm fr cm em lg le lf dl cS cH sea noi pl pw an hd bp bo bw c1 c2 c3 c4 c5 e1 e2 e3 e4 e5) ++ ((rooW ad 0 cy fm fr) ++ ((airW ad 1 cy h su st sh fl cS cH (dnD h fl) (dnE h cS) (dnF h su st)) ++ ((airW ad 8 cy h su 0 0 0 (fun _ => 0) (fun _ => 0) (dnD h 0) (dnE h (fun _ => 0)) (dnF h su 0)) ++ ((grdW ad 15 cy sea noi) ++ ((rayW ad 18 cy (ur 0) (ur 1) (ur 2) (ur 3) (ur 4) (ur 5) (ur 6) (ur 7)) ++ ((sndW ad 19 cy 12 sn pl pw an hd fq) ++ ((sndW ad 25 cy 6 bn bp bw ban bhd bo) ++ ((conW ad 31 cy cm c1 c2 c3 c4 c5) ++ ((entW ad 37 cy em ep e1 e2 e3 e4 e5) ++ (outW od 0 cy (tell3 (dnD h fl) (dnE h cS) (dnF h su st) (xZ xs (i + 2)) (xZ xs (i + 1)))))))))))))) := hD
      exfalso
      omega
  ·
    have hw_3 := hv_3.symm
    subst hw_3
    have hP : va_P D vwCl ((rooW ad 0 cy fm fr) ++ ((airW ad 1 cy h su st sh fl cS cH (dnD h fl) (dnE h cS) (dnF h su st)) ++ ((airW ad 8 cy h su 0 0 0 (fun _ => 0) (fun _ => 0) (dnD h 0) (dnE h (fun _ => 0)) (dnF h su 0)) ++ ((grdW ad 15 cy sea noi) ++ ((rayW ad 18 cy (ur 0) (ur 1) (ur 2) (ur 3) (ur 4) (ur 5) (ur 6) (ur 7)) ++ ((sndW ad 19 cy 12 sn pl pw an hd fq) ++ ((sndW ad 25 cy 6 bn bp bw ban bhd bo) ++ ((conW ad 31 cy cm c1 c2 c3 c4 c5) ++ ((entW ad 37 cy em ep e1 e2 e3 e4 e5) ++ (outW od 0 cy o)))))))))) H := hP
    have hD : va_D (fun q => z0 ≤ q) (((rooW ad 0 cy fm fr) ++ ((airW ad 1 cy h su st sh fl cS cH (dnD h fl) (dnE h cS) (dnF h su st)) ++ ((airW ad 8 cy h su 0 0 0 (fun _ => 0) (fun _ => 0) (dnD h 0) (dnE h (fun _ => 0)) (dnF h su 0)) ++ ((grdW ad 15 cy sea noi) ++ ((rayW ad 18 cy (ur 0) (ur 1) (ur 2) (ur 3) (ur 4) (ur 5) (ur 6) (ur 7)) ++ ((sndW ad 19 cy 12 sn pl pw an hd fq) ++ ((sndW ad 25 cy 6 bn bp bw ban bhd bo) ++ ((conW ad 31 cy cm c1 c2 c3 c4 c5) ++ ((entW ad 37 cy em ep e1 e2 e3 e4 e5) ++ (outW od 0 cy o)))))))))) ++ (mdlW bd 0 cy th h su st sh fl 0 sn bn fm fr cm em lg le lf dl cS cH sea noi pl pw an hd bp bo bw c1 c2 c3 c4 c5 e1 e2 e3 e4 e5)) := hD
    refine lv_istore (lv' := [(5, .int (iI 1)), (0, .ref (b)), (1, .ref (ad 0)), (2, .ref (bd 0)), (3, .ref (od 0)), (4, .int (iI i))]) M.1 M.2.1 dL_law_1108 hl (by decide) rfl (fun ls hl => ?_)
    refine lv_aload_n M.1 M.2.1 dL_law_1110 rfl (lv_at hl 3 rfl) ?_
    refine lv_aload_n M.1 M.2.1 dL_law_1111 rfl (lv_at hl 1 rfl) ?_
    refine lv_iload M.1 M.2.1 dL_law_1112 (lv_at hl 5 rfl) ?_
    refine zi_push M dL_law_1114 ?_
    refine zi_iadd M dL_law_1115 ?_
    refine zi_sld M hX hbl hbA hS hL (by omega) (by omega) dL_law_1116 ?_
    have hx_7 := xZ_rg xs (i + 1)
    refine lv_aload_n M.1 M.2.1 dL_law_1117 rfl (lv_at hl 1 rfl) ?_
    refine lv_iload M.1 M.2.1 dL_law_1118 (lv_at hl 5 rfl) ?_
    refine zi_push M dL_law_1120 ?_
    refine zi_iadd M dL_law_1121 ?_
    refine zi_sld M hX hbl hbA hS hL (by omega) (by omega) dL_law_1122 ?_
    have hx_8 := xZ_rg xs (i + 2)
    have hPx := hP
    have hP := hPm
    have hPm := hPx
    have hD := zD_c hD
    refine z_cW2 (z_runV (As := [.int (iI (xZ xs (i + 1))), .int (iI (xZ xs (i + 2)))]) (rest := []) M (c_X7_density l D cy z0 bd th h su st sh fl 0 sn bn fm fr cm em lg le lf dl cS cH sea noi pl pw an hd bp bo bw c1 c2 c3 c4 c5 e1 e2 e3 e4 e5 (xZ xs (i + 1)) (xZ xs (i + 2)) (by omega) (by omega) (by omega) (by omega) (by omega) (by omega) g_cS (by omega)) hE hS hAz (z_cut hP (zD_l hD) hAz [0, 1, 2, 3, 4, 5, 6, 7, 8, 9, 10, 11, 12, 13, 14, 15, 16, 17, 18, 19, 20, 21] rfl (by decide +kernel)) (zRc.of (ci := 7) (q0 := 0) hE hP rfl rfl) zk_cd_X7_density zk_in_RX7 zk_im_X7_density zk_se_X7_density zk_ml_RL_168 rfl rfl zd_X7_density ⟨by decide, by decide⟩ rfl hl.1 rfl (Nat.le_of_ble_eq_true rfl) dL_law_1123 ⟨by show _ ≤ 601024; omega, by show _ ≤ 7293034; omega⟩) hP hPm hD hS [0, 1, 2, 3, 4, 5, 6, 7, 8, 9, 10, 11, 12, 13, 14, 15, 16, 17, 18, 19, 20, 21] rfl (fun _ => by simp only [List.map_append, mdlW_adr]) (fun r_9 u_9 H locs hp_9 hP hPm hD hS => ?_)
    try simp only [mdD_0, mdE_0, mdF_0, mdD_1, mdE_1, mdF_1] at hp_9
    have hP : va_P D vwCl (mdlW bd 0 cy u_9 h su st sh fl 0 sn bn fm fr cm em lg le lf dl cS cH sea noi pl pw an hd bp bo bw c1 c2 c3 c4 c5 e1 e2 e3 e4 e5) H := hP
    have hD : va_D (fun q => z0 ≤ q) ((mdlW bd 0 cy u_9 h su st sh fl 0 sn bn fm fr cm em lg le lf dl cS cH sea noi pl pw an hd bp bo bw c1 c2 c3 c4 c5 e1 e2 e3 e4 e5) ++ ((rooW ad 0 cy fm fr) ++ ((airW ad 1 cy h su st sh fl cS cH (dnD h fl) (dnE h cS) (dnF h su st)) ++ ((airW ad 8 cy h su 0 0 0 (fun _ => 0) (fun _ => 0) (dnD h 0) (dnE h (fun _ => 0)) (dnF h su 0)) ++ ((grdW ad 15 cy sea noi) ++ ((rayW ad 18 cy (ur 0) (ur 1) (ur 2) (ur 3) (ur 4) (ur 5) (ur 6) (ur 7)) ++ ((sndW ad 19 cy 12 sn pl pw an hd fq) ++ ((sndW ad 25 cy 6 bn bp bw ban bhd bo) ++ ((conW ad 31 cy cm c1 c2 c3 c4 c5) ++ ((entW ad 37 cy em ep e1 e2 e3 e4 e5) ++ (outW od 0 cy o))))))))))) := hD
    rcases hp_9 with ⟨rfl, hN_9, rfl⟩ | ⟨rfl, hN_9, rfl⟩ | ⟨rfl, hN_9, rfl⟩
    ·
      have hP : va_P D vwCl (mdlW bd 0 cy 0 h su st sh fl 0 sn bn fm fr cm em lg le lf dl cS cH sea noi pl pw an hd bp bo bw c1 c2 c3 c4 c5 e1 e2 e3 e4 e5) H := hP
      have hD : va_D (fun q => z0 ≤ q) ((mdlW bd 0 cy 0 h su st sh fl 0 sn bn fm fr cm em lg le lf dl cS cH sea noi pl pw an hd bp bo bw c1 c2 c3 c4 c5 e1 e2 e3 e4 e5) ++ ((rooW ad 0 cy fm fr) ++ ((airW ad 1 cy h su st sh fl cS cH (dnD h fl) (dnE h cS) (dnF h su st)) ++ ((airW ad 8 cy h su 0 0 0 (fun _ => 0) (fun _ => 0) (dnD h 0) (dnE h (fun _ => 0)) (dnF h su 0)) ++ ((grdW ad 15 cy sea noi) ++ ((rayW ad 18 cy (ur 0) (ur 1) (ur 2) (ur 3) (ur 4) (ur 5) (ur 6) (ur 7)) ++ ((sndW ad 19 cy 12 sn pl pw an hd fq) ++ ((sndW ad 25 cy 6 bn bp bw ban bhd bo) ++ ((conW ad 31 cy cm c1 c2 c3 c4 c5) ++ ((entW ad 37 cy em ep e1 e2 e3 e4 e5) ++ (outW od 0 cy o))))))))))) := hD
      exfalso
      omega
    ·
      have hP : va_P D vwCl (mdlW bd 0 cy 1 h su st sh fl 0 sn bn fm fr cm em lg le lf dl cS cH sea noi pl pw an hd bp bo bw c1 c2 c3 c4 c5 e1 e2 e3 e4 e5) H := hP
      have hD : va_D (fun q => z0 ≤ q) ((mdlW bd 0 cy 1 h su st sh fl 0 sn bn fm fr cm em lg le lf dl cS cH sea noi pl pw an hd bp bo bw c1 c2 c3 c4 c5 e1 e2 e3 e4 e5) ++ ((rooW ad 0 cy fm fr) ++ ((airW ad 1 cy h su st sh fl cS cH (dnD h fl) (dnE h cS) (dnF h su st)) ++ ((airW ad 8 cy h su 0 0 0 (fun _ => 0) (fun _ => 0) (dnD h 0) (dnE h (fun _ => 0)) (dnF h su 0)) ++ ((grdW ad 15 cy sea noi) ++ ((rayW ad 18 cy (ur 0) (ur 1) (ur 2) (ur 3) (ur 4) (ur 5) (ur 6) (ur 7)) ++ ((sndW ad 19 cy 12 sn pl pw an hd fq) ++ ((sndW ad 25 cy 6 bn bp bw ban bhd bo) ++ ((conW ad 31 cy cm c1 c2 c3 c4 c5) ++ ((entW ad 37 cy em ep e1 e2 e3 e4 e5) ++ (outW od 0 cy o))))))))))) := hD
      refine lv_istore (lv' := [(6, .int (iI 0)), (5, .int (iI 1)), (0, .ref (b)), (1, .ref (ad 0)), (2, .ref (bd 0)), (3, .ref (od 0)), (4, .int (iI i))]) M.1 M.2.1 dL_law_1126 hl (by decide) rfl (fun ls hl => ?_)
      refine lv_aload_n M.1 M.2.1 dL_law_1128 rfl (lv_at hl 4 rfl) ?_
      refine z_cR (z_runV (As := []) (rest := []) M (c_X7_thrown l D cy z0 bd 1 h su st sh fl 0 sn bn fm fr cm em lg le lf dl cS cH sea noi pl pw an hd bp bo bw c1 c2 c3 c4 c5 e1 e2 e3 e4 e5) hE hS hAz hP (zRc.of (ci := 7) (q0 := 0) hE hP rfl rfl) zk_cd_X7_thrown zk_in_RX7 zk_im_X7_thrown zk_se_X7_thrown zk_ml_RL_116 rfl rfl zd_X7_thrown ⟨by decide, by decide⟩ rfl hl.1 rfl (Nat.le_of_ble_eq_true rfl) dL_law_1129 ⟨by show _ ≤ 601024; omega, by show _ ≤ 7293034; omega⟩) ?_
      refine lv_iload M.1 M.2.1 dL_law_1132 (lv_at hl 1 rfl) ?_
      refine zi_same (tgt := 1139) M dL_law_1134 (by decide) ?_
      refine lv_iload M.1 M.2.1 dL_law_1139 (lv_at hl 1 rfl) ?_
      refine zi_if_ne (tgt := 1156) M dL_law_1141 (by decide) ⟨by decide, by decide⟩ (fun _ => ?_) (fun q => absurd q (by decide))
      refine zi_goto (tgt := 2286) M dL_law_1156 (by decide) ?_
      have hPx := hP
      have hP := hPm
      have hPm := hPx
      have hD := zD_c hD
      refine W.widen (k := cells + 6) (n := slots + 36) (by omega) (by omega) ?_
      exact hback h su st sh fl sn bn cm em ep fm fr 1 o lg le lf dl cS cH sea noi pl pw an hd fq bp bw ban bhd bo c1 c2 c3 c4 c5 e1 e2 e3 e4 e5 ur h_h h_su h_st h_sh h_fl h_sn h_bn h_cm h_em g_cS g_cH g_sea g_noi g_pl g_pw g_an g_hd g_bp g_bw g_ban g_bhd g_c1 g_c2 g_c3 g_c4 g_c5 g_e1 g_e2 g_e3 g_e4 g_e5 hbo hep H locs hP hPm hD hS ls (lv_sub hl [2, 3, 4, 5, 6] rfl)
    ·
      have hP : va_P D vwCl (mdlW bd 0 cy 2 h su st sh fl 0 sn bn fm fr cm em lg le lf dl cS cH sea noi pl pw an hd bp bo bw c1 c2 c3 c4 c5 e1 e2 e3 e4 e5) H := hP
      have hD : va_D (fun q => z0 ≤ q) ((mdlW bd 0 cy 2 h su st sh fl 0 sn bn fm fr cm em lg le lf dl cS cH sea noi pl pw an hd bp bo bw c1 c2 c3 c4 c5 e1 e2 e3 e4 e5) ++ ((rooW ad 0 cy fm fr) ++ ((airW ad 1 cy h su st sh fl cS cH (dnD h fl) (dnE h cS) (dnF h su st)) ++ ((airW ad 8 cy h su 0 0 0 (fun _ => 0) (fun _ => 0) (dnD h 0) (dnE h (fun _ => 0)) (dnF h su 0)) ++ ((grdW ad 15 cy sea noi) ++ ((rayW ad 18 cy (ur 0) (ur 1) (ur 2) (ur 3) (ur 4) (ur 5) (ur 6) (ur 7)) ++ ((sndW ad 19 cy 12 sn pl pw an hd fq) ++ ((sndW ad 25 cy 6 bn bp bw ban bhd bo) ++ ((conW ad 31 cy cm c1 c2 c3 c4 c5) ++ ((entW ad 37 cy em ep e1 e2 e3 e4 e5) ++ (outW od 0 cy o))))))))))) := hD
      exfalso
      omega
  ·
    have hw_3 := hv_3.symm
    subst hw_3
    have hP : va_P D vwCl ((rooW ad 0 cy fm fr) ++ ((airW ad 1 cy h su st sh fl cS cH (dnD h fl) (dnE h cS) (dnF h su st)) ++ ((airW ad 8 cy h su 0 0 0 (fun _ => 0) (fun _ => 0) (dnD h 0) (dnE h (fun _ => 0)) (dnF h su 0)) ++ ((grdW ad 15 cy sea noi) ++ ((rayW ad 18 cy (ur 0) (ur 1) (ur 2) (ur 3) (ur 4) (ur 5) (ur 6) (ur 7)) ++ ((sndW ad 19 cy 12 sn pl pw an hd fq) ++ ((sndW ad 25 cy 6 bn bp bw ban bhd bo) ++ ((conW ad 31 cy cm c1 c2 c3 c4 c5) ++ ((entW ad 37 cy em ep e1 e2 e3 e4 e5) ++ (outW od 0 cy o)))))))))) H := hP
    have hD : va_D (fun q => z0 ≤ q) (((rooW ad 0 cy fm fr) ++ ((airW ad 1 cy h su st sh fl cS cH (dnD h fl) (dnE h cS) (dnF h su st)) ++ ((airW ad 8 cy h su 0 0 0 (fun _ => 0) (fun _ => 0) (dnD h 0) (dnE h (fun _ => 0)) (dnF h su 0)) ++ ((grdW ad 15 cy sea noi) ++ ((rayW ad 18 cy (ur 0) (ur 1) (ur 2) (ur 3) (ur 4) (ur 5) (ur 6) (ur 7)) ++ ((sndW ad 19 cy 12 sn pl pw an hd fq) ++ ((sndW ad 25 cy 6 bn bp bw ban bhd bo) ++ ((conW ad 31 cy cm c1 c2 c3 c4 c5) ++ ((entW ad 37 cy em ep e1 e2 e3 e4 e5) ++ (outW od 0 cy o)))))))))) ++ (mdlW bd 0 cy th h su st sh fl 0 sn bn fm fr cm em lg le lf dl cS cH sea noi pl pw an hd bp bo bw c1 c2 c3 c4 c5 e1 e2 e3 e4 e5)) := hD
    refine lv_istore (lv' := [(5, .int (iI 2)), (0, .ref (b)), (1, .ref (ad 0)), (2, .ref (bd 0)), (3, .ref (od 0)), (4, .int (iI i))]) M.1 M.2.1 dL_law_1108 hl (by decide) rfl (fun ls hl => ?_)
    refine lv_aload_n M.1 M.2.1 dL_law_1110 rfl (lv_at hl 3 rfl) ?_
    refine lv_aload_n M.1 M.2.1 dL_law_1111 rfl (lv_at hl 1 rfl) ?_
    refine lv_iload M.1 M.2.1 dL_law_1112 (lv_at hl 5 rfl) ?_
    refine zi_push M dL_law_1114 ?_
    refine zi_iadd M dL_law_1115 ?_
    refine zi_sld M hX hbl hbA hS hL (by omega) (by omega) dL_law_1116 ?_
    have hx_10 := xZ_rg xs (i + 1)
    refine lv_aload_n M.1 M.2.1 dL_law_1117 rfl (lv_at hl 1 rfl) ?_
    refine lv_iload M.1 M.2.1 dL_law_1118 (lv_at hl 5 rfl) ?_
    refine zi_push M dL_law_1120 ?_
    refine zi_iadd M dL_law_1121 ?_
    refine zi_sld M hX hbl hbA hS hL (by omega) (by omega) dL_law_1122 ?_
    have hx_11 := xZ_rg xs (i + 2)
    have hPx := hP
    have hP := hPm
    have hPm := hPx
    have hD := zD_c hD
    refine z_cW2 (z_runV (As := [.int (iI (xZ xs (i + 1))), .int (iI (xZ xs (i + 2)))]) (rest := []) M (c_X7_density l D cy z0 bd th h su st sh fl 0 sn bn fm fr cm em lg le lf dl cS cH sea noi pl pw an hd bp bo bw c1 c2 c3 c4 c5 e1 e2 e3 e4 e5 (xZ xs (i + 1)) (xZ xs (i + 2)) (by omega) (by omega) (by omega) (by omega) (by omega) (by omega) g_cS (by omega)) hE hS hAz (z_cut hP (zD_l hD) hAz [0, 1, 2, 3, 4, 5, 6, 7, 8, 9, 10, 11, 12, 13, 14, 15, 16, 17, 18, 19, 20, 21] rfl (by decide +kernel)) (zRc.of (ci := 7) (q0 := 0) hE hP rfl rfl) zk_cd_X7_density zk_in_RX7 zk_im_X7_density zk_se_X7_density zk_ml_RL_168 rfl rfl zd_X7_density ⟨by decide, by decide⟩ rfl hl.1 rfl (Nat.le_of_ble_eq_true rfl) dL_law_1123 ⟨by show _ ≤ 601024; omega, by show _ ≤ 7293034; omega⟩) hP hPm hD hS [0, 1, 2, 3, 4, 5, 6, 7, 8, 9, 10, 11, 12, 13, 14, 15, 16, 17, 18, 19, 20, 21] rfl (fun _ => by simp only [List.map_append, mdlW_adr]) (fun r_12 u_12 H locs hp_12 hP hPm hD hS => ?_)
    try simp only [mdD_0, mdE_0, mdF_0, mdD_1, mdE_1, mdF_1] at hp_12
    have hP : va_P D vwCl (mdlW bd 0 cy u_12 h su st sh fl 0 sn bn fm fr cm em lg le lf dl cS cH sea noi pl pw an hd bp bo bw c1 c2 c3 c4 c5 e1 e2 e3 e4 e5) H := hP
    have hD : va_D (fun q => z0 ≤ q) ((mdlW bd 0 cy u_12 h su st sh fl 0 sn bn fm fr cm em lg le lf dl cS cH sea noi pl pw an hd bp bo bw c1 c2 c3 c4 c5 e1 e2 e3 e4 e5) ++ ((rooW ad 0 cy fm fr) ++ ((airW ad 1 cy h su st sh fl cS cH (dnD h fl) (dnE h cS) (dnF h su st)) ++ ((airW ad 8 cy h su 0 0 0 (fun _ => 0) (fun _ => 0) (dnD h 0) (dnE h (fun _ => 0)) (dnF h su 0)) ++ ((grdW ad 15 cy sea noi) ++ ((rayW ad 18 cy (ur 0) (ur 1) (ur 2) (ur 3) (ur 4) (ur 5) (ur 6) (ur 7)) ++ ((sndW ad 19 cy 12 sn pl pw an hd fq) ++ ((sndW ad 25 cy 6 bn bp bw ban bhd bo) ++ ((conW ad 31 cy cm c1 c2 c3 c4 c5) ++ ((entW ad 37 cy em ep e1 e2 e3 e4 e5) ++ (outW od 0 cy o))))))))))) := hD
    rcases hp_12 with ⟨rfl, hN_12, rfl⟩ | ⟨rfl, hN_12, rfl⟩ | ⟨rfl, hN_12, rfl⟩
    ·
      have hP : va_P D vwCl (mdlW bd 0 cy 0 h su st sh fl 0 sn bn fm fr cm em lg le lf dl cS cH sea noi pl pw an hd bp bo bw c1 c2 c3 c4 c5 e1 e2 e3 e4 e5) H := hP
      have hD : va_D (fun q => z0 ≤ q) ((mdlW bd 0 cy 0 h su st sh fl 0 sn bn fm fr cm em lg le lf dl cS cH sea noi pl pw an hd bp bo bw c1 c2 c3 c4 c5 e1 e2 e3 e4 e5) ++ ((rooW ad 0 cy fm fr) ++ ((airW ad 1 cy h su st sh fl cS cH (dnD h fl) (dnE h cS) (dnF h su st)) ++ ((airW ad 8 cy h su 0 0 0 (fun _ => 0) (fun _ => 0) (dnD h 0) (dnE h (fun _ => 0)) (dnF h su 0)) ++ ((grdW ad 15 cy sea noi) ++ ((rayW ad 18 cy (ur 0) (ur 1) (ur 2) (ur 3) (ur 4) (ur 5) (ur 6) (ur 7)) ++ ((sndW ad 19 cy 12 sn pl pw an hd fq) ++ ((sndW ad 25 cy 6 bn bp bw ban bhd bo) ++ ((conW ad 31 cy cm c1 c2 c3 c4 c5) ++ ((entW ad 37 cy em ep e1 e2 e3 e4 e5) ++ (outW od 0 cy o))))))))))) := hD
      exfalso
      omega
    ·
      have hP : va_P D vwCl (mdlW bd 0 cy 1 h su st sh fl 0 sn bn fm fr cm em lg le lf dl cS cH sea noi pl pw an hd bp bo bw c1 c2 c3 c4 c5 e1 e2 e3 e4 e5) H := hP
      have hD : va_D (fun q => z0 ≤ q) ((mdlW bd 0 cy 1 h su st sh fl 0 sn bn fm fr cm em lg le lf dl cS cH sea noi pl pw an hd bp bo bw c1 c2 c3 c4 c5 e1 e2 e3 e4 e5) ++ ((rooW ad 0 cy fm fr) ++ ((airW ad 1 cy h su st sh fl cS cH (dnD h fl) (dnE h cS) (dnF h su st)) ++ ((airW ad 8 cy h su 0 0 0 (fun _ => 0) (fun _ => 0) (dnD h 0) (dnE h (fun _ => 0)) (dnF h su 0)) ++ ((grdW ad 15 cy sea noi) ++ ((rayW ad 18 cy (ur 0) (ur 1) (ur 2) (ur 3) (ur 4) (ur 5) (ur 6) (ur 7)) ++ ((sndW ad 19 cy 12 sn pl pw an hd fq) ++ ((sndW ad 25 cy 6 bn bp bw ban bhd bo) ++ ((conW ad 31 cy cm c1 c2 c3 c4 c5) ++ ((entW ad 37 cy em ep e1 e2 e3 e4 e5) ++ (outW od 0 cy o))))))))))) := hD
      exfalso
      omega
    ·
      have hP : va_P D vwCl (mdlW bd 0 cy 2 h su st sh fl 0 sn bn fm fr cm em lg le lf dl cS cH sea noi pl pw an hd bp bo bw c1 c2 c3 c4 c5 e1 e2 e3 e4 e5) H := hP
      have hD : va_D (fun q => z0 ≤ q) ((mdlW bd 0 cy 2 h su st sh fl 0 sn bn fm fr cm em lg le lf dl cS cH sea noi pl pw an hd bp bo bw c1 c2 c3 c4 c5 e1 e2 e3 e4 e5) ++ ((rooW ad 0 cy fm fr) ++ ((airW ad 1 cy h su st sh fl cS cH (dnD h fl) (dnE h cS) (dnF h su st)) ++ ((airW ad 8 cy h su 0 0 0 (fun _ => 0) (fun _ => 0) (dnD h 0) (dnE h (fun _ => 0)) (dnF h su 0)) ++ ((grdW ad 15 cy sea noi) ++ ((rayW ad 18 cy (ur 0) (ur 1) (ur 2) (ur 3) (ur 4) (ur 5) (ur 6) (ur 7)) ++ ((sndW ad 19 cy 12 sn pl pw an hd fq) ++ ((sndW ad 25 cy 6 bn bp bw ban bhd bo) ++ ((conW ad 31 cy cm c1 c2 c3 c4 c5) ++ ((entW ad 37 cy em ep e1 e2 e3 e4 e5) ++ (outW od 0 cy o))))))))))) := hD
      refine lv_istore (lv' := [(6, .int (iI 0)), (5, .int (iI 2)), (0, .ref (b)), (1, .ref (ad 0)), (2, .ref (bd 0)), (3, .ref (od 0)), (4, .int (iI i))]) M.1 M.2.1 dL_law_1126 hl (by decide) rfl (fun ls hl => ?_)
      refine lv_aload_n M.1 M.2.1 dL_law_1128 rfl (lv_at hl 4 rfl) ?_
      refine z_cR (z_runV (As := []) (rest := []) M (c_X7_thrown l D cy z0 bd 2 h su st sh fl 0 sn bn fm fr cm em lg le lf dl cS cH sea noi pl pw an hd bp bo bw c1 c2 c3 c4 c5 e1 e2 e3 e4 e5) hE hS hAz hP (zRc.of (ci := 7) (q0 := 0) hE hP rfl rfl) zk_cd_X7_thrown zk_in_RX7 zk_im_X7_thrown zk_se_X7_thrown zk_ml_RL_116 rfl rfl zd_X7_thrown ⟨by decide, by decide⟩ rfl hl.1 rfl (Nat.le_of_ble_eq_true rfl) dL_law_1129 ⟨by show _ ≤ 601024; omega, by show _ ≤ 7293034; omega⟩) ?_
      refine lv_iload M.1 M.2.1 dL_law_1132 (lv_at hl 1 rfl) ?_
      refine zi_same (tgt := 1139) M dL_law_1134 (by decide) ?_
      refine lv_iload M.1 M.2.1 dL_law_1139 (lv_at hl 1 rfl) ?_
      refine zi_if_ne (tgt := 1156) M dL_law_1141 (by decide) ⟨by decide, by decide⟩ (fun _ => ?_) (fun q => absurd q (by decide))
      refine zi_goto (tgt := 2286) M dL_law_1156 (by decide) ?_
      have hPx := hP
      have hP := hPm
      have hPm := hPx
      have hD := zD_c hD
      refine W.widen (k := cells + 6) (n := slots + 36) (by omega) (by omega) ?_
      exact hback h su st sh fl sn bn cm em ep fm fr 2 o lg le lf dl cS cH sea noi pl pw an hd fq bp bw ban bhd bo c1 c2 c3 c4 c5 e1 e2 e3 e4 e5 ur h_h h_su h_st h_sh h_fl h_sn h_bn h_cm h_em g_cS g_cH g_sea g_noi g_pl g_pw g_an g_hd g_bp g_bw g_ban g_bhd g_c1 g_c2 g_c3 g_c4 g_c5 g_e1 g_e2 g_e3 g_e4 g_e5 hbo hep H locs hP hPm hD hS ls (lv_sub hl [2, 3, 4, 5, 6] rfl)
