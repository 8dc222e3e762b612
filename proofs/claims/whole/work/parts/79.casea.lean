/-! the law, case by case -/
set_option maxRecDepth 100000 in
set_option maxHeartbeats 8000000 in
theorem lw_case0 (l : Launch) (D : va_G) (cy : Nat → ClassId) (z0 : Nat) (ad bd od : Nat → Nat) (p : Program) (e : Env) (s : State) (m : MethodId) (args : Array Value) (below : List Frame) (meth : Method) (c : Code) (b : Nat) (i : Int) (Q : State → Prop) (cells slots : Nat) (hst : l.stackTraces = false) (hL7 : ∀ q : Nat, q = 0 → True) (b_L : Nat) (xs : Nat → Int32) (M : zM p s m args c cL_law RL 7) (hE : zE D cy z0 s) (hN : zNc s) (hL : b_L ≤ 3584) (hX : va_X b b_L xs s s.heap) (hbl : b < s.heap.size) (hbA : ¬ z0 ≤ b) (hi : 0 ≤ i ∧ i + 7 ≤ b_L) (hc : cells + 6 ≤ 601024) (hs : slots + 36 ≤ 7293034) (hback : lwB l D cy z0 ad bd od p e s m args below meth c b i Q cells slots) (h su st sh fl sn bn cm em ep fm fr th o lg le lf dl : Int) (cS cH sea noi pl pw an hd fq bp bw ban bhd bo c1 c2 c3 c4 c5 e1 e2 e3 e4 e5 : Int → Int) (ur : Nat → Int) (h_h : 0 ≤ h ∧ h ≤ 5000) (h_su : 0 ≤ su ∧ su ≤ 100) (h_st : 0 ≤ st ∧ st ≤ 60) (h_sh : 0 ≤ sh ∧ sh ≤ 72) (h_fl : 0 ≤ fl ∧ fl ≤ 80) (h_sn : 0 ≤ sn ∧ sn ≤ 12) (h_bn : 0 ≤ bn ∧ bn ≤ 6) (h_cm : 0 ≤ cm ∧ cm ≤ 60) (h_em : 0 ≤ em ∧ em ≤ 80) (g_cS : zrg 48 0 100 cS) (g_cH : zrg 48 0 24 cH) (g_sea : zrg 48 0 1 sea) (g_noi : zrg 48 0 40 noi) (g_pl : zrg 12 0 47 pl) (g_pw : zrg 12 0 80 pw) (g_an : zrg 12 0 2 an) (g_hd : zrg 12 0 2 hd) (g_bp : zrg 6 0 47 bp) (g_bw : zrg 6 0 80 bw) (g_ban : zrg 6 0 2 ban) (g_bhd : zrg 6 0 2 bhd) (g_c1 : zrg 60 0 11 c1) (g_c2 : zrg 60 0 11 c2) (g_c3 : zrg 60 0 300 c3) (g_c4 : zrg 60 0 2 c4) (g_c5 : zrg 60 0 5000 c5) (g_e1 : zrg 80 0 11 e1) (g_e2 : zrg 80 0 11 e2) (g_e3 : zrg 80 0 300 e3) (g_e4 : zrg 80 0 5000 e4) (g_e5 : zrg 80 (-1) 79 e5) (hbo : ∀ n : Int, 0 ≤ n → n < bn → (10 ≤ bo n ∧ bo n ≤ 300) ∧ ban n = 2 ∧ bhd n = 2) (hep : ep = prF e5 em.toNat) (H : Heap) (locs : List Loc) (hP : va_P D vwCl ((rooW ad 0 cy fm fr) ++ ((airW ad 1 cy h su st sh fl cS cH (dnD h fl) (dnE h cS) (dnF h su st)) ++ ((airW ad 8 cy h su 0 0 0 (fun _ => 0) (fun _ => 0) (dnD h 0) (dnE h (fun _ => 0)) (dnF h su 0)) ++ ((grdW ad 15 cy sea noi) ++ ((rayW ad 18 cy (ur 0) (ur 1) (ur 2) (ur 3) (ur 4) (ur 5) (ur 6) (ur 7)) ++ ((sndW ad 19 cy 12 sn pl pw an hd fq) ++ ((sndW ad 25 cy 6 bn bp bw ban bhd bo) ++ ((conW ad 31 cy cm c1 c2 c3 c4 c5) ++ ((entW ad 37 cy em ep e1 e2 e3 e4 e5) ++ (outW od 0 cy o)))))))))) H) (hPm : va_P D vwCl (mdlW bd 0 cy th h su st sh fl 0 sn bn fm fr cm em lg le lf dl cS cH sea noi pl pw an hd bp bo bw c1 c2 c3 c4 c5 e1 e2 e3 e4 e5) H) (hD : va_D (fun q => z0 ≤ q) (((rooW ad 0 cy fm fr) ++ ((airW ad 1 cy h su st sh fl cS cH (dnD h fl) (dnE h cS) (dnF h su st)) ++ ((airW ad 8 cy h su 0 0 0 (fun _ => 0) (fun _ => 0) (dnD h 0) (dnE h (fun _ => 0)) (dnF h su 0)) ++ ((grdW ad 15 cy sea noi) ++ ((rayW ad 18 cy (ur 0) (ur 1) (ur 2) (ur 3) (ur 4) (ur 5) (ur 6) (ur 7)) ++ ((sndW ad 19 cy 12 sn pl pw an hd fq) ++ ((sndW ad 25 cy 6 bn bp bw ban bhd bo) ++ ((conW ad 31 cy cm c1 c2 c3 c4 c5) ++ ((entW ad 37 cy em ep e1 e2 e3 e4 e5) ++ (outW od 0 cy o)))))))))) ++ (mdlW bd 0 cy th h su st sh fl 0 sn bn fm fr cm em lg le lf dl cS cH sea noi pl pw an hd bp bo bw c1 c2 c3 c4 c5 e1 e2 e3 e4 e5))) (hS : va_S (fun q => z0 ≤ q) s.heap H locs) (ls : Array Slot) (hl : lv_has ls 7 [(0, .ref b), (1, .ref (ad 0)), (2, .ref (bd 0)), (3, .ref (od 0)), (4, .int (iI i))]) : W p l e room_1 s m args below meth c H locs (cells) (slots) Q (F0 m 168 ls []) := by
  have hAz : ∀ q : Nat, (fun q => z0 ≤ q) q → z0 ≤ q := fun _ h => h
  refine lv_aload_n M.1 M.2.1 dL_law_168 rfl (lv_at hl 1 rfl) ?_
  refine lv_aload_n M.1 M.2.1 dL_law_169 rfl (lv_at hl 0 rfl) ?_
  refine lv_iload M.1 M.2.1 dL_law_170 (lv_at hl 4 rfl) ?_
  refine zi_push M dL_law_172 ?_
  refine zi_iadd M dL_law_173 ?_
  refine zi_sld M hX hbl hbA hS hL (by omega) (by omega) dL_law_174 ?_
  have hx_1 := xZ_rg xs (i + 1)
  refine lv_aload_n M.1 M.2.1 dL_law_175 rfl (lv_at hl 3 rfl) ?_
  refine z_cW2 (zx_runH (As := [.ref (ad 0), .int (iI (xZ xs (i + 1))), .ref (od 0)]) (rest := []) M (c_L_sun l hst D cy z0 ad od fm fr h su st sh fl h su 0 0 0 o cS cH (dnD h fl) (dnE h cS) (dnF h su st) (fun _ => 0) (fun _ => 0) (dnD h 0) (dnE h (fun _ => 0)) (dnF h su 0) (xZ xs (i + 1)) (by omega) (by omega) (by omega) (by omega) (by omega) (by omega) g_cS g_cH (by omega) (by omega) (by omega) (by omega) (by omega) (zZ_rg 48 100 (by decide)) (zZ_rg 48 24 (by decide))) hE hN hS hAz (z_cut hP (zD_l hD) hAz [0, 1, 2, 3, 4, 5, 6, 7, 8, 9, 10, 11, 12, 13, 14, 43] rfl (by decide +kernel)) zk_cw_L_sun zk_in_RL zk_st_L_sun zk_ml_RL_110 rfl rfl zd_L_sun ⟨by decide, by decide⟩ rfl hl.1 rfl (Nat.le_of_ble_eq_true rfl) dL_law_176 ⟨by show _ ≤ 601024; omega, by show _ ≤ 7293034; omega⟩) hP hPm hD hS [0, 1, 2, 3, 4, 5, 6, 7, 8, 9, 10, 11, 12, 13, 14, 43] rfl (fun _ => by simp only [List.map_append, airW_adr, outW_adr, rooW_adr]) (fun r_2 u_2 H locs hp_2 hP hPm hD hS => ?_)
  have hP : va_P D vwCl ((rooW ad 0 cy fm fr) ++ ((airW ad 1 cy h (if u_2.1 = 0 then (xZ xs (i + 1)) else su) st sh fl cS cH (if u_2.1 = 0 then (dnD h fl) else (dnD h fl)) (if u_2.1 = 0 then (dnE h cS) else (dnE h cS)) (if u_2.1 = 0 then (dnF h (xZ xs (i + 1)) st) else (dnF h su st))) ++ ((airW ad 8 cy h (if u_2.1 = 0 then (xZ xs (i + 1)) else su) 0 0 0 (fun _ => 0) (fun _ => 0) (if u_2.1 = 0 then (dnD h 0) else (dnD h 0)) (if u_2.1 = 0 then (dnE h (fun _ => 0)) else (dnE h (fun _ => 0))) (if u_2.1 = 0 then (dnF h (xZ xs (i + 1)) 0) else (dnF h su 0))) ++ ((grdW ad 15 cy sea noi) ++ ((rayW ad 18 cy (ur 0) (ur 1) (ur 2) (ur 3) (ur 4) (ur 5) (ur 6) (ur 7)) ++ ((sndW ad 19 cy 12 sn pl pw an hd fq) ++ ((sndW ad 25 cy 6 bn bp bw ban bhd bo) ++ ((conW ad 31 cy cm c1 c2 c3 c4 c5) ++ ((entW ad 37 cy em ep e1 e2 e3 e4 e5) ++ (outW od 0 cy u_2.2.1)))))))))) H := hP
  have hD : va_D (fun q => z0 ≤ q) (((rooW ad 0 cy fm fr) ++ ((airW ad 1 cy h (if u_2.1 = 0 then (xZ xs (i + 1)) else su) st sh fl cS cH (if u_2.1 = 0 then (dnD h fl) else (dnD h fl)) (if u_2.1 = 0 then (dnE h cS) else (dnE h cS)) (if u_2.1 = 0 then (dnF h (xZ xs (i + 1)) st) else (dnF h su st))) ++ ((airW ad 8 cy h (if u_2.1 = 0 then (xZ xs (i + 1)) else su) 0 0 0 (fun _ => 0) (fun _ => 0) (if u_2.1 = 0 then (dnD h 0) else (dnD h 0)) (if u_2.1 = 0 then (dnE h (fun _ => 0)) else (dnE h (fun _ => 0))) (if u_2.1 = 0 then (dnF h (xZ xs (i + 1)) 0) else (dnF h su 0))) ++ ((grdW ad 15 cy sea noi) ++ ((rayW ad 18 cy (ur 0) (ur 1) (ur 2) (ur 3) (ur 4) (ur 5) (ur 6) (ur 7)) ++ ((sndW ad 19 cy 12 sn pl pw an hd fq) ++ ((sndW ad 25 cy 6 bn bp bw ban bhd bo) ++ ((conW ad 31 cy cm c1 c2 c3 c4 c5) ++ ((entW ad 37 cy em ep e1 e2 e3 e4 e5) ++ (outW od 0 cy u_2.2.1)))))))))) ++ (mdlW bd 0 cy th h su st sh fl 0 sn bn fm fr cm em lg le lf dl cS cH sea noi pl pw an hd bp bo bw c1 c2 c3 c4 c5 e1 e2 e3 e4 e5)) := hD
  obtain ⟨u1_2, u2_2, u3_2⟩ := u_2
  dsimp only at hp_2
  rcases hp_2 with ⟨rfl, rfl, hN_2, hv_2⟩ | ⟨rfl, rfl, hN_2, hv_2⟩
  ·
    have hw_2 := hv_2.symm
    subst hw_2
    have hP : va_P D vwCl ((rooW ad 0 cy fm fr) ++ ((airW ad 1 cy h (xZ xs (i + 1)) st sh fl cS cH (dnD h fl) (dnE h cS) (dnF h (xZ xs (i + 1)) st)) ++ ((airW ad 8 cy h (xZ xs (i + 1)) 0 0 0 (fun _ => 0) (fun _ => 0) (dnD h 0) (dnE h (fun _ => 0)) (dnF h (xZ xs (i + 1)) 0)) ++ ((grdW ad 15 cy sea noi) ++ ((rayW ad 18 cy (ur 0) (ur 1) (ur 2) (ur 3) (ur 4) (ur 5) (ur 6) (ur 7)) ++ ((sndW ad 19 cy 12 sn pl pw an hd fq) ++ ((sndW ad 25 cy 6 bn bp bw ban bhd bo) ++ ((conW ad 31 cy cm c1 c2 c3 c4 c5) ++ ((entW ad 37 cy em ep e1 e2 e3 e4 e5) ++ (outW od 0 cy su)))))))))) H := hP
    have hD : va_D (fun q => z0 ≤ q) (((rooW ad 0 cy fm fr) ++ ((airW ad 1 cy h (xZ xs (i + 1)) st sh fl cS cH (dnD h fl) (dnE h cS) (dnF h (xZ xs (i + 1)) st)) ++ ((airW ad 8 cy h (xZ xs (i + 1)) 0 0 0 (fun _ => 0) (fun _ => 0) (dnD h 0) (dnE h (fun _ => 0)) (dnF h (xZ xs (i + 1)) 0)) ++ ((grdW ad 15 cy sea noi) ++ ((rayW ad 18 cy (ur 0) (ur 1) (ur 2) (ur 3) (ur 4) (ur 5) (ur 6) (ur 7)) ++ ((sndW ad 19 cy 12 sn pl pw an hd fq) ++ ((sndW ad 25 cy 6 bn bp bw ban bhd bo) ++ ((conW ad 31 cy cm c1 c2 c3 c4 c5) ++ ((entW ad 37 cy em ep e1 e2 e3 e4 e5) ++ (outW od 0 cy su)))))))))) ++ (mdlW bd 0 cy th h su st sh fl 0 sn bn fm fr cm em lg le lf dl cS cH sea noi pl pw an hd bp bo bw c1 c2 c3 c4 c5 e1 e2 e3 e4 e5)) := hD
    refine lv_istore (lv' := [(5, .int (iI 0)), (0, .ref (b)), (1, .ref (ad 0)), (2, .ref (bd 0)), (3, .ref (od 0)), (4, .int (iI i))]) M.1 M.2.1 dL_law_179 hl (by decide) rfl (fun ls hl => ?_)
    refine lv_aload_n M.1 M.2.1 dL_law_181 rfl (lv_at hl 3 rfl) ?_
    refine lv_aload_n M.1 M.2.1 dL_law_182 rfl (lv_at hl 1 rfl) ?_
    refine lv_iload M.1 M.2.1 dL_law_183 (lv_at hl 5 rfl) ?_
    refine zi_push M dL_law_185 ?_
    refine zi_iadd M dL_law_186 ?_
    refine zi_sld M hX hbl hbA hS hL (by omega) (by omega) dL_law_187 ?_
    have hx_3 := xZ_rg xs (i + 1)
    have hPx := hP
    have hP := hPm
    have hPm := hPx
    have hD := zD_c hD
    refine z_cW2 (z_runV (As := [.int (iI (xZ xs (i + 1)))]) (rest := []) M (c_X7_sun l D cy z0 bd th h su st sh fl 0 sn bn fm fr cm em lg le lf dl cS cH sea noi pl pw an hd bp bo bw c1 c2 c3 c4 c5 e1 e2 e3 e4 e5 (xZ xs (i + 1)) (by omega)) hE hS hAz (z_cut hP (zD_l hD) hAz [0, 1, 2, 3, 4, 5, 6, 7, 8, 9, 10, 11, 12, 13, 14, 15, 16, 17, 18, 19, 20, 21] rfl (by decide +kernel)) (zRc.of (ci := 7) (q0 := 0) hE hP rfl rfl) zk_cd_X7_sun zk_in_RX7 zk_im_X7_sun zk_se_X7_sun zk_ml_RL_115 rfl rfl zd_X7_sun ⟨by decide, by decide⟩ rfl hl.1 rfl (Nat.le_of_ble_eq_true rfl) dL_law_188 ⟨by show _ ≤ 601024; omega, by show _ ≤ 7293034; omega⟩) hP hPm hD hS [0, 1, 2, 3, 4, 5, 6, 7, 8, 9, 10, 11, 12, 13, 14, 15, 16, 17, 18, 19, 20, 21] rfl (fun _ => by simp only [List.map_append, mdlW_adr]) (fun r_4 u_4 H locs hp_4 hP hPm hD hS => ?_)
    try simp only [mdD_0, mdE_0, mdF_0, mdD_1, mdE_1, mdF_1] at hp_4
    have hP : va_P D vwCl (mdlW bd 0 cy u_4 h (if u_4 = 0 then (xZ xs (i + 1)) else su) st sh fl 0 sn bn fm fr cm em lg le lf dl cS cH sea noi pl pw an hd bp bo bw c1 c2 c3 c4 c5 e1 e2 e3 e4 e5) H := hP
    have hD : va_D (fun q => z0 ≤ q) ((mdlW bd 0 cy u_4 h (if u_4 = 0 then (xZ xs (i + 1)) else su) st sh fl 0 sn bn fm fr cm em lg le lf dl cS cH sea noi pl pw an hd bp bo bw c1 c2 c3 c4 c5 e1 e2 e3 e4 e5) ++ ((rooW ad 0 cy fm fr) ++ ((airW ad 1 cy h (xZ xs (i + 1)) st sh fl cS cH (dnD h fl) (dnE h cS) (dnF h (xZ xs (i + 1)) st)) ++ ((airW ad 8 cy h (xZ xs (i + 1)) 0 0 0 (fun _ => 0) (fun _ => 0) (dnD h 0) (dnE h (fun _ => 0)) (dnF h (xZ xs (i + 1)) 0)) ++ ((grdW ad 15 cy sea noi) ++ ((rayW ad 18 cy (ur 0) (ur 1) (ur 2) (ur 3) (ur 4) (ur 5) (ur 6) (ur 7)) ++ ((sndW ad 19 cy 12 sn pl pw an hd fq) ++ ((sndW ad 25 cy 6 bn bp bw ban bhd bo) ++ ((conW ad 31 cy cm c1 c2 c3 c4 c5) ++ ((entW ad 37 cy em ep e1 e2 e3 e4 e5) ++ (outW od 0 cy su))))))))))) := hD
    rcases hp_4 with ⟨rfl, hN_4, rfl⟩ | ⟨rfl, hN_4, rfl⟩
    ·
      have hP : va_P D vwCl (mdlW bd 0 cy 0 h (xZ xs (i + 1)) st sh fl 0 sn bn fm fr cm em lg le lf dl cS cH sea noi pl pw an hd bp bo bw c1 c2 c3 c4 c5 e1 e2 e3 e4 e5) H := hP
      have hD : va_D (fun q => z0 ≤ q) ((mdlW bd 0 cy 0 h (xZ xs (i + 1)) st sh fl 0 sn bn fm fr cm em lg le lf dl cS cH sea noi pl pw an hd bp bo bw c1 c2 c3 c4 c5 e1 e2 e3 e4 e5) ++ ((rooW ad 0 cy fm fr) ++ ((airW ad 1 cy h (xZ xs (i + 1)) st sh fl cS cH (dnD h fl) (dnE h cS) (dnF h (xZ xs (i + 1)) st)) ++ ((airW ad 8 cy h (xZ xs (i + 1)) 0 0 0 (fun _ => 0) (fun _ => 0) (dnD h 0) (dnE h (fun _ => 0)) (dnF h (xZ xs (i + 1)) 0)) ++ ((grdW ad 15 cy sea noi) ++ ((rayW ad 18 cy (ur 0) (ur 1) (ur 2) (ur 3) (ur 4) (ur 5) (ur 6) (ur 7)) ++ ((sndW ad 19 cy 12 sn pl pw an hd fq) ++ ((sndW ad 25 cy 6 bn bp bw ban bhd bo) ++ ((conW ad 31 cy cm c1 c2 c3 c4 c5) ++ ((entW ad 37 cy em ep e1 e2 e3 e4 e5) ++ (outW od 0 cy su))))))))))) := hD
      refine lv_istore (lv' := [(6, .int (iI su)), (5, .int (iI 0)), (0, .ref (b)), (1, .ref (ad 0)), (2, .ref (bd 0)), (3, .ref (od 0)), (4, .int (iI i))]) M.1 M.2.1 dL_law_191 hl (by decide) rfl (fun ls hl => ?_)
      refine lv_aload_n M.1 M.2.1 dL_law_193 rfl (lv_at hl 4 rfl) ?_
      refine z_cR (z_runV (As := []) (rest := []) M (c_X7_thrown l D cy z0 bd 0 h (xZ xs (i + 1)) st sh fl 0 sn bn fm fr cm em lg le lf dl cS cH sea noi pl pw an hd bp bo bw c1 c2 c3 c4 c5 e1 e2 e3 e4 e5) hE hS hAz hP (zRc.of (ci := 7) (q0 := 0) hE hP rfl rfl) zk_cd_X7_thrown zk_in_RX7 zk_im_X7_thrown zk_se_X7_thrown zk_ml_RL_116 rfl rfl zd_X7_thrown ⟨by decide, by decide⟩ rfl hl.1 rfl (Nat.le_of_ble_eq_true rfl) dL_law_194 ⟨by show _ ≤ 601024; omega, by show _ ≤ 7293034; omega⟩) ?_
      refine lv_iload M.1 M.2.1 dL_law_197 (lv_at hl 1 rfl) ?_
      refine zi_same (tgt := 204) M dL_law_199 (by decide) ?_
      refine lv_iload M.1 M.2.1 dL_law_204 (lv_at hl 1 rfl) ?_
      refine zi_if_ne (tgt := 221) M dL_law_206 (by decide) ⟨by decide, by decide⟩ (fun q => absurd q (by decide)) (fun _ => ?_)
      refine lv_aload_n M.1 M.2.1 dL_law_209 rfl (lv_at hl 5 rfl) ?_
      refine zi_push M dL_law_210 ?_
      refine zi_lald M hE hPm 43 rfl dL_law_211 ?_
      refine lv_iload M.1 M.2.1 dL_law_212 (lv_at hl 0 rfl) ?_
      refine zi_i2l M dL_law_214 ?_
      refine zi_lcmpE M dL_law_215 ?_
      refine zi_if_eq (tgt := 221) M dL_law_216 (by decide) ⟨by decide, by decide⟩ (fun _ => ?_) (fun q => absurd q (by decide))
      refine zi_goto (tgt := 2286) M dL_law_221 (by decide) ?_
      have hPx := hP
      have hP := hPm
      have hPm := hPx
      have hD := zD_c hD
      refine W.widen (k := cells + 6) (n := slots + 36) (by omega) (by omega) ?_
      exact hback h (xZ xs (i + 1)) st sh fl sn bn cm em ep fm fr 0 su lg le lf dl cS cH sea noi pl pw an hd fq bp bw ban bhd bo c1 c2 c3 c4 c5 e1 e2 e3 e4 e5 ur h_h (by omega) h_st h_sh h_fl h_sn h_bn h_cm h_em g_cS g_cH g_sea g_noi g_pl g_pw g_an g_hd g_bp g_bw g_ban g_bhd g_c1 g_c2 g_c3 g_c4 g_c5 g_e1 g_e2 g_e3 g_e4 g_e5 hbo hep H locs hP hPm hD hS ls (lv_sub hl [2, 3, 4, 5, 6] rfl)
    ·
      have hP : va_P D vwCl (mdlW bd 0 cy 1 h su st sh fl 0 sn bn fm fr cm em lg le lf dl cS cH sea noi pl pw an hd bp bo bw c1 c2 c3 c4 c5 e1 e2 e3 e4 e5) H := hP
      have hD : va_D (fun q => z0 ≤ q) ((mdlW bd 0 cy 1 h su st sh fl 0 sn bn fm fr cm em lg le lf dl cS cH sea noi pl pw an hd bp bo bw c1 c2 c3 c4 c5 e1 e2 e3 e4 e5) ++ ((rooW ad 0 cy fm fr) ++ ((airW ad 1 cy h (xZ xs (i + 1)) st sh fl cS cH (dnD h fl) (dnE h cS) (dnF h (xZ xs (i + 1)) st)) ++ ((airW ad 8 cy h (xZ xs (i + 1)) 0 0 0 (fun _ => 0) (fun _ => 0) (dnD h 0) (dnE h (fun _ => 0)) (dnF h (xZ xs (i + 1)) 0)) ++ ((grdW ad 15 cy sea noi) ++ ((rayW ad 18 cy (ur 0) (ur 1) (ur 2) (ur 3) (ur 4) (ur 5) (ur 6) (ur 7)) ++ ((sndW ad 19 cy 12 sn pl pw an hd fq) ++ ((sndW ad 25 cy 6 bn bp bw ban bhd bo) ++ ((conW ad 31 cy cm c1 c2 c3 c4 c5) ++ ((entW ad 37 cy em ep e1 e2 e3 e4 e5) ++ (outW od 0 cy su))))))))))) := hD
      exfalso
      omega
  ·
    have hw_2 := hv_2.symm
    subst hw_2
    have hP : va_P D vwCl ((rooW ad 0 cy fm fr) ++ ((airW ad 1 cy h su st sh fl cS cH (dnD h fl) (dnE h cS) (dnF h su st)) ++ ((airW ad 8 cy h su 0 0 0 (fun _ => 0) (fun _ => 0) (dnD h 0) (dnE h (fun _ => 0)) (dnF h su 0)) ++ ((grdW ad 15 cy sea noi) ++ ((rayW ad 18 cy (ur 0) (ur 1) (ur 2) (ur 3) (ur 4) (ur 5) (ur 6) (ur 7)) ++ ((sndW ad 19 cy 12 sn pl pw an hd fq) ++ ((sndW ad 25 cy 6 bn bp bw ban bhd bo) ++ ((conW ad 31 cy cm c1 c2 c3 c4 c5) ++ ((entW ad 37 cy em ep e1 e2 e3 e4 e5) ++ (outW od 0 cy o)))))))))) H := hP
    have hD : va_D (fun q => z0 ≤ q) (((rooW ad 0 cy fm fr) ++ ((airW ad 1 cy h su st sh fl cS cH (dnD h fl) (dnE h cS) (dnF h su st)) ++ ((airW ad 8 cy h su 0 0 0 (fun _ => 0) (fun _ => 0) (dnD h 0) (dnE h (fun _ => 0)) (dnF h su 0)) ++ ((grdW ad 15 cy sea noi) ++ ((rayW ad 18 cy (ur 0) (ur 1) (ur 2) (ur 3) (ur 4) (ur 5) (ur 6) (ur 7)) ++ ((sndW ad 19 cy 12 sn pl pw an hd fq) ++ ((sndW ad 25 cy 6 bn bp bw ban bhd bo) ++ ((conW ad 31 cy cm c1 c2 c3 c4 c5) ++ ((entW ad 37 cy em ep e1 e2 e3 e4 e5) ++ (outW od 0 cy o)))))))))) ++ (mdlW bd 0 cy th h su st sh fl 0 sn bn fm fr cm em lg le lf dl cS cH sea noi pl pw an hd bp bo bw c1 c2 c3 c4 c5 e1 e2 e3 e4 e5)) := hD
    refine lv_istore (lv' := [(5, .int (iI 1)), (0, .ref (b)), (1, .ref (ad 0)), (2, .ref (bd 0)), (3, .ref (od 0)), (4, .int (iI i))]) M.1 M.2.1 dL_law_179 hl (by decide) rfl (fun ls hl => ?_)
    refine lv_aload_n M.1 M.2.1 dL_law_181 rfl (lv_at hl 3 rfl) ?_
    refine lv_aload_n M.1 M.2.1 dL_law_182 rfl (lv_at hl 1 rfl) ?_
    refine lv_iload M.1 M.2.1 dL_law_183 (lv_at hl 5 rfl) ?_
    refine zi_push M dL_law_185 ?_
    refine zi_iadd M dL_law_186 ?_
    refine zi_sld M hX hbl hbA hS hL (by omega) (by omega) dL_law_187 ?_
    have hx_5 := xZ_rg xs (i + 1)
    have hPx := hP
    have hP := hPm
    have hPm := hPx
    have hD := zD_c hD
    refine z_cW2 (z_runV (As := [.int (iI (xZ xs (i + 1)))]) (rest := []) M (c_X7_sun l D cy z0 bd th h su st sh fl 0 sn bn fm fr cm em lg le lf dl cS cH sea noi pl pw an hd bp bo bw c1 c2 c3 c4 c5 e1 e2 e3 e4 e5 (xZ xs (i + 1)) (by omega)) hE hS hAz (z_cut hP (zD_l hD) hAz [0, 1, 2, 3, 4, 5, 6, 7, 8, 9, 10, 11, 12, 13, 14, 15, 16, 17, 18, 19, 20, 21] rfl (by decide +kernel)) (zRc.of (ci := 7) (q0 := 0) hE hP rfl rfl) zk_cd_X7_sun zk_in_RX7 zk_im_X7_sun zk_se_X7_sun zk_ml_RL_115 rfl rfl zd_X7_sun ⟨by decide, by decide⟩ rfl hl.1 rfl (Nat.le_of_ble_eq_true rfl) dL_law_188 ⟨by show _ ≤ 601024; omega, by show _ ≤ 7293034; omega⟩) hP hPm hD hS [0, 1, 2, 3, 4, 5, 6, 7, 8, 9, 10, 11, 12, 13, 14, 15, 16, 17, 18, 19, 20, 21] rfl (fun _ => by simp only [List.map_append, mdlW_adr]) (fun r_6 u_6 H locs hp_6 hP hPm hD hS => ?_)
    try simp only [mdD_0, mdE_0, mdF_0, mdD_1, mdE_1, mdF_1] at hp_6
    have hP : va_P D vwCl (mdlW bd 0 cy u_6 h (if u_6 = 0 then (xZ xs (i + 1)) else su) st sh fl 0 sn bn fm fr cm em lg le lf dl cS cH sea noi pl pw an hd bp bo bw c1 c2 c3 c4 c5 e1 e2 e3 e4 e5) H := hP
    have hD : va_D (fun q => z0 ≤ q) ((mdlW bd 0 cy u_6 h (if u_6 = 0 then (xZ xs (i + 1)) else su) st sh fl 0 sn bn fm fr cm em lg le lf dl cS cH sea noi pl pw an hd bp bo bw c1 c2 c3 c4 c5 e1 e2 e3 e4 e5) ++ ((rooW ad 0 cy fm fr) ++ ((airW ad 1 cy h su st sh fl cS cH (dnD h fl) (dnE h cS) (dnF h su st)) ++ ((airW ad 8 cy h su 0 0 0 (fun _ => 0) (fun _ => 0) (dnD h 0) (dnE h (fun _ => 0)) (dnF h su 0)) ++ ((grdW ad 15 cy sea noi) ++ ((rayW ad 18 cy (ur 0) (ur 1) (ur 2) (ur 3) (ur 4) (ur 5) (ur 6) (ur 7)) ++ ((sndW ad 19 cy 12 sn pl pw an hd fq) ++ ((sndW ad 25 cy 6 bn bp bw ban bhd bo) ++ ((conW ad 31 cy cm c1 c2 c3 c4 c5) ++ ((entW ad 37 cy em ep e1 e2 e3 e4 e5) ++ (outW od 0 cy o))))))))))) := hD
    rcases hp_6 with ⟨rfl, hN_6, rfl⟩ | ⟨rfl, hN_6, rfl⟩
    ·
      have hP : va_P D vwCl (mdlW bd 0 cy 0 h (xZ xs (i + 1)) st sh fl 0 sn bn fm fr cm em lg le lf dl cS cH sea noi pl pw an hd bp bo bw c1 c2 c3 c4 c5 e1 e2 e3 e4 e5) H := hP
      have hD : va_D (fun q => z0 ≤ q) ((mdlW bd 0 cy 0 h (xZ xs (i + 1)) st sh fl 0 sn bn fm fr cm em lg le lf dl cS cH sea noi pl pw an hd bp bo bw c1 c2 c3 c4 c5 e1 e2 e3 e4 e5) ++ ((rooW ad 0 cy fm fr) ++ ((airW ad 1 cy h su st sh fl cS cH (dnD h fl) (dnE h cS) (dnF h su st)) ++ ((airW ad 8 cy h su 0 0 0 (fun _ => 0) (fun _ => 0) (dnD h 0) (dnE h (fun _ => 0)) (dnF h su 0)) ++ ((grdW ad 15 cy sea noi) ++ ((rayW ad 18 cy (ur 0) (ur 1) (ur 2) (ur 3) (ur 4) (ur 5) (ur 6) (ur 7)) ++ ((sndW ad 19 cy 12 sn pl pw an hd fq) ++ ((sndW ad 25 cy 6 bn bp bw ban bhd bo) ++ ((conW ad 31 cy cm c1 c2 c3 c4 c5) ++ ((entW ad 37 cy em ep e1 e2 e3 e4 e5) ++ (outW od 0 cy o))))))))))) := hD
      exfalso
      omega
    ·
      have hP : va_P D vwCl (mdlW bd 0 cy 1 h su st sh fl 0 sn bn fm fr cm em lg le lf dl cS cH sea noi pl pw an hd bp bo bw c1 c2 c3 c4 c5 e1 e2 e3 e4 e5) H := hP
      have hD : va_D (fun q => z0 ≤ q) ((mdlW bd 0 cy 1 h su st sh fl 0 sn bn fm fr cm em lg le lf dl cS cH sea noi pl pw an hd bp bo bw c1 c2 c3 c4 c5 e1 e2 e3 e4 e5) ++ ((rooW ad 0 cy fm fr) ++ ((airW ad 1 cy h su st sh fl cS cH (dnD h fl) (dnE h cS) (dnF h su st)) ++ ((airW ad 8 cy h su 0 0 0 (fun _ => 0) (fun _ => 0) (dnD h 0) (dnE h (fun _ => 0)) (dnF h su 0)) ++ ((grdW ad 15 cy sea noi) ++ ((rayW ad 18 cy (ur 0) (ur 1) (ur 2) (ur 3) (ur 4) (ur 5) (ur 6) (ur 7)) ++ ((sndW ad 19 cy 12 sn pl pw an hd fq) ++ ((sndW ad 25 cy 6 bn bp bw ban bhd bo) ++ ((conW ad 31 cy cm c1 c2 c3 c4 c5) ++ ((entW ad 37 cy em ep e1 e2 e3 e4 e5) ++ (outW od 0 cy o))))))))))) := hD
      refine lv_istore (lv' := [(6, .int (iI 0)), (5, .int (iI 1)), (0, .ref (b)), (1, .ref (ad 0)), (2, .ref (bd 0)), (3, .ref (od 0)), (4, .int (iI i))]) M.1 M.2.1 dL_law_191 hl (by decide) rfl (fun ls hl => ?_)
      refine lv_aload_n M.1 M.2.1 dL_law_193 rfl (lv_at hl 4 rfl) ?_
      refine z_cR (z_runV (As := []) (rest := []) M (c_X7_thrown l D cy z0 bd 1 h su st sh fl 0 sn bn fm fr cm em lg le lf dl cS cH sea noi pl pw an hd bp bo bw c1 c2 c3 c4 c5 e1 e2 e3 e4 e5) hE hS hAz hP (zRc.of (ci := 7) (q0 := 0) hE hP rfl rfl) zk_cd_X7_thrown zk_in_RX7 zk_im_X7_thrown zk_se_X7_thrown zk_ml_RL_116 rfl rfl zd_X7_thrown ⟨by decide, by decide⟩ rfl hl.1 rfl (Nat.le_of_ble_eq_true rfl) dL_law_194 ⟨by show _ ≤ 601024; omega, by show _ ≤ 7293034; omega⟩) ?_
      refine lv_iload M.1 M.2.1 dL_law_197 (lv_at hl 1 rfl) ?_
      refine zi_same (tgt := 204) M dL_law_199 (by decide) ?_
      refine lv_iload M.1 M.2.1 dL_law_204 (lv_at hl 1 rfl) ?_
      refine zi_if_ne (tgt := 221) M dL_law_206 (by decide) ⟨by decide, by decide⟩ (fun _ => ?_) (fun q => absurd q (by decide))
      refine zi_goto (tgt := 2286) M dL_law_221 (by decide) ?_
      have hPx := hP
      have hP := hPm
      have hPm := hPx
      have hD := zD_c hD
      refine W.widen (k := cells + 6) (n := slots + 36) (by omega) (by omega) ?_
      exact hback h su st sh fl sn bn cm em ep fm fr 1 o lg le lf dl cS cH sea noi pl pw an hd fq bp bw ban bhd bo c1 c2 c3 c4 c5 e1 e2 e3 e4 e5 ur h_h h_su h_st h_sh h_fl h_sn h_bn h_cm h_em g_cS g_cH g_sea g_noi g_pl g_pw g_an g_hd g_bp g_bw g_ban g_bhd g_c1 g_c2 g_c3 g_c4 g_c5 g_e1 g_e2 g_e3 g_e4 g_e5 hbo hep H locs hP hPm hD hS ls (lv_sub hl [2, 3, 4, 5, 6] rfl)

set_option maxRecDepth 100000 in
set_option maxHeartbeats 8000000 in
theorem lw_case1 (l : Launch) (D : va_G) (cy : Nat → ClassId) (z0 : Nat) (ad bd od : Nat → Nat) (p : Program) (e : Env) (s : State) (m : MethodId) (args : Array Value) (below : List Frame) (meth : Method) (c : Code) (b : Nat) (i : Int) (Q : State → Prop) (cells slots : Nat) (hst : l.stackTraces = false) (hL7 : ∀ q : Nat, q = 0 → True) (b_L : Nat) (xs : Nat → Int32) (M : zM p s m args c cL_law RL 7) (hE : zE D cy z0 s) (hN : zNc s) (hL : b_L ≤ 3584) (hX : va_X b b_L xs s s.heap) (hbl : b < s.heap.size) (hbA : ¬ z0 ≤ b) (hi : 0 ≤ i ∧ i + 7 ≤ b_L) (hc : cells + 6 ≤ 601024) (hs : slots + 36 ≤ 7293034) (hback : lwB l D cy z0 ad bd od p e s m args below meth c b i Q cells slots) (h su st sh fl sn bn cm em ep fm fr th o lg le lf dl : Int) (cS cH sea noi pl pw an hd fq bp bw ban bhd bo c1 c2 c3 c4 c5 e1 e2 e3 e4 e5 : Int → Int) (ur : Nat → Int) (h_h : 0 ≤ h ∧ h ≤ 5000) (h_su : 0 ≤ su ∧ su ≤ 100) (h_st : 0 ≤ st ∧ st ≤ 60) (h_sh : 0 ≤ sh ∧ sh ≤ 72) (h_fl : 0 ≤ fl ∧ fl ≤ 80) (h_sn : 0 ≤ sn ∧ sn ≤ 12) (h_bn : 0 ≤ bn ∧ bn ≤ 6) (h_cm : 0 ≤ cm ∧ cm ≤ 60) (h_em : 0 ≤ em ∧ em ≤ 80) (g_cS : zrg 48 0 100 cS) (g_cH : zrg 48 0 24 cH) (g_sea : zrg 48 0 1 sea) (g_noi : zrg 48 0 40 noi) (g_pl : zrg 12 0 47 pl) (g_pw : zrg 12 0 80 pw) (g_an : zrg 12 0 2 an) (g_hd : zrg 12 0 2 hd) (g_bp : zrg 6 0 47 bp) (g_bw : zrg 6 0 80 bw) (g_ban : zrg 6 0 2 ban) (g_bhd : zrg 6 0 2 bhd) (g_c1 : zrg 60 0 11 c1) (g_c2 : zrg 60 0 11 c2) (g_c3 : zrg 60 0 300 c3) (g_c4 : zrg 60 0 2 c4) (g_c5 : zrg 60 0 5000 c5) (g_e1 : zrg 80 0 11 e1) (g_e2 : zrg 80 0 11 e2) (g_e3 : zrg 80 0 300 e3) (g_e4 : zrg 80 0 5000 e4) (g_e5 : zrg 80 (-1) 79 e5) (hbo : ∀ n : Int, 0 ≤ n → n < bn → (10 ≤ bo n ∧ bo n ≤ 300) ∧ ban n = 2 ∧ bhd n = 2) (hep : ep = prF e5 em.toNat) (H : Heap) (locs : List Loc) (hP : va_P D vwCl ((rooW ad 0 cy fm fr) ++ ((airW ad 1 cy h su st sh fl cS cH (dnD h fl) (dnE h cS) (dnF h su st)) ++ ((airW ad 8 cy h su 0 0 0 (fun _ => 0) (fun _ => 0) (dnD h 0) (dnE h (fun _ => 0)) (dnF h su 0)) ++ ((grdW ad 15 cy sea noi) ++ ((rayW ad 18 cy (ur 0) (ur 1) (ur 2) (ur 3) (ur 4) (ur 5) (ur 6) (ur 7)) ++ ((sndW ad 19 cy 12 sn pl pw an hd fq) ++ ((sndW ad 25 cy 6 bn bp bw ban bhd bo) ++ ((conW ad 31 cy cm c1 c2 c3 c4 c5) ++ ((entW ad 37 cy em ep e1 e2 e3 e4 e5) ++ (outW od 0 cy o)))))))))) H) (hPm : va_P D vwCl (mdlW bd 0 cy th h su st sh fl 0 sn bn fm fr cm em lg le lf dl cS cH sea noi pl pw an hd bp bo bw c1 c2 c3 c4 c5 e1 e2 e3 e4 e5) H) (hD : va_D (fun q => z0 ≤ q) (((rooW ad 0 cy fm fr) ++ ((airW ad 1 cy h su st sh fl cS cH (dnD h fl) (dnE h cS) (dnF h su st)) ++ ((airW ad 8 cy h su 0 0 0 (fun _ => 0) (fun _ => 0) (dnD h 0) (dnE h (fun _ => 0)) (dnF h su 0)) ++ ((grdW ad 15 cy sea noi) ++ ((rayW ad 18 cy (ur 0) (ur 1) (ur 2) (ur 3) (ur 4) (ur 5) (ur 6) (ur 7)) ++ ((sndW ad 19 cy 12 sn pl pw an hd fq) ++ ((sndW ad 25 cy 6 bn bp bw ban bhd bo) ++ ((conW ad 31 cy cm c1 c2 c3 c4 c5) ++ ((entW ad 37 cy em ep e1 e2 e3 e4 e5) ++ (outW od 0 cy o)))))))))) ++ (mdlW bd 0 cy th h su st sh fl 0 sn bn fm fr cm em lg le lf dl cS cH sea noi pl pw an hd bp bo bw c1 c2 c3 c4 c5 e1 e2 e3 e4 e5))) (hS : va_S (fun q => z0 ≤ q) s.heap H locs) (ls : Array Slot) (hl : lv_has ls 7 [(0, .ref b), (1, .ref (ad 0)), (2, .ref (bd 0)), (3, .ref (od 0)), (4, .int (iI i))]) : W p l e room_1 s m args below meth c H locs (cells) (slots) Q (F0 m 224 ls []) := by
  have hAz : ∀ q : Nat, (fun q => z0 ≤ q) q → z0 ≤ q := fun _ h => h
  refine lv_aload_n M.1 M.2.1 dL_law_224 rfl (lv_at hl 1 rfl) ?_
  refine lv_aload_n M.1 M.2.1 dL_law_225 rfl (lv_at hl 0 rfl) ?_
  refine lv_iload M.1 M.2.1 dL_law_226 (lv_at hl 4 rfl) ?_
  refine zi_push M dL_law_228 ?_
  refine zi_iadd M dL_law_229 ?_
  refine zi_sld M hX hbl hbA hS hL (by omega) (by omega) dL_law_230 ?_
  have hx_1 := xZ_rg xs (i + 1)
  refine lv_aload_n M.1 M.2.1 dL_law_231 rfl (lv_at hl 0 rfl) ?_
  refine lv_iload M.1 M.2.1 dL_law_232 (lv_at hl 4 rfl) ?_
  refine zi_push M dL_law_234 ?_
  refine zi_iadd M dL_law_235 ?_
  refine zi_sld M hX hbl hbA hS hL (by omega) (by omega) dL_law_236 ?_
  have hx_2 := xZ_rg xs (i + 2)
  refine z_cW2 (zx_runH (As := [.ref (ad 0), .int (iI (xZ xs (i + 1))), .int (iI (xZ xs (i + 2)))]) (rest := []) M (c_L_storm l hst D cy z0 ad fm fr h su st sh fl cS cH (dnD h fl) (dnE h cS) (dnF h su st) (xZ xs (i + 1)) (xZ xs (i + 2)) (by omega) (by omega) (by omega) (by omega) (by omega) (by omega) (by omega) g_cS g_cH) hE hN hS hAz (z_cut hP (zD_l hD) hAz [0, 1, 2, 3, 4, 5, 6, 7] rfl (by decide +kernel)) zk_cw_L_storm zk_in_RL zk_st_L_storm zk_ml_RL_120 rfl rfl zd_L_storm ⟨by decide, by decide⟩ rfl hl.1 rfl (Nat.le_of_ble_eq_true rfl) dL_law_237 ⟨by show _ ≤ 601024; omega, by show _ ≤ 7293034; omega⟩) hP hPm hD hS [0, 1, 2, 3, 4, 5, 6, 7] rfl (fun _ => by simp only [List.map_append, airW_adr, rooW_adr]) (fun r_3 u_3 H locs hp_3 hP hPm hD hS => ?_)
  have hP : va_P D vwCl ((rooW ad 0 cy fm fr) ++ ((airW ad 1 cy h su (if u_3.1 = 0 then (xZ xs (i + 1)) else st) (if u_3.1 = 0 then (xZ xs (i + 2)) else sh) fl cS cH (if u_3.1 = 0 then (dnD h fl) else (dnD h fl)) (if u_3.1 = 0 then (dnE h cS) else (dnE h cS)) (if u_3.1 = 0 then (dnF h su (xZ xs (i + 1))) else (dnF h su st))) ++ ((airW ad 8 cy h su 0 0 0 (fun _ => 0) (fun _ => 0) (dnD h 0) (dnE h (fun _ => 0)) (dnF h su 0)) ++ ((grdW ad 15 cy sea noi) ++ ((rayW ad 18 cy (ur 0) (ur 1) (ur 2) (ur 3) (ur 4) (ur 5) (ur 6) (ur 7)) ++ ((sndW ad 19 cy 12 sn pl pw an hd fq) ++ ((sndW ad 25 cy 6 bn bp bw ban bhd bo) ++ ((conW ad 31 cy cm c1 c2 c3 c4 c5) ++ ((entW ad 37 cy em ep e1 e2 e3 e4 e5) ++ (outW od 0 cy o)))))))))) H := hP
  have hD : va_D (fun q => z0 ≤ q) (((rooW ad 0 cy fm fr) ++ ((airW ad 1 cy h su (if u_3.1 = 0 then (xZ xs (i + 1)) else st) (if u_3.1 = 0 then (xZ xs (i + 2)) else sh) fl cS cH (if u_3.1 = 0 then (dnD h fl) else (dnD h fl)) (if u_3.1 = 0 then (dnE h cS) else (dnE h cS)) (if u_3.1 = 0 then (dnF h su (xZ xs (i + 1))) else (dnF h su st))) ++ ((airW ad 8 cy h su 0 0 0 (fun _ => 0) (fun _ => 0) (dnD h 0) (dnE h (fun _ => 0)) (dnF h su 0)) ++ ((grdW ad 15 cy sea noi) ++ ((rayW ad 18 cy (ur 0) (ur 1) (ur 2) (ur 3) (ur 4) (ur 5) (ur 6) (ur 7)) ++ ((sndW ad 19 cy 12 sn pl pw an hd fq) ++ ((sndW ad 25 cy 6 bn bp bw ban bhd bo) ++ ((conW ad 31 cy cm c1 c2 c3 c4 c5) ++ ((entW ad 37 cy em ep e1 e2 e3 e4 e5) ++ (outW od 0 cy o)))))))))) ++ (mdlW bd 0 cy th h su st sh fl 0 sn bn fm fr cm em lg le lf dl cS cH sea noi pl pw an hd bp bo bw c1 c2 c3 c4 c5 e1 e2 e3 e4 e5)) := hD
  obtain ⟨u1_3, u2_3, u3_3⟩ := u_3
  dsimp only at hp_3
  rcases hp_3 with ⟨rfl, rfl, hN_3⟩ | ⟨rfl, rfl, hN_3⟩
  ·
    have hP : va_P D vwCl ((rooW ad 0 cy fm fr) ++ ((airW ad 1 cy h su (xZ xs (i + 1)) (xZ xs (i + 2)) fl cS cH (dnD h fl) (dnE h cS) (dnF h su (xZ xs (i + 1)))) ++ ((airW ad 8 cy h su 0 0 0 (fun _ => 0) (fun _ => 0) (dnD h 0) (dnE h (fun _ => 0)) (dnF h su 0)) ++ ((grdW ad 15 cy sea noi) ++ ((rayW ad 18 cy (ur 0) (ur 1) (ur 2) (ur 3) (ur 4) (ur 5) (ur 6) (ur 7)) ++ ((sndW ad 19 cy 12 sn pl pw an hd fq) ++ ((sndW ad 25 cy 6 bn bp bw ban bhd bo) ++ ((conW ad 31 cy cm c1 c2 c3 c4 c5) ++ ((entW ad 37 cy em ep e1 e2 e3 e4 e5) ++ (outW od 0 cy o)))))))))) H := hP
    have hD : va_D (fun q => z0 ≤ q) (((rooW ad 0 cy fm fr) ++ ((airW ad 1 cy h su (xZ xs (i + 1)) (xZ xs (i + 2)) fl cS cH (dnD h fl) (dnE h cS) (dnF h su (xZ xs (i + 1)))) ++ ((airW ad 8 cy h su 0 0 0 (fun _ => 0) (fun _ => 0) (dnD h 0) (dnE h (fun _ => 0)) (dnF h su 0)) ++ ((grdW ad 15 cy sea noi) ++ ((rayW ad 18 cy (ur 0) (ur 1) (ur 2) (ur 3) (ur 4) (ur 5) (ur 6) (ur 7)) ++ ((sndW ad 19 cy 12 sn pl pw an hd fq) ++ ((sndW ad 25 cy 6 bn bp bw ban bhd bo) ++ ((conW ad 31 cy cm c1 c2 c3 c4 c5) ++ ((entW ad 37 cy em ep e1 e2 e3 e4 e5) ++ (outW od 0 cy o)))))))))) ++ (mdlW bd 0 cy th h su st sh fl 0 sn bn fm fr cm em lg le lf dl cS cH sea noi pl pw an hd bp bo bw c1 c2 c3 c4 c5 e1 e2 e3 e4 e5)) := hD
    refine lv_istore (lv' := [(5, .int (iI 0)), (0, .ref (b)), (1, .ref (ad 0)), (2, .ref (bd 0)), (3, .ref (od 0)), (4, .int (iI i))]) M.1 M.2.1 dL_law_240 hl (by decide) rfl (fun ls hl => ?_)
    refine lv_aload_n M.1 M.2.1 dL_law_242 rfl (lv_at hl 3 rfl) ?_
    refine lv_aload_n M.1 M.2.1 dL_law_243 rfl (lv_at hl 1 rfl) ?_
    refine lv_iload M.1 M.2.1 dL_law_244 (lv_at hl 5 rfl) ?_
    refine zi_push M dL_law_246 ?_
    refine zi_iadd M dL_law_247 ?_
    refine zi_sld M hX hbl hbA hS hL (by omega) (by omega) dL_law_248 ?_
    have hx_4 := xZ_rg xs (i + 1)
    refine lv_aload_n M.1 M.2.1 dL_law_249 rfl (lv_at hl 1 rfl) ?_
    refine lv_iload M.1 M.2.1 dL_law_250 (lv_at hl 5 rfl) ?_
    refine zi_push M dL_law_252 ?_
    refine zi_iadd M dL_law_253 ?_
    refine zi_sld M hX hbl hbA hS hL (by omega) (by omega) dL_law_254 ?_
    have hx_5 := xZ_rg xs (i + 2)
    have hPx := hP
    have hP := hPm
    have hPm := hPx
    have hD := zD_c hD
    refine z_cV2 (z_runV (As := [.int (iI (xZ xs (i + 1))), .int (iI (xZ xs (i + 2)))]) (rest := []) M (c_X7_storm l D cy z0 bd th h su st sh fl 0 sn bn fm fr cm em lg le lf dl cS cH sea noi pl pw an hd bp bo bw c1 c2 c3 c4 c5 e1 e2 e3 e4 e5 (xZ xs (i + 1)) (xZ xs (i + 2)) (by omega) (by omega)) hE hS hAz (z_cut hP (zD_l hD) hAz [0, 1, 2, 3, 4, 5, 6, 7, 8, 9, 10, 11, 12, 13, 14, 15, 16, 17, 18, 19, 20, 21] rfl (by decide +kernel)) (zRc.of (ci := 7) (q0 := 0) hE hP rfl rfl) zk_cd_X7_storm zk_in_RX7 zk_im_X7_storm zk_se_X7_storm zk_ml_RL_123 rfl rfl zd_X7_storm ⟨by decide, by decide⟩ rfl hl.1 rfl (Nat.le_of_ble_eq_true rfl) dL_law_255 ⟨by show _ ≤ 601024; omega, by show _ ≤ 7293034; omega⟩) hP hPm hD hS [0, 1, 2, 3, 4, 5, 6, 7, 8, 9, 10, 11, 12, 13, 14, 15, 16, 17, 18, 19, 20, 21] rfl (fun _ => by simp only [List.map_append, mdlW_adr]) (fun u_6 H locs hp_6 hP hPm hD hS => ?_)
    try simp only [mdD_0, mdE_0, mdF_0, mdD_1, mdE_1, mdF_1] at hp_6
    have hP : va_P D vwCl (mdlW bd 0 cy u_6 h su (if u_6 = 0 then (xZ xs (i + 1)) else st) (if u_6 = 0 then (xZ xs (i + 2)) else sh) fl 0 sn bn fm fr cm em lg le lf dl cS cH sea noi pl pw an hd bp bo bw c1 c2 c3 c4 c5 e1 e2 e3 e4 e5) H := hP
    have hD : va_D (fun q => z0 ≤ q) ((mdlW bd 0 cy u_6 h su (if u_6 = 0 then (xZ xs (i + 1)) else st) (if u_6 = 0 then (xZ xs (i + 2)) else sh) fl 0 sn bn fm fr cm em lg le lf dl cS cH sea noi pl pw an hd bp bo bw c1 c2 c3 c4 c5 e1 e2 e3 e4 e5) ++ ((rooW ad 0 cy fm fr) ++ ((airW ad 1 cy h su (xZ xs (i + 1)) (xZ xs (i + 2)) fl cS cH (dnD h fl) (dnE h cS) (dnF h su (xZ xs (i + 1)))) ++ ((airW ad 8 cy h su 0 0 0 (fun _ => 0) (fun _ => 0) (dnD h 0) (dnE h (fun _ => 0)) (dnF h su 0)) ++ ((grdW ad 15 cy sea noi) ++ ((rayW ad 18 cy (ur 0) (ur 1) (ur 2) (ur 3) (ur 4) (ur 5) (ur 6) (ur 7)) ++ ((sndW ad 19 cy 12 sn pl pw an hd fq) ++ ((sndW ad 25 cy 6 bn bp bw ban bhd bo) ++ ((conW ad 31 cy cm c1 c2 c3 c4 c5) ++ ((entW ad 37 cy em ep e1 e2 e3 e4 e5) ++ (outW od 0 cy o))))))))))) := hD
    rcases hp_6 with ⟨rfl, hN_6⟩ | ⟨rfl, hN_6⟩
    ·
      have hP : va_P D vwCl (mdlW bd 0 cy 0 h su (xZ xs (i + 1)) (xZ xs (i + 2)) fl 0 sn bn fm fr cm em lg le lf dl cS cH sea noi pl pw an hd bp bo bw c1 c2 c3 c4 c5 e1 e2 e3 e4 e5) H := hP
      have hD : va_D (fun q => z0 ≤ q) ((mdlW bd 0 cy 0 h su (xZ xs (i + 1)) (xZ xs (i + 2)) fl 0 sn bn fm fr cm em lg le lf dl cS cH sea noi pl pw an hd bp bo bw c1 c2 c3 c4 c5 e1 e2 e3 e4 e5) ++ ((rooW ad 0 cy fm fr) ++ ((airW ad 1 cy h su (xZ xs (i + 1)) (xZ xs (i + 2)) fl cS cH (dnD h fl) (dnE h cS) (dnF h su (xZ xs (i + 1)))) ++ ((airW ad 8 cy h su 0 0 0 (fun _ => 0) (fun _ => 0) (dnD h 0) (dnE h (fun _ => 0)) (dnF h su 0)) ++ ((grdW ad 15 cy sea noi) ++ ((rayW ad 18 cy (ur 0) (ur 1) (ur 2) (ur 3) (ur 4) (ur 5) (ur 6) (ur 7)) ++ ((sndW ad 19 cy 12 sn pl pw an hd fq) ++ ((sndW ad 25 cy 6 bn bp bw ban bhd bo) ++ ((conW ad 31 cy cm c1 c2 c3 c4 c5) ++ ((entW ad 37 cy em ep e1 e2 e3 e4 e5) ++ (outW od 0 cy o))))))))))) := hD
      refine lv_aload_n M.1 M.2.1 dL_law_258 rfl (lv_at hl 3 rfl) ?_
      refine z_cR (z_runV (As := []) (rest := []) M (c_X7_thrown l D cy z0 bd 0 h su (xZ xs (i + 1)) (xZ xs (i + 2)) fl 0 sn bn fm fr cm em lg le lf dl cS cH sea noi pl pw an hd bp bo bw c1 c2 c3 c4 c5 e1 e2 e3 e4 e5) hE hS hAz hP (zRc.of (ci := 7) (q0 := 0) hE hP rfl rfl) zk_cd_X7_thrown zk_in_RX7 zk_im_X7_thrown zk_se_X7_thrown zk_ml_RL_116 rfl rfl zd_X7_thrown ⟨by decide, by decide⟩ rfl hl.1 rfl (Nat.le_of_ble_eq_true rfl) dL_law_259 ⟨by show _ ≤ 601024; omega, by show _ ≤ 7293034; omega⟩) ?_
      refine lv_iload M.1 M.2.1 dL_law_262 (lv_at hl 0 rfl) ?_
      refine zi_same (tgt := 269) M dL_law_264 (by decide) ?_
      refine zi_goto (tgt := 2286) M dL_law_269 (by decide) ?_
      have hPx := hP
      have hP := hPm
      have hPm := hPx
      have hD := zD_c hD
      refine W.widen (k := cells + 6) (n := slots + 36) (by omega) (by omega) ?_
      exact hback h su (xZ xs (i + 1)) (xZ xs (i + 2)) fl sn bn cm em ep fm fr 0 o lg le lf dl cS cH sea noi pl pw an hd fq bp bw ban bhd bo c1 c2 c3 c4 c5 e1 e2 e3 e4 e5 ur h_h h_su (by omega) (by omega) h_fl h_sn h_bn h_cm h_em g_cS g_cH g_sea g_noi g_pl g_pw g_an g_hd g_bp g_bw g_ban g_bhd g_c1 g_c2 g_c3 g_c4 g_c5 g_e1 g_e2 g_e3 g_e4 g_e5 hbo hep H locs hP hPm hD hS ls (lv_sub hl [1, 2, 3, 4, 5] rfl)
    ·
      have hP : va_P D vwCl (mdlW bd 0 cy 1 h su st sh fl 0 sn bn fm fr cm em lg le lf dl cS cH sea noi pl pw an hd bp bo bw c1 c2 c3 c4 c5 e1 e2 e3 e4 e5) H := hP
      have hD : va_D (fun q => z0 ≤ q) ((mdlW bd 0 cy 1 h su st sh fl 0 sn bn fm fr cm em lg le lf dl cS cH sea noi pl pw an hd bp bo bw c1 c2 c3 c4 c5 e1 e2 e3 e4 e5) ++ ((rooW ad 0 cy fm fr) ++ ((airW ad 1 cy h su (xZ xs (i + 1)) (xZ xs (i + 2)) fl cS cH (dnD h fl) (dnE h cS) (dnF h su (xZ xs (i + 1)))) ++ ((airW ad 8 cy h su 0 0 0 (fun _ => 0) (fun _ => 0) (dnD h 0) (dnE h (fun _ => 0)) (dnF h su 0)) ++ ((grdW ad 15 cy sea noi) ++ ((rayW ad 18 cy (ur 0) (ur 1) (ur 2) (ur 3) (ur 4) (ur 5) (ur 6) (ur 7)) ++ ((sndW ad 19 cy 12 sn pl pw an hd fq) ++ ((sndW ad 25 cy 6 bn bp bw ban bhd bo) ++ ((conW ad 31 cy cm c1 c2 c3 c4 c5) ++ ((entW ad 37 cy em ep e1 e2 e3 e4 e5) ++ (outW od 0 cy o))))))))))) := hD
      exfalso
      omega
  ·
    have hP : va_P D vwCl ((rooW ad 0 cy fm fr) ++ ((airW ad 1 cy h su st sh fl cS cH (dnD h fl) (dnE h cS) (dnF h su st)) ++ ((airW ad 8 cy h su 0 0 0 (fun _ => 0) (fun _ => 0) (dnD h 0) (dnE h (fun _ => 0)) (dnF h su 0)) ++ ((grdW ad 15 cy sea noi) ++ ((rayW ad 18 cy (ur 0) (ur 1) (ur 2) (ur 3) (ur 4) (ur 5) (ur 6) (ur 7)) ++ ((sndW ad 19 cy 12 sn pl pw an hd fq) ++ ((sndW ad 25 cy 6 bn bp bw ban bhd bo) ++ ((conW ad 31 cy cm c1 c2 c3 c4 c5) ++ ((entW ad 37 cy em ep e1 e2 e3 e4 e5) ++ (outW od 0 cy o)))))))))) H := hP
    have hD : va_D (fun q => z0 ≤ q) (((rooW ad 0 cy fm fr) ++ ((airW ad 1 cy h su st sh fl cS cH (dnD h fl) (dnE h cS) (dnF h su st)) ++ ((airW ad 8 cy h su 0 0 0 (fun _ => 0) (fun _ => 0) (dnD h 0) (dnE h (fun _ => 0)) (dnF h su 0)) ++ ((grdW ad 15 cy sea noi) ++ ((rayW ad 18 cy (ur 0) (ur 1) (ur 2) (ur 3) (ur 4) (ur 5) (ur 6) (ur 7)) ++ ((sndW ad 19 cy 12 sn pl pw an hd fq) ++ ((sndW ad 25 cy 6 bn bp bw ban bhd bo) ++ ((conW ad 31 cy cm c1 c2 c3 c4 c5) ++ ((entW ad 37 cy em ep e1 e2 e3 e4 e5) ++ (outW od 0 cy o)))))))))) ++ (mdlW bd 0 cy th h su st sh fl 0 sn bn fm fr cm em lg le lf dl cS cH sea noi pl pw an hd bp bo bw c1 c2 c3 c4 c5 e1 e2 e3 e4 e5)) := hD
    refine lv_istore (lv' := [(5, .int (iI 1)), (0, .ref (b)), (1, .ref (ad 0)), (2, .ref (bd 0)), (3, .ref (od 0)), (4, .int (iI i))]) M.1 M.2.1 dL_law_240 hl (by decide) rfl (fun ls hl => ?_)
    refine lv_aload_n M.1 M.2.1 dL_law_242 rfl (lv_at hl 3 rfl) ?_
    refine lv_aload_n M.1 M.2.1 dL_law_243 rfl (lv_at hl 1 rfl) ?_
    refine lv_iload M.1 M.2.1 dL_law_244 (lv_at hl 5 rfl) ?_
    refine zi_push M dL_law_246 ?_
    refine zi_iadd M dL_law_247 ?_
    refine zi_sld M hX hbl hbA hS hL (by omega) (by omega) dL_law_248 ?_
    have hx_7 := xZ_rg xs (i + 1)
    refine lv_aload_n M.1 M.2.1 dL_law_249 rfl (lv_at hl 1 rfl) ?_
    refine lv_iload M.1 M.2.1 dL_law_250 (lv_at hl 5 rfl) ?_
    refine zi_push M dL_law_252 ?_
    refine zi_iadd M dL_law_253 ?_
    refine zi_sld M hX hbl hbA hS hL (by omega) (by omega) dL_law_254 ?_
    have hx_8 := xZ_rg xs (i + 2)
    have hPx := hP
    have hP := hPm
    have hPm := hPx
    have hD := zD_c hD
    refine z_cV2 (z_runV (As := [.int (iI (xZ xs (i + 1))), .int (iI (xZ xs (i + 2)))]) (rest := []) M (c_X7_storm l D cy z0 bd th h su st sh fl 0 sn bn fm fr cm em lg le lf dl cS cH sea noi pl pw an hd bp bo bw c1 c2 c3 c4 c5 e1 e2 e3 e4 e5 (xZ xs (i + 1)) (xZ xs (i + 2)) (by omega) (by omega)) hE hS hAz (z_cut hP (zD_l hD) hAz [0, 1, 2, 3, 4, 5, 6, 7, 8, 9, 10, 11, 12, 13, 14, 15, 16, 17, 18, 19, 20, 21] rfl (by decide +kernel)) (zRc.of (ci := 7) (q0 := 0) hE hP rfl rfl) zk_cd_X7_storm zk_in_RX7 zk_im_X7_storm zk_se_X7_storm zk_ml_RL_123 rfl rfl zd_X7_storm ⟨by decide, by decide⟩ rfl hl.1 rfl (Nat.le_of_ble_eq_true rfl) dL_law_255 ⟨by show _ ≤ 601024; omega, by show _ ≤ 7293034; omega⟩) hP hPm hD hS [0, 1, 2, 3, 4, 5, 6, 7, 8, 9, 10, 11, 12, 13, 14, 15, 16, 17, 18, 19, 20, 21] rfl (fun _ => by simp only [List.map_append, mdlW_adr]) (fun u_9 H locs hp_9 hP hPm hD hS => ?_)
    try simp only [mdD_0, mdE_0, mdF_0, mdD_1, mdE_1, mdF_1] at hp_9
    have hP : va_P D vwCl (mdlW bd 0 cy u_9 h su (if u_9 = 0 then (xZ xs (i + 1)) else st) (if u_9 = 0 then (xZ xs (i + 2)) else sh) fl 0 sn bn fm fr cm em lg le lf dl cS cH sea noi pl pw an hd bp bo bw c1 c2 c3 c4 c5 e1 e2 e3 e4 e5) H := hP
    have hD : va_D (fun q => z0 ≤ q) ((mdlW bd 0 cy u_9 h su (if u_9 = 0 then (xZ xs (i + 1)) else st) (if u_9 = 0 then (xZ xs (i + 2)) else sh) fl 0 sn bn fm fr cm em lg le lf dl cS cH sea noi pl pw an hd bp bo bw c1 c2 c3 c4 c5 e1 e2 e3 e4 e5) ++ ((rooW ad 0 cy fm fr) ++ ((airW ad 1 cy h su st sh fl cS cH (dnD h fl) (dnE h cS) (dnF h su st)) ++ ((airW ad 8 cy h su 0 0 0 (fun _ => 0) (fun _ => 0) (dnD h 0) (dnE h (fun _ => 0)) (dnF h su 0)) ++ ((grdW ad 15 cy sea noi) ++ ((rayW ad 18 cy (ur 0) (ur 1) (ur 2) (ur 3) (ur 4) (ur 5) (ur 6) (ur 7)) ++ ((sndW ad 19 cy 12 sn pl pw an hd fq) ++ ((sndW ad 25 cy 6 bn bp bw ban bhd bo) ++ ((conW ad 31 cy cm c1 c2 c3 c4 c5) ++ ((entW ad 37 cy em ep e1 e2 e3 e4 e5) ++ (outW od 0 cy o))))))))))) := hD
    rcases hp_9 with ⟨rfl, hN_9⟩ | ⟨rfl, hN_9⟩
    ·
      have hP : va_P D vwCl (mdlW bd 0 cy 0 h su (xZ xs (i + 1)) (xZ xs (i + 2)) fl 0 sn bn fm fr cm em lg le lf dl cS cH sea noi pl pw an hd bp bo bw c1 c2 c3 c4 c5 e1 e2 e3 e4 e5) H := hP
      have hD : va_D (fun q => z0 ≤ q) ((mdlW bd 0 cy 0 h su (xZ xs (i + 1)) (xZ xs (i + 2)) fl 0 sn bn fm fr cm em lg le lf dl cS cH sea noi pl pw an hd bp bo bw c1 c2 c3 c4 c5 e1 e2 e3 e4 e5) ++ ((rooW ad 0 cy fm fr) ++ ((airW ad 1 cy h su st sh fl cS cH (dnD h fl) (dnE h cS) (dnF h su st)) ++ ((airW ad 8 cy h su 0 0 0 (fun _ => 0) (fun _ => 0) (dnD h 0) (dnE h (fun _ => 0)) (dnF h su 0)) ++ ((grdW ad 15 cy sea noi) ++ ((rayW ad 18 cy (ur 0) (ur 1) (ur 2) (ur 3) (ur 4) (ur 5) (ur 6) (ur 7)) ++ ((sndW ad 19 cy 12 sn pl pw an hd fq) ++ ((sndW ad 25 cy 6 bn bp bw ban bhd bo) ++ ((conW ad 31 cy cm c1 c2 c3 c4 c5) ++ ((entW ad 37 cy em ep e1 e2 e3 e4 e5) ++ (outW od 0 cy o))))))))))) := hD
      exfalso
      omega
    ·
      have hP : va_P D vwCl (mdlW bd 0 cy 1 h su st sh fl 0 sn bn fm fr cm em lg le lf dl cS cH sea noi pl pw an hd bp bo bw c1 c2 c3 c4 c5 e1 e2 e3 e4 e5) H := hP
      have hD : va_D (fun q => z0 ≤ q) ((mdlW bd 0 cy 1 h su st sh fl 0 sn bn fm fr cm em lg le lf dl cS cH sea noi pl pw an hd bp bo bw c1 c2 c3 c4 c5 e1 e2 e3 e4 e5) ++ ((rooW ad 0 cy fm fr) ++ ((airW ad 1 cy h su st sh fl cS cH (dnD h fl) (dnE h cS) (dnF h su st)) ++ ((airW ad 8 cy h su 0 0 0 (fun _ => 0) (fun _ => 0) (dnD h 0) (dnE h (fun _ => 0)) (dnF h su 0)) ++ ((grdW ad 15 cy sea noi) ++ ((rayW ad 18 cy (ur 0) (ur 1) (ur 2) (ur 3) (ur 4) (ur 5) (ur 6) (ur 7)) ++ ((sndW ad 19 cy 12 sn pl pw an hd fq) ++ ((sndW ad 25 cy 6 bn bp bw ban bhd bo) ++ ((conW ad 31 cy cm c1 c2 c3 c4 c5) ++ ((entW ad 37 cy em ep e1 e2 e3 e4 e5) ++ (outW od 0 cy o))))))))))) := hD
      refine lv_aload_n M.1 M.2.1 dL_law_258 rfl (lv_at hl 3 rfl) ?_
      refine z_cR (z_runV (As := []) (rest := []) M (c_X7_thrown l D cy z0 bd 1 h su st sh fl 0 sn bn fm fr cm em lg le lf dl cS cH sea noi pl pw an hd bp bo bw c1 c2 c3 c4 c5 e1 e2 e3 e4 e5) hE hS hAz hP (zRc.of (ci := 7) (q0 := 0) hE hP rfl rfl) zk_cd_X7_thrown zk_in_RX7 zk_im_X7_thrown zk_se_X7_thrown zk_ml_RL_116 rfl rfl zd_X7_thrown ⟨by decide, by decide⟩ rfl hl.1 rfl (Nat.le_of_ble_eq_true rfl) dL_law_259 ⟨by show _ ≤ 601024; omega, by show _ ≤ 7293034; omega⟩) ?_
      refine lv_iload M.1 M.2.1 dL_law_262 (lv_at hl 0 rfl) ?_
      refine zi_same (tgt := 269) M dL_law_264 (by decide) ?_
      refine zi_goto (tgt := 2286) M dL_law_269 (by decide) ?_
      have hPx := hP
      have hP := hPm
      have hPm := hPx
      have hD := zD_c hD
      refine W.widen (k := cells + 6) (n := slots + 36) (by omega) (by omega) ?_
      exact hback h su st sh fl sn bn cm em ep fm fr 1 o lg le lf dl cS cH sea noi pl pw an hd fq bp bw ban bhd bo c1 c2 c3 c4 c5 e1 e2 e3 e4 e5 ur h_h h_su h_st h_sh h_fl h_sn h_bn h_cm h_em g_cS g_cH g_sea g_noi g_pl g_pw g_an g_hd g_bp g_bw g_ban g_bhd g_c1 g_c2 g_c3 g_c4 g_c5 g_e1 g_e2 g_e3 g_e4 g_e5 hbo hep H locs hP hPm hD hS ls (lv_sub hl [1, 2, 3, 4, 5] rfl)

set_option maxRecDepth 100000 in
set_option maxHeartbeats 8000000 in
theorem lw_case2 (l : Launch) (D : va_G) (cy : Nat → ClassId) (z0 : Nat) (ad bd od : Nat → Nat) (p : Program) (e : Env) (s : State) (m : MethodId) (args : Array Value) (below : List Frame) (meth : Method) (c : Code) (b : Nat) (i : Int) (Q : State → Prop) (cells slots : Nat) (hst : l.stackTraces = false) (hL7 : ∀ q : Nat, q = 0 → True) (b_L : Nat) (xs : Nat → Int32) (M : zM p s m args c cL_law RL 7) (hE : zE D cy z0 s) (hN : zNc s) (hL : b_L ≤ 3584) (hX : va_X b b_L xs s s.heap) (hbl : b < s.heap.size) (hbA : ¬ z0 ≤ b) (hi : 0 ≤ i ∧ i + 7 ≤ b_L) (hc : cells + 6 ≤ 601024) (hs : slots + 36 ≤ 7293034) (hback : lwB l D cy z0 ad bd od p e s m args below meth c b i Q cells slots) (h su st sh fl sn bn cm em ep fm fr th o lg le lf dl : Int) (cS cH sea noi pl pw an hd fq bp bw ban bhd bo c1 c2 c3 c4 c5 e1 e2 e3 e4 e5 : Int → Int) (ur : Nat → Int) (h_h : 0 ≤ h ∧ h ≤ 5000) (h_su : 0 ≤ su ∧ su ≤ 100) (h_st : 0 ≤ st ∧ st ≤ 60) (h_sh : 0 ≤ sh ∧ sh ≤ 72) (h_fl : 0 ≤ fl ∧ fl ≤ 80) (h_sn : 0 ≤ sn ∧ sn ≤ 12) (h_bn : 0 ≤ bn ∧ bn ≤ 6) (h_cm : 0 ≤ cm ∧ cm ≤ 60) (h_em : 0 ≤ em ∧ em ≤ 80) (g_cS : zrg 48 0 100 cS) (g_cH : zrg 48 0 24 cH) (g_sea : zrg 48 0 1 sea) (g_noi : zrg 48 0 40 noi) (g_pl : zrg 12 0 47 pl) (g_pw : zrg 12 0 80 pw) (g_an : zrg 12 0 2 an) (g_hd : zrg 12 0 2 hd) (g_bp : zrg 6 0 47 bp) (g_bw : zrg 6 0 80 bw) (g_ban : zrg 6 0 2 ban) (g_bhd : zrg 6 0 2 bhd) (g_c1 : zrg 60 0 11 c1) (g_c2 : zrg 60 0 11 c2) (g_c3 : zrg 60 0 300 c3) (g_c4 : zrg 60 0 2 c4) (g_c5 : zrg 60 0 5000 c5) (g_e1 : zrg 80 0 11 e1) (g_e2 : zrg 80 0 11 e2) (g_e3 : zrg 80 0 300 e3) (g_e4 : zrg 80 0 5000 e4) (g_e5 : zrg 80 (-1) 79 e5) (hbo : ∀ n : Int, 0 ≤ n → n < bn → (10 ≤ bo n ∧ bo n ≤ 300) ∧ ban n = 2 ∧ bhd n = 2) (hep : ep = prF e5 em.toNat) (H : Heap) (locs : List Loc) (hP : va_P D vwCl ((rooW ad 0 cy fm fr) ++ ((airW ad 1 cy h su st sh fl cS cH (dnD h fl) (dnE h cS) (dnF h su st)) ++ ((airW ad 8 cy h su 0 0 0 (fun _ => 0) (fun _ => 0) (dnD h 0) (dnE h (fun _ => 0)) (dnF h su 0)) ++ ((grdW ad 15 cy sea noi) ++ ((rayW ad 18 cy (ur 0) (ur 1) (ur 2) (ur 3) (ur 4) (ur 5) (ur 6) (ur 7)) ++ ((sndW ad 19 cy 12 sn pl pw an hd fq) ++ ((sndW ad 25 cy 6 bn bp bw ban bhd bo) ++ ((conW ad 31 cy cm c1 c2 c3 c4 c5) ++ ((entW ad 37 cy em ep e1 e2 e3 e4 e5) ++ (outW od 0 cy o)))))))))) H) (hPm : va_P D vwCl (mdlW bd 0 cy th h su st sh fl 0 sn bn fm fr cm em lg le lf dl cS cH sea noi pl pw an hd bp bo bw c1 c2 c3 c4 c5 e1 e2 e3 e4 e5) H) (hD : va_D (fun q => z0 ≤ q) (((rooW ad 0 cy fm fr) ++ ((airW ad 1 cy h su st sh fl cS cH (dnD h fl) (dnE h cS) (dnF h su st)) ++ ((airW ad 8 cy h su 0 0 0 (fun _ => 0) (fun _ => 0) (dnD h 0) (dnE h (fun _ => 0)) (dnF h su 0)) ++ ((grdW ad 15 cy sea noi) ++ ((rayW ad 18 cy (ur 0) (ur 1) (ur 2) (ur 3) (ur 4) (ur 5) (ur 6) (ur 7)) ++ ((sndW ad 19 cy 12 sn pl pw an hd fq) ++ ((sndW ad 25 cy 6 bn bp bw ban bhd bo) ++ ((conW ad 31 cy cm c1 c2 c3 c4 c5) ++ ((entW ad 37 cy em ep e1 e2 e3 e4 e5) ++ (outW od 0 cy o)))))))))) ++ (mdlW bd 0 cy th h su st sh fl 0 sn bn fm fr cm em lg le lf dl cS cH sea noi pl pw an hd bp bo bw c1 c2 c3 c4 c5 e1 e2 e3 e4 e5))) (hS : va_S (fun q => z0 ≤ q) s.heap H locs) (ls : Array Slot) (hl : lv_has ls 7 [(0, .ref b), (1, .ref (ad 0)), (2, .ref (bd 0)), (3, .ref (od 0)), (4, .int (iI i))]) : W p l e room_1 s m args below meth c H locs (cells) (slots) Q (F0 m 272 ls []) := by
  have hAz : ∀ q : Nat, (fun q => z0 ≤ q) q → z0 ≤ q := fun _ h => h
  refine lv_aload_n M.1 M.2.1 dL_law_272 rfl (lv_at hl 1 rfl) ?_
  refine lv_aload_n M.1 M.2.1 dL_law_273 rfl (lv_at hl 0 rfl) ?_
  refine lv_iload M.1 M.2.1 dL_law_274 (lv_at hl 4 rfl) ?_
  refine zi_push M dL_law_276 ?_
  refine zi_iadd M dL_law_277 ?_
  refine zi_sld M hX hbl hbA hS hL (by omega) (by omega) dL_law_278 ?_
  have hx_1 := xZ_rg xs (i + 1)
  refine lv_aload_n M.1 M.2.1 dL_law_279 rfl (lv_at hl 3 rfl) ?_
  refine z_cW2 (zx_runH (As := [.ref (ad 0), .int (iI (xZ xs (i + 1))), .ref (od 0)]) (rest := []) M (c_L_flare l hst D cy z0 ad od fm fr h su st sh fl o cS cH (dnD h fl) (dnE h cS) (dnF h su st) (xZ xs (i + 1)) (by omega) (by omega) (by omega) (by omega) (by omega) (by omega) g_cS g_cH) hE hN hS hAz (z_cut hP (zD_l hD) hAz [0, 1, 2, 3, 4, 5, 6, 7, 43] rfl (by decide +kernel)) zk_cw_L_flare zk_in_RL zk_st_L_flare zk_ml_RL_124 rfl rfl zd_L_flare ⟨by decide, by decide⟩ rfl hl.1 rfl (Nat.le_of_ble_eq_true rfl) dL_law_280 ⟨by show _ ≤ 601024; omega, by show _ ≤ 7293034; omega⟩) hP hPm hD hS [0, 1, 2, 3, 4, 5, 6, 7, 43] rfl (fun _ => by simp only [List.map_append, airW_adr, outW_adr, rooW_adr]) (fun r_2 u_2 H locs hp_2 hP hPm hD hS => ?_)
  have hP : va_P D vwCl ((rooW ad 0 cy fm fr) ++ ((airW ad 1 cy h su st sh (if u_2.1 = 0 then (xZ xs (i + 1)) else fl) cS cH (if u_2.1 = 0 then (dnD h (xZ xs (i + 1))) else (dnD h fl)) (if u_2.1 = 0 then (dnE h cS) else (dnE h cS)) (if u_2.1 = 0 then (dnF h su st) else (dnF h su st))) ++ ((airW ad 8 cy h su 0 0 0 (fun _ => 0) (fun _ => 0) (dnD h 0) (dnE h (fun _ => 0)) (dnF h su 0)) ++ ((grdW ad 15 cy sea noi) ++ ((rayW ad 18 cy (ur 0) (ur 1) (ur 2) (ur 3) (ur 4) (ur 5) (ur 6) (ur 7)) ++ ((sndW ad 19 cy 12 sn pl pw an hd fq) ++ ((sndW ad 25 cy 6 bn bp bw ban bhd bo) ++ ((conW ad 31 cy cm c1 c2 c3 c4 c5) ++ ((entW ad 37 cy em ep e1 e2 e3 e4 e5) ++ (outW od 0 cy u_2.2.1)))))))))) H := hP
  have hD : va_D (fun q => z0 ≤ q) (((rooW ad 0 cy fm fr) ++ ((airW ad 1 cy h su st sh (if u_2.1 = 0 then (xZ xs (i + 1)) else fl) cS cH (if u_2.1 = 0 then (dnD h (xZ xs (i + 1))) else (dnD h fl)) (if u_2.1 = 0 then (dnE h cS) else (dnE h cS)) (if u_2.1 = 0 then (dnF h su st) else (dnF h su st))) ++ ((airW ad 8 cy h su 0 0 0 (fun _ => 0) (fun _ => 0) (dnD h 0) (dnE h (fun _ => 0)) (dnF h su 0)) ++ ((grdW ad 15 cy sea noi) ++ ((rayW ad 18 cy (ur 0) (ur 1) (ur 2) (ur 3) (ur 4) (ur 5) (ur 6) (ur 7)) ++ ((sndW ad 19 cy 12 sn pl pw an hd fq) ++ ((sndW ad 25 cy 6 bn bp bw ban bhd bo) ++ ((conW ad 31 cy cm c1 c2 c3 c4 c5) ++ ((entW ad 37 cy em ep e1 e2 e3 e4 e5) ++ (outW od 0 cy u_2.2.1)))))))))) ++ (mdlW bd 0 cy th h su st sh fl 0 sn bn fm fr cm em lg le lf dl cS cH sea noi pl pw an hd bp bo bw c1 c2 c3 c4 c5 e1 e2 e3 e4 e5)) := hD
  obtain ⟨u1_2, u2_2, u3_2⟩ := u_2
  dsimp only at hp_2
  rcases hp_2 with ⟨rfl, rfl, hN_2, hv_2⟩ | ⟨rfl, rfl, hN_2, hv_2⟩
  ·
    have hw_2 := hv_2.symm
    subst hw_2
    have hP : va_P D vwCl ((rooW ad 0 cy fm fr) ++ ((airW ad 1 cy h su st sh (xZ xs (i + 1)) cS cH (dnD h (xZ xs (i + 1))) (dnE h cS) (dnF h su st)) ++ ((airW ad 8 cy h su 0 0 0 (fun _ => 0) (fun _ => 0) (dnD h 0) (dnE h (fun _ => 0)) (dnF h su 0)) ++ ((grdW ad 15 cy sea noi) ++ ((rayW ad 18 cy (ur 0) (ur 1) (ur 2) (ur 3) (ur 4) (ur 5) (ur 6) (ur 7)) ++ ((sndW ad 19 cy 12 sn pl pw an hd fq) ++ ((sndW ad 25 cy 6 bn bp bw ban bhd bo) ++ ((conW ad 31 cy cm c1 c2 c3 c4 c5) ++ ((entW ad 37 cy em ep e1 e2 e3 e4 e5) ++ (outW od 0 cy fl)))))))))) H := hP
    have hD : va_D (fun q => z0 ≤ q) (((rooW ad 0 cy fm fr) ++ ((airW ad 1 cy h su st sh (xZ xs (i + 1)) cS cH (dnD h (xZ xs (i + 1))) (dnE h cS) (dnF h su st)) ++ ((airW ad 8 cy h su 0 0 0 (fun _ => 0) (fun _ => 0) (dnD h 0) (dnE h (fun _ => 0)) (dnF h su 0)) ++ ((grdW ad 15 cy sea noi) ++ ((rayW ad 18 cy (ur 0) (ur 1) (ur 2) (ur 3) (ur 4) (ur 5) (ur 6) (ur 7)) ++ ((sndW ad 19 cy 12 sn pl pw an hd fq) ++ ((sndW ad 25 cy 6 bn bp bw ban bhd bo) ++ ((conW ad 31 cy cm c1 c2 c3 c4 c5) ++ ((entW ad 37 cy em ep e1 e2 e3 e4 e5) ++ (outW od 0 cy fl)))))))))) ++ (mdlW bd 0 cy th h su st sh fl 0 sn bn fm fr cm em lg le lf dl cS cH sea noi pl pw an hd bp bo bw c1 c2 c3 c4 c5 e1 e2 e3 e4 e5)) := hD
    refine lv_istore (lv' := [(5, .int (iI 0)), (0, .ref (b)), (1, .ref (ad 0)), (2, .ref (bd 0)), (3, .ref (od 0)), (4, .int (iI i))]) M.1 M.2.1 dL_law_283 hl (by decide) rfl (fun ls hl => ?_)
    refine lv_aload_n M.1 M.2.1 dL_law_285 rfl (lv_at hl 3 rfl) ?_
    refine lv_aload_n M.1 M.2.1 dL_law_286 rfl (lv_at hl 1 rfl) ?_
    refine lv_iload M.1 M.2.1 dL_law_287 (lv_at hl 5 rfl) ?_
    refine zi_push M dL_law_289 ?_
    refine zi_iadd M dL_law_290 ?_
    refine zi_sld M hX hbl hbA hS hL (by omega) (by omega) dL_law_291 ?_
    have hx_3 := xZ_rg xs (i + 1)
    have hPx := hP
    have hP := hPm
    have hPm := hPx
    have hD := zD_c hD
    refine z_cW2 (z_runV (As := [.int (iI (xZ xs (i + 1)))]) (rest := []) M (c_X7_flare l D cy z0 bd th h su st sh fl 0 sn bn fm fr cm em lg le lf dl cS cH sea noi pl pw an hd bp bo bw c1 c2 c3 c4 c5 e1 e2 e3 e4 e5 (xZ xs (i + 1)) (by omega)) hE hS hAz (z_cut hP (zD_l hD) hAz [0, 1, 2, 3, 4, 5, 6, 7, 8, 9, 10, 11, 12, 13, 14, 15, 16, 17, 18, 19, 20, 21] rfl (by decide +kernel)) (zRc.of (ci := 7) (q0 := 0) hE hP rfl rfl) zk_cd_X7_flare zk_in_RX7 zk_im_X7_flare zk_se_X7_flare zk_ml_RL_126 rfl rfl zd_X7_flare ⟨by decide, by decide⟩ rfl hl.1 rfl (Nat.le_of_ble_eq_true rfl) dL_law_292 ⟨by show _ ≤ 601024; omega, by show _ ≤ 7293034; omega⟩) hP hPm hD hS [0, 1, 2, 3, 4, 5, 6, 7, 8, 9, 10, 11, 12, 13, 14, 15, 16, 17, 18, 19, 20, 21] rfl (fun _ => by simp only [List.map_append, mdlW_adr]) (fun r_4 u_4 H locs hp_4 hP hPm hD hS => ?_)
    try simp only [mdD_0, mdE_0, mdF_0, mdD_1, mdE_1, mdF_1] at hp_4
    have hP : va_P D vwCl (mdlW bd 0 cy u_4 h su st sh (if u_4 = 0 then (xZ xs (i + 1)) else fl) 0 sn bn fm fr cm em lg le lf dl cS cH sea noi pl pw an hd bp bo bw c1 c2 c3 c4 c5 e1 e2 e3 e4 e5) H := hP
    have hD : va_D (fun q => z0 ≤ q) ((mdlW bd 0 cy u_4 h su st sh (if u_4 = 0 then (xZ xs (i + 1)) else fl) 0 sn bn fm fr cm em lg le lf dl cS cH sea noi pl pw an hd bp bo bw c1 c2 c3 c4 c5 e1 e2 e3 e4 e5) ++ ((rooW ad 0 cy fm fr) ++ ((airW ad 1 cy h su st sh (xZ xs (i + 1)) cS cH (dnD h (xZ xs (i + 1))) (dnE h cS) (dnF h su st)) ++ ((airW ad 8 cy h su 0 0 0 (fun _ => 0) (fun _ => 0) (dnD h 0) (dnE h (fun _ => 0)) (dnF h su 0)) ++ ((grdW ad 15 cy sea noi) ++ ((rayW ad 18 cy (ur 0) (ur 1) (ur 2) (ur 3) (ur 4) (ur 5) (ur 6) (ur 7)) ++ ((sndW ad 19 cy 12 sn pl pw an hd fq) ++ ((sndW ad 25 cy 6 bn bp bw ban bhd bo) ++ ((conW ad 31 cy cm c1 c2 c3 c4 c5) ++ ((entW ad 37 cy em ep e1 e2 e3 e4 e5) ++ (outW od 0 cy fl))))))))))) := hD
    rcases hp_4 with ⟨rfl, hN_4, rfl⟩ | ⟨rfl, hN_4, rfl⟩
    ·
      have hP : va_P D vwCl (mdlW bd 0 cy 0 h su st sh (xZ xs (i + 1)) 0 sn bn fm fr cm em lg le lf dl cS cH sea noi pl pw an hd bp bo bw c1 c2 c3 c4 c5 e1 e2 e3 e4 e5) H := hP
      have hD : va_D (fun q => z0 ≤ q) ((mdlW bd 0 cy 0 h su st sh (xZ xs (i + 1)) 0 sn bn fm fr cm em lg le lf dl cS cH sea noi pl pw an hd bp bo bw c1 c2 c3 c4 c5 e1 e2 e3 e4 e5) ++ ((rooW ad 0 cy fm fr) ++ ((airW ad 1 cy h su st sh (xZ xs (i + 1)) cS cH (dnD h (xZ xs (i + 1))) (dnE h cS) (dnF h su st)) ++ ((airW ad 8 cy h su 0 0 0 (fun _ => 0) (fun _ => 0) (dnD h 0) (dnE h (fun _ => 0)) (dnF h su 0)) ++ ((grdW ad 15 cy sea noi) ++ ((rayW ad 18 cy (ur 0) (ur 1) (ur 2) (ur 3) (ur 4) (ur 5) (ur 6) (ur 7)) ++ ((sndW ad 19 cy 12 sn pl pw an hd fq) ++ ((sndW ad 25 cy 6 bn bp bw ban bhd bo) ++ ((conW ad 31 cy cm c1 c2 c3 c4 c5) ++ ((entW ad 37 cy em ep e1 e2 e3 e4 e5) ++ (outW od 0 cy fl))))))))))) := hD
      refine lv_istore (lv' := [(6, .int (iI fl)), (5, .int (iI 0)), (0, .ref (b)), (1, .ref (ad 0)), (2, .ref (bd 0)), (3, .ref (od 0)), (4, .int (iI i))]) M.1 M.2.1 dL_law_295 hl (by decide) rfl (fun ls hl => ?_)
      refine lv_aload_n M.1 M.2.1 dL_law_297 rfl (lv_at hl 4 rfl) ?_
      refine z_cR (z_runV (As := []) (rest := []) M (c_X7_thrown l D cy z0 bd 0 h su st sh (xZ xs (i + 1)) 0 sn bn fm fr cm em lg le lf dl cS cH sea noi pl pw an hd bp bo bw c1 c2 c3 c4 c5 e1 e2 e3 e4 e5) hE hS hAz hP (zRc.of (ci := 7) (q0 := 0) hE hP rfl rfl) zk_cd_X7_thrown zk_in_RX7 zk_im_X7_thrown zk_se_X7_thrown zk_ml_RL_116 rfl rfl zd_X7_thrown ⟨by decide, by decide⟩ rfl hl.1 rfl (Nat.le_of_ble_eq_true rfl) dL_law_298 ⟨by show _ ≤ 601024; omega, by show _ ≤ 7293034; omega⟩) ?_
      refine lv_iload M.1 M.2.1 dL_law_301 (lv_at hl 1 rfl) ?_
      refine zi_same (tgt := 308) M dL_law_303 (by decide) ?_
      refine lv_iload M.1 M.2.1 dL_law_308 (lv_at hl 1 rfl) ?_
      refine zi_if_ne (tgt := 325) M dL_law_310 (by decide) ⟨by decide, by decide⟩ (fun q => absurd q (by decide)) (fun _ => ?_)
      refine lv_aload_n M.1 M.2.1 dL_law_313 rfl (lv_at hl 5 rfl) ?_
      refine zi_push M dL_law_314 ?_
      refine zi_lald M hE hPm 43 rfl dL_law_315 ?_
      refine lv_iload M.1 M.2.1 dL_law_316 (lv_at hl 0 rfl) ?_
      refine zi_i2l M dL_law_318 ?_
      refine zi_lcmpE M dL_law_319 ?_
      refine zi_if_eq (tgt := 325) M dL_law_320 (by decide) ⟨by decide, by decide⟩ (fun _ => ?_) (fun q => absurd q (by decide))
      refine zi_goto (tgt := 2286) M dL_law_325 (by decide) ?_
      have hPx := hP
      have hP := hPm
      have hPm := hPx
      have hD := zD_c hD
      refine W.widen (k := cells + 6) (n := slots + 36) (by omega) (by omega) ?_
      exact hback h su st sh (xZ xs (i + 1)) sn bn cm em ep fm fr 0 fl lg le lf dl cS cH sea noi pl pw an hd fq bp bw ban bhd bo c1 c2 c3 c4 c5 e1 e2 e3 e4 e5 ur h_h h_su h_st h_sh (by omega) h_sn h_bn h_cm h_em g_cS g_cH g_sea g_noi g_pl g_pw g_an g_hd g_bp g_bw g_ban g_bhd g_c1 g_c2 g_c3 g_c4 g_c5 g_e1 g_e2 g_e3 g_e4 g_e5 hbo hep H locs hP hPm hD hS ls (lv_sub hl [2, 3, 4, 5, 6] rfl)
    ·
      have hP : va_P D vwCl (mdlW bd 0 cy 1 h su st sh fl 0 sn bn fm fr cm em lg le lf dl cS cH sea noi pl pw an hd bp bo bw c1 c2 c3 c4 c5 e1 e2 e3 e4 e5) H := hP
      have hD : va_D (fun q => z0 ≤ q) ((mdlW bd 0 cy 1 h su st sh fl 0 sn bn fm fr cm em lg le lf dl cS cH sea noi pl pw an hd bp bo bw c1 c2 c3 c4 c5 e1 e2 e3 e4 e5) ++ ((rooW ad 0 cy fm fr) ++ ((airW ad 1 cy h su st sh (xZ xs (i + 1)) cS cH (dnD h (xZ xs (i + 1))) (dnE h cS) (dnF h su st)) ++ ((airW ad 8 cy h su 0 0 0 (fun _ => 0) (fun _ => 0) (dnD h 0) (dnE h (fun _ => 0)) (dnF h su 0)) ++ ((grdW ad 15 cy sea noi) ++ ((rayW ad 18 cy (ur 0) (ur 1) (ur 2) (ur 3) (ur 4) (ur 5) (ur 6) (ur 7)) ++ ((sndW ad 19 cy 12 sn pl pw an hd fq) ++ ((sndW ad 25 cy 6 bn bp bw ban bhd bo) ++ ((conW ad 31 cy cm c1 c2 c3 c4 c5) ++ ((entW ad 37 cy em ep e1 e2 e3 e4 e5) ++ (outW od 0 cy fl))))))))))) := hD
      exfalso
      omega
  ·
    have hw_2 := hv_2.symm
    subst hw_2
    have hP : va_P D vwCl ((rooW ad 0 cy fm fr) ++ ((airW ad 1 cy h su st sh fl cS cH (dnD h fl) (dnE h cS) (dnF h su st)) ++ ((airW ad 8 cy h su 0 0 0 (fun _ => 0) (fun _ => 0) (dnD h 0) (dnE h (fun _ => 0)) (dnF h su 0)) ++ ((grdW ad 15 cy sea noi) ++ ((rayW ad 18 cy (ur 0) (ur 1) (ur 2) (ur 3) (ur 4) (ur 5) (ur 6) (ur 7)) ++ ((sndW ad 19 cy 12 sn pl pw an hd fq) ++ ((sndW ad 25 cy 6 bn bp bw ban bhd bo) ++ ((conW ad 31 cy cm c1 c2 c3 c4 c5) ++ ((entW ad 37 cy em ep e1 e2 e3 e4 e5) ++ (outW od 0 cy o)))))))))) H := hP
    have hD : va_D (fun q => z0 ≤ q) (((rooW ad 0 cy fm fr) ++ ((airW ad 1 cy h su st sh fl cS cH (dnD h fl) (dnE h cS) (dnF h su st)) ++ ((airW ad 8 cy h su 0 0 0 (fun _ => 0) (fun _ => 0) (dnD h 0) (dnE h (fun _ => 0)) (dnF h su 0)) ++ ((grdW ad 15 cy sea noi) ++ ((rayW ad 18 cy (ur 0) (ur 1) (ur 2) (ur 3) (ur 4) (ur 5) (ur 6) (ur 7)) ++ ((sndW ad 19 cy 12 sn pl pw an hd fq) ++ ((sndW ad 25 cy 6 bn bp bw ban bhd bo) ++ ((conW ad 31 cy cm c1 c2 c3 c4 c5) ++ ((entW ad 37 cy em ep e1 e2 e3 e4 e5) ++ (outW od 0 cy o)))))))))) ++ (mdlW bd 0 cy th h su st sh fl 0 sn bn fm fr cm em lg le lf dl cS cH sea noi pl pw an hd bp bo bw c1 c2 c3 c4 c5 e1 e2 e3 e4 e5)) := hD
    refine lv_istore (lv' := [(5, .int (iI 1)), (0, .ref (b)), (1, .ref (ad 0)), (2, .ref (bd 0)), (3, .ref (od 0)), (4, .int (iI i))]) M.1 M.2.1 dL_law_283 hl (by decide) rfl (fun ls hl => ?_)
    refine lv_aload_n M.1 M.2.1 dL_law_285 rfl (lv_at hl 3 rfl) ?_
    refine lv_aload_n M.1 M.2.1 dL_law_286 rfl (lv_at hl 1 rfl) ?_
    refine lv_iload M.1 M.2.1 dL_law_287 (lv_at hl 5 rfl) ?_
    refine zi_push M dL_law_289 ?_
    refine zi_iadd M dL_law_290 ?_
    refine zi_sld M hX hbl hbA hS hL (by omega) (by omega) dL_law_291 ?_
    have hx_5 := xZ_rg xs (i + 1)
    have hPx := hP
    have hP := hPm
    have hPm := hPx
    have hD := zD_c hD
    refine z_cW2 (z_runV (As := [.int (iI (xZ xs (i + 1)))]) (rest := []) M (c_X7_flare l D cy z0 bd th h su st sh fl 0 sn bn fm fr cm em lg le lf dl cS cH sea noi pl pw an hd bp bo bw c1 c2 c3 c4 c5 e1 e2 e3 e4 e5 (xZ xs (i + 1)) (by omega)) hE hS hAz (z_cut hP (zD_l hD) hAz [0, 1, 2, 3, 4, 5, 6, 7, 8, 9, 10, 11, 12, 13, 14, 15, 16, 17, 18, 19, 20, 21] rfl (by decide +kernel)) (zRc.of (ci := 7) (q0 := 0) hE hP rfl rfl) zk_cd_X7_flare zk_in_RX7 zk_im_X7_flare zk_se_X7_flare zk_ml_RL_126 rfl rfl zd_X7_flare ⟨by decide, by decide⟩ rfl hl.1 rfl (Nat.le_of_ble_eq_true rfl) dL_law_292 ⟨by show _ ≤ 601024; omega, by show _ ≤ 7293034; omega⟩) hP hPm hD hS [0, 1, 2, 3, 4, 5, 6, 7, 8, 9, 10, 11, 12, 13, 14, 15, 16, 17, 18, 19, 20, 21] rfl (fun _ => by simp only [List.map_append, mdlW_adr]) (fun r_6 u_6 H locs hp_6 hP hPm hD hS => ?_)
    try simp only [mdD_0, mdE_0, mdF_0, mdD_1, mdE_1, mdF_1] at hp_6
    have hP : va_P D vwCl (mdlW bd 0 cy u_6 h su st sh (if u_6 = 0 then (xZ xs (i + 1)) else fl) 0 sn bn fm fr cm em lg le lf dl cS cH sea noi pl pw an hd bp bo bw c1 c2 c3 c4 c5 e1 e2 e3 e4 e5) H := hP
    have hD : va_D (fun q => z0 ≤ q) ((mdlW bd 0 cy u_6 h su st sh (if u_6 = 0 then (xZ xs (i + 1)) else fl) 0 sn bn fm fr cm em lg le lf dl cS cH sea noi pl pw an hd bp bo bw c1 c2 c3 c4 c5 e1 e2 e3 e4 e5) ++ ((rooW ad 0 cy fm fr) ++ ((airW ad 1 cy h su st sh fl cS cH (dnD h fl) (dnE h cS) (dnF h su st)) ++ ((airW ad 8 cy h su 0 0 0 (fun _ => 0) (fun _ => 0) (dnD h 0) (dnE h (fun _ => 0)) (dnF h su 0)) ++ ((grdW ad 15 cy sea noi) ++ ((rayW ad 18 cy (ur 0) (ur 1) (ur 2) (ur 3) (ur 4) (ur 5) (ur 6) (ur 7)) ++ ((sndW ad 19 cy 12 sn pl pw an hd fq) ++ ((sndW ad 25 cy 6 bn bp bw ban bhd bo) ++ ((conW ad 31 cy cm c1 c2 c3 c4 c5) ++ ((entW ad 37 cy em ep e1 e2 e3 e4 e5) ++ (outW od 0 cy o))))))))))) := hD
    rcases hp_6 with ⟨rfl, hN_6, rfl⟩ | ⟨rfl, hN_6, rfl⟩
    ·
      have hP : va_P D vwCl (mdlW bd 0 cy 0 h su st sh (xZ xs (i + 1)) 0 sn bn fm fr cm em lg le lf dl cS cH sea noi pl pw an hd bp bo bw c1 c2 c3 c4 c5 e1 e2 e3 e4 e5) H := hP
      have hD : va_D (fun q => z0 ≤ q) ((mdlW bd 0 cy 0 h su st sh (xZ xs (i + 1)) 0 sn bn fm fr cm em lg le lf dl cS cH sea noi pl pw an hd bp bo bw c1 c2 c3 c4 c5 e1 e2 e3 e4 e5) ++ ((rooW ad 0 cy fm fr) ++ ((airW ad 1 cy h su st sh fl cS cH (dnD h fl) (dnE h cS) (dnF h su st)) ++ ((airW ad 8 cy h su 0 0 0 (fun _ => 0) (fun _ => 0) (dnD h 0) (dnE h (fun _ => 0)) (dnF h su 0)) ++ ((grdW ad 15 cy sea noi) ++ ((rayW ad 18 cy (ur 0) (ur 1) (ur 2) (ur 3) (ur 4) (ur 5) (ur 6) (ur 7)) ++ ((sndW ad 19 cy 12 sn pl pw an hd fq) ++ ((sndW ad 25 cy 6 bn bp bw ban bhd bo) ++ ((conW ad 31 cy cm c1 c2 c3 c4 c5) ++ ((entW ad 37 cy em ep e1 e2 e3 e4 e5) ++ (outW od 0 cy o))))))))))) := hD
      exfalso
      omega
    ·
      have hP : va_P D vwCl (mdlW bd 0 cy 1 h su st sh fl 0 sn bn fm fr cm em lg le lf dl cS cH sea noi pl pw an hd bp bo bw c1 c2 c3 c4 c5 e1 e2 e3 e4 e5) H := hP
      have hD : va_D (fun q => z0 ≤ q) ((mdlW bd 0 cy 1 h su st sh fl 0 sn bn fm fr cm em lg le lf dl cS cH sea noi pl pw an hd bp bo bw c1 c2 c3 c4 c5 e1 e2 e3 e4 e5) ++ ((rooW ad 0 cy fm fr) ++ ((airW ad 1 cy h su st sh fl cS cH (dnD h fl) (dnE h cS) (dnF h su st)) ++ ((airW ad 8 cy h su 0 0 0 (fun _ => 0) (fun _ => 0) (dnD h 0) (dnE h (fun _ => 0)) (dnF h su 0)) ++ ((grdW ad 15 cy sea noi) ++ ((rayW ad 18 cy (ur 0) (ur 1) (ur 2) (ur 3) (ur 4) (ur 5) (ur 6) (ur 7)) ++ ((sndW ad 19 cy 12 sn pl pw an hd fq) ++ ((sndW ad 25 cy 6 bn bp bw ban bhd bo) ++ ((conW ad 31 cy cm c1 c2 c3 c4 c5) ++ ((entW ad 37 cy em ep e1 e2 e3 e4 e5) ++ (outW od 0 cy o))))))))))) := hD
      refine lv_istore (lv' := [(6, .int (iI 0)), (5, .int (iI 1)), (0, .ref (b)), (1, .ref (ad 0)), (2, .ref (bd 0)), (3, .ref (od 0)), (4, .int (iI i))]) M.1 M.2.1 dL_law_295 hl (by decide) rfl (fun ls hl => ?_)
      refine lv_aload_n M.1 M.2.1 dL_law_297 rfl (lv_at hl 4 rfl) ?_
      refine z_cR (z_runV (As := []) (rest := []) M (c_X7_thrown l D cy z0 bd 1 h su st sh fl 0 sn bn fm fr cm em lg le lf dl cS cH sea noi pl pw an hd bp bo bw c1 c2 c3 c4 c5 e1 e2 e3 e4 e5) hE hS hAz hP (zRc.of (ci := 7) (q0 := 0) hE hP rfl rfl) zk_cd_X7_thrown zk_in_RX7 zk_im_X7_thrown zk_se_X7_thrown zk_ml_RL_116 rfl rfl zd_X7_thrown ⟨by decide, by decide⟩ rfl hl.1 rfl (Nat.le_of_ble_eq_true rfl) dL_law_298 ⟨by show _ ≤ 601024; omega, by show _ ≤ 7293034; omega⟩) ?_
      refine lv_iload M.1 M.2.1 dL_law_301 (lv_at hl 1 rfl) ?_
      refine zi_same (tgt := 308) M dL_law_303 (by decide) ?_
      refine lv_iload M.1 M.2.1 dL_law_308 (lv_at hl 1 rfl) ?_
      refine zi_if_ne (tgt := 325) M dL_law_310 (by decide) ⟨by decide, by decide⟩ (fun _ => ?_) (fun q => absurd q (by decide))
      refine zi_goto (tgt := 2286) M dL_law_325 (by decide) ?_
      have hPx := hP
      have hP := hPm
      have hPm := hPx
      have hD := zD_c hD
      refine W.widen (k := cells + 6) (n := slots + 36) (by omega) (by omega) ?_
      exact hback h su st sh fl sn bn cm em ep fm fr 1 o lg le lf dl cS cH sea noi pl pw an hd fq bp bw ban bhd bo c1 c2 c3 c4 c5 e1 e2 e3 e4 e5 ur h_h h_su h_st h_sh h_fl h_sn h_bn h_cm h_em g_cS g_cH g_sea g_noi g_pl g_pw g_an g_hd g_bp g_bw g_ban g_bhd g_c1 g_c2 g_c3 g_c4 g_c5 g_e1 g_e2 g_e3 g_e4 g_e5 hbo hep H locs hP hPm hD hS ls (lv_sub hl [2, 3, 4, 5, 6] rfl)

set_option maxRecDepth 100000 in
set_option maxHeartbeats 8000000 in
theorem lw_case3 (l : Launch) (D : va_G) (cy : Nat → ClassId) (z0 : Nat) (ad bd od : Nat → Nat) (p : Program) (e : Env) (s : State) (m : MethodId) (args : Array Value) (below : List Frame) (meth : Method) (c : Code) (b : Nat) (i : Int) (Q : State → Prop) (cells slots : Nat) (hst : l.stackTraces = false) (hL7 : ∀ q : Nat, q = 0 → True) (b_L : Nat) (xs : Nat → Int32) (M : zM p s m args c cL_law RL 7) (hE : zE D cy z0 s) (hN : zNc s) (hL : b_L ≤ 3584) (hX : va_X b b_L xs s s.heap) (hbl : b < s.heap.size) (hbA : ¬ z0 ≤ b) (hi : 0 ≤ i ∧ i + 7 ≤ b_L) (hc : cells + 6 ≤ 601024) (hs : slots + 36 ≤ 7293034) (hback : lwB l D cy z0 ad bd od p e s m args below meth c b i Q cells slots) (h su st sh fl sn bn cm em ep fm fr th o lg le lf dl : Int) (cS cH sea noi pl pw an hd fq bp bw ban bhd bo c1 c2 c3 c4 c5 e1 e2 e3 e4 e5 : Int → Int) (ur : Nat → Int) (h_h : 0 ≤ h ∧ h ≤ 5000) (h_su : 0 ≤ su ∧ su ≤ 100) (h_st : 0 ≤ st ∧ st ≤ 60) (h_sh : 0 ≤ sh ∧ sh ≤ 72) (h_fl : 0 ≤ fl ∧ fl ≤ 80) (h_sn : 0 ≤ sn ∧ sn ≤ 12) (h_bn : 0 ≤ bn ∧ bn ≤ 6) (h_cm : 0 ≤ cm ∧ cm ≤ 60) (h_em : 0 ≤ em ∧ em ≤ 80) (g_cS : zrg 48 0 100 cS) (g_cH : zrg 48 0 24 cH) (g_sea : zrg 48 0 1 sea) (g_noi : zrg 48 0 40 noi) (g_pl : zrg 12 0 47 pl) (g_pw : zrg 12 0 80 pw) (g_an : zrg 12 0 2 an) (g_hd : zrg 12 0 2 hd) (g_bp : zrg 6 0 47 bp) (g_bw : zrg 6 0 80 bw) (g_ban : zrg 6 0 2 ban) (g_bhd : zrg 6 0 2 bhd) (g_c1 : zrg 60 0 11 c1) (g_c2 : zrg 60 0 11 c2) (g_c3 : zrg 60 0 300 c3) (g_c4 : zrg 60 0 2 c4) (g_c5 : zrg 60 0 5000 c5) (g_e1 : zrg 80 0 11 e1) (g_e2 : zrg 80 0 11 e2) (g_e3 : zrg 80 0 300 e3) (g_e4 : zrg 80 0 5000 e4) (g_e5 : zrg 80 (-1) 79 e5) (hbo : ∀ n : Int, 0 ≤ n → n < bn → (10 ≤ bo n ∧ bo n ≤ 300) ∧ ban n = 2 ∧ bhd n = 2) (hep : ep = prF e5 em.toNat) (H : Heap) (locs : List Loc) (hP : va_P D vwCl ((rooW ad 0 cy fm fr) ++ ((airW ad 1 cy h su st sh fl cS cH (dnD h fl) (dnE h cS) (dnF h su st)) ++ ((airW ad 8 cy h su 0 0 0 (fun _ => 0) (fun _ => 0) (dnD h 0) (dnE h (fun _ => 0)) (dnF h su 0)) ++ ((grdW ad 15 cy sea noi) ++ ((rayW ad 18 cy (ur 0) (ur 1) (ur 2) (ur 3) (ur 4) (ur 5) (ur 6) (ur 7)) ++ ((sndW ad 19 cy 12 sn pl pw an hd fq) ++ ((sndW ad 25 cy 6 bn bp bw ban bhd bo) ++ ((conW ad 31 cy cm c1 c2 c3 c4 c5) ++ ((entW ad 37 cy em ep e1 e2 e3 e4 e5) ++ (outW od 0 cy o)))))))))) H) (hPm : va_P D vwCl (mdlW bd 0 cy th h su st sh fl 0 sn bn fm fr cm em lg le lf dl cS cH sea noi pl pw an hd bp bo bw c1 c2 c3 c4 c5 e1 e2 e3 e4 e5) H) (hD : va_D (fun q => z0 ≤ q) (((rooW ad 0 cy fm fr) ++ ((airW ad 1 cy h su st sh fl cS cH (dnD h fl) (dnE h cS) (dnF h su st)) ++ ((airW ad 8 cy h su 0 0 0 (fun _ => 0) (fun _ => 0) (dnD h 0) (dnE h (fun _ => 0)) (dnF h su 0)) ++ ((grdW ad 15 cy sea noi) ++ ((rayW ad 18 cy (ur 0) (ur 1) (ur 2) (ur 3) (ur 4) (ur 5) (ur 6) (ur 7)) ++ ((sndW ad 19 cy 12 sn pl pw an hd fq) ++ ((sndW ad 25 cy 6 bn bp bw ban bhd bo) ++ ((conW ad 31 cy cm c1 c2 c3 c4 c5) ++ ((entW ad 37 cy em ep e1 e2 e3 e4 e5) ++ (outW od 0 cy o)))))))))) ++ (mdlW bd 0 cy th h su st sh fl 0 sn bn fm fr cm em lg le lf dl cS cH sea noi pl pw an hd bp bo bw c1 c2 c3 c4 c5 e1 e2 e3 e4 e5))) (hS : va_S (fun q => z0 ≤ q) s.heap H locs) (ls : Array Slot) (hl : lv_has ls 7 [(0, .ref b), (1, .ref (ad 0)), (2, .ref (bd 0)), (3, .ref (od 0)), (4, .int (iI i))]) : W p l e room_1 s m args below meth c H locs (cells) (slots) Q (F0 m 328 ls []) := by
  have hAz : ∀ q : Nat, (fun q => z0 ≤ q) q → z0 ≤ q := fun _ h => h
  refine lv_aload_n M.1 M.2.1 dL_law_328 rfl (lv_at hl 1 rfl) ?_
  refine lv_aload_n M.1 M.2.1 dL_law_329 rfl (lv_at hl 0 rfl) ?_
  refine lv_iload M.1 M.2.1 dL_law_330 (lv_at hl 4 rfl) ?_
  refine zi_push M dL_law_332 ?_
  refine zi_iadd M dL_law_333 ?_
  refine zi_sld M hX hbl hbA hS hL (by omega) (by omega) dL_law_334 ?_
  have hx_1 := xZ_rg xs (i + 1)
  refine lv_aload_n M.1 M.2.1 dL_law_335 rfl (lv_at hl 0 rfl) ?_
  refine lv_iload M.1 M.2.1 dL_law_336 (lv_at hl 4 rfl) ?_
  refine zi_push M dL_law_338 ?_
  refine zi_iadd M dL_law_339 ?_
  refine zi_sld M hX hbl hbA hS hL (by omega) (by omega) dL_law_340 ?_
  have hx_2 := xZ_rg xs (i + 2)
  refine lv_aload_n M.1 M.2.1 dL_law_341 rfl (lv_at hl 0 rfl) ?_
  refine lv_iload M.1 M.2.1 dL_law_342 (lv_at hl 4 rfl) ?_
  refine zi_push M dL_law_344 ?_
  refine zi_iadd M dL_law_345 ?_
  refine zi_sld M hX hbl hbA hS hL (by omega) (by omega) dL_law_346 ?_
  have hx_3 := xZ_rg xs (i + 3)
  refine z_cW2 (zx_runH (As := [.ref (ad 0), .int (iI (xZ xs (i + 1))), .int (iI (xZ xs (i + 2))), .int (iI (xZ xs (i + 3)))]) (rest := []) M (c_L_cloud l hst D cy z0 ad fm fr h su st sh fl cS cH (dnD h fl) (dnE h cS) (dnF h su st) (xZ xs (i + 1)) (xZ xs (i + 2)) (xZ xs (i + 3)) (by omega) (by omega) (by omega) (by omega) (by omega) (by omega) (by omega) (by omega) g_cS g_cH) hE hN hS hAz (z_cut hP (zD_l hD) hAz [0, 1, 2, 3, 4, 5, 6, 7] rfl (by decide +kernel)) zk_cw_L_cloud zk_in_RL zk_st_L_cloud zk_ml_RL_127 rfl rfl zd_L_cloud ⟨by decide, by decide⟩ rfl hl.1 rfl (Nat.le_of_ble_eq_true rfl) dL_law_347 ⟨by show _ ≤ 601024; omega, by show _ ≤ 7293034; omega⟩) hP hPm hD hS [0, 1, 2, 3, 4, 5, 6, 7] rfl (fun _ => by simp only [List.map_append, airW_adr, rooW_adr]) (fun r_4 u_4 H locs hp_4 hP hPm hD hS => ?_)
  have hP : va_P D vwCl ((rooW ad 0 cy fm fr) ++ ((airW ad 1 cy h su st sh fl (if u_4.1 = 0 then (zu cS (xZ xs (i + 1)) (xZ xs (i + 2))) else cS) (if u_4.1 = 0 then (zu cH (xZ xs (i + 1)) (xZ xs (i + 3))) else cH) (if u_4.1 = 0 then (dnD h fl) else (dnD h fl)) (if u_4.1 = 0 then (dnE h (zu cS (xZ xs (i + 1)) (xZ xs (i + 2)))) else (dnE h cS)) (if u_4.1 = 0 then (dnF h su st) else (dnF h su st))) ++ ((airW ad 8 cy h su 0 0 0 (fun _ => 0) (fun _ => 0) (dnD h 0) (dnE h (fun _ => 0)) (dnF h su 0)) ++ ((grdW ad 15 cy sea noi) ++ ((rayW ad 18 cy (ur 0) (ur 1) (ur 2) (ur 3) (ur 4) (ur 5) (ur 6) (ur 7)) ++ ((sndW ad 19 cy 12 sn pl pw an hd fq) ++ ((sndW ad 25 cy 6 bn bp bw ban bhd bo) ++ ((conW ad 31 cy cm c1 c2 c3 c4 c5) ++ ((entW ad 37 cy em ep e1 e2 e3 e4 e5) ++ (outW od 0 cy o)))))))))) H := hP
  have hD : va_D (fun q => z0 ≤ q) (((rooW ad 0 cy fm fr) ++ ((airW ad 1 cy h su st sh fl (if u_4.1 = 0 then (zu cS (xZ xs (i + 1)) (xZ xs (i + 2))) else cS) (if u_4.1 = 0 then (zu cH (xZ xs (i + 1)) (xZ xs (i + 3))) else cH) (if u_4.1 = 0 then (dnD h fl) else (dnD h fl)) (if u_4.1 = 0 then (dnE h (zu cS (xZ xs (i + 1)) (xZ xs (i + 2)))) else (dnE h cS)) (if u_4.1 = 0 then (dnF h su st) else (dnF h su st))) ++ ((airW ad 8 cy h su 0 0 0 (fun _ => 0) (fun _ => 0) (dnD h 0) (dnE h (fun _ => 0)) (dnF h su 0)) ++ ((grdW ad 15 cy sea noi) ++ ((rayW ad 18 cy (ur 0) (ur 1) (ur 2) (ur 3) (ur 4) (ur 5) (ur 6) (ur 7)) ++ ((sndW ad 19 cy 12 sn pl pw an hd fq) ++ ((sndW ad 25 cy 6 bn bp bw ban bhd bo) ++ ((conW ad 31 cy cm c1 c2 c3 c4 c5) ++ ((entW ad 37 cy em ep e1 e2 e3 e4 e5) ++ (outW od 0 cy o)))))))))) ++ (mdlW bd 0 cy th h su st sh fl 0 sn bn fm fr cm em lg le lf dl cS cH sea noi pl pw an hd bp bo bw c1 c2 c3 c4 c5 e1 e2 e3 e4 e5)) := hD
  obtain ⟨u1_4, u2_4, u3_4⟩ := u_4
  dsimp only at hp_4
  rcases hp_4 with ⟨rfl, rfl, hN_4⟩ | ⟨rfl, rfl, hN_4⟩ | ⟨rfl, rfl, hN_4⟩
  ·
    have hP : va_P D vwCl ((rooW ad 0 cy fm fr) ++ ((airW ad 1 cy h su st sh fl (zu cS (xZ xs (i + 1)) (xZ xs (i + 2))) (zu cH (xZ xs (i + 1)) (xZ xs (i + 3))) (dnD h fl) (dnE h (zu cS (xZ xs (i + 1)) (xZ xs (i + 2)))) (dnF h su st)) ++ ((airW ad 8 cy h su 0 0 0 (fun _ => 0) (fun _ => 0) (dnD h 0) (dnE h (fun _ => 0)) (dnF h su 0)) ++ ((grdW ad 15 cy sea noi) ++ ((rayW ad 18 cy (ur 0) (ur 1) (ur 2) (ur 3) (ur 4) (ur 5) (ur 6) (ur 7)) ++ ((sndW ad 19 cy 12 sn pl pw an hd fq) ++ ((sndW ad 25 cy 6 bn bp bw ban bhd bo) ++ ((conW ad 31 cy cm c1 c2 c3 c4 c5) ++ ((entW ad 37 cy em ep e1 e2 e3 e4 e5) ++ (outW od 0 cy o)))))))))) H := hP
    have hD : va_D (fun q => z0 ≤ q) (((rooW ad 0 cy fm fr) ++ ((airW ad 1 cy h su st sh fl (zu cS (xZ xs (i + 1)) (xZ xs (i + 2))) (zu cH (xZ xs (i + 1)) (xZ xs (i + 3))) (dnD h fl) (dnE h (zu cS (xZ xs (i + 1)) (xZ xs (i + 2)))) (dnF h su st)) ++ ((airW ad 8 cy h su 0 0 0 (fun _ => 0) (fun _ => 0) (dnD h 0) (dnE h (fun _ => 0)) (dnF h su 0)) ++ ((grdW ad 15 cy sea noi) ++ ((rayW ad 18 cy (ur 0) (ur 1) (ur 2) (ur 3) (ur 4) (ur 5) (ur 6) (ur 7)) ++ ((sndW ad 19 cy 12 sn pl pw an hd fq) ++ ((sndW ad 25 cy 6 bn bp bw ban bhd bo) ++ ((conW ad 31 cy cm c1 c2 c3 c4 c5) ++ ((entW ad 37 cy em ep e1 e2 e3 e4 e5) ++ (outW od 0 cy o)))))))))) ++ (mdlW bd 0 cy th h su st sh fl 0 sn bn fm fr cm em lg le lf dl cS cH sea noi pl pw an hd bp bo bw c1 c2 c3 c4 c5 e1 e2 e3 e4 e5)) := hD
    refine lv_istore (lv' := [(5, .int (iI 0)), (0, .ref (b)), (1, .ref (ad 0)), (2, .ref (bd 0)), (3, .ref (od 0)), (4, .int (iI i))]) M.1 M.2.1 dL_law_350 hl (by decide) rfl (fun ls hl => ?_)
    refine lv_aload_n M.1 M.2.1 dL_law_352 rfl (lv_at hl 3 rfl) ?_
    refine lv_aload_n M.1 M.2.1 dL_law_353 rfl (lv_at hl 1 rfl) ?_
    refine lv_iload M.1 M.2.1 dL_law_354 (lv_at hl 5 rfl) ?_
    refine zi_push M dL_law_356 ?_
    refine zi_iadd M dL_law_357 ?_
    refine zi_sld M hX hbl hbA hS hL (by omega) (by omega) dL_law_358 ?_
    have hx_5 := xZ_rg xs (i + 1)
    refine lv_aload_n M.1 M.2.1 dL_law_359 rfl (lv_at hl 1 rfl) ?_
    refine lv_iload M.1 M.2.1 dL_law_360 (lv_at hl 5 rfl) ?_
    refine zi_push M dL_law_362 ?_
    refine zi_iadd M dL_law_363 ?_
    refine zi_sld M hX hbl hbA hS hL (by omega) (by omega) dL_law_364 ?_
    have hx_6 := xZ_rg xs (i + 2)
    refine lv_aload_n M.1 M.2.1 dL_law_365 rfl (lv_at hl 1 rfl) ?_
    refine lv_iload M.1 M.2.1 dL_law_366 (lv_at hl 5 rfl) ?_
    refine zi_push M dL_law_368 ?_
    refine zi_iadd M dL_law_369 ?_
    refine zi_sld M hX hbl hbA hS hL (by omega) (by omega) dL_law_370 ?_
    have hx_7 := xZ_rg xs (i + 3)
    have hPx := hP
    have hP := hPm
    have hPm := hPx
    have hD := zD_c hD
    refine z_cV2 (z_runV (As := [.int (iI (xZ xs (i + 1))), .int (iI (xZ xs (i + 2))), .int (iI (xZ xs (i + 3)))]) (rest := []) M (c_X7_cloud l D cy z0 bd th h su st sh fl 0 sn bn fm fr cm em lg le lf dl cS cH sea noi pl pw an hd bp bo bw c1 c2 c3 c4 c5 e1 e2 e3 e4 e5 (xZ xs (i + 1)) (xZ xs (i + 2)) (xZ xs (i + 3)) (by omega) (by omega) (by omega)) hE hS hAz (z_cut hP (zD_l hD) hAz [0, 1, 2, 3, 4, 5, 6, 7, 8, 9, 10, 11, 12, 13, 14, 15, 16, 17, 18, 19, 20, 21] rfl (by decide +kernel)) (zRc.of (ci := 7) (q0 := 0) hE hP rfl rfl) zk_cd_X7_cloud zk_in_RX7 zk_im_X7_cloud zk_se_X7_cloud zk_ml_RL_130 rfl rfl zd_X7_cloud ⟨by decide, by decide⟩ rfl hl.1 rfl (Nat.le_of_ble_eq_true rfl) dL_law_371 ⟨by show _ ≤ 601024; omega, by show _ ≤ 7293034; omega⟩) hP hPm hD hS [0, 1, 2, 3, 4, 5, 6, 7, 8, 9, 10, 11, 12, 13, 14, 15, 16, 17, 18, 19, 20, 21] rfl (fun _ => by simp only [List.map_append, mdlW_adr]) (fun u_8 H locs hp_8 hP hPm hD hS => ?_)
    try simp only [mdD_0, mdE_0, mdF_0, mdD_1, mdE_1, mdF_1] at hp_8
    have hP : va_P D vwCl (mdlW bd 0 cy u_8 h su st sh fl 0 sn bn fm fr cm em lg le lf dl (if u_8 = 0 then (zu cS (xZ xs (i + 1)) (xZ xs (i + 2))) else cS) (if u_8 = 0 then (zu cH (xZ xs (i + 1)) (xZ xs (i + 3))) else cH) sea noi pl pw an hd bp bo bw c1 c2 c3 c4 c5 e1 e2 e3 e4 e5) H := hP
    have hD : va_D (fun q => z0 ≤ q) ((mdlW bd 0 cy u_8 h su st sh fl 0 sn bn fm fr cm em lg le lf dl (if u_8 = 0 then (zu cS (xZ xs (i + 1)) (xZ xs (i + 2))) else cS) (if u_8 = 0 then (zu cH (xZ xs (i + 1)) (xZ xs (i + 3))) else cH) sea noi pl pw an hd bp bo bw c1 c2 c3 c4 c5 e1 e2 e3 e4 e5) ++ ((rooW ad 0 cy fm fr) ++ ((airW ad 1 cy h su st sh fl (zu cS (xZ xs (i + 1)) (xZ xs (i + 2))) (zu cH (xZ xs (i + 1)) (xZ xs (i + 3))) (dnD h fl) (dnE h (zu cS (xZ xs (i + 1)) (xZ xs (i + 2)))) (dnF h su st)) ++ ((airW ad 8 cy h su 0 0 0 (fun _ => 0) (fun _ => 0) (dnD h 0) (dnE h (fun _ => 0)) (dnF h su 0)) ++ ((grdW ad 15 cy sea noi) ++ ((rayW ad 18 cy (ur 0) (ur 1) (ur 2) (ur 3) (ur 4) (ur 5) (ur 6) (ur 7)) ++ ((sndW ad 19 cy 12 sn pl pw an hd fq) ++ ((sndW ad 25 cy 6 bn bp bw ban bhd bo) ++ ((conW ad 31 cy cm c1 c2 c3 c4 c5) ++ ((entW ad 37 cy em ep e1 e2 e3 e4 e5) ++ (outW od 0 cy o))))))))))) := hD
    rcases hp_8 with ⟨rfl, hN_8⟩ | ⟨rfl, hN_8⟩ | ⟨rfl, hN_8⟩
    ·
      have hP : va_P D vwCl (mdlW bd 0 cy 0 h su st sh fl 0 sn bn fm fr cm em lg le lf dl (zu cS (xZ xs (i + 1)) (xZ xs (i + 2))) (zu cH (xZ xs (i + 1)) (xZ xs (i + 3))) sea noi pl pw an hd bp bo bw c1 c2 c3 c4 c5 e1 e2 e3 e4 e5) H := hP
      have hD : va_D (fun q => z0 ≤ q) ((mdlW bd 0 cy 0 h su st sh fl 0 sn bn fm fr cm em lg le lf dl (zu cS (xZ xs (i + 1)) (xZ xs (i + 2))) (zu cH (xZ xs (i + 1)) (xZ xs (i + 3))) sea noi pl pw an hd bp bo bw c1 c2 c3 c4 c5 e1 e2 e3 e4 e5) ++ ((rooW ad 0 cy fm fr) ++ ((airW ad 1 cy h su st sh fl (zu cS (xZ xs (i + 1)) (xZ xs (i + 2))) (zu cH (xZ xs (i + 1)) (xZ xs (i + 3))) (dnD h fl) (dnE h (zu cS (xZ xs (i + 1)) (xZ xs (i + 2)))) (dnF h su st)) ++ ((airW ad 8 cy h su 0 0 0 (fun _ => 0) (fun _ => 0) (dnD h 0) (dnE h (fun _ => 0)) (dnF h su 0)) ++ ((grdW ad 15 cy sea noi) ++ ((rayW ad 18 cy (ur 0) (ur 1) (ur 2) (ur 3) (ur 4) (ur 5) (ur 6) (ur 7)) ++ ((sndW ad 19 cy 12 sn pl pw an hd fq) ++ ((sndW ad 25 cy 6 bn bp bw ban bhd bo) ++ ((conW ad 31 cy cm c1 c2 c3 c4 c5) ++ ((entW ad 37 cy em ep e1 e2 e3 e4 e5) ++ (outW od 0 cy o))))))))))) := hD
      refine lv_aload_n M.1 M.2.1 dL_law_374 rfl (lv_at hl 3 rfl) ?_
      refine z_cR (z_runV (As := []) (rest := []) M (c_X7_thrown l D cy z0 bd 0 h su st sh fl 0 sn bn fm fr cm em lg le lf dl (zu cS (xZ xs (i + 1)) (xZ xs (i + 2))) (zu cH (xZ xs (i + 1)) (xZ xs (i + 3))) sea noi pl pw an hd bp bo bw c1 c2 c3 c4 c5 e1 e2 e3 e4 e5) hE hS hAz hP (zRc.of (ci := 7) (q0 := 0) hE hP rfl rfl) zk_cd_X7_thrown zk_in_RX7 zk_im_X7_thrown zk_se_X7_thrown zk_ml_RL_116 rfl rfl zd_X7_thrown ⟨by decide, by decide⟩ rfl hl.1 rfl (Nat.le_of_ble_eq_true rfl) dL_law_375 ⟨by show _ ≤ 601024; omega, by show _ ≤ 7293034; omega⟩) ?_
      refine lv_iload M.1 M.2.1 dL_law_378 (lv_at hl 0 rfl) ?_
      refine zi_same (tgt := 385) M dL_law_380 (by decide) ?_
      refine zi_goto (tgt := 2286) M dL_law_385 (by decide) ?_
      have hPx := hP
      have hP := hPm
      have hPm := hPx
      have hD := zD_c hD
      refine W.widen (k := cells + 6) (n := slots + 36) (by omega) (by omega) ?_
      exact hback h su st sh fl sn bn cm em ep fm fr 0 o lg le lf dl (zu cS (xZ xs (i + 1)) (xZ xs (i + 2))) (zu cH (xZ xs (i + 1)) (xZ xs (i + 3))) sea noi pl pw an hd fq bp bw ban bhd bo c1 c2 c3 c4 c5 e1 e2 e3 e4 e5 ur h_h h_su h_st h_sh h_fl h_sn h_bn h_cm h_em (zrg_zu g_cS (by omega)) (zrg_zu g_cH (by omega)) g_sea g_noi g_pl g_pw g_an g_hd g_bp g_bw g_ban g_bhd g_c1 g_c2 g_c3 g_c4 g_c5 g_e1 g_e2 g_e3 g_e4 g_e5 hbo hep H locs hP hPm hD hS ls (lv_sub hl [1, 2, 3, 4, 5] rfl)
    ·
      have hP : va_P D vwCl (mdlW bd 0 cy 1 h su st sh fl 0 sn bn fm fr cm em lg le lf dl cS cH sea noi pl pw an hd bp bo bw c1 c2 c3 c4 c5 e1 e2 e3 e4 e5) H := hP
      have hD : va_D (fun q => z0 ≤ q) ((mdlW bd 0 cy 1 h su st sh fl 0 sn bn fm fr cm em lg le lf dl cS cH sea noi pl pw an hd bp bo bw c1 c2 c3 c4 c5 e1 e2 e3 e4 e5) ++ ((rooW ad 0 cy fm fr) ++ ((airW ad 1 cy h su st sh fl (zu cS (xZ xs (i + 1)) (xZ xs (i + 2))) (zu cH (xZ xs (i + 1)) (xZ xs (i + 3))) (dnD h fl) (dnE h (zu cS (xZ xs (i + 1)) (xZ xs (i + 2)))) (dnF h su st)) ++ ((airW ad 8 cy h su 0 0 0 (fun _ => 0) (fun _ => 0) (dnD h 0) (dnE h (fun _ => 0)) (dnF h su 0)) ++ ((grdW ad 15 cy sea noi) ++ ((rayW ad 18 cy (ur 0) (ur 1) (ur 2) (ur 3) (ur 4) (ur 5) (ur 6) (ur 7)) ++ ((sndW ad 19 cy 12 sn pl pw an hd fq) ++ ((sndW ad 25 cy 6 bn bp bw ban bhd bo) ++ ((conW ad 31 cy cm c1 c2 c3 c4 c5) ++ ((entW ad 37 cy em ep e1 e2 e3 e4 e5) ++ (outW od 0 cy o))))))))))) := hD
      exfalso
      omega
    ·
      have hP : va_P D vwCl (mdlW bd 0 cy 2 h su st sh fl 0 sn bn fm fr cm em lg le lf dl cS cH sea noi pl pw an hd bp bo bw c1 c2 c3 c4 c5 e1 e2 e3 e4 e5) H := hP
      have hD : va_D (fun q => z0 ≤ q) ((mdlW bd 0 cy 2 h su st sh fl 0 sn bn fm fr cm em lg le lf dl cS cH sea noi pl pw an hd bp bo bw c1 c2 c3 c4 c5 e1 e2 e3 e4 e5) ++ ((rooW ad 0 cy fm fr) ++ ((airW ad 1 cy h su st sh fl (zu cS (xZ xs (i + 1)) (xZ xs (i + 2))) (zu cH (xZ xs (i + 1)) (xZ xs (i + 3))) (dnD h fl) (dnE h (zu cS (xZ xs (i + 1)) (xZ xs (i + 2)))) (dnF h su st)) ++ ((airW ad 8 cy h su 0 0 0 (fun _ => 0) (fun _ => 0) (dnD h 0) (dnE h (fun _ => 0)) (dnF h su 0)) ++ ((grdW ad 15 cy sea noi) ++ ((rayW ad 18 cy (ur 0) (ur 1) (ur 2) (ur 3) (ur 4) (ur 5) (ur 6) (ur 7)) ++ ((sndW ad 19 cy 12 sn pl pw an hd fq) ++ ((sndW ad 25 cy 6 bn bp bw ban bhd bo) ++ ((conW ad 31 cy cm c1 c2 c3 c4 c5) ++ ((entW ad 37 cy em ep e1 e2 e3 e4 e5) ++ (outW od 0 cy o))))))))))) := hD
      exfalso
      omega
  ·
    have hP : va_P D vwCl ((rooW ad 0 cy fm fr) ++ ((airW ad 1 cy h su st sh fl cS cH (dnD h fl) (dnE h cS) (dnF h su st)) ++ ((airW ad 8 cy h su 0 0 0 (fun _ => 0) (fun _ => 0) (dnD h 0) (dnE h (fun _ => 0)) (dnF h su 0)) ++ ((grdW ad 15 cy sea noi) ++ ((rayW ad 18 cy (ur 0) (ur 1) (ur 2) (ur 3) (ur 4) (ur 5) (ur 6) (ur 7)) ++ ((sndW ad 19 cy 12 sn pl pw an hd fq) ++ ((sndW ad 25 cy 6 bn bp bw ban bhd bo) ++ ((conW ad 31 cy cm c1 c2 c3 c4 c5) ++ ((entW ad 37 cy em ep e1 e2 e3 e4 e5) ++ (outW od 0 cy o)))))))))) H := hP
    have hD : va_D (fun q => z0 ≤ q) (((rooW ad 0 cy fm fr) ++ ((airW ad 1 cy h su st sh fl cS cH (dnD h fl) (dnE h cS) (dnF h su st)) ++ ((airW ad 8 cy h su 0 0 0 (fun _ => 0) (fun _ => 0) (dnD h 0) (dnE h (fun _ => 0)) (dnF h su 0)) ++ ((grdW ad 15 cy sea noi) ++ ((rayW ad 18 cy (ur 0) (ur 1) (ur 2) (ur 3) (ur 4) (ur 5) (ur 6) (ur 7)) ++ ((sndW ad 19 cy 12 sn pl pw an hd fq) ++ ((sndW ad 25 cy 6 bn bp bw ban bhd bo) ++ ((conW ad 31 cy cm c1 c2 c3 c4 c5) ++ ((entW ad 37 cy em ep e1 e2 e3 e4 e5) ++ (outW od 0 cy o)))))))))) ++ (mdlW bd 0 cy th h su st sh fl 0 sn bn fm fr cm em lg le lf dl cS cH sea noi pl pw an hd bp bo bw c1 c2 c3 c4 c5 e1 e2 e3 e4 e5)) := hD
    refine lv_istore (lv' := [(5, .int (iI 1)), (0, .ref (b)), (1, .ref (ad 0)), (2, .ref (bd 0)), (3, .ref (od 0)), (4, .int (iI i))]) M.1 M.2.1 dL_law_350 hl (by decide) rfl (fun ls hl => ?_)
    refine lv_aload_n M.1 M.2.1 dL_law_352 rfl (lv_at hl 3 rfl) ?_
    refine lv_aload_n M.1 M.2.1 dL_law_353 rfl (lv_at hl 1 rfl) ?_
    refine lv_iload M.1 M.2.1 dL_law_354 (lv_at hl 5 rfl) ?_
    refine zi_push M dL_law_356 ?_
    refine zi_iadd M dL_law_357 ?_
    refine zi_sld M hX hbl hbA hS hL (by omega) (by omega) dL_law_358 ?_
    have hx_9 := xZ_rg xs (i + 1)
    refine lv_aload_n M.1 M.2.1 dL_law_359 rfl (lv_at hl 1 rfl) ?_
    refine lv_iload M.1 M.2.1 dL_law_360 (lv_at hl 5 rfl) ?_
    refine zi_push M dL_law_362 ?_
    refine zi_iadd M dL_law_363 ?_
    refine zi_sld M hX hbl hbA hS hL (by omega) (by omega) dL_law_364 ?_
    have hx_10 := xZ_rg xs (i + 2)
    refine lv_aload_n M.1 M.2.1 dL_law_365 rfl (lv_at hl 1 rfl) ?_
    refine lv_iload M.1 M.2.1 dL_law_366 (lv_at hl 5 rfl) ?_
    refine zi_push M dL_law_368 ?_
    refine zi_iadd M dL_law_369 ?_
    refine zi_sld M hX hbl hbA hS hL (by omega) (by omega) dL_law_370 ?_
    have hx_11 := xZ_rg xs (i + 3)
    have hPx := hP
    have hP := hPm
    have hPm := hPx
    have hD := zD_c hD
    refine z_cV2 (z_runV (As := [.int (iI (xZ xs (i + 1))), .int (iI (xZ xs (i + 2))), .int (iI (xZ xs (i + 3)))]) (rest := []) M (c_X7_cloud l D cy z0 bd th h su st sh fl 0 sn bn fm fr cm em lg le lf dl cS cH sea noi pl pw an hd bp bo bw c1 c2 c3 c4 c5 e1 e2 e3 e4 e5 (xZ xs (i + 1)) (xZ xs (i + 2)) (xZ xs (i + 3)) (by omega) (by omega) (by omega)) hE hS hAz (z_cut hP (zD_l hD) hAz [0, 1, 2, 3, 4, 5, 6, 7, 8, 9, 10, 11, 12, 13, 14, 15, 16, 17, 18, 19, 20, 21] rfl (by decide +kernel)) (zRc.of (ci := 7) (q0 := 0) hE hP rfl rfl) zk_cd_X7_cloud zk_in_RX7 zk_im_X7_cloud zk_se_X7_cloud zk_ml_RL_130 rfl rfl zd_X7_cloud ⟨by decide, by decide⟩ rfl hl.1 rfl (Nat.le_of_ble_eq_true rfl) dL_law_371 ⟨by show _ ≤ 601024; omega, by show _ ≤ 7293034; omega⟩) hP hPm hD hS [0, 1, 2, 3, 4, 5, 6, 7, 8, 9, 10, 11, 12, 13, 14, 15, 16, 17, 18, 19, 20, 21] rfl (fun _ => by simp only [List.map_append, mdlW_adr]) (fun u_12 H locs hp_12 hP hPm hD hS => ?_)
    try simp only [mdD_0, mdE_0, mdF_0, mdD_1, mdE_1, mdF_1] at hp_12
    have hP : va_P D vwCl (mdlW bd 0 cy u_12 h su st sh fl 0 sn bn fm fr cm em lg le lf dl (if u_12 = 0 then (zu cS (xZ xs (i + 1)) (xZ xs (i + 2))) else cS) (if u_12 = 0 then (zu cH (xZ xs (i + 1)) (xZ xs (i + 3))) else cH) sea noi pl pw an hd bp bo bw c1 c2 c3 c4 c5 e1 e2 e3 e4 e5) H := hP
    have hD : va_D (fun q => z0 ≤ q) ((mdlW bd 0 cy u_12 h su st sh fl 0 sn bn fm fr cm em lg le lf dl (if u_12 = 0 then (zu cS (xZ xs (i + 1)) (xZ xs (i + 2))) else cS) (if u_12 = 0 then (zu cH (xZ xs (i + 1)) (xZ xs (i + 3))) else cH) sea noi pl pw an hd bp bo bw c1 c2 c3 c4 c5 e1 e2 e3 e4 e5) ++ ((rooW ad 0 cy fm fr) ++ ((airW ad 1 cy h su st sh fl cS cH (dnD h fl) (dnE h cS) (dnF h su st)) ++ ((airW ad 8 cy h su 0 0 0 (fun _ => 0) (fun _ => 0) (dnD h 0) (dnE h (fun _ => 0)) (dnF h su 0)) ++ ((grdW ad 15 cy sea noi) ++ ((rayW ad 18 cy (ur 0) (ur 1) (ur 2) (ur 3) (ur 4) (ur 5) (ur 6) (ur 7)) ++ ((sndW ad 19 cy 12 sn pl pw an hd fq) ++ ((sndW ad 25 cy 6 bn bp bw ban bhd bo) ++ ((conW ad 31 cy cm c1 c2 c3 c4 c5) ++ ((entW ad 37 cy em ep e1 e2 e3 e4 e5) ++ (outW od 0 cy o))))))))))) := hD
    rcases hp_12 with ⟨rfl, hN_12⟩ | ⟨rfl, hN_12⟩ | ⟨rfl, hN_12⟩
    ·
      have hP : va_P D vwCl (mdlW bd 0 cy 0 h su st sh fl 0 sn bn fm fr cm em lg le lf dl (zu cS (xZ xs (i + 1)) (xZ xs (i + 2))) (zu cH (xZ xs (i + 1)) (xZ xs (i + 3))) sea noi pl pw an hd bp bo bw c1 c2 c3 c4 c5 e1 e2 e3 e4 e5) H := hP
      have hD : va_D (fun q => z0 ≤ q) ((mdlW bd 0 cy 0 h su st sh fl 0 sn bn fm fr cm em lg le lf dl (zu cS (xZ xs (i + 1)) (xZ xs (i + 2))) (zu cH (xZ xs (i + 1)) (xZ xs (i + 3))) sea noi pl pw an hd bp bo bw c1 c2 c3 c4 c5 e1 e2 e3 e4 e5) ++ ((rooW ad 0 cy fm fr) ++ ((airW ad 1 cy h su st sh fl cS cH (dnD h fl) (dnE h cS) (dnF h su st)) ++ ((airW ad 8 cy h su 0 0 0 (fun _ => 0) (fun _ => 0) (dnD h 0) (dnE h (fun _ => 0)) (dnF h su 0)) ++ ((grdW ad 15 cy sea noi) ++ ((rayW ad 18 cy (ur 0) (ur 1) (ur 2) (ur 3) (ur 4) (ur 5) (ur 6) (ur 7)) ++ ((sndW ad 19 cy 12 sn pl pw an hd fq) ++ ((sndW ad 25 cy 6 bn bp bw ban bhd bo) ++ ((conW ad 31 cy cm c1 c2 c3 c4 c5) ++ ((entW ad 37 cy em ep e1 e2 e3 e4 e5) ++ (outW od 0 cy o))))))))))) := hD
      exfalso
      omega
    ·
      have hP : va_P D vwCl (mdlW bd 0 cy 1 h su st sh fl 0 sn bn fm fr cm em lg le lf dl cS cH sea noi pl pw an hd bp bo bw c1 c2 c3 c4 c5 e1 e2 e3 e4 e5) H := hP
      have hD : va_D (fun q => z0 ≤ q) ((mdlW bd 0 cy 1 h su st sh fl 0 sn bn fm fr cm em lg le lf dl cS cH sea noi pl pw an hd bp bo bw c1 c2 c3 c4 c5 e1 e2 e3 e4 e5) ++ ((rooW ad 0 cy fm fr) ++ ((airW ad 1 cy h su st sh fl cS cH (dnD h fl) (dnE h cS) (dnF h su st)) ++ ((airW ad 8 cy h su 0 0 0 (fun _ => 0) (fun _ => 0) (dnD h 0) (dnE h (fun _ => 0)) (dnF h su 0)) ++ ((grdW ad 15 cy sea noi) ++ ((rayW ad 18 cy (ur 0) (ur 1) (ur 2) (ur 3) (ur 4) (ur 5) (ur 6) (ur 7)) ++ ((sndW ad 19 cy 12 sn pl pw an hd fq) ++ ((sndW ad 25 cy 6 bn bp bw ban bhd bo) ++ ((conW ad 31 cy cm c1 c2 c3 c4 c5) ++ ((entW ad 37 cy em ep e1 e2 e3 e4 e5) ++ (outW od 0 cy o))))))))))) := hD
      refine lv_aload_n M.1 M.2.1 dL_law_374 rfl (lv_at hl 3 rfl) ?_
      refine z_cR (z_runV (As := []) (rest := []) M (c_X7_thrown l D cy z0 bd 1 h su st sh fl 0 sn bn fm fr cm em lg le lf dl cS cH sea noi pl pw an hd bp bo bw c1 c2 c3 c4 c5 e1 e2 e3 e4 e5) hE hS hAz hP (zRc.of (ci := 7) (q0 := 0) hE hP rfl rfl) zk_cd_X7_thrown zk_in_RX7 zk_im_X7_thrown zk_se_X7_thrown zk_ml_RL_116 rfl rfl zd_X7_thrown ⟨by decide, by decide⟩ rfl hl.1 rfl (Nat.le_of_ble_eq_true rfl) dL_law_375 ⟨by show _ ≤ 601024; omega, by show _ ≤ 7293034; omega⟩) ?_
      refine lv_iload M.1 M.2.1 dL_law_378 (lv_at hl 0 rfl) ?_
      refine zi_same (tgt := 385) M dL_law_380 (by decide) ?_
      refine zi_goto (tgt := 2286) M dL_law_385 (by decide) ?_
      have hPx := hP
      have hP := hPm
      have hPm := hPx
      have hD := zD_c hD
      refine W.widen (k := cells + 6) (n := slots + 36) (by omega) (by omega) ?_
      exact hback h su st sh fl sn bn cm em ep fm fr 1 o lg le lf dl cS cH sea noi pl pw an hd fq bp bw ban bhd bo c1 c2 c3 c4 c5 e1 e2 e3 e4 e5 ur h_h h_su h_st h_sh h_fl h_sn h_bn h_cm h_em g_cS g_cH g_sea g_noi g_pl g_pw g_an g_hd g_bp g_bw g_ban g_bhd g_c1 g_c2 g_c3 g_c4 g_c5 g_e1 g_e2 g_e3 g_e4 g_e5 hbo hep H locs hP hPm hD hS ls (lv_sub hl [1, 2, 3, 4, 5] rfl)
    ·
      have hP : va_P D vwCl (mdlW bd 0 cy 2 h su st sh fl 0 sn bn fm fr cm em lg le lf dl cS cH sea noi pl pw an hd bp bo bw c1 c2 c3 c4 c5 e1 e2 e3 e4 e5) H := hP
      have hD : va_D (fun q => z0 ≤ q) ((mdlW bd 0 cy 2 h su st sh fl 0 sn bn fm fr cm em lg le lf dl cS cH sea noi pl pw an hd bp bo bw c1 c2 c3 c4 c5 e1 e2 e3 e4 e5) ++ ((rooW ad 0 cy fm fr) ++ ((airW ad 1 cy h su st sh fl cS cH (dnD h fl) (dnE h cS) (dnF h su st)) ++ ((airW ad 8 cy h su 0 0 0 (fun _ => 0) (fun _ => 0) (dnD h 0) (dnE h (fun _ => 0)) (dnF h su 0)) ++ ((grdW ad 15 cy sea noi) ++ ((rayW ad 18 cy (ur 0) (ur 1) (ur 2) (ur 3) (ur 4) (ur 5) (ur 6) (ur 7)) ++ ((sndW ad 19 cy 12 sn pl pw an hd fq) ++ ((sndW ad 25 cy 6 bn bp bw ban bhd bo) ++ ((conW ad 31 cy cm c1 c2 c3 c4 c5) ++ ((entW ad 37 cy em ep e1 e2 e3 e4 e5) ++ (outW od 0 cy o))))))))))) := hD
      exfalso
      omega
  ·
    have hP : va_P D vwCl ((rooW ad 0 cy fm fr) ++ ((airW ad 1 cy h su st sh fl cS cH (dnD h fl) (dnE h cS) (dnF h su st)) ++ ((airW ad 8 cy h su 0 0 0 (fun _ => 0) (fun _ => 0) (dnD h 0) (dnE h (fun _ => 0)) (dnF h su 0)) ++ ((grdW ad 15 cy sea noi) ++ ((rayW ad 18 cy (ur 0) (ur 1) (ur 2) (ur 3) (ur 4) (ur 5) (ur 6) (ur 7)) ++ ((sndW ad 19 cy 12 sn pl pw an hd fq) ++ ((sndW ad 25 cy 6 bn bp bw ban bhd bo) ++ ((conW ad 31 cy cm c1 c2 c3 c4 c5) ++ ((entW ad 37 cy em ep e1 e2 e3 e4 e5) ++ (outW od 0 cy o)))))))))) H := hP
    have hD : va_D (fun q => z0 ≤ q) (((rooW ad 0 cy fm fr) ++ ((airW ad 1 cy h su st sh fl cS cH (dnD h fl) (dnE h cS) (dnF h su st)) ++ ((airW ad 8 cy h su 0 0 0 (fun _ => 0) (fun _ => 0) (dnD h 0) (dnE h (fun _ => 0)) (dnF h su 0)) ++ ((grdW ad 15 cy sea noi) ++ ((rayW ad 18 cy (ur 0) (ur 1) (ur 2) (ur 3) (ur 4) (ur 5) (ur 6) (ur 7)) ++ ((sndW ad 19 cy 12 sn pl pw an hd fq) ++ ((sndW ad 25 cy 6 bn bp bw ban bhd bo) ++ ((conW ad 31 cy cm c1 c2 c3 c4 c5) ++ ((entW ad 37 cy em ep e1 e2 e3 e4 e5) ++ (outW od 0 cy o)))))))))) ++ (mdlW bd 0 cy th h su st sh fl 0 sn bn fm fr cm em lg le lf dl cS cH sea noi pl pw an hd bp bo bw c1 c2 c3 c4 c5 e1 e2 e3 e4 e5)) := hD
    refine lv_istore (lv' := [(5, .int (iI 2)), (0, .ref (b)), (1, .ref (ad 0)), (2, .ref (bd 0)), (3, .ref (od 0)), (4, .int (iI i))]) M.1 M.2.1 dL_law_350 hl (by decide) rfl (fun ls hl => ?_)
    refine lv_aload_n M.1 M.2.1 dL_law_352 rfl (lv_at hl 3 rfl) ?_
    refine lv_aload_n M.1 M.2.1 dL_law_353 rfl (lv_at hl 1 rfl) ?_
    refine lv_iload M.1 M.2.1 dL_law_354 (lv_at hl 5 rfl) ?_
    refine zi_push M dL_law_356 ?_
    refine zi_iadd M dL_law_357 ?_
    refine zi_sld M hX hbl hbA hS hL (by omega) (by omega) dL_law_358 ?_
    have hx_13 := xZ_rg xs (i + 1)
    refine lv_aload_n M.1 M.2.1 dL_law_359 rfl (lv_at hl 1 rfl) ?_
    refine lv_iload M.1 M.2.1 dL_law_360 (lv_at hl 5 rfl) ?_
    refine zi_push M dL_law_362 ?_
    refine zi_iadd M dL_law_363 ?_
    refine zi_sld M hX hbl hbA hS hL (by omega) (by omega) dL_law_364 ?_
    have hx_14 := xZ_rg xs (i + 2)
    refine lv_aload_n M.1 M.2.1 dL_law_365 rfl (lv_at hl 1 rfl) ?_
    refine lv_iload M.1 M.2.1 dL_law_366 (lv_at hl 5 rfl) ?_
    refine zi_push M dL_law_368 ?_
    refine zi_iadd M dL_law_369 ?_
    refine zi_sld M hX hbl hbA hS hL (by omega) (by omega) dL_law_370 ?_
    have hx_15 := xZ_rg xs (i + 3)
    have hPx := hP
    have hP := hPm
    have hPm := hPx
    have hD := zD_c hD
    refine z_cV2 (z_runV (As := [.int (iI (xZ xs (i + 1))), .int (iI (xZ xs (i + 2))), .int (iI (xZ xs (i + 3)))]) (rest := []) M (c_X7_cloud l D cy z0 bd th h su st sh fl 0 sn bn fm fr cm em lg le lf dl cS cH sea noi pl pw an hd bp bo bw c1 c2 c3 c4 c5 e1 e2 e3 e4 e5 (xZ xs (i + 1)) (xZ xs (i + 2)) (xZ xs (i + 3)) (by omega) (by omega) (by omega)) hE hS hAz (z_cut hP (zD_l hD) hAz [0, 1, 2, 3, 4, 5, 6, 7, 8, 9, 10, 11, 12, 13, 14, 15, 16, 17, 18, 19, 20, 21] rfl (by decide +kernel)) (zRc.of (ci := 7) (q0 := 0) hE hP rfl rfl) zk_cd_X7_cloud zk_in_RX7 zk_im_X7_cloud zk_se_X7_cloud zk_ml_RL_130 rfl rfl zd_X7_cloud ⟨by decide, by decide⟩ rfl hl.1 rfl (Nat.le_of_ble_eq_true rfl) dL_law_371 ⟨by show _ ≤ 601024; omega, by show _ ≤ 7293034; omega⟩) hP hPm hD hS [0, 1, 2, 3, 4, 5, 6, 7, 8, 9, 10, 11, 12, 13, 14, 15, 16, 17, 18, 19, 20, 21] rfl (fun _ => by simp only [List.map_append, mdlW_adr]) (fun u_16 H locs hp_16 hP hPm hD hS => ?_)
    try simp only [mdD_0, mdE_0, mdF_0, mdD_1, mdE_1, mdF_1] at hp_16
    have hP : va_P D vwCl (mdlW bd 0 cy u_16 h su st sh fl 0 sn bn fm fr cm em lg le lf dl (if u_16 = 0 then (zu cS (xZ xs (i + 1)) (xZ xs (i + 2))) else cS) (if u_16 = 0 then (zu cH (xZ xs (i + 1)) (xZ xs (i + 3))) else cH) sea noi pl pw an hd bp bo bw c1 c2 c3 c4 c5 e1 e2 e3 e4 e5) H := hP
    have hD : va_D (fun q => z0 ≤ q) ((mdlW bd 0 cy u_16 h su st sh fl 0 sn bn fm fr cm em lg le lf dl (if u_16 = 0 then (zu cS (xZ xs (i + 1)) (xZ xs (i + 2))) else cS) (if u_16 = 0 then (zu cH (xZ xs (i + 1)) (xZ xs (i + 3))) else cH) sea noi pl pw an hd bp bo bw c1 c2 c3 c4 c5 e1 e2 e3 e4 e5) ++ ((rooW ad 0 cy fm fr) ++ ((airW ad 1 cy h su st sh fl cS cH (dnD h fl) (dnE h cS) (dnF h su st)) ++ ((airW ad 8 cy h su 0 0 0 (fun _ => 0) (fun _ => 0) (dnD h 0) (dnE h (fun _ => 0)) (dnF h su 0)) ++ ((grdW ad 15 cy sea noi) ++ ((rayW ad 18 cy (ur 0) (ur 1) (ur 2) (ur 3) (ur 4) (ur 5) (ur 6) (ur 7)) ++ ((sndW ad 19 cy 12 sn pl pw an hd fq) ++ ((sndW ad 25 cy 6 bn bp bw ban bhd bo) ++ ((conW ad 31 cy cm c1 c2 c3 c4 c5) ++ ((entW ad 37 cy em ep e1 e2 e3 e4 e5) ++ (outW od 0 cy o))))))))))) := hD
    rcases hp_16 with ⟨rfl, hN_16⟩ | ⟨rfl, hN_16⟩ | ⟨rfl, hN_16⟩
    ·
      have hP : va_P D vwCl (mdlW bd 0 cy 0 h su st sh fl 0 sn bn fm fr cm em lg le lf dl (zu cS (xZ xs (i + 1)) (xZ xs (i + 2))) (zu cH (xZ xs (i + 1)) (xZ xs (i + 3))) sea noi pl pw an hd bp bo bw c1 c2 c3 c4 c5 e1 e2 e3 e4 e5) H := hP
      have hD : va_D (fun q => z0 ≤ q) ((mdlW bd 0 cy 0 h su st sh fl 0 sn bn fm fr cm em lg le lf dl (zu cS (xZ xs (i + 1)) (xZ xs (i + 2))) (zu cH (xZ xs (i + 1)) (xZ xs (i + 3))) sea noi pl pw an hd bp bo bw c1 c2 c3 c4 c5 e1 e2 e3 e4 e5) ++ ((rooW ad 0 cy fm fr) ++ ((airW ad 1 cy h su st sh fl cS cH (dnD h fl) (dnE h cS) (dnF h su st)) ++ ((airW ad 8 cy h su 0 0 0 (fun _ => 0) (fun _ => 0) (dnD h 0) (dnE h (fun _ => 0)) (dnF h su 0)) ++ ((grdW ad 15 cy sea noi) ++ ((rayW ad 18 cy (ur 0) (ur 1) (ur 2) (ur 3) (ur 4) (ur 5) (ur 6) (ur 7)) ++ ((sndW ad 19 cy 12 sn pl pw an hd fq) ++ ((sndW ad 25 cy 6 bn bp bw ban bhd bo) ++ ((conW ad 31 cy cm c1 c2 c3 c4 c5) ++ ((entW ad 37 cy em ep e1 e2 e3 e4 e5) ++ (outW od 0 cy o))))))))))) := hD
      exfalso
      omega
    ·
      have hP : va_P D vwCl (mdlW bd 0 cy 1 h su st sh fl 0 sn bn fm fr cm em lg le lf dl cS cH sea noi pl pw an hd bp bo bw c1 c2 c3 c4 c5 e1 e2 e3 e4 e5) H := hP
      have hD : va_D (fun q => z0 ≤ q) ((mdlW bd 0 cy 1 h su st sh fl 0 sn bn fm fr cm em lg le lf dl cS cH sea noi pl pw an hd bp bo bw c1 c2 c3 c4 c5 e1 e2 e3 e4 e5) ++ ((rooW ad 0 cy fm fr) ++ ((airW ad 1 cy h su st sh fl cS cH (dnD h fl) (dnE h cS) (dnF h su st)) ++ ((airW ad 8 cy h su 0 0 0 (fun _ => 0) (fun _ => 0) (dnD h 0) (dnE h (fun _ => 0)) (dnF h su 0)) ++ ((grdW ad 15 cy sea noi) ++ ((rayW ad 18 cy (ur 0) (ur 1) (ur 2) (ur 3) (ur 4) (ur 5) (ur 6) (ur 7)) ++ ((sndW ad 19 cy 12 sn pl pw an hd fq) ++ ((sndW ad 25 cy 6 bn bp bw ban bhd bo) ++ ((conW ad 31 cy cm c1 c2 c3 c4 c5) ++ ((entW ad 37 cy em ep e1 e2 e3 e4 e5) ++ (outW od 0 cy o))))))))))) := hD
      exfalso
      omega
    ·
      have hP : va_P D vwCl (mdlW bd 0 cy 2 h su st sh fl 0 sn bn fm fr cm em lg le lf dl cS cH sea noi pl pw an hd bp bo bw c1 c2 c3 c4 c5 e1 e2 e3 e4 e5) H := hP
      have hD : va_D (fun q => z0 ≤ q) ((mdlW bd 0 cy 2 h su st sh fl 0 sn bn fm fr cm em lg le lf dl cS cH sea noi pl pw an hd bp bo bw c1 c2 c3 c4 c5 e1 e2 e3 e4 e5) ++ ((rooW ad 0 cy fm fr) ++ ((airW ad 1 cy h su st sh fl cS cH (dnD h fl) (dnE h cS) (dnF h su st)) ++ ((airW ad 8 cy h su 0 0 0 (fun _ => 0) (fun _ => 0) (dnD h 0) (dnE h (fun _ => 0)) (dnF h su 0)) ++ ((grdW ad 15 cy sea noi) ++ ((rayW ad 18 cy (ur 0) (ur 1) (ur 2) (ur 3) (ur 4) (ur 5) (ur 6) (ur 7)) ++ ((sndW ad 19 cy 12 sn pl pw an hd fq) ++ ((sndW ad 25 cy 6 bn bp bw ban bhd bo) ++ ((conW ad 31 cy cm c1 c2 c3 c4 c5) ++ ((entW ad 37 cy em ep e1 e2 e3 e4 e5) ++ (outW od 0 cy o))))))))))) := hD
      refine lv_aload_n M.1 M.2.1 dL_law_374 rfl (lv_at hl 3 rfl) ?_
      refine z_cR (z_runV (As := []) (rest := []) M (c_X7_thrown l D cy z0 bd 2 h su st sh fl 0 sn bn fm fr cm em lg le lf dl cS cH sea noi pl pw an hd bp bo bw c1 c2 c3 c4 c5 e1 e2 e3 e4 e5) hE hS hAz hP (zRc.of (ci := 7) (q0 := 0) hE hP rfl rfl) zk_cd_X7_thrown zk_in_RX7 zk_im_X7_thrown zk_se_X7_thrown zk_ml_RL_116 rfl rfl zd_X7_thrown ⟨by decide, by decide⟩ rfl hl.1 rfl (Nat.le_of_ble_eq_true rfl) dL_law_375 ⟨by show _ ≤ 601024; omega, by show _ ≤ 7293034; omega⟩) ?_
      refine lv_iload M.1 M.2.1 dL_law_378 (lv_at hl 0 rfl) ?_
      refine zi_same (tgt := 385) M dL_law_380 (by decide) ?_
      refine zi_goto (tgt := 2286) M dL_law_385 (by decide) ?_
      have hPx := hP
      have hP := hPm
      have hPm := hPx
      have hD := zD_c hD
      refine W.widen (k := cells + 6) (n := slots + 36) (by omega) (by omega) ?_
      exact hback h su st sh fl sn bn cm em ep fm fr 2 o lg le lf dl cS cH sea noi pl pw an hd fq bp bw ban bhd bo c1 c2 c3 c4 c5 e1 e2 e3 e4 e5 ur h_h h_su h_st h_sh h_fl h_sn h_bn h_cm h_em g_cS g_cH g_sea g_noi g_pl g_pw g_an g_hd g_bp g_bw g_ban g_bhd g_c1 g_c2 g_c3 g_c4 g_c5 g_e1 g_e2 g_e3 g_e4 g_e5 hbo hep H locs hP hPm hD hS ls (lv_sub hl [1, 2, 3, 4, 5] rfl)
