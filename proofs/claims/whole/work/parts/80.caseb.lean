/-! the law, case by case -/
set_option maxRecDepth 100000 in
set_option maxHeartbeats 8000000 in
theorem lw_case4 (l : Launch) (D : va_G) (cy : Nat → ClassId) (z0 : Nat) (ad bd od : Nat → Nat) (p : Program) (e : Env) (s : State) (m : MethodId) (args : Array Value) (below : List Frame) (meth : Method) (c : Code) (b : Nat) (i : Int) (Q : State → Prop) (cells slots : Nat) (hst : l.stackTraces = false) (hL7 : ∀ q : Nat, q = 0 → True) (b_L : Nat) (xs : Nat → Int32) (M : zM p s m args c cL_law RL 7) (hE : zE D cy z0 s) (hN : zNc s) (hL : b_L ≤ 3584) (hX : va_X b b_L xs s s.heap) (hbl : b < s.heap.size) (hbA : ¬ z0 ≤ b) (hi : 0 ≤ i ∧ i + 7 ≤ b_L) (hc : cells + 6 ≤ 601024) (hs : slots + 36 ≤ 7293034) (hback : lwB l D cy z0 ad bd od p e s m args below meth c b i Q cells slots) (h su st sh fl sn bn cm em ep fm fr th o lg le lf dl : Int) (cS cH sea noi pl pw an hd fq bp bw ban bhd bo c1 c2 c3 c4 c5 e1 e2 e3 e4 e5 : Int → Int) (ur : Nat → Int) (h_h : 0 ≤ h ∧ h ≤ 5000) (h_su : 0 ≤ su ∧ su ≤ 100) (h_st : 0 ≤ st ∧ st ≤ 60) (h_sh : 0 ≤ sh ∧ sh ≤ 72) (h_fl : 0 ≤ fl ∧ fl ≤ 80) (h_sn : 0 ≤ sn ∧ sn ≤ 12) (h_bn : 0 ≤ bn ∧ bn ≤ 6) (h_cm : 0 ≤ cm ∧ cm ≤ 60) (h_em : 0 ≤ em ∧ em ≤ 80) (g_cS : zrg 48 0 100 cS) (g_cH : zrg 48 0 24 cH) (g_sea : zrg 48 0 1 sea) (g_noi : zrg 48 0 40 noi) (g_pl : zrg 12 0 47 pl) (g_pw : zrg 12 0 80 pw) (g_an : zrg 12 0 2 an) (g_hd : zrg 12 0 2 hd) (g_bp : zrg 6 0 47 bp) (g_bw : zrg 6 0 80 bw) (g_ban : zrg 6 0 2 ban) (g_bhd : zrg 6 0 2 bhd) (g_c1 : zrg 60 0 11 c1) (g_c2 : zrg 60 0 11 c2) (g_c3 : zrg 60 0 300 c3) (g_c4 : zrg 60 0 2 c4) (g_c5 : zrg 60 0 5000 c5) (g_e1 : zrg 80 0 11 e1) (g_e2 : zrg 80 0 11 e2) (g_e3 : zrg 80 0 300 e3) (g_e4 : zrg 80 0 5000 e4) (g_e5 : zrg 80 (-1) 79 e5) (hbo : ∀ n : Int, 0 ≤ n → n < bn → (10 ≤ bo n ∧ bo n ≤ 300) ∧ ban n = 2 ∧ bhd n = 2) (hep : ep = prF e5 em.toNat) (H : Heap) (locs : List Loc) (hP : va_P D vwCl ((rooW ad 0 cy fm fr) ++ ((airW ad 1 cy h su st sh fl cS cH (dnD h fl) (dnE h cS) (dnF h su st)) ++ ((airW ad 8 cy h su 0 0 0 (fun _ => 0) (fun _ => 0) (dnD h 0) (dnE h (fun _ => 0)) (dnF h su 0)) ++ ((grdW ad 15 cy sea noi) ++ ((rayW ad 18 cy (ur 0) (ur 1) (ur 2) (ur 3) (ur 4) (ur 5) (ur 6) (ur 7)) ++ ((sndW ad 19 cy 12 sn pl pw an hd fq) ++ ((sndW ad 25 cy 6 bn bp bw ban bhd bo) ++ ((conW ad 31 cy cm c1 c2 c3 c4 c5) ++ ((entW ad 37 cy em ep e1 e2 e3 e4 e5) ++ (outW od 0 cy o)))))))))) H) (hPm : va_P D vwCl (mdlW bd 0 cy th h su st sh fl 0 sn bn fm fr cm em lg le lf dl cS cH sea noi pl pw an hd bp bo bw c1 c2 c3 c4 c5 e1 e2 e3 e4 e5) H) (hD : va_D (fun q => z0 ≤ q) (((rooW ad 0 cy fm fr) ++ ((airW ad 1 cy h su st sh fl cS cH (dnD h fl) (dnE h cS) (dnF h su st)) ++ ((airW ad 8 cy h su 0 0 0 (fun _ => 0) (fun _ => 0) (dnD h 0) (dnE h (fun _ => 0)) (dnF h su 0)) ++ ((grdW ad 15 cy sea noi) ++ ((rayW ad 18 cy (ur 0) (ur 1) (ur 2) (ur 3) (ur 4) (ur 5) (ur 6) (ur 7)) ++ ((sndW ad 19 cy 12 sn pl pw an hd fq) ++ ((sndW ad 25 cy 6 bn bp bw ban bhd bo) ++ ((conW ad 31 cy cm c1 c2 c3 c4 c5) ++ ((entW ad 37 cy em ep e1 e2 e3 e4 e5) ++ (outW od 0 cy o)))))))))) ++ (mdlW bd 0 cy th h su st sh fl 0 sn bn fm fr cm em lg le lf dl cS cH sea noi pl pw an hd bp bo bw c1 c2 c3 c4 c5 e1 e2 e3 e4 e5))) (hS : va_S (fun q => z0 ≤ q) s.heap H locs) (ls : Array Slot) (hl : lv_has ls 7 [(0, .ref b), (1, .ref (ad 0)), (2, .ref (bd 0)), (3, .ref (od 0)), (4, .int (iI i))]) : W p l e room_1 s m args below meth c H locs (cells) (slots) Q (F0 m 388 ls []) := by
  have hAz : ∀ q : Nat, (fun q => z0 ≤ q) q → z0 ≤ q := fun _ h => h
  refine lv_aload_n M.1 M.2.1 dL_law_388 rfl (lv_at hl 1 rfl) ?_
  refine lv_aload_n M.1 M.2.1 dL_law_389 rfl (lv_at hl 0 rfl) ?_
  refine lv_iload M.1 M.2.1 dL_law_390 (lv_at hl 4 rfl) ?_
  refine zi_push M dL_law_392 ?_
  refine zi_iadd M dL_law_393 ?_
  refine zi_sld M hX hbl hbA hS hL (by omega) (by omega) dL_law_394 ?_
  have hx_1 := xZ_rg xs (i + 1)
  refine lv_aload_n M.1 M.2.1 dL_law_395 rfl (lv_at hl 0 rfl) ?_
  refine lv_iload M.1 M.2.1 dL_law_396 (lv_at hl 4 rfl) ?_
  refine zi_push M dL_law_398 ?_
  refine zi_iadd M dL_law_399 ?_
  refine zi_sld M hX hbl hbA hS hL (by omega) (by omega) dL_law_400 ?_
  have hx_2 := xZ_rg xs (i + 2)
  refine zi_if_eq (tgt := 408) M dL_law_401 (by decide) (by omega) (fun c_3 => ?_) (fun c_3 => ?_)
  ·
    refine zi_push M dL_law_408 ?_
    refine lv_aload_n M.1 M.2.1 dL_law_409 rfl (lv_at hl 3 rfl) ?_
    refine z_cW2 (zx_runH (As := [.ref (ad 0), .int (iI (xZ xs (i + 1))), .int (iI 0), .ref (od 0)]) (rest := []) M (c_L_sea l hst D cy z0 ad od fm fr o sea noi (xZ xs (i + 1)) 0 (by omega) (by omega) g_sea g_noi) hE hN hS hAz (z_cut hP (zD_l hD) hAz [0, 15, 16, 17, 43] rfl (by decide +kernel)) zk_cw_L_sea zk_in_RL zk_st_L_sea zk_ml_RL_131 rfl rfl zd_L_sea ⟨by decide, by decide⟩ rfl hl.1 rfl (Nat.le_of_ble_eq_true rfl) dL_law_410 ⟨by show _ ≤ 601024; omega, by show _ ≤ 7293034; omega⟩) hP hPm hD hS [0, 15, 16, 17, 43] rfl (fun _ => by simp only [List.map_append, grdW_adr, outW_adr, rooW_adr]) (fun r_4 u_4 H locs hp_4 hP hPm hD hS => ?_)
    have hP : va_P D vwCl ((rooW ad 0 cy fm fr) ++ ((airW ad 1 cy h su st sh fl cS cH (dnD h fl) (dnE h cS) (dnF h su st)) ++ ((airW ad 8 cy h su 0 0 0 (fun _ => 0) (fun _ => 0) (dnD h 0) (dnE h (fun _ => 0)) (dnF h su 0)) ++ ((grdW ad 15 cy (if u_4.1 = 0 then (zu sea (xZ xs (i + 1)) 0) else sea) noi) ++ ((rayW ad 18 cy (ur 0) (ur 1) (ur 2) (ur 3) (ur 4) (ur 5) (ur 6) (ur 7)) ++ ((sndW ad 19 cy 12 sn pl pw an hd fq) ++ ((sndW ad 25 cy 6 bn bp bw ban bhd bo) ++ ((conW ad 31 cy cm c1 c2 c3 c4 c5) ++ ((entW ad 37 cy em ep e1 e2 e3 e4 e5) ++ (outW od 0 cy u_4.2.1)))))))))) H := hP
    have hD : va_D (fun q => z0 ≤ q) (((rooW ad 0 cy fm fr) ++ ((airW ad 1 cy h su st sh fl cS cH (dnD h fl) (dnE h cS) (dnF h su st)) ++ ((airW ad 8 cy h su 0 0 0 (fun _ => 0) (fun _ => 0) (dnD h 0) (dnE h (fun _ => 0)) (dnF h su 0)) ++ ((grdW ad 15 cy (if u_4.1 = 0 then (zu sea (xZ xs (i + 1)) 0) else sea) noi) ++ ((rayW ad 18 cy (ur 0) (ur 1) (ur 2) (ur 3) (ur 4) (ur 5) (ur 6) (ur 7)) ++ ((sndW ad 19 cy 12 sn pl pw an hd fq) ++ ((sndW ad 25 cy 6 bn bp bw ban bhd bo) ++ ((conW ad 31 cy cm c1 c2 c3 c4 c5) ++ ((entW ad 37 cy em ep e1 e2 e3 e4 e5) ++ (outW od 0 cy u_4.2.1)))))))))) ++ (mdlW bd 0 cy th h su st sh fl 0 sn bn fm fr cm em lg le lf dl cS cH sea noi pl pw an hd bp bo bw c1 c2 c3 c4 c5 e1 e2 e3 e4 e5)) := hD
    obtain ⟨u1_4, u2_4, u3_4⟩ := u_4
    dsimp only at hp_4
    rcases hp_4 with ⟨rfl, rfl, hN_4, hv_4⟩ | ⟨rfl, rfl, hN_4, hv_4⟩
    ·
      have hw_4 := hv_4.symm
      subst hw_4
      have hP : va_P D vwCl ((rooW ad 0 cy fm fr) ++ ((airW ad 1 cy h su st sh fl cS cH (dnD h fl) (dnE h cS) (dnF h su st)) ++ ((airW ad 8 cy h su 0 0 0 (fun _ => 0) (fun _ => 0) (dnD h 0) (dnE h (fun _ => 0)) (dnF h su 0)) ++ ((grdW ad 15 cy (zu sea (xZ xs (i + 1)) 0) noi) ++ ((rayW ad 18 cy (ur 0) (ur 1) (ur 2) (ur 3) (ur 4) (ur 5) (ur 6) (ur 7)) ++ ((sndW ad 19 cy 12 sn pl pw an hd fq) ++ ((sndW ad 25 cy 6 bn bp bw ban bhd bo) ++ ((conW ad 31 cy cm c1 c2 c3 c4 c5) ++ ((entW ad 37 cy em ep e1 e2 e3 e4 e5) ++ (outW od 0 cy (sea (xZ xs (i + 1))))))))))))) H := hP
      have hD : va_D (fun q => z0 ≤ q) (((rooW ad 0 cy fm fr) ++ ((airW ad 1 cy h su st sh fl cS cH (dnD h fl) (dnE h cS) (dnF h su st)) ++ ((airW ad 8 cy h su 0 0 0 (fun _ => 0) (fun _ => 0) (dnD h 0) (dnE h (fun _ => 0)) (dnF h su 0)) ++ ((grdW ad 15 cy (zu sea (xZ xs (i + 1)) 0) noi) ++ ((rayW ad 18 cy (ur 0) (ur 1) (ur 2) (ur 3) (ur 4) (ur 5) (ur 6) (ur 7)) ++ ((sndW ad 19 cy 12 sn pl pw an hd fq) ++ ((sndW ad 25 cy 6 bn bp bw ban bhd bo) ++ ((conW ad 31 cy cm c1 c2 c3 c4 c5) ++ ((entW ad 37 cy em ep e1 e2 e3 e4 e5) ++ (outW od 0 cy (sea (xZ xs (i + 1))))))))))))) ++ (mdlW bd 0 cy th h su st sh fl 0 sn bn fm fr cm em lg le lf dl cS cH sea noi pl pw an hd bp bo bw c1 c2 c3 c4 c5 e1 e2 e3 e4 e5)) := hD
      refine lv_istore (lv' := [(5, .int (iI 0)), (0, .ref (b)), (1, .ref (ad 0)), (2, .ref (bd 0)), (3, .ref (od 0)), (4, .int (iI i))]) M.1 M.2.1 dL_law_413 hl (by decide) rfl (fun ls hl => ?_)
      refine lv_aload_n M.1 M.2.1 dL_law_415 rfl (lv_at hl 3 rfl) ?_
      refine lv_aload_n M.1 M.2.1 dL_law_416 rfl (lv_at hl 1 rfl) ?_
      refine lv_iload M.1 M.2.1 dL_law_417 (lv_at hl 5 rfl) ?_
      refine zi_push M dL_law_419 ?_
      refine zi_iadd M dL_law_420 ?_
      refine zi_sld M hX hbl hbA hS hL (by omega) (by omega) dL_law_421 ?_
      have hx_5 := xZ_rg xs (i + 1)
      refine lv_aload_n M.1 M.2.1 dL_law_422 rfl (lv_at hl 1 rfl) ?_
      refine lv_iload M.1 M.2.1 dL_law_423 (lv_at hl 5 rfl) ?_
      refine zi_push M dL_law_425 ?_
      refine zi_iadd M dL_law_426 ?_
      refine zi_sld M hX hbl hbA hS hL (by omega) (by omega) dL_law_427 ?_
      have hx_6 := xZ_rg xs (i + 2)
      refine zi_if_eq (tgt := 435) M dL_law_428 (by decide) (by omega) (fun _ => ?_) (fun q => absurd c_3 q)
      refine zi_push M dL_law_435 ?_
      have hPx := hP
      have hP := hPm
      have hPm := hPx
      have hD := zD_c hD
      refine z_cW2 (z_runV (As := [.int (iI (xZ xs (i + 1))), .int (iI 0)]) (rest := []) M (c_X7_sea l D cy z0 bd th h su st sh fl 0 sn bn fm fr cm em lg le lf dl cS cH sea noi pl pw an hd bp bo bw c1 c2 c3 c4 c5 e1 e2 e3 e4 e5 (xZ xs (i + 1)) 0 (by omega) (by omega) g_sea g_noi) hE hS hAz (z_cut hP (zD_l hD) hAz [0, 1, 2, 3, 4, 5, 6, 7, 8, 9, 10, 11, 12, 13, 14, 15, 16, 17, 18, 19, 20, 21] rfl (by decide +kernel)) (zRc.of (ci := 7) (q0 := 0) hE hP rfl rfl) zk_cd_X7_sea zk_in_RX7 zk_im_X7_sea zk_se_X7_sea zk_ml_RL_134 rfl rfl zd_X7_sea ⟨by decide, by decide⟩ rfl hl.1 rfl (Nat.le_of_ble_eq_true rfl) dL_law_436 ⟨by show _ ≤ 601024; omega, by show _ ≤ 7293034; omega⟩) hP hPm hD hS [0, 1, 2, 3, 4, 5, 6, 7, 8, 9, 10, 11, 12, 13, 14, 15, 16, 17, 18, 19, 20, 21] rfl (fun _ => by simp only [List.map_append, mdlW_adr]) (fun r_7 u_7 H locs hp_7 hP hPm hD hS => ?_)
      try simp only [mdD_0, mdE_0, mdF_0, mdD_1, mdE_1, mdF_1] at hp_7
      have hP : va_P D vwCl (mdlW bd 0 cy u_7 h su st sh fl 0 sn bn fm fr cm em lg le lf dl cS cH (if u_7 = 0 then (zu sea (xZ xs (i + 1)) 0) else sea) noi pl pw an hd bp bo bw c1 c2 c3 c4 c5 e1 e2 e3 e4 e5) H := hP
      have hD : va_D (fun q => z0 ≤ q) ((mdlW bd 0 cy u_7 h su st sh fl 0 sn bn fm fr cm em lg le lf dl cS cH (if u_7 = 0 then (zu sea (xZ xs (i + 1)) 0) else sea) noi pl pw an hd bp bo bw c1 c2 c3 c4 c5 e1 e2 e3 e4 e5) ++ ((rooW ad 0 cy fm fr) ++ ((airW ad 1 cy h su st sh fl cS cH (dnD h fl) (dnE h cS) (dnF h su st)) ++ ((airW ad 8 cy h su 0 0 0 (fun _ => 0) (fun _ => 0) (dnD h 0) (dnE h (fun _ => 0)) (dnF h su 0)) ++ ((grdW ad 15 cy (zu sea (xZ xs (i + 1)) 0) noi) ++ ((rayW ad 18 cy (ur 0) (ur 1) (ur 2) (ur 3) (ur 4) (ur 5) (ur 6) (ur 7)) ++ ((sndW ad 19 cy 12 sn pl pw an hd fq) ++ ((sndW ad 25 cy 6 bn bp bw ban bhd bo) ++ ((conW ad 31 cy cm c1 c2 c3 c4 c5) ++ ((entW ad 37 cy em ep e1 e2 e3 e4 e5) ++ (outW od 0 cy (sea (xZ xs (i + 1)))))))))))))) := hD
      rcases hp_7 with ⟨rfl, hN_7, rfl⟩ | ⟨rfl, hN_7, rfl⟩
      ·
        have hP : va_P D vwCl (mdlW bd 0 cy 0 h su st sh fl 0 sn bn fm fr cm em lg le lf dl cS cH (zu sea (xZ xs (i + 1)) 0) noi pl pw an hd bp bo bw c1 c2 c3 c4 c5 e1 e2 e3 e4 e5) H := hP
        have hD : va_D (fun q => z0 ≤ q) ((mdlW bd 0 cy 0 h su st sh fl 0 sn bn fm fr cm em lg le lf dl cS cH (zu sea (xZ xs (i + 1)) 0) noi pl pw an hd bp bo bw c1 c2 c3 c4 c5 e1 e2 e3 e4 e5) ++ ((rooW ad 0 cy fm fr) ++ ((airW ad 1 cy h su st sh fl cS cH (dnD h fl) (dnE h cS) (dnF h su st)) ++ ((airW ad 8 cy h su 0 0 0 (fun _ => 0) (fun _ => 0) (dnD h 0) (dnE h (fun _ => 0)) (dnF h su 0)) ++ ((grdW ad 15 cy (zu sea (xZ xs (i + 1)) 0) noi) ++ ((rayW ad 18 cy (ur 0) (ur 1) (ur 2) (ur 3) (ur 4) (ur 5) (ur 6) (ur 7)) ++ ((sndW ad 19 cy 12 sn pl pw an hd fq) ++ ((sndW ad 25 cy 6 bn bp bw ban bhd bo) ++ ((conW ad 31 cy cm c1 c2 c3 c4 c5) ++ ((entW ad 37 cy em ep e1 e2 e3 e4 e5) ++ (outW od 0 cy (sea (xZ xs (i + 1)))))))))))))) := hD
        have hv01 : sea (xZ xs (i + 1)) = 0 ∨ sea (xZ xs (i + 1)) = 1 := (by have := g_sea (xZ xs (i + 1)) (by omega) (by omega); omega)
        refine lv_istore (lv' := [(6, .int (iI (sea (xZ xs (i + 1))))), (5, .int (iI 0)), (0, .ref (b)), (1, .ref (ad 0)), (2, .ref (bd 0)), (3, .ref (od 0)), (4, .int (iI i))]) M.1 M.2.1 dL_law_439 hl (by decide) rfl (fun ls hl => ?_)
        refine lv_aload_n M.1 M.2.1 dL_law_441 rfl (lv_at hl 4 rfl) ?_
        refine z_cR (z_runV (As := []) (rest := []) M (c_X7_thrown l D cy z0 bd 0 h su st sh fl 0 sn bn fm fr cm em lg le lf dl cS cH (zu sea (xZ xs (i + 1)) 0) noi pl pw an hd bp bo bw c1 c2 c3 c4 c5 e1 e2 e3 e4 e5) hE hS hAz hP (zRc.of (ci := 7) (q0 := 0) hE hP rfl rfl) zk_cd_X7_thrown zk_in_RX7 zk_im_X7_thrown zk_se_X7_thrown zk_ml_RL_116 rfl rfl zd_X7_thrown ⟨by decide, by decide⟩ rfl hl.1 rfl (Nat.le_of_ble_eq_true rfl) dL_law_442 ⟨by show _ ≤ 601024; omega, by show _ ≤ 7293034; omega⟩) ?_
        refine lv_iload M.1 M.2.1 dL_law_445 (lv_at hl 1 rfl) ?_
        refine zi_same (tgt := 452) M dL_law_447 (by decide) ?_
        refine lv_iload M.1 M.2.1 dL_law_452 (lv_at hl 1 rfl) ?_
        refine zi_if_ne (tgt := 476) M dL_law_454 (by decide) ⟨by decide, by decide⟩ (fun q => absurd q (by decide)) (fun _ => ?_)
        refine lv_aload_n M.1 M.2.1 dL_law_457 rfl (lv_at hl 5 rfl) ?_
        refine zi_push M dL_law_458 ?_
        refine zi_lald M hE hPm 43 rfl dL_law_459 ?_
        refine lv_iload M.1 M.2.1 dL_law_460 (lv_at hl 0 rfl) ?_
        refine zi_if_eq (tgt := 469) M dL_law_462 (by decide) (by omega) (fun c_8 => ?_) (fun c_8 => ?_)
        ·
          refine lv_lconst M.1 M.2.1 dL_law_469 rfl (zi_lpush M (n := sea (xZ xs (i + 1))) (by rw [c_8]; rfl) ?_)
          refine zi_lcmpE M dL_law_470 ?_
          refine zi_if_eq (tgt := 476) M dL_law_471 (by decide) ⟨by decide, by decide⟩ (fun _ => ?_) (fun q => absurd q (by decide))
          refine zi_goto (tgt := 2286) M dL_law_476 (by decide) ?_
          have hPx := hP
          have hP := hPm
          have hPm := hPx
          have hD := zD_c hD
          refine W.widen (k := cells + 6) (n := slots + 36) (by omega) (by omega) ?_
          exact hback h su st sh fl sn bn cm em ep fm fr 0 (sea (xZ xs (i + 1))) lg le lf dl cS cH (zu sea (xZ xs (i + 1)) 0) noi pl pw an hd fq bp bw ban bhd bo c1 c2 c3 c4 c5 e1 e2 e3 e4 e5 ur h_h h_su h_st h_sh h_fl h_sn h_bn h_cm h_em g_cS g_cH (zrg_zu g_sea (by omega)) g_noi g_pl g_pw g_an g_hd g_bp g_bw g_ban g_bhd g_c1 g_c2 g_c3 g_c4 g_c5 g_e1 g_e2 g_e3 g_e4 g_e5 hbo hep H locs hP hPm hD hS ls (lv_sub hl [2, 3, 4, 5, 6] rfl)
        ·
          refine lv_lconst M.1 M.2.1 dL_law_465 rfl (zi_lpush M (n := sea (xZ xs (i + 1))) (by rw [show (sea (xZ xs (i + 1))) = 1 from by omega]; rfl) ?_)
          refine zi_goto (tgt := 470) M dL_law_466 (by decide) ?_
          refine zi_lcmpE M dL_law_470 ?_
          refine zi_if_eq (tgt := 476) M dL_law_471 (by decide) ⟨by decide, by decide⟩ (fun _ => ?_) (fun q => absurd q (by decide))
          refine zi_goto (tgt := 2286) M dL_law_476 (by decide) ?_
          have hPx := hP
          have hP := hPm
          have hPm := hPx
          have hD := zD_c hD
          refine W.widen (k := cells + 6) (n := slots + 36) (by omega) (by omega) ?_
          exact hback h su st sh fl sn bn cm em ep fm fr 0 (sea (xZ xs (i + 1))) lg le lf dl cS cH (zu sea (xZ xs (i + 1)) 0) noi pl pw an hd fq bp bw ban bhd bo c1 c2 c3 c4 c5 e1 e2 e3 e4 e5 ur h_h h_su h_st h_sh h_fl h_sn h_bn h_cm h_em g_cS g_cH (zrg_zu g_sea (by omega)) g_noi g_pl g_pw g_an g_hd g_bp g_bw g_ban g_bhd g_c1 g_c2 g_c3 g_c4 g_c5 g_e1 g_e2 g_e3 g_e4 g_e5 hbo hep H locs hP hPm hD hS ls (lv_sub hl [2, 3, 4, 5, 6] rfl)
      ·
        have hP : va_P D vwCl (mdlW bd 0 cy 1 h su st sh fl 0 sn bn fm fr cm em lg le lf dl cS cH sea noi pl pw an hd bp bo bw c1 c2 c3 c4 c5 e1 e2 e3 e4 e5) H := hP
        have hD : va_D (fun q => z0 ≤ q) ((mdlW bd 0 cy 1 h su st sh fl 0 sn bn fm fr cm em lg le lf dl cS cH sea noi pl pw an hd bp bo bw c1 c2 c3 c4 c5 e1 e2 e3 e4 e5) ++ ((rooW ad 0 cy fm fr) ++ ((airW ad 1 cy h su st sh fl cS cH (dnD h fl) (dnE h cS) (dnF h su st)) ++ ((airW ad 8 cy h su 0 0 0 (fun _ => 0) (fun _ => 0) (dnD h 0) (dnE h (fun _ => 0)) (dnF h su 0)) ++ ((grdW ad 15 cy (zu sea (xZ xs (i + 1)) 0) noi) ++ ((rayW ad 18 cy (ur 0) (ur 1) (ur 2) (ur 3) (ur 4) (ur 5) (ur 6) (ur 7)) ++ ((sndW ad 19 cy 12 sn pl pw an hd fq) ++ ((sndW ad 25 cy 6 bn bp bw ban bhd bo) ++ ((conW ad 31 cy cm c1 c2 c3 c4 c5) ++ ((entW ad 37 cy em ep e1 e2 e3 e4 e5) ++ (outW od 0 cy (sea (xZ xs (i + 1)))))))))))))) := hD
        exfalso
        omega
    ·
      have hw_4 := hv_4.symm
      subst hw_4
      have hP : va_P D vwCl ((rooW ad 0 cy fm fr) ++ ((airW ad 1 cy h su st sh fl cS cH (dnD h fl) (dnE h cS) (dnF h su st)) ++ ((airW ad 8 cy h su 0 0 0 (fun _ => 0) (fun _ => 0) (dnD h 0) (dnE h (fun _ => 0)) (dnF h su 0)) ++ ((grdW ad 15 cy sea noi) ++ ((rayW ad 18 cy (ur 0) (ur 1) (ur 2) (ur 3) (ur 4) (ur 5) (ur 6) (ur 7)) ++ ((sndW ad 19 cy 12 sn pl pw an hd fq) ++ ((sndW ad 25 cy 6 bn bp bw ban bhd bo) ++ ((conW ad 31 cy cm c1 c2 c3 c4 c5) ++ ((entW ad 37 cy em ep e1 e2 e3 e4 e5) ++ (outW od 0 cy o)))))))))) H := hP
      have hD : va_D (fun q => z0 ≤ q) (((rooW ad 0 cy fm fr) ++ ((airW ad 1 cy h su st sh fl cS cH (dnD h fl) (dnE h cS) (dnF h su st)) ++ ((airW ad 8 cy h su 0 0 0 (fun _ => 0) (fun _ => 0) (dnD h 0) (dnE h (fun _ => 0)) (dnF h su 0)) ++ ((grdW ad 15 cy sea noi) ++ ((rayW ad 18 cy (ur 0) (ur 1) (ur 2) (ur 3) (ur 4) (ur 5) (ur 6) (ur 7)) ++ ((sndW ad 19 cy 12 sn pl pw an hd fq) ++ ((sndW ad 25 cy 6 bn bp bw ban bhd bo) ++ ((conW ad 31 cy cm c1 c2 c3 c4 c5) ++ ((entW ad 37 cy em ep e1 e2 e3 e4 e5) ++ (outW od 0 cy o)))))))))) ++ (mdlW bd 0 cy th h su st sh fl 0 sn bn fm fr cm em lg le lf dl cS cH sea noi pl pw an hd bp bo bw c1 c2 c3 c4 c5 e1 e2 e3 e4 e5)) := hD
      refine lv_istore (lv' := [(5, .int (iI 1)), (0, .ref (b)), (1, .ref (ad 0)), (2, .ref (bd 0)), (3, .ref (od 0)), (4, .int (iI i))]) M.1 M.2.1 dL_law_413 hl (by decide) rfl (fun ls hl => ?_)
      refine lv_aload_n M.1 M.2.1 dL_law_415 rfl (lv_at hl 3 rfl) ?_
      refine lv_aload_n M.1 M.2.1 dL_law_416 rfl (lv_at hl 1 rfl) ?_
      refine lv_iload M.1 M.2.1 dL_law_417 (lv_at hl 5 rfl) ?_
      refine zi_push M dL_law_419 ?_
      refine zi_iadd M dL_law_420 ?_
      refine zi_sld M hX hbl hbA hS hL (by omega) (by omega) dL_law_421 ?_
      have hx_9 := xZ_rg xs (i + 1)
      refine lv_aload_n M.1 M.2.1 dL_law_422 rfl (lv_at hl 1 rfl) ?_
      refine lv_iload M.1 M.2.1 dL_law_423 (lv_at hl 5 rfl) ?_
      refine zi_push M dL_law_425 ?_
      refine zi_iadd M dL_law_426 ?_
      refine zi_sld M hX hbl hbA hS hL (by omega) (by omega) dL_law_427 ?_
      have hx_10 := xZ_rg xs (i + 2)
      refine zi_if_eq (tgt := 435) M dL_law_428 (by decide) (by omega) (fun _ => ?_) (fun q => absurd c_3 q)
      refine zi_push M dL_law_435 ?_
      have hPx := hP
      have hP := hPm
      have hPm := hPx
      have hD := zD_c hD
      refine z_cW2 (z_runV (As := [.int (iI (xZ xs (i + 1))), .int (iI 0)]) (rest := []) M (c_X7_sea l D cy z0 bd th h su st sh fl 0 sn bn fm fr cm em lg le lf dl cS cH sea noi pl pw an hd bp bo bw c1 c2 c3 c4 c5 e1 e2 e3 e4 e5 (xZ xs (i + 1)) 0 (by omega) (by omega) g_sea g_noi) hE hS hAz (z_cut hP (zD_l hD) hAz [0, 1, 2, 3, 4, 5, 6, 7, 8, 9, 10, 11, 12, 13, 14, 15, 16, 17, 18, 19, 20, 21] rfl (by decide +kernel)) (zRc.of (ci := 7) (q0 := 0) hE hP rfl rfl) zk_cd_X7_sea zk_in_RX7 zk_im_X7_sea zk_se_X7_sea zk_ml_RL_134 rfl rfl zd_X7_sea ⟨by decide, by decide⟩ rfl hl.1 rfl (Nat.le_of_ble_eq_true rfl) dL_law_436 ⟨by show _ ≤ 601024; omega, by show _ ≤ 7293034; omega⟩) hP hPm hD hS [0, 1, 2, 3, 4, 5, 6, 7, 8, 9, 10, 11, 12, 13, 14, 15, 16, 17, 18, 19, 20, 21] rfl (fun _ => by simp only [List.map_append, mdlW_adr]) (fun r_11 u_11 H locs hp_11 hP hPm hD hS => ?_)
      try simp only [mdD_0, mdE_0, mdF_0, mdD_1, mdE_1, mdF_1] at hp_11
      have hP : va_P D vwCl (mdlW bd 0 cy u_11 h su st sh fl 0 sn bn fm fr cm em lg le lf dl cS cH (if u_11 = 0 then (zu sea (xZ xs (i + 1)) 0) else sea) noi pl pw an hd bp bo bw c1 c2 c3 c4 c5 e1 e2 e3 e4 e5) H := hP
      have hD : va_D (fun q => z0 ≤ q) ((mdlW bd 0 cy u_11 h su st sh fl 0 sn bn fm fr cm em lg le lf dl cS cH (if u_11 = 0 then (zu sea (xZ xs (i + 1)) 0) else sea) noi pl pw an hd bp bo bw c1 c2 c3 c4 c5 e1 e2 e3 e4 e5) ++ ((rooW ad 0 cy fm fr) ++ ((airW ad 1 cy h su st sh fl cS cH (dnD h fl) (dnE h cS) (dnF h su st)) ++ ((airW ad 8 cy h su 0 0 0 (fun _ => 0) (fun _ => 0) (dnD h 0) (dnE h (fun _ => 0)) (dnF h su 0)) ++ ((grdW ad 15 cy sea noi) ++ ((rayW ad 18 cy (ur 0) (ur 1) (ur 2) (ur 3) (ur 4) (ur 5) (ur 6) (ur 7)) ++ ((sndW ad 19 cy 12 sn pl pw an hd fq) ++ ((sndW ad 25 cy 6 bn bp bw ban bhd bo) ++ ((conW ad 31 cy cm c1 c2 c3 c4 c5) ++ ((entW ad 37 cy em ep e1 e2 e3 e4 e5) ++ (outW od 0 cy o))))))))))) := hD
      rcases hp_11 with ⟨rfl, hN_11, rfl⟩ | ⟨rfl, hN_11, rfl⟩
      ·
        have hP : va_P D vwCl (mdlW bd 0 cy 0 h su st sh fl 0 sn bn fm fr cm em lg le lf dl cS cH (zu sea (xZ xs (i + 1)) 0) noi pl pw an hd bp bo bw c1 c2 c3 c4 c5 e1 e2 e3 e4 e5) H := hP
        have hD : va_D (fun q => z0 ≤ q) ((mdlW bd 0 cy 0 h su st sh fl 0 sn bn fm fr cm em lg le lf dl cS cH (zu sea (xZ xs (i + 1)) 0) noi pl pw an hd bp bo bw c1 c2 c3 c4 c5 e1 e2 e3 e4 e5) ++ ((rooW ad 0 cy fm fr) ++ ((airW ad 1 cy h su st sh fl cS cH (dnD h fl) (dnE h cS) (dnF h su st)) ++ ((airW ad 8 cy h su 0 0 0 (fun _ => 0) (fun _ => 0) (dnD h 0) (dnE h (fun _ => 0)) (dnF h su 0)) ++ ((grdW ad 15 cy sea noi) ++ ((rayW ad 18 cy (ur 0) (ur 1) (ur 2) (ur 3) (ur 4) (ur 5) (ur 6) (ur 7)) ++ ((sndW ad 19 cy 12 sn pl pw an hd fq) ++ ((sndW ad 25 cy 6 bn bp bw ban bhd bo) ++ ((conW ad 31 cy cm c1 c2 c3 c4 c5) ++ ((entW ad 37 cy em ep e1 e2 e3 e4 e5) ++ (outW od 0 cy o))))))))))) := hD
        exfalso
        omega
      ·
        have hP : va_P D vwCl (mdlW bd 0 cy 1 h su st sh fl 0 sn bn fm fr cm em lg le lf dl cS cH sea noi pl pw an hd bp bo bw c1 c2 c3 c4 c5 e1 e2 e3 e4 e5) H := hP
        have hD : va_D (fun q => z0 ≤ q) ((mdlW bd 0 cy 1 h su st sh fl 0 sn bn fm fr cm em lg le lf dl cS cH sea noi pl pw an hd bp bo bw c1 c2 c3 c4 c5 e1 e2 e3 e4 e5) ++ ((rooW ad 0 cy fm fr) ++ ((airW ad 1 cy h su st sh fl cS cH (dnD h fl) (dnE h cS) (dnF h su st)) ++ ((airW ad 8 cy h su 0 0 0 (fun _ => 0) (fun _ => 0) (dnD h 0) (dnE h (fun _ => 0)) (dnF h su 0)) ++ ((grdW ad 15 cy sea noi) ++ ((rayW ad 18 cy (ur 0) (ur 1) (ur 2) (ur 3) (ur 4) (ur 5) (ur 6) (ur 7)) ++ ((sndW ad 19 cy 12 sn pl pw an hd fq) ++ ((sndW ad 25 cy 6 bn bp bw ban bhd bo) ++ ((conW ad 31 cy cm c1 c2 c3 c4 c5) ++ ((entW ad 37 cy em ep e1 e2 e3 e4 e5) ++ (outW od 0 cy o))))))))))) := hD
        refine lv_istore (lv' := [(6, .int (iI 0)), (5, .int (iI 1)), (0, .ref (b)), (1, .ref (ad 0)), (2, .ref (bd 0)), (3, .ref (od 0)), (4, .int (iI i))]) M.1 M.2.1 dL_law_439 hl (by decide) rfl (fun ls hl => ?_)
        refine lv_aload_n M.1 M.2.1 dL_law_441 rfl (lv_at hl 4 rfl) ?_
        refine z_cR (z_runV (As := []) (rest := []) M (c_X7_thrown l D cy z0 bd 1 h su st sh fl 0 sn bn fm fr cm em lg le lf dl cS cH sea noi pl pw an hd bp bo bw c1 c2 c3 c4 c5 e1 e2 e3 e4 e5) hE hS hAz hP (zRc.of (ci := 7) (q0 := 0) hE hP rfl rfl) zk_cd_X7_thrown zk_in_RX7 zk_im_X7_thrown zk_se_X7_thrown zk_ml_RL_116 rfl rfl zd_X7_thrown ⟨by decide, by decide⟩ rfl hl.1 rfl (Nat.le_of_ble_eq_true rfl) dL_law_442 ⟨by show _ ≤ 601024; omega, by show _ ≤ 7293034; omega⟩) ?_
        refine lv_iload M.1 M.2.1 dL_law_445 (lv_at hl 1 rfl) ?_
        refine zi_same (tgt := 452) M dL_law_447 (by decide) ?_
        refine lv_iload M.1 M.2.1 dL_law_452 (lv_at hl 1 rfl) ?_
        refine zi_if_ne (tgt := 476) M dL_law_454 (by decide) ⟨by decide, by decide⟩ (fun _ => ?_) (fun q => absurd q (by decide))
        refine zi_goto (tgt := 2286) M dL_law_476 (by decide) ?_
        have hPx := hP
        have hP := hPm
        have hPm := hPx
        have hD := zD_c hD
        refine W.widen (k := cells + 6) (n := slots + 36) (by omega) (by omega) ?_
        exact hback h su st sh fl sn bn cm em ep fm fr 1 o lg le lf dl cS cH sea noi pl pw an hd fq bp bw ban bhd bo c1 c2 c3 c4 c5 e1 e2 e3 e4 e5 ur h_h h_su h_st h_sh h_fl h_sn h_bn h_cm h_em g_cS g_cH g_sea g_noi g_pl g_pw g_an g_hd g_bp g_bw g_ban g_bhd g_c1 g_c2 g_c3 g_c4 g_c5 g_e1 g_e2 g_e3 g_e4 g_e5 hbo hep H locs hP hPm hD hS ls (lv_sub hl [2, 3, 4, 5, 6] rfl)
  ·
    refine zi_push M dL_law_404 ?_
    refine zi_goto (tgt := 409) M dL_law_405 (by decide) ?_
    refine lv_aload_n M.1 M.2.1 dL_law_409 rfl (lv_at hl 3 rfl) ?_
    refine z_cW2 (zx_runH (As := [.ref (ad 0), .int (iI (xZ xs (i + 1))), .int (iI 1), .ref (od 0)]) (rest := []) M (c_L_sea l hst D cy z0 ad od fm fr o sea noi (xZ xs (i + 1)) 1 (by omega) (by omega) g_sea g_noi) hE hN hS hAz (z_cut hP (zD_l hD) hAz [0, 15, 16, 17, 43] rfl (by decide +kernel)) zk_cw_L_sea zk_in_RL zk_st_L_sea zk_ml_RL_131 rfl rfl zd_L_sea ⟨by decide, by decide⟩ rfl hl.1 rfl (Nat.le_of_ble_eq_true rfl) dL_law_410 ⟨by show _ ≤ 601024; omega, by show _ ≤ 7293034; omega⟩) hP hPm hD hS [0, 15, 16, 17, 43] rfl (fun _ => by simp only [List.map_append, grdW_adr, outW_adr, rooW_adr]) (fun r_12 u_12 H locs hp_12 hP hPm hD hS => ?_)
    have hP : va_P D vwCl ((rooW ad 0 cy fm fr) ++ ((airW ad 1 cy h su st sh fl cS cH (dnD h fl) (dnE h cS) (dnF h su st)) ++ ((airW ad 8 cy h su 0 0 0 (fun _ => 0) (fun _ => 0) (dnD h 0) (dnE h (fun _ => 0)) (dnF h su 0)) ++ ((grdW ad 15 cy (if u_12.1 = 0 then (zu sea (xZ xs (i + 1)) 1) else sea) noi) ++ ((rayW ad 18 cy (ur 0) (ur 1) (ur 2) (ur 3) (ur 4) (ur 5) (ur 6) (ur 7)) ++ ((sndW ad 19 cy 12 sn pl pw an hd fq) ++ ((sndW ad 25 cy 6 bn bp bw ban bhd bo) ++ ((conW ad 31 cy cm c1 c2 c3 c4 c5) ++ ((entW ad 37 cy em ep e1 e2 e3 e4 e5) ++ (outW od 0 cy u_12.2.1)))))))))) H := hP
    have hD : va_D (fun q => z0 ≤ q) (((rooW ad 0 cy fm fr) ++ ((airW ad 1 cy h su st sh fl cS cH (dnD h fl) (dnE h cS) (dnF h su st)) ++ ((airW ad 8 cy h su 0 0 0 (fun _ => 0) (fun _ => 0) (dnD h 0) (dnE h (fun _ => 0)) (dnF h su 0)) ++ ((grdW ad 15 cy (if u_12.1 = 0 then (zu sea (xZ xs (i + 1)) 1) else sea) noi) ++ ((rayW ad 18 cy (ur 0) (ur 1) (ur 2) (ur 3) (ur 4) (ur 5) (ur 6) (ur 7)) ++ ((sndW ad 19 cy 12 sn pl pw an hd fq) ++ ((sndW ad 25 cy 6 bn bp bw ban bhd bo) ++ ((conW ad 31 cy cm c1 c2 c3 c4 c5) ++ ((entW ad 37 cy em ep e1 e2 e3 e4 e5) ++ (outW od 0 cy u_12.2.1)))))))))) ++ (mdlW bd 0 cy th h su st sh fl 0 sn bn fm fr cm em lg le lf dl cS cH sea noi pl pw an hd bp bo bw c1 c2 c3 c4 c5 e1 e2 e3 e4 e5)) := hD
    obtain ⟨u1_12, u2_12, u3_12⟩ := u_12
    dsimp only at hp_12
    rcases hp_12 with ⟨rfl, rfl, hN_12, hv_12⟩ | ⟨rfl, rfl, hN_12, hv_12⟩
    ·
      have hw_12 := hv_12.symm
      subst hw_12
      have hP : va_P D vwCl ((rooW ad 0 cy fm fr) ++ ((airW ad 1 cy h su st sh fl cS cH (dnD h fl) (dnE h cS) (dnF h su st)) ++ ((airW ad 8 cy h su 0 0 0 (fun _ => 0) (fun _ => 0) (dnD h 0) (dnE h (fun _ => 0)) (dnF h su 0)) ++ ((grdW ad 15 cy (zu sea (xZ xs (i + 1)) 1) noi) ++ ((rayW ad 18 cy (ur 0) (ur 1) (ur 2) (ur 3) (ur 4) (ur 5) (ur 6) (ur 7)) ++ ((sndW ad 19 cy 12 sn pl pw an hd fq) ++ ((sndW ad 25 cy 6 bn bp bw ban bhd bo) ++ ((conW ad 31 cy cm c1 c2 c3 c4 c5) ++ ((entW ad 37 cy em ep e1 e2 e3 e4 e5) ++ (outW od 0 cy (sea (xZ xs (i + 1))))))))))))) H := hP
      have hD : va_D (fun q => z0 ≤ q) (((rooW ad 0 cy fm fr) ++ ((airW ad 1 cy h su st sh fl cS cH (dnD h fl) (dnE h cS) (dnF h su st)) ++ ((airW ad 8 cy h su 0 0 0 (fun _ => 0) (fun _ => 0) (dnD h 0) (dnE h (fun _ => 0)) (dnF h su 0)) ++ ((grdW ad 15 cy (zu sea (xZ xs (i + 1)) 1) noi) ++ ((rayW ad 18 cy (ur 0) (ur 1) (ur 2) (ur 3) (ur 4) (ur 5) (ur 6) (ur 7)) ++ ((sndW ad 19 cy 12 sn pl pw an hd fq) ++ ((sndW ad 25 cy 6 bn bp bw ban bhd bo) ++ ((conW ad 31 cy cm c1 c2 c3 c4 c5) ++ ((entW ad 37 cy em ep e1 e2 e3 e4 e5) ++ (outW od 0 cy (sea (xZ xs (i + 1))))))))))))) ++ (mdlW bd 0 cy th h su st sh fl 0 sn bn fm fr cm em lg le lf dl cS cH sea noi pl pw an hd bp bo bw c1 c2 c3 c4 c5 e1 e2 e3 e4 e5)) := hD
      refine lv_istore (lv' := [(5, .int (iI 0)), (0, .ref (b)), (1, .ref (ad 0)), (2, .ref (bd 0)), (3, .ref (od 0)), (4, .int (iI i))]) M.1 M.2.1 dL_law_413 hl (by decide) rfl (fun ls hl => ?_)
      refine lv_aload_n M.1 M.2.1 dL_law_415 rfl (lv_at hl 3 rfl) ?_
      refine lv_aload_n M.1 M.2.1 dL_law_416 rfl (lv_at hl 1 rfl) ?_
      refine lv_iload M.1 M.2.1 dL_law_417 (lv_at hl 5 rfl) ?_
      refine zi_push M dL_law_419 ?_
      refine zi_iadd M dL_law_420 ?_
      refine zi_sld M hX hbl hbA hS hL (by omega) (by omega) dL_law_421 ?_
      have hx_13 := xZ_rg xs (i + 1)
      refine lv_aload_n M.1 M.2.1 dL_law_422 rfl (lv_at hl 1 rfl) ?_
      refine lv_iload M.1 M.2.1 dL_law_423 (lv_at hl 5 rfl) ?_
      refine zi_push M dL_law_425 ?_
      refine zi_iadd M dL_law_426 ?_
      refine zi_sld M hX hbl hbA hS hL (by omega) (by omega) dL_law_427 ?_
      have hx_14 := xZ_rg xs (i + 2)
      refine zi_if_eq (tgt := 435) M dL_law_428 (by decide) (by omega) (fun q => absurd q c_3) (fun _ => ?_)
      refine zi_push M dL_law_431 ?_
      refine zi_goto (tgt := 436) M dL_law_432 (by decide) ?_
      have hPx := hP
      have hP := hPm
      have hPm := hPx
      have hD := zD_c hD
      refine z_cW2 (z_runV (As := [.int (iI (xZ xs (i + 1))), .int (iI 1)]) (rest := []) M (c_X7_sea l D cy z0 bd th h su st sh fl 0 sn bn fm fr cm em lg le lf dl cS cH sea noi pl pw an hd bp bo bw c1 c2 c3 c4 c5 e1 e2 e3 e4 e5 (xZ xs (i + 1)) 1 (by omega) (by omega) g_sea g_noi) hE hS hAz (z_cut hP (zD_l hD) hAz [0, 1, 2, 3, 4, 5, 6, 7, 8, 9, 10, 11, 12, 13, 14, 15, 16, 17, 18, 19, 20, 21] rfl (by decide +kernel)) (zRc.of (ci := 7) (q0 := 0) hE hP rfl rfl) zk_cd_X7_sea zk_in_RX7 zk_im_X7_sea zk_se_X7_sea zk_ml_RL_134 rfl rfl zd_X7_sea ⟨by decide, by decide⟩ rfl hl.1 rfl (Nat.le_of_ble_eq_true rfl) dL_law_436 ⟨by show _ ≤ 601024; omega, by show _ ≤ 7293034; omega⟩) hP hPm hD hS [0, 1, 2, 3, 4, 5, 6, 7, 8, 9, 10, 11, 12, 13, 14, 15, 16, 17, 18, 19, 20, 21] rfl (fun _ => by simp only [List.map_append, mdlW_adr]) (fun r_15 u_15 H locs hp_15 hP hPm hD hS => ?_)
      try simp only [mdD_0, mdE_0, mdF_0, mdD_1, mdE_1, mdF_1] at hp_15
      have hP : va_P D vwCl (mdlW bd 0 cy u_15 h su st sh fl 0 sn bn fm fr cm em lg le lf dl cS cH (if u_15 = 0 then (zu sea (xZ xs (i + 1)) 1) else sea) noi pl pw an hd bp bo bw c1 c2 c3 c4 c5 e1 e2 e3 e4 e5) H := hP
      have hD : va_D (fun q => z0 ≤ q) ((mdlW bd 0 cy u_15 h su st sh fl 0 sn bn fm fr cm em lg le lf dl cS cH (if u_15 = 0 then (zu sea (xZ xs (i + 1)) 1) else sea) noi pl pw an hd bp bo bw c1 c2 c3 c4 c5 e1 e2 e3 e4 e5) ++ ((rooW ad 0 cy fm fr) ++ ((airW ad 1 cy h su st sh fl cS cH (dnD h fl) (dnE h cS) (dnF h su st)) ++ ((airW ad 8 cy h su 0 0 0 (fun _ => 0) (fun _ => 0) (dnD h 0) (dnE h (fun _ => 0)) (dnF h su 0)) ++ ((grdW ad 15 cy (zu sea (xZ xs (i + 1)) 1) noi) ++ ((rayW ad 18 cy (ur 0) (ur 1) (ur 2) (ur 3) (ur 4) (ur 5) (ur 6) (ur 7)) ++ ((sndW ad 19 cy 12 sn pl pw an hd fq) ++ ((sndW ad 25 cy 6 bn bp bw ban bhd bo) ++ ((conW ad 31 cy cm c1 c2 c3 c4 c5) ++ ((entW ad 37 cy em ep e1 e2 e3 e4 e5) ++ (outW od 0 cy (sea (xZ xs (i + 1)))))))))))))) := hD
      rcases hp_15 with ⟨rfl, hN_15, rfl⟩ | ⟨rfl, hN_15, rfl⟩
      ·
        have hP : va_P D vwCl (mdlW bd 0 cy 0 h su st sh fl 0 sn bn fm fr cm em lg le lf dl cS cH (zu sea (xZ xs (i + 1)) 1) noi pl pw an hd bp bo bw c1 c2 c3 c4 c5 e1 e2 e3 e4 e5) H := hP
        have hD : va_D (fun q => z0 ≤ q) ((mdlW bd 0 cy 0 h su st sh fl 0 sn bn fm fr cm em lg le lf dl cS cH (zu sea (xZ xs (i + 1)) 1) noi pl pw an hd bp bo bw c1 c2 c3 c4 c5 e1 e2 e3 e4 e5) ++ ((rooW ad 0 cy fm fr) ++ ((airW ad 1 cy h su st sh fl cS cH (dnD h fl) (dnE h cS) (dnF h su st)) ++ ((airW ad 8 cy h su 0 0 0 (fun _ => 0) (fun _ => 0) (dnD h 0) (dnE h (fun _ => 0)) (dnF h su 0)) ++ ((grdW ad 15 cy (zu sea (xZ xs (i + 1)) 1) noi) ++ ((rayW ad 18 cy (ur 0) (ur 1) (ur 2) (ur 3) (ur 4) (ur 5) (ur 6) (ur 7)) ++ ((sndW ad 19 cy 12 sn pl pw an hd fq) ++ ((sndW ad 25 cy 6 bn bp bw ban bhd bo) ++ ((conW ad 31 cy cm c1 c2 c3 c4 c5) ++ ((entW ad 37 cy em ep e1 e2 e3 e4 e5) ++ (outW od 0 cy (sea (xZ xs (i + 1)))))))))))))) := hD
        have hv01 : sea (xZ xs (i + 1)) = 0 ∨ sea (xZ xs (i + 1)) = 1 := (by have := g_sea (xZ xs (i + 1)) (by omega) (by omega); omega)
        refine lv_istore (lv' := [(6, .int (iI (sea (xZ xs (i + 1))))), (5, .int (iI 0)), (0, .ref (b)), (1, .ref (ad 0)), (2, .ref (bd 0)), (3, .ref (od 0)), (4, .int (iI i))]) M.1 M.2.1 dL_law_439 hl (by decide) rfl (fun ls hl => ?_)
        refine lv_aload_n M.1 M.2.1 dL_law_441 rfl (lv_at hl 4 rfl) ?_
        refine z_cR (z_runV (As := []) (rest := []) M (c_X7_thrown l D cy z0 bd 0 h su st sh fl 0 sn bn fm fr cm em lg le lf dl cS cH (zu sea (xZ xs (i + 1)) 1) noi pl pw an hd bp bo bw c1 c2 c3 c4 c5 e1 e2 e3 e4 e5) hE hS hAz hP (zRc.of (ci := 7) (q0 := 0) hE hP rfl rfl) zk_cd_X7_thrown zk_in_RX7 zk_im_X7_thrown zk_se_X7_thrown zk_ml_RL_116 rfl rfl zd_X7_thrown ⟨by decide, by decide⟩ rfl hl.1 rfl (Nat.le_of_ble_eq_true rfl) dL_law_442 ⟨by show _ ≤ 601024; omega, by show _ ≤ 7293034; omega⟩) ?_
        refine lv_iload M.1 M.2.1 dL_law_445 (lv_at hl 1 rfl) ?_
        refine zi_same (tgt := 452) M dL_law_447 (by decide) ?_
        refine lv_iload M.1 M.2.1 dL_law_452 (lv_at hl 1 rfl) ?_
        refine zi_if_ne (tgt := 476) M dL_law_454 (by decide) ⟨by decide, by decide⟩ (fun q => absurd q (by decide)) (fun _ => ?_)
        refine lv_aload_n M.1 M.2.1 dL_law_457 rfl (lv_at hl 5 rfl) ?_
        refine zi_push M dL_law_458 ?_
        refine zi_lald M hE hPm 43 rfl dL_law_459 ?_
        refine lv_iload M.1 M.2.1 dL_law_460 (lv_at hl 0 rfl) ?_
        refine zi_if_eq (tgt := 469) M dL_law_462 (by decide) (by omega) (fun c_16 => ?_) (fun c_16 => ?_)
        ·
          refine lv_lconst M.1 M.2.1 dL_law_469 rfl (zi_lpush M (n := sea (xZ xs (i + 1))) (by rw [c_16]; rfl) ?_)
          refine zi_lcmpE M dL_law_470 ?_
          refine zi_if_eq (tgt := 476) M dL_law_471 (by decide) ⟨by decide, by decide⟩ (fun _ => ?_) (fun q => absurd q (by decide))
          refine zi_goto (tgt := 2286) M dL_law_476 (by decide) ?_
          have hPx := hP
          have hP := hPm
          have hPm := hPx
          have hD := zD_c hD
          refine W.widen (k := cells + 6) (n := slots + 36) (by omega) (by omega) ?_
          exact hback h su st sh fl sn bn cm em ep fm fr 0 (sea (xZ xs (i + 1))) lg le lf dl cS cH (zu sea (xZ xs (i + 1)) 1) noi pl pw an hd fq bp bw ban bhd bo c1 c2 c3 c4 c5 e1 e2 e3 e4 e5 ur h_h h_su h_st h_sh h_fl h_sn h_bn h_cm h_em g_cS g_cH (zrg_zu g_sea (by omega)) g_noi g_pl g_pw g_an g_hd g_bp g_bw g_ban g_bhd g_c1 g_c2 g_c3 g_c4 g_c5 g_e1 g_e2 g_e3 g_e4 g_e5 hbo hep H locs hP hPm hD hS ls (lv_sub hl [2, 3, 4, 5, 6] rfl)
        ·
          refine lv_lconst M.1 M.2.1 dL_law_465 rfl (zi_lpush M (n := sea (xZ xs (i + 1))) (by rw [show (sea (xZ xs (i + 1))) = 1 from by omega]; rfl) ?_)
          refine zi_goto (tgt := 470) M dL_law_466 (by decide) ?_
          refine zi_lcmpE M dL_law_470 ?_
          refine zi_if_eq (tgt := 476) M dL_law_471 (by decide) ⟨by decide, by decide⟩ (fun _ => ?_) (fun q => absurd q (by decide))
          refine zi_goto (tgt := 2286) M dL_law_476 (by decide) ?_
          have hPx := hP
          have hP := hPm
          have hPm := hPx
          have hD := zD_c hD
          refine W.widen (k := cells + 6) (n := slots + 36) (by omega) (by omega) ?_
          exact hback h su st sh fl sn bn cm em ep fm fr 0 (sea (xZ xs (i + 1))) lg le lf dl cS cH (zu sea (xZ xs (i + 1)) 1) noi pl pw an hd fq bp bw ban bhd bo c1 c2 c3 c4 c5 e1 e2 e3 e4 e5 ur h_h h_su h_st h_sh h_fl h_sn h_bn h_cm h_em g_cS g_cH (zrg_zu g_sea (by omega)) g_noi g_pl g_pw g_an g_hd g_bp g_bw g_ban g_bhd g_c1 g_c2 g_c3 g_c4 g_c5 g_e1 g_e2 g_e3 g_e4 g_e5 hbo hep H locs hP hPm hD hS ls (lv_sub hl [2, 3, 4, 5, 6] rfl)
      ·
        have hP : va_P D vwCl (mdlW bd 0 cy 1 h su st sh fl 0 sn bn fm fr cm em lg le lf dl cS cH sea noi pl pw an hd bp bo bw c1 c2 c3 c4 c5 e1 e2 e3 e4 e5) H := hP
        have hD : va_D (fun q => z0 ≤ q) ((mdlW bd 0 cy 1 h su st sh fl 0 sn bn fm fr cm em lg le lf dl cS cH sea noi pl pw an hd bp bo bw c1 c2 c3 c4 c5 e1 e2 e3 e4 e5) ++ ((rooW ad 0 cy fm fr) ++ ((airW ad 1 cy h su st sh fl cS cH (dnD h fl) (dnE h cS) (dnF h su st)) ++ ((airW ad 8 cy h su 0 0 0 (fun _ => 0) (fun _ => 0) (dnD h 0) (dnE h (fun _ => 0)) (dnF h su 0)) ++ ((grdW ad 15 cy (zu sea (xZ xs (i + 1)) 1) noi) ++ ((rayW ad 18 cy (ur 0) (ur 1) (ur 2) (ur 3) (ur 4) (ur 5) (ur 6) (ur 7)) ++ ((sndW ad 19 cy 12 sn pl pw an hd fq) ++ ((sndW ad 25 cy 6 bn bp bw ban bhd bo) ++ ((conW ad 31 cy cm c1 c2 c3 c4 c5) ++ ((entW ad 37 cy em ep e1 e2 e3 e4 e5) ++ (outW od 0 cy (sea (xZ xs (i + 1)))))))))))))) := hD
        exfalso
        omega
    ·
      have hw_12 := hv_12.symm
      subst hw_12
      have hP : va_P D vwCl ((rooW ad 0 cy fm fr) ++ ((airW ad 1 cy h su st sh fl cS cH (dnD h fl) (dnE h cS) (dnF h su st)) ++ ((airW ad 8 cy h su 0 0 0 (fun _ => 0) (fun _ => 0) (dnD h 0) (dnE h (fun _ => 0)) (dnF h su 0)) ++ ((grdW ad 15 cy sea noi) ++ ((rayW ad 18 cy (ur 0) (ur 1) (ur 2) (ur 3) (ur 4) (ur 5) (ur 6) (ur 7)) ++ ((sndW ad 19 cy 12 sn pl pw an hd fq) ++ ((sndW ad 25 cy 6 bn bp bw ban bhd bo) ++ ((conW ad 31 cy cm c1 c2 c3 c4 c5) ++ ((entW ad 37 cy em ep e1 e2 e3 e4 e5) ++ (outW od 0 cy o)))))))))) H := hP
      have hD : va_D (fun q => z0 ≤ q) (((rooW ad 0 cy fm fr) ++ ((airW ad 1 cy h su st sh fl cS cH (dnD h fl) (dnE h cS) (dnF h su st)) ++ ((airW ad 8 cy h su 0 0 0 (fun _ => 0) (fun _ => 0) (dnD h 0) (dnE h (fun _ => 0)) (dnF h su 0)) ++ ((grdW ad 15 cy sea noi) ++ ((rayW ad 18 cy (ur 0) (ur 1) (ur 2) (ur 3) (ur 4) (ur 5) (ur 6) (ur 7)) ++ ((sndW ad 19 cy 12 sn pl pw an hd fq) ++ ((sndW ad 25 cy 6 bn bp bw ban bhd bo) ++ ((conW ad 31 cy cm c1 c2 c3 c4 c5) ++ ((entW ad 37 cy em ep e1 e2 e3 e4 e5) ++ (outW od 0 cy o)))))))))) ++ (mdlW bd 0 cy th h su st sh fl 0 sn bn fm fr cm em lg le lf dl cS cH sea noi pl pw an hd bp bo bw c1 c2 c3 c4 c5 e1 e2 e3 e4 e5)) := hD
      refine lv_istore (lv' := [(5, .int (iI 1)), (0, .ref (b)), (1, .ref (ad 0)), (2, .ref (bd 0)), (3, .ref (od 0)), (4, .int (iI i))]) M.1 M.2.1 dL_law_413 hl (by decide) rfl (fun ls hl => ?_)
      refine lv_aload_n M.1 M.2.1 dL_law_415 rfl (lv_at hl 3 rfl) ?_
      refine lv_aload_n M.1 M.2.1 dL_law_416 rfl (lv_at hl 1 rfl) ?_
      refine lv_iload M.1 M.2.1 dL_law_417 (lv_at hl 5 rfl) ?_
      refine zi_push M dL_law_419 ?_
      refine zi_iadd M dL_law_420 ?_
      refine zi_sld M hX hbl hbA hS hL (by omega) (by omega) dL_law_421 ?_
      have hx_17 := xZ_rg xs (i + 1)
      refine lv_aload_n M.1 M.2.1 dL_law_422 rfl (lv_at hl 1 rfl) ?_
      refine lv_iload M.1 M.2.1 dL_law_423 (lv_at hl 5 rfl) ?_
      refine zi_push M dL_law_425 ?_
      refine zi_iadd M dL_law_426 ?_
      refine zi_sld M hX hbl hbA hS hL (by omega) (by omega) dL_law_427 ?_
      have hx_18 := xZ_rg xs (i + 2)
      refine zi_if_eq (tgt := 435) M dL_law_428 (by decide) (by omega) (fun q => absurd q c_3) (fun _ => ?_)
      refine zi_push M dL_law_431 ?_
      refine zi_goto (tgt := 436) M dL_law_432 (by decide) ?_
      have hPx := hP
      have hP := hPm
      have hPm := hPx
      have hD := zD_c hD
      refine z_cW2 (z_runV (As := [.int (iI (xZ xs (i + 1))), .int (iI 1)]) (rest := []) M (c_X7_sea l D cy z0 bd th h su st sh fl 0 sn bn fm fr cm em lg le lf dl cS cH sea noi pl pw an hd bp bo bw c1 c2 c3 c4 c5 e1 e2 e3 e4 e5 (xZ xs (i + 1)) 1 (by omega) (by omega) g_sea g_noi) hE hS hAz (z_cut hP (zD_l hD) hAz [0, 1, 2, 3, 4, 5, 6, 7, 8, 9, 10, 11, 12, 13, 14, 15, 16, 17, 18, 19, 20, 21] rfl (by decide +kernel)) (zRc.of (ci := 7) (q0 := 0) hE hP rfl rfl) zk_cd_X7_sea zk_in_RX7 zk_im_X7_sea zk_se_X7_sea zk_ml_RL_134 rfl rfl zd_X7_sea ⟨by decide, by decide⟩ rfl hl.1 rfl (Nat.le_of_ble_eq_true rfl) dL_law_436 ⟨by show _ ≤ 601024; omega, by show _ ≤ 7293034; omega⟩) hP hPm hD hS [0, 1, 2, 3, 4, 5, 6, 7, 8, 9, 10, 11, 12, 13, 14, 15, 16, 17, 18, 19, 20, 21] rfl (fun _ => by simp only [List.map_append, mdlW_adr]) (fun r_19 u_19 H locs hp_19 hP hPm hD hS => ?_)
      try simp only [mdD_0, mdE_0, mdF_0, mdD_1, mdE_1, mdF_1] at hp_19
      have hP : va_P D vwCl (mdlW bd 0 cy u_19 h su st sh fl 0 sn bn fm fr cm em lg le lf dl cS cH (if u_19 = 0 then (zu sea (xZ xs (i + 1)) 1) else sea) noi pl pw an hd bp bo bw c1 c2 c3 c4 c5 e1 e2 e3 e4 e5) H := hP
      have hD : va_D (fun q => z0 ≤ q) ((mdlW bd 0 cy u_19 h su st sh fl 0 sn bn fm fr cm em lg le lf dl cS cH (if u_19 = 0 then (zu sea (xZ xs (i + 1)) 1) else sea) noi pl pw an hd bp bo bw c1 c2 c3 c4 c5 e1 e2 e3 e4 e5) ++ ((rooW ad 0 cy fm fr) ++ ((airW ad 1 cy h su st sh fl cS cH (dnD h fl) (dnE h cS) (dnF h su st)) ++ ((airW ad 8 cy h su 0 0 0 (fun _ => 0) (fun _ => 0) (dnD h 0) (dnE h (fun _ => 0)) (dnF h su 0)) ++ ((grdW ad 15 cy sea noi) ++ ((rayW ad 18 cy (ur 0) (ur 1) (ur 2) (ur 3) (ur 4) (ur 5) (ur 6) (ur 7)) ++ ((sndW ad 19 cy 12 sn pl pw an hd fq) ++ ((sndW ad 25 cy 6 bn bp bw ban bhd bo) ++ ((conW ad 31 cy cm c1 c2 c3 c4 c5) ++ ((entW ad 37 cy em ep e1 e2 e3 e4 e5) ++ (outW od 0 cy o))))))))))) := hD
      rcases hp_19 with ⟨rfl, hN_19, rfl⟩ | ⟨rfl, hN_19, rfl⟩
      ·
        have hP : va_P D vwCl (mdlW bd 0 cy 0 h su st sh fl 0 sn bn fm fr cm em lg le lf dl cS cH (zu sea (xZ xs (i + 1)) 1) noi pl pw an hd bp bo bw c1 c2 c3 c4 c5 e1 e2 e3 e4 e5) H := hP
        have hD : va_D (fun q => z0 ≤ q) ((mdlW bd 0 cy 0 h su st sh fl 0 sn bn fm fr cm em lg le lf dl cS cH (zu sea (xZ xs (i + 1)) 1) noi pl pw an hd bp bo bw c1 c2 c3 c4 c5 e1 e2 e3 e4 e5) ++ ((rooW ad 0 cy fm fr) ++ ((airW ad 1 cy h su st sh fl cS cH (dnD h fl) (dnE h cS) (dnF h su st)) ++ ((airW ad 8 cy h su 0 0 0 (fun _ => 0) (fun _ => 0) (dnD h 0) (dnE h (fun _ => 0)) (dnF h su 0)) ++ ((grdW ad 15 cy sea noi) ++ ((rayW ad 18 cy (ur 0) (ur 1) (ur 2) (ur 3) (ur 4) (ur 5) (ur 6) (ur 7)) ++ ((sndW ad 19 cy 12 sn pl pw an hd fq) ++ ((sndW ad 25 cy 6 bn bp bw ban bhd bo) ++ ((conW ad 31 cy cm c1 c2 c3 c4 c5) ++ ((entW ad 37 cy em ep e1 e2 e3 e4 e5) ++ (outW od 0 cy o))))))))))) := hD
        exfalso
        omega
      ·
        have hP : va_P D vwCl (mdlW bd 0 cy 1 h su st sh fl 0 sn bn fm fr cm em lg le lf dl cS cH sea noi pl pw an hd bp bo bw c1 c2 c3 c4 c5 e1 e2 e3 e4 e5) H := hP
        have hD : va_D (fun q => z0 ≤ q) ((mdlW bd 0 cy 1 h su st sh fl 0 sn bn fm fr cm em lg le lf dl cS cH sea noi pl pw an hd bp bo bw c1 c2 c3 c4 c5 e1 e2 e3 e4 e5) ++ ((rooW ad 0 cy fm fr) ++ ((airW ad 1 cy h su st sh fl cS cH (dnD h fl) (dnE h cS) (dnF h su st)) ++ ((airW ad 8 cy h su 0 0 0 (fun _ => 0) (fun _ => 0) (dnD h 0) (dnE h (fun _ => 0)) (dnF h su 0)) ++ ((grdW ad 15 cy sea noi) ++ ((rayW ad 18 cy (ur 0) (ur 1) (ur 2) (ur 3) (ur 4) (ur 5) (ur 6) (ur 7)) ++ ((sndW ad 19 cy 12 sn pl pw an hd fq) ++ ((sndW ad 25 cy 6 bn bp bw ban bhd bo) ++ ((conW ad 31 cy cm c1 c2 c3 c4 c5) ++ ((entW ad 37 cy em ep e1 e2 e3 e4 e5) ++ (outW od 0 cy o))))))))))) := hD
        refine lv_istore (lv' := [(6, .int (iI 0)), (5, .int (iI 1)), (0, .ref (b)), (1, .ref (ad 0)), (2, .ref (bd 0)), (3, .ref (od 0)), (4, .int (iI i))]) M.1 M.2.1 dL_law_439 hl (by decide) rfl (fun ls hl => ?_)
        refine lv_aload_n M.1 M.2.1 dL_law_441 rfl (lv_at hl 4 rfl) ?_
        refine z_cR (z_runV (As := []) (rest := []) M (c_X7_thrown l D cy z0 bd 1 h su st sh fl 0 sn bn fm fr cm em lg le lf dl cS cH sea noi pl pw an hd bp bo bw c1 c2 c3 c4 c5 e1 e2 e3 e4 e5) hE hS hAz hP (zRc.of (ci := 7) (q0 := 0) hE hP rfl rfl) zk_cd_X7_thrown zk_in_RX7 zk_im_X7_thrown zk_se_X7_thrown zk_ml_RL_116 rfl rfl zd_X7_thrown ⟨by decide, by decide⟩ rfl hl.1 rfl (Nat.le_of_ble_eq_true rfl) dL_law_442 ⟨by show _ ≤ 601024; omega, by show _ ≤ 7293034; omega⟩) ?_
        refine lv_iload M.1 M.2.1 dL_law_445 (lv_at hl 1 rfl) ?_
        refine zi_same (tgt := 452) M dL_law_447 (by decide) ?_
        refine lv_iload M.1 M.2.1 dL_law_452 (lv_at hl 1 rfl) ?_
        refine zi_if_ne (tgt := 476) M dL_law_454 (by decide) ⟨by decide, by decide⟩ (fun _ => ?_) (fun q => absurd q (by decide))
        refine zi_goto (tgt := 2286) M dL_law_476 (by decide) ?_
        have hPx := hP
        have hP := hPm
        have hPm := hPx
        have hD := zD_c hD
        refine W.widen (k := cells + 6) (n := slots + 36) (by omega) (by omega) ?_
        exact hback h su st sh fl sn bn cm em ep fm fr 1 o lg le lf dl cS cH sea noi pl pw an hd fq bp bw ban bhd bo c1 c2 c3 c4 c5 e1 e2 e3 e4 e5 ur h_h h_su h_st h_sh h_fl h_sn h_bn h_cm h_em g_cS g_cH g_sea g_noi g_pl g_pw g_an g_hd g_bp g_bw g_ban g_bhd g_c1 g_c2 g_c3 g_c4 g_c5 g_e1 g_e2 g_e3 g_e4 g_e5 hbo hep H locs hP hPm hD hS ls (lv_sub hl [2, 3, 4, 5, 6] rfl)

set_option maxRecDepth 100000 in
set_option maxHeartbeats 8000000 in
theorem lw_case5 (l : Launch) (D : va_G) (cy : Nat → ClassId) (z0 : Nat) (ad bd od : Nat → Nat) (p : Program) (e : Env) (s : State) (m : MethodId) (args : Array Value) (below : List Frame) (meth : Method) (c : Code) (b : Nat) (i : Int) (Q : State → Prop) (cells slots : Nat) (hst : l.stackTraces = false) (hL7 : ∀ q : Nat, q = 0 → True) (b_L : Nat) (xs : Nat → Int32) (M : zM p s m args c cL_law RL 7) (hE : zE D cy z0 s) (hN : zNc s) (hL : b_L ≤ 3584) (hX : va_X b b_L xs s s.heap) (hbl : b < s.heap.size) (hbA : ¬ z0 ≤ b) (hi : 0 ≤ i ∧ i + 7 ≤ b_L) (hc : cells + 6 ≤ 601024) (hs : slots + 36 ≤ 7293034) (hback : lwB l D cy z0 ad bd od p e s m args below meth c b i Q cells slots) (h su st sh fl sn bn cm em ep fm fr th o lg le lf dl : Int) (cS cH sea noi pl pw an hd fq bp bw ban bhd bo c1 c2 c3 c4 c5 e1 e2 e3 e4 e5 : Int → Int) (ur : Nat → Int) (h_h : 0 ≤ h ∧ h ≤ 5000) (h_su : 0 ≤ su ∧ su ≤ 100) (h_st : 0 ≤ st ∧ st ≤ 60) (h_sh : 0 ≤ sh ∧ sh ≤ 72) (h_fl : 0 ≤ fl ∧ fl ≤ 80) (h_sn : 0 ≤ sn ∧ sn ≤ 12) (h_bn : 0 ≤ bn ∧ bn ≤ 6) (h_cm : 0 ≤ cm ∧ cm ≤ 60) (h_em : 0 ≤ em ∧ em ≤ 80) (g_cS : zrg 48 0 100 cS) (g_cH : zrg 48 0 24 cH) (g_sea : zrg 48 0 1 sea) (g_noi : zrg 48 0 40 noi) (g_pl : zrg 12 0 47 pl) (g_pw : zrg 12 0 80 pw) (g_an : zrg 12 0 2 an) (g_hd : zrg 12 0 2 hd) (g_bp : zrg 6 0 47 bp) (g_bw : zrg 6 0 80 bw) (g_ban : zrg 6 0 2 ban) (g_bhd : zrg 6 0 2 bhd) (g_c1 : zrg 60 0 11 c1) (g_c2 : zrg 60 0 11 c2) (g_c3 : zrg 60 0 300 c3) (g_c4 : zrg 60 0 2 c4) (g_c5 : zrg 60 0 5000 c5) (g_e1 : zrg 80 0 11 e1) (g_e2 : zrg 80 0 11 e2) (g_e3 : zrg 80 0 300 e3) (g_e4 : zrg 80 0 5000 e4) (g_e5 : zrg 80 (-1) 79 e5) (hbo : ∀ n : Int, 0 ≤ n → n < bn → (10 ≤ bo n ∧ bo n ≤ 300) ∧ ban n = 2 ∧ bhd n = 2) (hep : ep = prF e5 em.toNat) (H : Heap) (locs : List Loc) (hP : va_P D vwCl ((rooW ad 0 cy fm fr) ++ ((airW ad 1 cy h su st sh fl cS cH (dnD h fl) (dnE h cS) (dnF h su st)) ++ ((airW ad 8 cy h su 0 0 0 (fun _ => 0) (fun _ => 0) (dnD h 0) (dnE h (fun _ => 0)) (dnF h su 0)) ++ ((grdW ad 15 cy sea noi) ++ ((rayW ad 18 cy (ur 0) (ur 1) (ur 2) (ur 3) (ur 4) (ur 5) (ur 6) (ur 7)) ++ ((sndW ad 19 cy 12 sn pl pw an hd fq) ++ ((sndW ad 25 cy 6 bn bp bw ban bhd bo) ++ ((conW ad 31 cy cm c1 c2 c3 c4 c5) ++ ((entW ad 37 cy em ep e1 e2 e3 e4 e5) ++ (outW od 0 cy o)))))))))) H) (hPm : va_P D vwCl (mdlW bd 0 cy th h su st sh fl 0 sn bn fm fr cm em lg le lf dl cS cH sea noi pl pw an hd bp bo bw c1 c2 c3 c4 c5 e1 e2 e3 e4 e5) H) (hD : va_D (fun q => z0 ≤ q) (((rooW ad 0 cy fm fr) ++ ((airW ad 1 cy h su st sh fl cS cH (dnD h fl) (dnE h cS) (dnF h su st)) ++ ((airW ad 8 cy h su 0 0 0 (fun _ => 0) (fun _ => 0) (dnD h 0) (dnE h (fun _ => 0)) (dnF h su 0)) ++ ((grdW ad 15 cy sea noi) ++ ((rayW ad 18 cy (ur 0) (ur 1) (ur 2) (ur 3) (ur 4) (ur 5) (ur 6) (ur 7)) ++ ((sndW ad 19 cy 12 sn pl pw an hd fq) ++ ((sndW ad 25 cy 6 bn bp bw ban bhd bo) ++ ((conW ad 31 cy cm c1 c2 c3 c4 c5) ++ ((entW ad 37 cy em ep e1 e2 e3 e4 e5) ++ (outW od 0 cy o)))))))))) ++ (mdlW bd 0 cy th h su st sh fl 0 sn bn fm fr cm em lg le lf dl cS cH sea noi pl pw an hd bp bo bw c1 c2 c3 c4 c5 e1 e2 e3 e4 e5))) (hS : va_S (fun q => z0 ≤ q) s.heap H locs) (ls : Array Slot) (hl : lv_has ls 7 [(0, .ref b), (1, .ref (ad 0)), (2, .ref (bd 0)), (3, .ref (od 0)), (4, .int (iI i))]) : W p l e room_1 s m args below meth c H locs (cells) (slots) Q (F0 m 479 ls []) := by
  have hAz : ∀ q : Nat, (fun q => z0 ≤ q) q → z0 ≤ q := fun _ h => h
  refine lv_aload_n M.1 M.2.1 dL_law_479 rfl (lv_at hl 1 rfl) ?_
  refine lv_aload_n M.1 M.2.1 dL_law_480 rfl (lv_at hl 0 rfl) ?_
  refine lv_iload M.1 M.2.1 dL_law_481 (lv_at hl 4 rfl) ?_
  refine zi_push M dL_law_483 ?_
  refine zi_iadd M dL_law_484 ?_
  refine zi_sld M hX hbl hbA hS hL (by omega) (by omega) dL_law_485 ?_
  have hx_1 := xZ_rg xs (i + 1)
  refine lv_aload_n M.1 M.2.1 dL_law_486 rfl (lv_at hl 0 rfl) ?_
  refine lv_iload M.1 M.2.1 dL_law_487 (lv_at hl 4 rfl) ?_
  refine zi_push M dL_law_489 ?_
  refine zi_iadd M dL_law_490 ?_
  refine zi_sld M hX hbl hbA hS hL (by omega) (by omega) dL_law_491 ?_
  have hx_2 := xZ_rg xs (i + 2)
  refine lv_aload_n M.1 M.2.1 dL_law_492 rfl (lv_at hl 3 rfl) ?_
  refine z_cW2 (zx_runH (As := [.ref (ad 0), .int (iI (xZ xs (i + 1))), .int (iI (xZ xs (i + 2))), .ref (od 0)]) (rest := []) M (c_L_noise l hst D cy z0 ad od fm fr o sea noi (xZ xs (i + 1)) (xZ xs (i + 2)) (by omega) (by omega) g_sea g_noi) hE hN hS hAz (z_cut hP (zD_l hD) hAz [0, 15, 16, 17, 43] rfl (by decide +kernel)) zk_cw_L_noise zk_in_RL zk_st_L_noise zk_ml_RL_135 rfl rfl zd_L_noise ⟨by decide, by decide⟩ rfl hl.1 rfl (Nat.le_of_ble_eq_true rfl) dL_law_493 ⟨by show _ ≤ 601024; omega, by show _ ≤ 7293034; omega⟩) hP hPm hD hS [0, 15, 16, 17, 43] rfl (fun _ => by simp only [List.map_append, grdW_adr, outW_adr, rooW_adr]) (fun r_3 u_3 H locs hp_3 hP hPm hD hS => ?_)
  have hP : va_P D vwCl ((rooW ad 0 cy fm fr) ++ ((airW ad 1 cy h su st sh fl cS cH (dnD h fl) (dnE h cS) (dnF h su st)) ++ ((airW ad 8 cy h su 0 0 0 (fun _ => 0) (fun _ => 0) (dnD h 0) (dnE h (fun _ => 0)) (dnF h su 0)) ++ ((grdW ad 15 cy sea (if u_3.1 = 0 then (zu noi (xZ xs (i + 1)) (xZ xs (i + 2))) else noi)) ++ ((rayW ad 18 cy (ur 0) (ur 1) (ur 2) (ur 3) (ur 4) (ur 5) (ur 6) (ur 7)) ++ ((sndW ad 19 cy 12 sn pl pw an hd fq) ++ ((sndW ad 25 cy 6 bn bp bw ban bhd bo) ++ ((conW ad 31 cy cm c1 c2 c3 c4 c5) ++ ((entW ad 37 cy em ep e1 e2 e3 e4 e5) ++ (outW od 0 cy u_3.2.1)))))))))) H := hP
  have hD : va_D (fun q => z0 ≤ q) (((rooW ad 0 cy fm fr) ++ ((airW ad 1 cy h su st sh fl cS cH (dnD h fl) (dnE h cS) (dnF h su st)) ++ ((airW ad 8 cy h su 0 0 0 (fun _ => 0) (fun _ => 0) (dnD h 0) (dnE h (fun _ => 0)) (dnF h su 0)) ++ ((grdW ad 15 cy sea (if u_3.1 = 0 then (zu noi (xZ xs (i + 1)) (xZ xs (i + 2))) else noi)) ++ ((rayW ad 18 cy (ur 0) (ur 1) (ur 2) (ur 3) (ur 4) (ur 5) (ur 6) (ur 7)) ++ ((sndW ad 19 cy 12 sn pl pw an hd fq) ++ ((sndW ad 25 cy 6 bn bp bw ban bhd bo) ++ ((conW ad 31 cy cm c1 c2 c3 c4 c5) ++ ((entW ad 37 cy em ep e1 e2 e3 e4 e5) ++ (outW od 0 cy u_3.2.1)))))))))) ++ (mdlW bd 0 cy th h su st sh fl 0 sn bn fm fr cm em lg le lf dl cS cH sea noi pl pw an hd bp bo bw c1 c2 c3 c4 c5 e1 e2 e3 e4 e5)) := hD
  obtain ⟨u1_3, u2_3, u3_3⟩ := u_3
  dsimp only at hp_3
  rcases hp_3 with ⟨rfl, rfl, hN_3, hv_3⟩ | ⟨rfl, rfl, hN_3, hv_3⟩ | ⟨rfl, rfl, hN_3, hv_3⟩
  ·
    have hw_3 := hv_3.symm
    subst hw_3
    have hP : va_P D vwCl ((rooW ad 0 cy fm fr) ++ ((airW ad 1 cy h su st sh fl cS cH (dnD h fl) (dnE h cS) (dnF h su st)) ++ ((airW ad 8 cy h su 0 0 0 (fun _ => 0) (fun _ => 0) (dnD h 0) (dnE h (fun _ => 0)) (dnF h su 0)) ++ ((grdW ad 15 cy sea (zu noi (xZ xs (i + 1)) (xZ xs (i + 2)))) ++ ((rayW ad 18 cy (ur 0) (ur 1) (ur 2) (ur 3) (ur 4) (ur 5) (ur 6) (ur 7)) ++ ((sndW ad 19 cy 12 sn pl pw an hd fq) ++ ((sndW ad 25 cy 6 bn bp bw ban bhd bo) ++ ((conW ad 31 cy cm c1 c2 c3 c4 c5) ++ ((entW ad 37 cy em ep e1 e2 e3 e4 e5) ++ (outW od 0 cy (noi (xZ xs (i + 1))))))))))))) H := hP
    have hD : va_D (fun q => z0 ≤ q) (((rooW ad 0 cy fm fr) ++ ((airW ad 1 cy h su st sh fl cS cH (dnD h fl) (dnE h cS) (dnF h su st)) ++ ((airW ad 8 cy h su 0 0 0 (fun _ => 0) (fun _ => 0) (dnD h 0) (dnE h (fun _ => 0)) (dnF h su 0)) ++ ((grdW ad 15 cy sea (zu noi (xZ xs (i + 1)) (xZ xs (i + 2)))) ++ ((rayW ad 18 cy (ur 0) (ur 1) (ur 2) (ur 3) (ur 4) (ur 5) (ur 6) (ur 7)) ++ ((sndW ad 19 cy 12 sn pl pw an hd fq) ++ ((sndW ad 25 cy 6 bn bp bw ban bhd bo) ++ ((conW ad 31 cy cm c1 c2 c3 c4 c5) ++ ((entW ad 37 cy em ep e1 e2 e3 e4 e5) ++ (outW od 0 cy (noi (xZ xs (i + 1))))))))))))) ++ (mdlW bd 0 cy th h su st sh fl 0 sn bn fm fr cm em lg le lf dl cS cH sea noi pl pw an hd bp bo bw c1 c2 c3 c4 c5 e1 e2 e3 e4 e5)) := hD
    refine lv_istore (lv' := [(5, .int (iI 0)), (0, .ref (b)), (1, .ref (ad 0)), (2, .ref (bd 0)), (3, .ref (od 0)), (4, .int (iI i))]) M.1 M.2.1 dL_law_496 hl (by decide) rfl (fun ls hl => ?_)
    refine lv_aload_n M.1 M.2.1 dL_law_498 rfl (lv_at hl 3 rfl) ?_
    refine lv_aload_n M.1 M.2.1 dL_law_499 rfl (lv_at hl 1 rfl) ?_
    refine lv_iload M.1 M.2.1 dL_law_500 (lv_at hl 5 rfl) ?_
    refine zi_push M dL_law_502 ?_
    refine zi_iadd M dL_law_503 ?_
    refine zi_sld M hX hbl hbA hS hL (by omega) (by omega) dL_law_504 ?_
    have hx_4 := xZ_rg xs (i + 1)
    refine lv_aload_n M.1 M.2.1 dL_law_505 rfl (lv_at hl 1 rfl) ?_
    refine lv_iload M.1 M.2.1 dL_law_506 (lv_at hl 5 rfl) ?_
    refine zi_push M dL_law_508 ?_
    refine zi_iadd M dL_law_509 ?_
    refine zi_sld M hX hbl hbA hS hL (by omega) (by omega) dL_law_510 ?_
    have hx_5 := xZ_rg xs (i + 2)
    have hPx := hP
    have hP := hPm
    have hPm := hPx
    have hD := zD_c hD
    refine z_cW2 (z_runV (As := [.int (iI (xZ xs (i + 1))), .int (iI (xZ xs (i + 2)))]) (rest := []) M (c_X7_noise l D cy z0 bd th h su st sh fl 0 sn bn fm fr cm em lg le lf dl cS cH sea noi pl pw an hd bp bo bw c1 c2 c3 c4 c5 e1 e2 e3 e4 e5 (xZ xs (i + 1)) (xZ xs (i + 2)) (by omega) (by omega)) hE hS hAz (z_cut hP (zD_l hD) hAz [0, 1, 2, 3, 4, 5, 6, 7, 8, 9, 10, 11, 12, 13, 14, 15, 16, 17, 18, 19, 20, 21] rfl (by decide +kernel)) (zRc.of (ci := 7) (q0 := 0) hE hP rfl rfl) zk_cd_X7_noise zk_in_RX7 zk_im_X7_noise zk_se_X7_noise zk_ml_RL_138 rfl rfl zd_X7_noise ⟨by decide, by decide⟩ rfl hl.1 rfl (Nat.le_of_ble_eq_true rfl) dL_law_511 ⟨by show _ ≤ 601024; omega, by show _ ≤ 7293034; omega⟩) hP hPm hD hS [0, 1, 2, 3, 4, 5, 6, 7, 8, 9, 10, 11, 12, 13, 14, 15, 16, 17, 18, 19, 20, 21] rfl (fun _ => by simp only [List.map_append, mdlW_adr]) (fun r_6 u_6 H locs hp_6 hP hPm hD hS => ?_)
    try simp only [mdD_0, mdE_0, mdF_0, mdD_1, mdE_1, mdF_1] at hp_6
    have hP : va_P D vwCl (mdlW bd 0 cy u_6 h su st sh fl 0 sn bn fm fr cm em lg le lf dl cS cH sea (if u_6 = 0 then (zu noi (xZ xs (i + 1)) (xZ xs (i + 2))) else noi) pl pw an hd bp bo bw c1 c2 c3 c4 c5 e1 e2 e3 e4 e5) H := hP
    have hD : va_D (fun q => z0 ≤ q) ((mdlW bd 0 cy u_6 h su st sh fl 0 sn bn fm fr cm em lg le lf dl cS cH sea (if u_6 = 0 then (zu noi (xZ xs (i + 1)) (xZ xs (i + 2))) else noi) pl pw an hd bp bo bw c1 c2 c3 c4 c5 e1 e2 e3 e4 e5) ++ ((rooW ad 0 cy fm fr) ++ ((airW ad 1 cy h su st sh fl cS cH (dnD h fl) (dnE h cS) (dnF h su st)) ++ ((airW ad 8 cy h su 0 0 0 (fun _ => 0) (fun _ => 0) (dnD h 0) (dnE h (fun _ => 0)) (dnF h su 0)) ++ ((grdW ad 15 cy sea (zu noi (xZ xs (i + 1)) (xZ xs (i + 2)))) ++ ((rayW ad 18 cy (ur 0) (ur 1) (ur 2) (ur 3) (ur 4) (ur 5) (ur 6) (ur 7)) ++ ((sndW ad 19 cy 12 sn pl pw an hd fq) ++ ((sndW ad 25 cy 6 bn bp bw ban bhd bo) ++ ((conW ad 31 cy cm c1 c2 c3 c4 c5) ++ ((entW ad 37 cy em ep e1 e2 e3 e4 e5) ++ (outW od 0 cy (noi (xZ xs (i + 1)))))))))))))) := hD
    rcases hp_6 with ⟨rfl, hN_6, rfl⟩ | ⟨rfl, hN_6, rfl⟩ | ⟨rfl, hN_6, rfl⟩
    ·
      have hP : va_P D vwCl (mdlW bd 0 cy 0 h su st sh fl 0 sn bn fm fr cm em lg le lf dl cS cH sea (zu noi (xZ xs (i + 1)) (xZ xs (i + 2))) pl pw an hd bp bo bw c1 c2 c3 c4 c5 e1 e2 e3 e4 e5) H := hP
      have hD : va_D (fun q => z0 ≤ q) ((mdlW bd 0 cy 0 h su st sh fl 0 sn bn fm fr cm em lg le lf dl cS cH sea (zu noi (xZ xs (i + 1)) (xZ xs (i + 2))) pl pw an hd bp bo bw c1 c2 c3 c4 c5 e1 e2 e3 e4 e5) ++ ((rooW ad 0 cy fm fr) ++ ((airW ad 1 cy h su st sh fl cS cH (dnD h fl) (dnE h cS) (dnF h su st)) ++ ((airW ad 8 cy h su 0 0 0 (fun _ => 0) (fun _ => 0) (dnD h 0) (dnE h (fun _ => 0)) (dnF h su 0)) ++ ((grdW ad 15 cy sea (zu noi (xZ xs (i + 1)) (xZ xs (i + 2)))) ++ ((rayW ad 18 cy (ur 0) (ur 1) (ur 2) (ur 3) (ur 4) (ur 5) (ur 6) (ur 7)) ++ ((sndW ad 19 cy 12 sn pl pw an hd fq) ++ ((sndW ad 25 cy 6 bn bp bw ban bhd bo) ++ ((conW ad 31 cy cm c1 c2 c3 c4 c5) ++ ((entW ad 37 cy em ep e1 e2 e3 e4 e5) ++ (outW od 0 cy (noi (xZ xs (i + 1)))))))))))))) := hD
      refine lv_istore (lv' := [(6, .int (iI (noi (xZ xs (i + 1))))), (5, .int (iI 0)), (0, .ref (b)), (1, .ref (ad 0)), (2, .ref (bd 0)), (3, .ref (od 0)), (4, .int (iI i))]) M.1 M.2.1 dL_law_514 hl (by decide) rfl (fun ls hl => ?_)
      refine lv_aload_n M.1 M.2.1 dL_law_516 rfl (lv_at hl 4 rfl) ?_
      refine z_cR (z_runV (As := []) (rest := []) M (c_X7_thrown l D cy z0 bd 0 h su st sh fl 0 sn bn fm fr cm em lg le lf dl cS cH sea (zu noi (xZ xs (i + 1)) (xZ xs (i + 2))) pl pw an hd bp bo bw c1 c2 c3 c4 c5 e1 e2 e3 e4 e5) hE hS hAz hP (zRc.of (ci := 7) (q0 := 0) hE hP rfl rfl) zk_cd_X7_thrown zk_in_RX7 zk_im_X7_thrown zk_se_X7_thrown zk_ml_RL_116 rfl rfl zd_X7_thrown ⟨by decide, by decide⟩ rfl hl.1 rfl (Nat.le_of_ble_eq_true rfl) dL_law_517 ⟨by show _ ≤ 601024; omega, by show _ ≤ 7293034; omega⟩) ?_
      refine lv_iload M.1 M.2.1 dL_law_520 (lv_at hl 1 rfl) ?_
      refine zi_same (tgt := 527) M dL_law_522 (by decide) ?_
      refine lv_iload M.1 M.2.1 dL_law_527 (lv_at hl 1 rfl) ?_
      refine zi_if_ne (tgt := 544) M dL_law_529 (by decide) ⟨by decide, by decide⟩ (fun q => absurd q (by decide)) (fun _ => ?_)
      refine lv_aload_n M.1 M.2.1 dL_law_532 rfl (lv_at hl 5 rfl) ?_
      refine zi_push M dL_law_533 ?_
      refine zi_lald M hE hPm 43 rfl dL_law_534 ?_
      refine lv_iload M.1 M.2.1 dL_law_535 (lv_at hl 0 rfl) ?_
      refine zi_i2l M dL_law_537 ?_
      refine zi_lcmpE M dL_law_538 ?_
      refine zi_if_eq (tgt := 544) M dL_law_539 (by decide) ⟨by decide, by decide⟩ (fun _ => ?_) (fun q => absurd q (by decide))
      refine zi_goto (tgt := 2286) M dL_law_544 (by decide) ?_
      have hPx := hP
      have hP := hPm
      have hPm := hPx
      have hD := zD_c hD
      refine W.widen (k := cells + 6) (n := slots + 36) (by omega) (by omega) ?_
      exact hback h su st sh fl sn bn cm em ep fm fr 0 (noi (xZ xs (i + 1))) lg le lf dl cS cH sea (zu noi (xZ xs (i + 1)) (xZ xs (i + 2))) pl pw an hd fq bp bw ban bhd bo c1 c2 c3 c4 c5 e1 e2 e3 e4 e5 ur h_h h_su h_st h_sh h_fl h_sn h_bn h_cm h_em g_cS g_cH g_sea (zrg_zu g_noi (by omega)) g_pl g_pw g_an g_hd g_bp g_bw g_ban g_bhd g_c1 g_c2 g_c3 g_c4 g_c5 g_e1 g_e2 g_e3 g_e4 g_e5 hbo hep H locs hP hPm hD hS ls (lv_sub hl [2, 3, 4, 5, 6] rfl)
    ·
      have hP : va_P D vwCl (mdlW bd 0 cy 1 h su st sh fl 0 sn bn fm fr cm em lg le lf dl cS cH sea noi pl pw an hd bp bo bw c1 c2 c3 c4 c5 e1 e2 e3 e4 e5) H := hP
      have hD : va_D (fun q => z0 ≤ q) ((mdlW bd 0 cy 1 h su st sh fl 0 sn bn fm fr cm em lg le lf dl cS cH sea noi pl pw an hd bp bo bw c1 c2 c3 c4 c5 e1 e2 e3 e4 e5) ++ ((rooW ad 0 cy fm fr) ++ ((airW ad 1 cy h su st sh fl cS cH (dnD h fl) (dnE h cS) (dnF h su st)) ++ ((airW ad 8 cy h su 0 0 0 (fun _ => 0) (fun _ => 0) (dnD h 0) (dnE h (fun _ => 0)) (dnF h su 0)) ++ ((grdW ad 15 cy sea (zu noi (xZ xs (i + 1)) (xZ xs (i + 2)))) ++ ((rayW ad 18 cy (ur 0) (ur 1) (ur 2) (ur 3) (ur 4) (ur 5) (ur 6) (ur 7)) ++ ((sndW ad 19 cy 12 sn pl pw an hd fq) ++ ((sndW ad 25 cy 6 bn bp bw ban bhd bo) ++ ((conW ad 31 cy cm c1 c2 c3 c4 c5) ++ ((entW ad 37 cy em ep e1 e2 e3 e4 e5) ++ (outW od 0 cy (noi (xZ xs (i + 1)))))))))))))) := hD
      exfalso
      omega
    ·
      have hP : va_P D vwCl (mdlW bd 0 cy 2 h su st sh fl 0 sn bn fm fr cm em lg le lf dl cS cH sea noi pl pw an hd bp bo bw c1 c2 c3 c4 c5 e1 e2 e3 e4 e5) H := hP
      have hD : va_D (fun q => z0 ≤ q) ((mdlW bd 0 cy 2 h su st sh fl 0 sn bn fm fr cm em lg le lf dl cS cH sea noi pl pw an hd bp bo bw c1 c2 c3 c4 c5 e1 e2 e3 e4 e5) ++ ((rooW ad 0 cy fm fr) ++ ((airW ad 1 cy h su st sh fl cS cH (dnD h fl) (dnE h cS) (dnF h su st)) ++ ((airW ad 8 cy h su 0 0 0 (fun _ => 0) (fun _ => 0) (dnD h 0) (dnE h (fun _ => 0)) (dnF h su 0)) ++ ((grdW ad 15 cy sea (zu noi (xZ xs (i + 1)) (xZ xs (i + 2)))) ++ ((rayW ad 18 cy (ur 0) (ur 1) (ur 2) (ur 3) (ur 4) (ur 5) (ur 6) (ur 7)) ++ ((sndW ad 19 cy 12 sn pl pw an hd fq) ++ ((sndW ad 25 cy 6 bn bp bw ban bhd bo) ++ ((conW ad 31 cy cm c1 c2 c3 c4 c5) ++ ((entW ad 37 cy em ep e1 e2 e3 e4 e5) ++ (outW od 0 cy (noi (xZ xs (i + 1)))))))))))))) := hD
      exfalso
      omega
  ·
    have hw_3 := hv_3.symm
    subst hw_3
    have hP : va_P D vwCl ((rooW ad 0 cy fm fr) ++ ((airW ad 1 cy h su st sh fl cS cH (dnD h fl) (dnE h cS) (dnF h su st)) ++ ((airW ad 8 cy h su 0 0 0 (fun _ => 0) (fun _ => 0) (dnD h 0) (dnE h (fun _ => 0)) (dnF h su 0)) ++ ((grdW ad 15 cy sea noi) ++ ((rayW ad 18 cy (ur 0) (ur 1) (ur 2) (ur 3) (ur 4) (ur 5) (ur 6) (ur 7)) ++ ((sndW ad 19 cy 12 sn pl pw an hd fq) ++ ((sndW ad 25 cy 6 bn bp bw ban bhd bo) ++ ((conW ad 31 cy cm c1 c2 c3 c4 c5) ++ ((entW ad 37 cy em ep e1 e2 e3 e4 e5) ++ (outW od 0 cy o)))))))))) H := hP
    have hD : va_D (fun q => z0 ≤ q) (((rooW ad 0 cy fm fr) ++ ((airW ad 1 cy h su st sh fl cS cH (dnD h fl) (dnE h cS) (dnF h su st)) ++ ((airW ad 8 cy h su 0 0 0 (fun _ => 0) (fun _ => 0) (dnD h 0) (dnE h (fun _ => 0)) (dnF h su 0)) ++ ((grdW ad 15 cy sea noi) ++ ((rayW ad 18 cy (ur 0) (ur 1) (ur 2) (ur 3) (ur 4) (ur 5) (ur 6) (ur 7)) ++ ((sndW ad 19 cy 12 sn pl pw an hd fq) ++ ((sndW ad 25 cy 6 bn bp bw ban bhd bo) ++ ((conW ad 31 cy cm c1 c2 c3 c4 c5) ++ ((entW ad 37 cy em ep e1 e2 e3 e4 e5) ++ (outW od 0 cy o)))))))))) ++ (mdlW bd 0 cy th h su st sh fl 0 sn bn fm fr cm em lg le lf dl cS cH sea noi pl pw an hd bp bo bw c1 c2 c3 c4 c5 e1 e2 e3 e4 e5)) := hD
    refine lv_istore (lv' := [(5, .int (iI 1)), (0, .ref (b)), (1, .ref (ad 0)), (2, .ref (bd 0)), (3, .ref (od 0)), (4, .int (iI i))]) M.1 M.2.1 dL_law_496 hl (by decide) rfl (fun ls hl => ?_)
    refine lv_aload_n M.1 M.2.1 dL_law_498 rfl (lv_at hl 3 rfl) ?_
    refine lv_aload_n M.1 M.2.1 dL_law_499 rfl (lv_at hl 1 rfl) ?_
    refine lv_iload M.1 M.2.1 dL_law_500 (lv_at hl 5 rfl) ?_
    refine zi_push M dL_law_502 ?_
    refine zi_iadd M dL_law_503 ?_
    refine zi_sld M hX hbl hbA hS hL (by omega) (by omega) dL_law_504 ?_
    have hx_7 := xZ_rg xs (i + 1)
    refine lv_aload_n M.1 M.2.1 dL_law_505 rfl (lv_at hl 1 rfl) ?_
    refine lv_iload M.1 M.2.1 dL_law_506 (lv_at hl 5 rfl) ?_
    refine zi_push M dL_law_508 ?_
    refine zi_iadd M dL_law_509 ?_
    refine zi_sld M hX hbl hbA hS hL (by omega) (by omega) dL_law_510 ?_
    have hx_8 := xZ_rg xs (i + 2)
    have hPx := hP
    have hP := hPm
    have hPm := hPx
    have hD := zD_c hD
    refine z_cW2 (z_runV (As := [.int (iI (xZ xs (i + 1))), .int (iI (xZ xs (i + 2)))]) (rest := []) M (c_X7_noise l D cy z0 bd th h su st sh fl 0 sn bn fm fr cm em lg le lf dl cS cH sea noi pl pw an hd bp bo bw c1 c2 c3 c4 c5 e1 e2 e3 e4 e5 (xZ xs (i + 1)) (xZ xs (i + 2)) (by omega) (by omega)) hE hS hAz (z_cut hP (zD_l hD) hAz [0, 1, 2, 3, 4, 5, 6, 7, 8, 9, 10, 11, 12, 13, 14, 15, 16, 17, 18, 19, 20, 21] rfl (by decide +kernel)) (zRc.of (ci := 7) (q0 := 0) hE hP rfl rfl) zk_cd_X7_noise zk_in_RX7 zk_im_X7_noise zk_se_X7_noise zk_ml_RL_138 rfl rfl zd_X7_noise ⟨by decide, by decide⟩ rfl hl.1 rfl (Nat.le_of_ble_eq_true rfl) dL_law_511 ⟨by show _ ≤ 601024; omega, by show _ ≤ 7293034; omega⟩) hP hPm hD hS [0, 1, 2, 3, 4, 5, 6, 7, 8, 9, 10, 11, 12, 13, 14, 15, 16, 17, 18, 19, 20, 21] rfl (fun _ => by simp only [List.map_append, mdlW_adr]) (fun r_9 u_9 H locs hp_9 hP hPm hD hS => ?_)
    try simp only [mdD_0, mdE_0, mdF_0, mdD_1, mdE_1, mdF_1] at hp_9
    have hP : va_P D vwCl (mdlW bd 0 cy u_9 h su st sh fl 0 sn bn fm fr cm em lg le lf dl cS cH sea (if u_9 = 0 then (zu noi (xZ xs (i + 1)) (xZ xs (i + 2))) else noi) pl pw an hd bp bo bw c1 c2 c3 c4 c5 e1 e2 e3 e4 e5) H := hP
    have hD : va_D (fun q => z0 ≤ q) ((mdlW bd 0 cy u_9 h su st sh fl 0 sn bn fm fr cm em lg le lf dl cS cH sea (if u_9 = 0 then (zu noi (xZ xs (i + 1)) (xZ xs (i + 2))) else noi) pl pw an hd bp bo bw c1 c2 c3 c4 c5 e1 e2 e3 e4 e5) ++ ((rooW ad 0 cy fm fr) ++ ((airW ad 1 cy h su st sh fl cS cH (dnD h fl) (dnE h cS) (dnF h su st)) ++ ((airW ad 8 cy h su 0 0 0 (fun _ => 0) (fun _ => 0) (dnD h 0) (dnE h (fun _ => 0)) (dnF h su 0)) ++ ((grdW ad 15 cy sea noi) ++ ((rayW ad 18 cy (ur 0) (ur 1) (ur 2) (ur 3) (ur 4) (ur 5) (ur 6) (ur 7)) ++ ((sndW ad 19 cy 12 sn pl pw an hd fq) ++ ((sndW ad 25 cy 6 bn bp bw ban bhd bo) ++ ((conW ad 31 cy cm c1 c2 c3 c4 c5) ++ ((entW ad 37 cy em ep e1 e2 e3 e4 e5) ++ (outW od 0 cy o))))))))))) := hD
    rcases hp_9 with ⟨rfl, hN_9, rfl⟩ | ⟨rfl, hN_9, rfl⟩ | ⟨rfl, hN_9, rfl⟩
    ·
      have hP : va_P D vwCl (mdlW bd 0 cy 0 h su st sh fl 0 sn bn fm fr cm em lg le lf dl cS cH sea (zu noi (xZ xs (i + 1)) (xZ xs (i + 2))) pl pw an hd bp bo bw c1 c2 c3 c4 c5 e1 e2 e3 e4 e5) H := hP
      have hD : va_D (fun q => z0 ≤ q) ((mdlW bd 0 cy 0 h su st sh fl 0 sn bn fm fr cm em lg le lf dl cS cH sea (zu noi (xZ xs (i + 1)) (xZ xs (i + 2))) pl pw an hd bp bo bw c1 c2 c3 c4 c5 e1 e2 e3 e4 e5) ++ ((rooW ad 0 cy fm fr) ++ ((airW ad 1 cy h su st sh fl cS cH (dnD h fl) (dnE h cS) (dnF h su st)) ++ ((airW ad 8 cy h su 0 0 0 (fun _ => 0) (fun _ => 0) (dnD h 0) (dnE h (fun _ => 0)) (dnF h su 0)) ++ ((grdW ad 15 cy sea noi) ++ ((rayW ad 18 cy (ur 0) (ur 1) (ur 2) (ur 3) (ur 4) (ur 5) (ur 6) (ur 7)) ++ ((sndW ad 19 cy 12 sn pl pw an hd fq) ++ ((sndW ad 25 cy 6 bn bp bw ban bhd bo) ++ ((conW ad 31 cy cm c1 c2 c3 c4 c5) ++ ((entW ad 37 cy em ep e1 e2 e3 e4 e5) ++ (outW od 0 cy o))))))))))) := hD
      exfalso
      omega
    ·
      have hP : va_P D vwCl (mdlW bd 0 cy 1 h su st sh fl 0 sn bn fm fr cm em lg le lf dl cS cH sea noi pl pw an hd bp bo bw c1 c2 c3 c4 c5 e1 e2 e3 e4 e5) H := hP
      have hD : va_D (fun q => z0 ≤ q) ((mdlW bd 0 cy 1 h su st sh fl 0 sn bn fm fr cm em lg le lf dl cS cH sea noi pl pw an hd bp bo bw c1 c2 c3 c4 c5 e1 e2 e3 e4 e5) ++ ((rooW ad 0 cy fm fr) ++ ((airW ad 1 cy h su st sh fl cS cH (dnD h fl) (dnE h cS) (dnF h su st)) ++ ((airW ad 8 cy h su 0 0 0 (fun _ => 0) (fun _ => 0) (dnD h 0) (dnE h (fun _ => 0)) (dnF h su 0)) ++ ((grdW ad 15 cy sea noi) ++ ((rayW ad 18 cy (ur 0) (ur 1) (ur 2) (ur 3) (ur 4) (ur 5) (ur 6) (ur 7)) ++ ((sndW ad 19 cy 12 sn pl pw an hd fq) ++ ((sndW ad 25 cy 6 bn bp bw ban bhd bo) ++ ((conW ad 31 cy cm c1 c2 c3 c4 c5) ++ ((entW ad 37 cy em ep e1 e2 e3 e4 e5) ++ (outW od 0 cy o))))))))))) := hD
      refine lv_istore (lv' := [(6, .int (iI 0)), (5, .int (iI 1)), (0, .ref (b)), (1, .ref (ad 0)), (2, .ref (bd 0)), (3, .ref (od 0)), (4, .int (iI i))]) M.1 M.2.1 dL_law_514 hl (by decide) rfl (fun ls hl => ?_)
      refine lv_aload_n M.1 M.2.1 dL_law_516 rfl (lv_at hl 4 rfl) ?_
      refine z_cR (z_runV (As := []) (rest := []) M (c_X7_thrown l D cy z0 bd 1 h su st sh fl 0 sn bn fm fr cm em lg le lf dl cS cH sea noi pl pw an hd bp bo bw c1 c2 c3 c4 c5 e1 e2 e3 e4 e5) hE hS hAz hP (zRc.of (ci := 7) (q0 := 0) hE hP rfl rfl) zk_cd_X7_thrown zk_in_RX7 zk_im_X7_thrown zk_se_X7_thrown zk_ml_RL_116 rfl rfl zd_X7_thrown ⟨by decide, by decide⟩ rfl hl.1 rfl (Nat.le_of_ble_eq_true rfl) dL_law_517 ⟨by show _ ≤ 601024; omega, by show _ ≤ 7293034; omega⟩) ?_
      refine lv_iload M.1 M.2.1 dL_law_520 (lv_at hl 1 rfl) ?_
      refine zi_same (tgt := 527) M dL_law_522 (by decide) ?_
      refine lv_iload M.1 M.2.1 dL_law_527 (lv_at hl 1 rfl) ?_
      refine zi_if_ne (tgt := 544) M dL_law_529 (by decide) ⟨by decide, by decide⟩ (fun _ => ?_) (fun q => absurd q (by decide))
      refine zi_goto (tgt := 2286) M dL_law_544 (by decide) ?_
      have hPx := hP
      have hP := hPm
      have hPm := hPx
      have hD := zD_c hD
      refine W.widen (k := cells + 6) (n := slots + 36) (by omega) (by omega) ?_
      exact hback h su st sh fl sn bn cm em ep fm fr 1 o lg le lf dl cS cH sea noi pl pw an hd fq bp bw ban bhd bo c1 c2 c3 c4 c5 e1 e2 e3 e4 e5 ur h_h h_su h_st h_sh h_fl h_sn h_bn h_cm h_em g_cS g_cH g_sea g_noi g_pl g_pw g_an g_hd g_bp g_bw g_ban g_bhd g_c1 g_c2 g_c3 g_c4 g_c5 g_e1 g_e2 g_e3 g_e4 g_e5 hbo hep H locs hP hPm hD hS ls (lv_sub hl [2, 3, 4, 5, 6] rfl)
    ·
      have hP : va_P D vwCl (mdlW bd 0 cy 2 h su st sh fl 0 sn bn fm fr cm em lg le lf dl cS cH sea noi pl pw an hd bp bo bw c1 c2 c3 c4 c5 e1 e2 e3 e4 e5) H := hP
      have hD : va_D (fun q => z0 ≤ q) ((mdlW bd 0 cy 2 h su st sh fl 0 sn bn fm fr cm em lg le lf dl cS cH sea noi pl pw an hd bp bo bw c1 c2 c3 c4 c5 e1 e2 e3 e4 e5) ++ ((rooW ad 0 cy fm fr) ++ ((airW ad 1 cy h su st sh fl cS cH (dnD h fl) (dnE h cS) (dnF h su st)) ++ ((airW ad 8 cy h su 0 0 0 (fun _ => 0) (fun _ => 0) (dnD h 0) (dnE h (fun _ => 0)) (dnF h su 0)) ++ ((grdW ad 15 cy sea noi) ++ ((rayW ad 18 cy (ur 0) (ur 1) (ur 2) (ur 3) (ur 4) (ur 5) (ur 6) (ur 7)) ++ ((sndW ad 19 cy 12 sn pl pw an hd fq) ++ ((sndW ad 25 cy 6 bn bp bw ban bhd bo) ++ ((conW ad 31 cy cm c1 c2 c3 c4 c5) ++ ((entW ad 37 cy em ep e1 e2 e3 e4 e5) ++ (outW od 0 cy o))))))))))) := hD
      exfalso
      omega
  ·
    have hw_3 := hv_3.symm
    subst hw_3
    have hP : va_P D vwCl ((rooW ad 0 cy fm fr) ++ ((airW ad 1 cy h su st sh fl cS cH (dnD h fl) (dnE h cS) (dnF h su st)) ++ ((airW ad 8 cy h su 0 0 0 (fun _ => 0) (fun _ => 0) (dnD h 0) (dnE h (fun _ => 0)) (dnF h su 0)) ++ ((grdW ad 15 cy sea noi) ++ ((rayW ad 18 cy (ur 0) (ur 1) (ur 2) (ur 3) (ur 4) (ur 5) (ur 6) (ur 7)) ++ ((sndW ad 19 cy 12 sn pl pw an hd fq) ++ ((sndW ad 25 cy 6 bn bp bw ban bhd bo) ++ ((conW ad 31 cy cm c1 c2 c3 c4 c5) ++ ((entW ad 37 cy em ep e1 e2 e3 e4 e5) ++ (outW od 0 cy o)))))))))) H := hP
    have hD : va_D (fun q => z0 ≤ q) (((rooW ad 0 cy fm fr) ++ ((airW ad 1 cy h su st sh fl cS cH (dnD h fl) (dnE h cS) (dnF h su st)) ++ ((airW ad 8 cy h su 0 0 0 (fun _ => 0) (fun _ => 0) (dnD h 0) (dnE h (fun _ => 0)) (dnF h su 0)) ++ ((grdW ad 15 cy sea noi) ++ ((rayW ad 18 cy (ur 0) (ur 1) (ur 2) (ur 3) (ur 4) (ur 5) (ur 6) (ur 7)) ++ ((sndW ad 19 cy 12 sn pl pw an hd fq) ++ ((sndW ad 25 cy 6 bn bp bw ban bhd bo) ++ ((conW ad 31 cy cm c1 c2 c3 c4 c5) ++ ((entW ad 37 cy em ep e1 e2 e3 e4 e5) ++ (outW od 0 cy o)))))))))) ++ (mdlW bd 0 cy th h su st sh fl 0 sn bn fm fr cm em lg le lf dl cS cH sea noi pl pw an hd bp bo bw c1 c2 c3 c4 c5 e1 e2 e3 e4 e5)) := hD
    refine lv_istore (lv' := [(5, .int (iI 2)), (0, .ref (b)), (1, .ref (ad 0)), (2, .ref (bd 0)), (3, .ref (od 0)), (4, .int (iI i))]) M.1 M.2.1 dL_law_496 hl (by decide) rfl (fun ls hl => ?_)
    refine lv_aload_n M.1 M.2.1 dL_law_498 rfl (lv_at hl 3 rfl) ?_
    refine lv_aload_n M.1 M.2.1 dL_law_499 rfl (lv_at hl 1 rfl) ?_
    refine lv_iload M.1 M.2.1 dL_law_500 (lv_at hl 5 rfl) ?_
    refine zi_push M dL_law_502 ?_
    refine zi_iadd M dL_law_503 ?_
    refine zi_sld M hX hbl hbA hS hL (by omega) (by omega) dL_law_504 ?_
    have hx_10 := xZ_rg xs (i + 1)
    refine lv_aload_n M.1 M.2.1 dL_law_505 rfl (lv_at hl 1 rfl) ?_
    refine lv_iload M.1 M.2.1 dL_law_506 (lv_at hl 5 rfl) ?_
    refine zi_push M dL_law_508 ?_
    refine zi_iadd M dL_law_509 ?_
    refine zi_sld M hX hbl hbA hS hL (by omega) (by omega) dL_law_510 ?_
    have hx_11 := xZ_rg xs (i + 2)
    have hPx := hP
    have hP := hPm
    have hPm := hPx
    have hD := zD_c hD
    refine z_cW2 (z_runV (As := [.int (iI (xZ xs (i + 1))), .int (iI (xZ xs (i + 2)))]) (rest := []) M (c_X7_noise l D cy z0 bd th h su st sh fl 0 sn bn fm fr cm em lg le lf dl cS cH sea noi pl pw an hd bp bo bw c1 c2 c3 c4 c5 e1 e2 e3 e4 e5 (xZ xs (i + 1)) (xZ xs (i + 2)) (by omega) (by omega)) hE hS hAz (z_cut hP (zD_l hD) hAz [0, 1, 2, 3, 4, 5, 6, 7, 8, 9, 10, 11, 12, 13, 14, 15, 16, 17, 18, 19, 20, 21] rfl (by decide +kernel)) (zRc.of (ci := 7) (q0 := 0) hE hP rfl rfl) zk_cd_X7_noise zk_in_RX7 zk_im_X7_noise zk_se_X7_noise zk_ml_RL_138 rfl rfl zd_X7_noise ⟨by decide, by decide⟩ rfl hl.1 rfl (Nat.le_of_ble_eq_true rfl) dL_law_511 ⟨by show _ ≤ 601024; omega, by show _ ≤ 7293034; omega⟩) hP hPm hD hS [0, 1, 2, 3, 4, 5, 6, 7, 8, 9, 10, 11, 12, 13, 14, 15, 16, 17, 18, 19, 20, 21] rfl (fun _ => by simp only [List.map_append, mdlW_adr]) (fun r_12 u_12 H locs hp_12 hP hPm hD hS => ?_)
    try simp only [mdD_0, mdE_0, mdF_0, mdD_1, mdE_1, mdF_1] at hp_12
    have hP : va_P D vwCl (mdlW bd 0 cy u_12 h su st sh fl 0 sn bn fm fr cm em lg le lf dl cS cH sea (if u_12 = 0 then (zu noi (xZ xs (i + 1)) (xZ xs (i + 2))) else noi) pl pw an hd bp bo bw c1 c2 c3 c4 c5 e1 e2 e3 e4 e5) H := hP
    have hD : va_D (fun q => z0 ≤ q) ((mdlW bd 0 cy u_12 h su st sh fl 0 sn bn fm fr cm em lg le lf dl cS cH sea (if u_12 = 0 then (zu noi (xZ xs (i + 1)) (xZ xs (i + 2))) else noi) pl pw an hd bp bo bw c1 c2 c3 c4 c5 e1 e2 e3 e4 e5) ++ ((rooW ad 0 cy fm fr) ++ ((airW ad 1 cy h su st sh fl cS cH (dnD h fl) (dnE h cS) (dnF h su st)) ++ ((airW ad 8 cy h su 0 0 0 (fun _ => 0) (fun _ => 0) (dnD h 0) (dnE h (fun _ => 0)) (dnF h su 0)) ++ ((grdW ad 15 cy sea noi) ++ ((rayW ad 18 cy (ur 0) (ur 1) (ur 2) (ur 3) (ur 4) (ur 5) (ur 6) (ur 7)) ++ ((sndW ad 19 cy 12 sn pl pw an hd fq) ++ ((sndW ad 25 cy 6 bn bp bw ban bhd bo) ++ ((conW ad 31 cy cm c1 c2 c3 c4 c5) ++ ((entW ad 37 cy em ep e1 e2 e3 e4 e5) ++ (outW od 0 cy o))))))))))) := hD
    rcases hp_12 with ⟨rfl, hN_12, rfl⟩ | ⟨rfl, hN_12, rfl⟩ | ⟨rfl, hN_12, rfl⟩
    ·
      have hP : va_P D vwCl (mdlW bd 0 cy 0 h su st sh fl 0 sn bn fm fr cm em lg le lf dl cS cH sea (zu noi (xZ xs (i + 1)) (xZ xs (i + 2))) pl pw an hd bp bo bw c1 c2 c3 c4 c5 e1 e2 e3 e4 e5) H := hP
      have hD : va_D (fun q => z0 ≤ q) ((mdlW bd 0 cy 0 h su st sh fl 0 sn bn fm fr cm em lg le lf dl cS cH sea (zu noi (xZ xs (i + 1)) (xZ xs (i + 2))) pl pw an hd bp bo bw c1 c2 c3 c4 c5 e1 e2 e3 e4 e5) ++ ((rooW ad 0 cy fm fr) ++ ((airW ad 1 cy h su st sh fl cS cH (dnD h fl) (dnE h cS) (dnF h su st)) ++ ((airW ad 8 cy h su 0 0 0 (fun _ => 0) (fun _ => 0) (dnD h 0) (dnE h (fun _ => 0)) (dnF h su 0)) ++ ((grdW ad 15 cy sea noi) ++ ((rayW ad 18 cy (ur 0) (ur 1) (ur 2) (ur 3) (ur 4) (ur 5) (ur 6) (ur 7)) ++ ((sndW ad 19 cy 12 sn pl pw an hd fq) ++ ((sndW ad 25 cy 6 bn bp bw ban bhd bo) ++ ((conW ad 31 cy cm c1 c2 c3 c4 c5) ++ ((entW ad 37 cy em ep e1 e2 e3 e4 e5) ++ (outW od 0 cy o))))))))))) := hD
      exfalso
      omega
    ·
      have hP : va_P D vwCl (mdlW bd 0 cy 1 h su st sh fl 0 sn bn fm fr cm em lg le lf dl cS cH sea noi pl pw an hd bp bo bw c1 c2 c3 c4 c5 e1 e2 e3 e4 e5) H := hP
      have hD : va_D (fun q => z0 ≤ q) ((mdlW bd 0 cy 1 h su st sh fl 0 sn bn fm fr cm em lg le lf dl cS cH sea noi pl pw an hd bp bo bw c1 c2 c3 c4 c5 e1 e2 e3 e4 e5) ++ ((rooW ad 0 cy fm fr) ++ ((airW ad 1 cy h su st sh fl cS cH (dnD h fl) (dnE h cS) (dnF h su st)) ++ ((airW ad 8 cy h su 0 0 0 (fun _ => 0) (fun _ => 0) (dnD h 0) (dnE h (fun _ => 0)) (dnF h su 0)) ++ ((grdW ad 15 cy sea noi) ++ ((rayW ad 18 cy (ur 0) (ur 1) (ur 2) (ur 3) (ur 4) (ur 5) (ur 6) (ur 7)) ++ ((sndW ad 19 cy 12 sn pl pw an hd fq) ++ ((sndW ad 25 cy 6 bn bp bw ban bhd bo) ++ ((conW ad 31 cy cm c1 c2 c3 c4 c5) ++ ((entW ad 37 cy em ep e1 e2 e3 e4 e5) ++ (outW od 0 cy o))))))))))) := hD
      exfalso
      omega
    ·
      have hP : va_P D vwCl (mdlW bd 0 cy 2 h su st sh fl 0 sn bn fm fr cm em lg le lf dl cS cH sea noi pl pw an hd bp bo bw c1 c2 c3 c4 c5 e1 e2 e3 e4 e5) H := hP
      have hD : va_D (fun q => z0 ≤ q) ((mdlW bd 0 cy 2 h su st sh fl 0 sn bn fm fr cm em lg le lf dl cS cH sea noi pl pw an hd bp bo bw c1 c2 c3 c4 c5 e1 e2 e3 e4 e5) ++ ((rooW ad 0 cy fm fr) ++ ((airW ad 1 cy h su st sh fl cS cH (dnD h fl) (dnE h cS) (dnF h su st)) ++ ((airW ad 8 cy h su 0 0 0 (fun _ => 0) (fun _ => 0) (dnD h 0) (dnE h (fun _ => 0)) (dnF h su 0)) ++ ((grdW ad 15 cy sea noi) ++ ((rayW ad 18 cy (ur 0) (ur 1) (ur 2) (ur 3) (ur 4) (ur 5) (ur 6) (ur 7)) ++ ((sndW ad 19 cy 12 sn pl pw an hd fq) ++ ((sndW ad 25 cy 6 bn bp bw ban bhd bo) ++ ((conW ad 31 cy cm c1 c2 c3 c4 c5) ++ ((entW ad 37 cy em ep e1 e2 e3 e4 e5) ++ (outW od 0 cy o))))))))))) := hD
      refine lv_istore (lv' := [(6, .int (iI 0)), (5, .int (iI 2)), (0, .ref (b)), (1, .ref (ad 0)), (2, .ref (bd 0)), (3, .ref (od 0)), (4, .int (iI i))]) M.1 M.2.1 dL_law_514 hl (by decide) rfl (fun ls hl => ?_)
      refine lv_aload_n M.1 M.2.1 dL_law_516 rfl (lv_at hl 4 rfl) ?_
      refine z_cR (z_runV (As := []) (rest := []) M (c_X7_thrown l D cy z0 bd 2 h su st sh fl 0 sn bn fm fr cm em lg le lf dl cS cH sea noi pl pw an hd bp bo bw c1 c2 c3 c4 c5 e1 e2 e3 e4 e5) hE hS hAz hP (zRc.of (ci := 7) (q0 := 0) hE hP rfl rfl) zk_cd_X7_thrown zk_in_RX7 zk_im_X7_thrown zk_se_X7_thrown zk_ml_RL_116 rfl rfl zd_X7_thrown ⟨by decide, by decide⟩ rfl hl.1 rfl (Nat.le_of_ble_eq_true rfl) dL_law_517 ⟨by show _ ≤ 601024; omega, by show _ ≤ 7293034; omega⟩) ?_
      refine lv_iload M.1 M.2.1 dL_law_520 (lv_at hl 1 rfl) ?_
      refine zi_same (tgt := 527) M dL_law_522 (by decide) ?_
      refine lv_iload M.1 M.2.1 dL_law_527 (lv_at hl 1 rfl) ?_
      refine zi_if_ne (tgt := 544) M dL_law_529 (by decide) ⟨by decide, by decide⟩ (fun _ => ?_) (fun q => absurd q (by decide))
      refine zi_goto (tgt := 2286) M dL_law_544 (by decide) ?_
      have hPx := hP
      have hP := hPm
      have hPm := hPx
      have hD := zD_c hD
      refine W.widen (k := cells + 6) (n := slots + 36) (by omega) (by omega) ?_
      exact hback h su st sh fl sn bn cm em ep fm fr 2 o lg le lf dl cS cH sea noi pl pw an hd fq bp bw ban bhd bo c1 c2 c3 c4 c5 e1 e2 e3 e4 e5 ur h_h h_su h_st h_sh h_fl h_sn h_bn h_cm h_em g_cS g_cH g_sea g_noi g_pl g_pw g_an g_hd g_bp g_bw g_ban g_bhd g_c1 g_c2 g_c3 g_c4 g_c5 g_e1 g_e2 g_e3 g_e4 g_e5 hbo hep H locs hP hPm hD hS ls (lv_sub hl [2, 3, 4, 5, 6] rfl)

set_option maxRecDepth 100000 in
set_option maxHeartbeats 8000000 in
theorem lw_case6 (l : Launch) (D : va_G) (cy : Nat → ClassId) (z0 : Nat) (ad bd od : Nat → Nat) (p : Program) (e : Env) (s : State) (m : MethodId) (args : Array Value) (below : List Frame) (meth : Method) (c : Code) (b : Nat) (i : Int) (Q : State → Prop) (cells slots : Nat) (hst : l.stackTraces = false) (hL7 : ∀ q : Nat, q = 0 → True) (b_L : Nat) (xs : Nat → Int32) (M : zM p s m args c cL_law RL 7) (hE : zE D cy z0 s) (hN : zNc s) (hL : b_L ≤ 3584) (hX : va_X b b_L xs s s.heap) (hbl : b < s.heap.size) (hbA : ¬ z0 ≤ b) (hi : 0 ≤ i ∧ i + 7 ≤ b_L) (hc : cells + 6 ≤ 601024) (hs : slots + 36 ≤ 7293034) (hback : lwB l D cy z0 ad bd od p e s m args below meth c b i Q cells slots) (h su st sh fl sn bn cm em ep fm fr th o lg le lf dl : Int) (cS cH sea noi pl pw an hd fq bp bw ban bhd bo c1 c2 c3 c4 c5 e1 e2 e3 e4 e5 : Int → Int) (ur : Nat → Int) (h_h : 0 ≤ h ∧ h ≤ 5000) (h_su : 0 ≤ su ∧ su ≤ 100) (h_st : 0 ≤ st ∧ st ≤ 60) (h_sh : 0 ≤ sh ∧ sh ≤ 72) (h_fl : 0 ≤ fl ∧ fl ≤ 80) (h_sn : 0 ≤ sn ∧ sn ≤ 12) (h_bn : 0 ≤ bn ∧ bn ≤ 6) (h_cm : 0 ≤ cm ∧ cm ≤ 60) (h_em : 0 ≤ em ∧ em ≤ 80) (g_cS : zrg 48 0 100 cS) (g_cH : zrg 48 0 24 cH) (g_sea : zrg 48 0 1 sea) (g_noi : zrg 48 0 40 noi) (g_pl : zrg 12 0 47 pl) (g_pw : zrg 12 0 80 pw) (g_an : zrg 12 0 2 an) (g_hd : zrg 12 0 2 hd) (g_bp : zrg 6 0 47 bp) (g_bw : zrg 6 0 80 bw) (g_ban : zrg 6 0 2 ban) (g_bhd : zrg 6 0 2 bhd) (g_c1 : zrg 60 0 11 c1) (g_c2 : zrg 60 0 11 c2) (g_c3 : zrg 60 0 300 c3) (g_c4 : zrg 60 0 2 c4) (g_c5 : zrg 60 0 5000 c5) (g_e1 : zrg 80 0 11 e1) (g_e2 : zrg 80 0 11 e2) (g_e3 : zrg 80 0 300 e3) (g_e4 : zrg 80 0 5000 e4) (g_e5 : zrg 80 (-1) 79 e5) (hbo : ∀ n : Int, 0 ≤ n → n < bn → (10 ≤ bo n ∧ bo n ≤ 300) ∧ ban n = 2 ∧ bhd n = 2) (hep : ep = prF e5 em.toNat) (H : Heap) (locs : List Loc) (hP : va_P D vwCl ((rooW ad 0 cy fm fr) ++ ((airW ad 1 cy h su st sh fl cS cH (dnD h fl) (dnE h cS) (dnF h su st)) ++ ((airW ad 8 cy h su 0 0 0 (fun _ => 0) (fun _ => 0) (dnD h 0) (dnE h (fun _ => 0)) (dnF h su 0)) ++ ((grdW ad 15 cy sea noi) ++ ((rayW ad 18 cy (ur 0) (ur 1) (ur 2) (ur 3) (ur 4) (ur 5) (ur 6) (ur 7)) ++ ((sndW ad 19 cy 12 sn pl pw an hd fq) ++ ((sndW ad 25 cy 6 bn bp bw ban bhd bo) ++ ((conW ad 31 cy cm c1 c2 c3 c4 c5) ++ ((entW ad 37 cy em ep e1 e2 e3 e4 e5) ++ (outW od 0 cy o)))))))))) H) (hPm : va_P D vwCl (mdlW bd 0 cy th h su st sh fl 0 sn bn fm fr cm em lg le lf dl cS cH sea noi pl pw an hd bp bo bw c1 c2 c3 c4 c5 e1 e2 e3 e4 e5) H) (hD : va_D (fun q => z0 ≤ q) (((rooW ad 0 cy fm fr) ++ ((airW ad 1 cy h su st sh fl cS cH (dnD h fl) (dnE h cS) (dnF h su st)) ++ ((airW ad 8 cy h su 0 0 0 (fun _ => 0) (fun _ => 0) (dnD h 0) (dnE h (fun _ => 0)) (dnF h su 0)) ++ ((grdW ad 15 cy sea noi) ++ ((rayW ad 18 cy (ur 0) (ur 1) (ur 2) (ur 3) (ur 4) (ur 5) (ur 6) (ur 7)) ++ ((sndW ad 19 cy 12 sn pl pw an hd fq) ++ ((sndW ad 25 cy 6 bn bp bw ban bhd bo) ++ ((conW ad 31 cy cm c1 c2 c3 c4 c5) ++ ((entW ad 37 cy em ep e1 e2 e3 e4 e5) ++ (outW od 0 cy o)))))))))) ++ (mdlW bd 0 cy th h su st sh fl 0 sn bn fm fr cm em lg le lf dl cS cH sea noi pl pw an hd bp bo bw c1 c2 c3 c4 c5 e1 e2 e3 e4 e5))) (hS : va_S (fun q => z0 ≤ q) s.heap H locs) (ls : Array Slot) (hl : lv_has ls 7 [(0, .ref b), (1, .ref (ad 0)), (2, .ref (bd 0)), (3, .ref (od 0)), (4, .int (iI i))]) : W p l e room_1 s m args below meth c H locs (cells) (slots) Q (F0 m 547 ls []) := by
  have hAz : ∀ q : Nat, (fun q => z0 ≤ q) q → z0 ≤ q := fun _ h => h
  refine lv_aload_n M.1 M.2.1 dL_law_547 rfl (lv_at hl 1 rfl) ?_
  refine lv_aload_n M.1 M.2.1 dL_law_548 rfl (lv_at hl 0 rfl) ?_
  refine lv_iload M.1 M.2.1 dL_law_549 (lv_at hl 4 rfl) ?_
  refine zi_push M dL_law_551 ?_
  refine zi_iadd M dL_law_552 ?_
  refine zi_sld M hX hbl hbA hS hL (by omega) (by omega) dL_law_553 ?_
  have hx_1 := xZ_rg xs (i + 1)
  refine lv_aload_n M.1 M.2.1 dL_law_554 rfl (lv_at hl 3 rfl) ?_
  refine z_cW2 (zx_runH (As := [.ref (ad 0), .int (iI (xZ xs (i + 1))), .ref (od 0)]) (rest := []) M (c_L_pass l hst D cy z0 ad od fm fr h su st sh fl h su 0 0 0 o cS cH (dnD h fl) (dnE h cS) (dnF h su st) (fun _ => 0) (fun _ => 0) (dnD h 0) (dnE h (fun _ => 0)) (dnF h su 0) (xZ xs (i + 1)) (by omega) (by omega) (by omega) (by omega) (by omega) (by omega) g_cS g_cH (by omega) (by omega) (by omega) (by omega) (by omega) (zZ_rg 48 100 (by decide)) (zZ_rg 48 24 (by decide)) (by omega)) hE hN hS hAz (z_cut hP (zD_l hD) hAz [0, 1, 2, 3, 4, 5, 6, 7, 8, 9, 10, 11, 12, 13, 14, 43] rfl (by decide +kernel)) zk_cw_L_pass zk_in_RL zk_st_L_pass zk_ml_RL_139 rfl rfl zd_L_pass ⟨by decide, by decide⟩ rfl hl.1 rfl (Nat.le_of_ble_eq_true rfl) dL_law_555 ⟨by show _ ≤ 601024; omega, by show _ ≤ 7293034; omega⟩) hP hPm hD hS [0, 1, 2, 3, 4, 5, 6, 7, 8, 9, 10, 11, 12, 13, 14, 43] rfl (fun _ => by simp only [List.map_append, airW_adr, outW_adr, rooW_adr]) (fun r_2 u_2 H locs hp_2 hP hPm hD hS => ?_)
  have hP : va_P D vwCl ((rooW ad 0 cy fm fr) ++ ((airW ad 1 cy (if u_2.1 = 0 then (h + (xZ xs (i + 1))) else h) su (if u_2.1 = 0 then (stK (xZ xs (i + 1)) st sh) else st) (if u_2.1 = 0 then (max 0 (sh - (xZ xs (i + 1)))) else sh) (if u_2.1 = 0 then (flK (xZ xs (i + 1)).toNat fl) else fl) (if u_2.1 = 0 then (cSK (xZ xs (i + 1)) cS cH) else cS) (if u_2.1 = 0 then (cHK (xZ xs (i + 1)) cH) else cH) (if u_2.1 = 0 then (dnD (h + (xZ xs (i + 1))) (flK (xZ xs (i + 1)).toNat fl)) else (dnD h fl)) (if u_2.1 = 0 then (dnE (h + (xZ xs (i + 1))) (cSK (xZ xs (i + 1)) cS cH)) else (dnE h cS)) (if u_2.1 = 0 then (dnF (h + (xZ xs (i + 1))) su (stK (xZ xs (i + 1)) st sh)) else (dnF h su st))) ++ ((airW ad 8 cy (if u_2.1 = 0 then (h + (xZ xs (i + 1))) else h) su (if u_2.1 = 0 then (stK (xZ xs (i + 1)) 0 0) else 0) (if u_2.1 = 0 then (max 0 (0 - (xZ xs (i + 1)))) else 0) (if u_2.1 = 0 then (flK (xZ xs (i + 1)).toNat 0) else 0) (if u_2.1 = 0 then (cSK (xZ xs (i + 1)) (fun _ => 0) (fun _ => 0)) else (fun _ => 0)) (if u_2.1 = 0 then (cHK (xZ xs (i + 1)) (fun _ => 0)) else (fun _ => 0)) (if u_2.1 = 0 then (dnD (h + (xZ xs (i + 1))) (flK (xZ xs (i + 1)).toNat 0)) else (dnD h 0)) (if u_2.1 = 0 then (dnE (h + (xZ xs (i + 1))) (cSK (xZ xs (i + 1)) (fun _ => 0) (fun _ => 0))) else (dnE h (fun _ => 0))) (if u_2.1 = 0 then (dnF (h + (xZ xs (i + 1))) su (stK (xZ xs (i + 1)) 0 0)) else (dnF h su 0))) ++ ((grdW ad 15 cy sea noi) ++ ((rayW ad 18 cy (ur 0) (ur 1) (ur 2) (ur 3) (ur 4) (ur 5) (ur 6) (ur 7)) ++ ((sndW ad 19 cy 12 sn pl pw an hd fq) ++ ((sndW ad 25 cy 6 bn bp bw ban bhd bo) ++ ((conW ad 31 cy cm c1 c2 c3 c4 c5) ++ ((entW ad 37 cy em ep e1 e2 e3 e4 e5) ++ (outW od 0 cy u_2.2.1)))))))))) H := hP
  have hD : va_D (fun q => z0 ≤ q) (((rooW ad 0 cy fm fr) ++ ((airW ad 1 cy (if u_2.1 = 0 then (h + (xZ xs (i + 1))) else h) su (if u_2.1 = 0 then (stK (xZ xs (i + 1)) st sh) else st) (if u_2.1 = 0 then (max 0 (sh - (xZ xs (i + 1)))) else sh) (if u_2.1 = 0 then (flK (xZ xs (i + 1)).toNat fl) else fl) (if u_2.1 = 0 then (cSK (xZ xs (i + 1)) cS cH) else cS) (if u_2.1 = 0 then (cHK (xZ xs (i + 1)) cH) else cH) (if u_2.1 = 0 then (dnD (h + (xZ xs (i + 1))) (flK (xZ xs (i + 1)).toNat fl)) else (dnD h fl)) (if u_2.1 = 0 then (dnE (h + (xZ xs (i + 1))) (cSK (xZ xs (i + 1)) cS cH)) else (dnE h cS)) (if u_2.1 = 0 then (dnF (h + (xZ xs (i + 1))) su (stK (xZ xs (i + 1)) st sh)) else (dnF h su st))) ++ ((airW ad 8 cy (if u_2.1 = 0 then (h + (xZ xs (i + 1))) else h) su (if u_2.1 = 0 then (stK (xZ xs (i + 1)) 0 0) else 0) (if u_2.1 = 0 then (max 0 (0 - (xZ xs (i + 1)))) else 0) (if u_2.1 = 0 then (flK (xZ xs (i + 1)).toNat 0) else 0) (if u_2.1 = 0 then (cSK (xZ xs (i + 1)) (fun _ => 0) (fun _ => 0)) else (fun _ => 0)) (if u_2.1 = 0 then (cHK (xZ xs (i + 1)) (fun _ => 0)) else (fun _ => 0)) (if u_2.1 = 0 then (dnD (h + (xZ xs (i + 1))) (flK (xZ xs (i + 1)).toNat 0)) else (dnD h 0)) (if u_2.1 = 0 then (dnE (h + (xZ xs (i + 1))) (cSK (xZ xs (i + 1)) (fun _ => 0) (fun _ => 0))) else (dnE h (fun _ => 0))) (if u_2.1 = 0 then (dnF (h + (xZ xs (i + 1))) su (stK (xZ xs (i + 1)) 0 0)) else (dnF h su 0))) ++ ((grdW ad 15 cy sea noi) ++ ((rayW ad 18 cy (ur 0) (ur 1) (ur 2) (ur 3) (ur 4) (ur 5) (ur 6) (ur 7)) ++ ((sndW ad 19 cy 12 sn pl pw an hd fq) ++ ((sndW ad 25 cy 6 bn bp bw ban bhd bo) ++ ((conW ad 31 cy cm c1 c2 c3 c4 c5) ++ ((entW ad 37 cy em ep e1 e2 e3 e4 e5) ++ (outW od 0 cy u_2.2.1)))))))))) ++ (mdlW bd 0 cy th h su st sh fl 0 sn bn fm fr cm em lg le lf dl cS cH sea noi pl pw an hd bp bo bw c1 c2 c3 c4 c5 e1 e2 e3 e4 e5)) := hD
  obtain ⟨u1_2, u2_2, u3_2⟩ := u_2
  dsimp only at hp_2
  rcases hp_2 with ⟨rfl, rfl, hN_2, hv_2⟩ | ⟨rfl, rfl, hN_2, hv_2⟩ | ⟨rfl, rfl, hN_2, hv_2⟩
  ·
    have hw_2 := hv_2.symm
    subst hw_2
    have hP : va_P D vwCl ((rooW ad 0 cy fm fr) ++ ((airW ad 1 cy (h + (xZ xs (i + 1))) su (stK (xZ xs (i + 1)) st sh) (max 0 (sh - (xZ xs (i + 1)))) (flK (xZ xs (i + 1)).toNat fl) (cSK (xZ xs (i + 1)) cS cH) (cHK (xZ xs (i + 1)) cH) (dnD (h + (xZ xs (i + 1))) (flK (xZ xs (i + 1)).toNat fl)) (dnE (h + (xZ xs (i + 1))) (cSK (xZ xs (i + 1)) cS cH)) (dnF (h + (xZ xs (i + 1))) su (stK (xZ xs (i + 1)) st sh))) ++ ((airW ad 8 cy (h + (xZ xs (i + 1))) su (stK (xZ xs (i + 1)) 0 0) (max 0 (0 - (xZ xs (i + 1)))) (flK (xZ xs (i + 1)).toNat 0) (cSK (xZ xs (i + 1)) (fun _ => 0) (fun _ => 0)) (cHK (xZ xs (i + 1)) (fun _ => 0)) (dnD (h + (xZ xs (i + 1))) (flK (xZ xs (i + 1)).toNat 0)) (dnE (h + (xZ xs (i + 1))) (cSK (xZ xs (i + 1)) (fun _ => 0) (fun _ => 0))) (dnF (h + (xZ xs (i + 1))) su (stK (xZ xs (i + 1)) 0 0))) ++ ((grdW ad 15 cy sea noi) ++ ((rayW ad 18 cy (ur 0) (ur 1) (ur 2) (ur 3) (ur 4) (ur 5) (ur 6) (ur 7)) ++ ((sndW ad 19 cy 12 sn pl pw an hd fq) ++ ((sndW ad 25 cy 6 bn bp bw ban bhd bo) ++ ((conW ad 31 cy cm c1 c2 c3 c4 c5) ++ ((entW ad 37 cy em ep e1 e2 e3 e4 e5) ++ (outW od 0 cy (h + (xZ xs (i + 1))))))))))))) H := hP
    have hD : va_D (fun q => z0 ≤ q) (((rooW ad 0 cy fm fr) ++ ((airW ad 1 cy (h + (xZ xs (i + 1))) su (stK (xZ xs (i + 1)) st sh) (max 0 (sh - (xZ xs (i + 1)))) (flK (xZ xs (i + 1)).toNat fl) (cSK (xZ xs (i + 1)) cS cH) (cHK (xZ xs (i + 1)) cH) (dnD (h + (xZ xs (i + 1))) (flK (xZ xs (i + 1)).toNat fl)) (dnE (h + (xZ xs (i + 1))) (cSK (xZ xs (i + 1)) cS cH)) (dnF (h + (xZ xs (i + 1))) su (stK (xZ xs (i + 1)) st sh))) ++ ((airW ad 8 cy (h + (xZ xs (i + 1))) su (stK (xZ xs (i + 1)) 0 0) (max 0 (0 - (xZ xs (i + 1)))) (flK (xZ xs (i + 1)).toNat 0) (cSK (xZ xs (i + 1)) (fun _ => 0) (fun _ => 0)) (cHK (xZ xs (i + 1)) (fun _ => 0)) (dnD (h + (xZ xs (i + 1))) (flK (xZ xs (i + 1)).toNat 0)) (dnE (h + (xZ xs (i + 1))) (cSK (xZ xs (i + 1)) (fun _ => 0) (fun _ => 0))) (dnF (h + (xZ xs (i + 1))) su (stK (xZ xs (i + 1)) 0 0))) ++ ((grdW ad 15 cy sea noi) ++ ((rayW ad 18 cy (ur 0) (ur 1) (ur 2) (ur 3) (ur 4) (ur 5) (ur 6) (ur 7)) ++ ((sndW ad 19 cy 12 sn pl pw an hd fq) ++ ((sndW ad 25 cy 6 bn bp bw ban bhd bo) ++ ((conW ad 31 cy cm c1 c2 c3 c4 c5) ++ ((entW ad 37 cy em ep e1 e2 e3 e4 e5) ++ (outW od 0 cy (h + (xZ xs (i + 1))))))))))))) ++ (mdlW bd 0 cy th h su st sh fl 0 sn bn fm fr cm em lg le lf dl cS cH sea noi pl pw an hd bp bo bw c1 c2 c3 c4 c5 e1 e2 e3 e4 e5)) := hD
    refine lv_istore (lv' := [(5, .int (iI 0)), (0, .ref (b)), (1, .ref (ad 0)), (2, .ref (bd 0)), (3, .ref (od 0)), (4, .int (iI i))]) M.1 M.2.1 dL_law_558 hl (by decide) rfl (fun ls hl => ?_)
    refine lv_aload_n M.1 M.2.1 dL_law_560 rfl (lv_at hl 3 rfl) ?_
    refine lv_aload_n M.1 M.2.1 dL_law_561 rfl (lv_at hl 1 rfl) ?_
    refine lv_iload M.1 M.2.1 dL_law_562 (lv_at hl 5 rfl) ?_
    refine zi_push M dL_law_564 ?_
    refine zi_iadd M dL_law_565 ?_
    refine zi_sld M hX hbl hbA hS hL (by omega) (by omega) dL_law_566 ?_
    have hx_3 := xZ_rg xs (i + 1)
    have hPx := hP
    have hP := hPm
    have hPm := hPx
    have hD := zD_c hD
    refine z_cW2 (z_runV (As := [.int (iI (xZ xs (i + 1)))]) (rest := []) M (c_X7_pass l D cy z0 bd th h su st sh fl 0 sn bn fm fr cm em lg le lf dl cS cH sea noi pl pw an hd bp bo bw c1 c2 c3 c4 c5 e1 e2 e3 e4 e5 (xZ xs (i + 1)) (by omega) (by omega) (by omega) (by omega) (by omega) (by omega) g_cS g_cH (by omega)) hE hS hAz (z_cut hP (zD_l hD) hAz [0, 1, 2, 3, 4, 5, 6, 7, 8, 9, 10, 11, 12, 13, 14, 15, 16, 17, 18, 19, 20, 21] rfl (by decide +kernel)) (zRc.of (ci := 7) (q0 := 0) hE hP rfl rfl) zk_cd_X7_pass zk_in_RX7 zk_im_X7_pass zk_se_X7_pass zk_ml_RL_141 rfl rfl zd_X7_pass ⟨by decide, by decide⟩ rfl hl.1 rfl (Nat.le_of_ble_eq_true rfl) dL_law_567 ⟨by show _ ≤ 601024; omega, by show _ ≤ 7293034; omega⟩) hP hPm hD hS [0, 1, 2, 3, 4, 5, 6, 7, 8, 9, 10, 11, 12, 13, 14, 15, 16, 17, 18, 19, 20, 21] rfl (fun _ => by simp only [List.map_append, mdlW_adr]) (fun r_4 u_4 H locs hp_4 hP hPm hD hS => ?_)
    try simp only [mdD_0, mdE_0, mdF_0, mdD_1, mdE_1, mdF_1] at hp_4
    have hP : va_P D vwCl (mdlW bd 0 cy u_4 (if u_4 = 0 then (h + (xZ xs (i + 1))) else h) su (if u_4 = 0 then (stK (xZ xs (i + 1)) st sh) else st) (if u_4 = 0 then (max 0 (sh - (xZ xs (i + 1)))) else sh) (if u_4 = 0 then (flK (xZ xs (i + 1)).toNat fl) else fl) 0 sn bn fm fr cm em lg le lf dl (if u_4 = 0 then (cSK (xZ xs (i + 1)) cS cH) else cS) (if u_4 = 0 then (cHK (xZ xs (i + 1)) cH) else cH) sea noi pl pw an hd bp bo bw c1 c2 c3 c4 c5 e1 e2 e3 e4 e5) H := hP
    have hD : va_D (fun q => z0 ≤ q) ((mdlW bd 0 cy u_4 (if u_4 = 0 then (h + (xZ xs (i + 1))) else h) su (if u_4 = 0 then (stK (xZ xs (i + 1)) st sh) else st) (if u_4 = 0 then (max 0 (sh - (xZ xs (i + 1)))) else sh) (if u_4 = 0 then (flK (xZ xs (i + 1)).toNat fl) else fl) 0 sn bn fm fr cm em lg le lf dl (if u_4 = 0 then (cSK (xZ xs (i + 1)) cS cH) else cS) (if u_4 = 0 then (cHK (xZ xs (i + 1)) cH) else cH) sea noi pl pw an hd bp bo bw c1 c2 c3 c4 c5 e1 e2 e3 e4 e5) ++ ((rooW ad 0 cy fm fr) ++ ((airW ad 1 cy (h + (xZ xs (i + 1))) su (stK (xZ xs (i + 1)) st sh) (max 0 (sh - (xZ xs (i + 1)))) (flK (xZ xs (i + 1)).toNat fl) (cSK (xZ xs (i + 1)) cS cH) (cHK (xZ xs (i + 1)) cH) (dnD (h + (xZ xs (i + 1))) (flK (xZ xs (i + 1)).toNat fl)) (dnE (h + (xZ xs (i + 1))) (cSK (xZ xs (i + 1)) cS cH)) (dnF (h + (xZ xs (i + 1))) su (stK (xZ xs (i + 1)) st sh))) ++ ((airW ad 8 cy (h + (xZ xs (i + 1))) su (stK (xZ xs (i + 1)) 0 0) (max 0 (0 - (xZ xs (i + 1)))) (flK (xZ xs (i + 1)).toNat 0) (cSK (xZ xs (i + 1)) (fun _ => 0) (fun _ => 0)) (cHK (xZ xs (i + 1)) (fun _ => 0)) (dnD (h + (xZ xs (i + 1))) (flK (xZ xs (i + 1)).toNat 0)) (dnE (h + (xZ xs (i + 1))) (cSK (xZ xs (i + 1)) (fun _ => 0) (fun _ => 0))) (dnF (h + (xZ xs (i + 1))) su (stK (xZ xs (i + 1)) 0 0))) ++ ((grdW ad 15 cy sea noi) ++ ((rayW ad 18 cy (ur 0) (ur 1) (ur 2) (ur 3) (ur 4) (ur 5) (ur 6) (ur 7)) ++ ((sndW ad 19 cy 12 sn pl pw an hd fq) ++ ((sndW ad 25 cy 6 bn bp bw ban bhd bo) ++ ((conW ad 31 cy cm c1 c2 c3 c4 c5) ++ ((entW ad 37 cy em ep e1 e2 e3 e4 e5) ++ (outW od 0 cy (h + (xZ xs (i + 1)))))))))))))) := hD
    rcases hp_4 with ⟨rfl, hN_4, rfl⟩ | ⟨rfl, hN_4, rfl⟩ | ⟨rfl, hN_4, rfl⟩
    ·
      have hP : va_P D vwCl (mdlW bd 0 cy 0 (h + (xZ xs (i + 1))) su (stK (xZ xs (i + 1)) st sh) (max 0 (sh - (xZ xs (i + 1)))) (flK (xZ xs (i + 1)).toNat fl) 0 sn bn fm fr cm em lg le lf dl (cSK (xZ xs (i + 1)) cS cH) (cHK (xZ xs (i + 1)) cH) sea noi pl pw an hd bp bo bw c1 c2 c3 c4 c5 e1 e2 e3 e4 e5) H := hP
      have hD : va_D (fun q => z0 ≤ q) ((mdlW bd 0 cy 0 (h + (xZ xs (i + 1))) su (stK (xZ xs (i + 1)) st sh) (max 0 (sh - (xZ xs (i + 1)))) (flK (xZ xs (i + 1)).toNat fl) 0 sn bn fm fr cm em lg le lf dl (cSK (xZ xs (i + 1)) cS cH) (cHK (xZ xs (i + 1)) cH) sea noi pl pw an hd bp bo bw c1 c2 c3 c4 c5 e1 e2 e3 e4 e5) ++ ((rooW ad 0 cy fm fr) ++ ((airW ad 1 cy (h + (xZ xs (i + 1))) su (stK (xZ xs (i + 1)) st sh) (max 0 (sh - (xZ xs (i + 1)))) (flK (xZ xs (i + 1)).toNat fl) (cSK (xZ xs (i + 1)) cS cH) (cHK (xZ xs (i + 1)) cH) (dnD (h + (xZ xs (i + 1))) (flK (xZ xs (i + 1)).toNat fl)) (dnE (h + (xZ xs (i + 1))) (cSK (xZ xs (i + 1)) cS cH)) (dnF (h + (xZ xs (i + 1))) su (stK (xZ xs (i + 1)) st sh))) ++ ((airW ad 8 cy (h + (xZ xs (i + 1))) su (stK (xZ xs (i + 1)) 0 0) (max 0 (0 - (xZ xs (i + 1)))) (flK (xZ xs (i + 1)).toNat 0) (cSK (xZ xs (i + 1)) (fun _ => 0) (fun _ => 0)) (cHK (xZ xs (i + 1)) (fun _ => 0)) (dnD (h + (xZ xs (i + 1))) (flK (xZ xs (i + 1)).toNat 0)) (dnE (h + (xZ xs (i + 1))) (cSK (xZ xs (i + 1)) (fun _ => 0) (fun _ => 0))) (dnF (h + (xZ xs (i + 1))) su (stK (xZ xs (i + 1)) 0 0))) ++ ((grdW ad 15 cy sea noi) ++ ((rayW ad 18 cy (ur 0) (ur 1) (ur 2) (ur 3) (ur 4) (ur 5) (ur 6) (ur 7)) ++ ((sndW ad 19 cy 12 sn pl pw an hd fq) ++ ((sndW ad 25 cy 6 bn bp bw ban bhd bo) ++ ((conW ad 31 cy cm c1 c2 c3 c4 c5) ++ ((entW ad 37 cy em ep e1 e2 e3 e4 e5) ++ (outW od 0 cy (h + (xZ xs (i + 1)))))))))))))) := hD
      refine lv_istore (lv' := [(6, .int (iI (h + (xZ xs (i + 1))))), (5, .int (iI 0)), (0, .ref (b)), (1, .ref (ad 0)), (2, .ref (bd 0)), (3, .ref (od 0)), (4, .int (iI i))]) M.1 M.2.1 dL_law_570 hl (by decide) rfl (fun ls hl => ?_)
      refine lv_aload_n M.1 M.2.1 dL_law_572 rfl (lv_at hl 4 rfl) ?_
      refine z_cR (z_runV (As := []) (rest := []) M (c_X7_thrown l D cy z0 bd 0 (h + (xZ xs (i + 1))) su (stK (xZ xs (i + 1)) st sh) (max 0 (sh - (xZ xs (i + 1)))) (flK (xZ xs (i + 1)).toNat fl) 0 sn bn fm fr cm em lg le lf dl (cSK (xZ xs (i + 1)) cS cH) (cHK (xZ xs (i + 1)) cH) sea noi pl pw an hd bp bo bw c1 c2 c3 c4 c5 e1 e2 e3 e4 e5) hE hS hAz hP (zRc.of (ci := 7) (q0 := 0) hE hP rfl rfl) zk_cd_X7_thrown zk_in_RX7 zk_im_X7_thrown zk_se_X7_thrown zk_ml_RL_116 rfl rfl zd_X7_thrown ⟨by decide, by decide⟩ rfl hl.1 rfl (Nat.le_of_ble_eq_true rfl) dL_law_573 ⟨by show _ ≤ 601024; omega, by show _ ≤ 7293034; omega⟩) ?_
      refine lv_iload M.1 M.2.1 dL_law_576 (lv_at hl 1 rfl) ?_
      refine zi_same (tgt := 583) M dL_law_578 (by decide) ?_
      refine lv_iload M.1 M.2.1 dL_law_583 (lv_at hl 1 rfl) ?_
      refine zi_if_ne (tgt := 600) M dL_law_585 (by decide) ⟨by decide, by decide⟩ (fun q => absurd q (by decide)) (fun _ => ?_)
      refine lv_aload_n M.1 M.2.1 dL_law_588 rfl (lv_at hl 5 rfl) ?_
      refine zi_push M dL_law_589 ?_
      refine zi_lald M hE hPm 43 rfl dL_law_590 ?_
      refine lv_iload M.1 M.2.1 dL_law_591 (lv_at hl 0 rfl) ?_
      refine zi_i2l M dL_law_593 ?_
      refine zi_lcmpE M dL_law_594 ?_
      refine zi_if_eq (tgt := 600) M dL_law_595 (by decide) ⟨by decide, by decide⟩ (fun _ => ?_) (fun q => absurd q (by decide))
      refine zi_goto (tgt := 2286) M dL_law_600 (by decide) ?_
      have hPx := hP
      have hP := hPm
      have hPm := hPx
      have hD := zD_c hD
      rw [stK_0, flK_0, cSK_0, cHK_0 (k := (xZ xs (i + 1))) (by omega), show max 0 ((0 : Int) - (xZ xs (i + 1))) = 0 from by omega] at hP hD
      refine W.widen (k := cells + 6) (n := slots + 36) (by omega) (by omega) ?_
      exact hback (h + (xZ xs (i + 1))) su (stK (xZ xs (i + 1)) st sh) (max 0 (sh - (xZ xs (i + 1)))) (flK (xZ xs (i + 1)).toNat fl) sn bn cm em ep fm fr 0 (h + (xZ xs (i + 1))) lg le lf dl (cSK (xZ xs (i + 1)) cS cH) (cHK (xZ xs (i + 1)) cH) sea noi pl pw an hd fq bp bw ban bhd bo c1 c2 c3 c4 c5 e1 e2 e3 e4 e5 ur (by omega) h_su (stK_rg h_st) (by omega) (flK_rg h_fl _) h_sn h_bn h_cm h_em (cSK_rg g_cS) (cHK_rg (by omega) g_cH) g_sea g_noi g_pl g_pw g_an g_hd g_bp g_bw g_ban g_bhd g_c1 g_c2 g_c3 g_c4 g_c5 g_e1 g_e2 g_e3 g_e4 g_e5 hbo hep H locs hP hPm hD hS ls (lv_sub hl [2, 3, 4, 5, 6] rfl)
    ·
      have hP : va_P D vwCl (mdlW bd 0 cy 1 h su st sh fl 0 sn bn fm fr cm em lg le lf dl cS cH sea noi pl pw an hd bp bo bw c1 c2 c3 c4 c5 e1 e2 e3 e4 e5) H := hP
      have hD : va_D (fun q => z0 ≤ q) ((mdlW bd 0 cy 1 h su st sh fl 0 sn bn fm fr cm em lg le lf dl cS cH sea noi pl pw an hd bp bo bw c1 c2 c3 c4 c5 e1 e2 e3 e4 e5) ++ ((rooW ad 0 cy fm fr) ++ ((airW ad 1 cy (h + (xZ xs (i + 1))) su (stK (xZ xs (i + 1)) st sh) (max 0 (sh - (xZ xs (i + 1)))) (flK (xZ xs (i + 1)).toNat fl) (cSK (xZ xs (i + 1)) cS cH) (cHK (xZ xs (i + 1)) cH) (dnD (h + (xZ xs (i + 1))) (flK (xZ xs (i + 1)).toNat fl)) (dnE (h + (xZ xs (i + 1))) (cSK (xZ xs (i + 1)) cS cH)) (dnF (h + (xZ xs (i + 1))) su (stK (xZ xs (i + 1)) st sh))) ++ ((airW ad 8 cy (h + (xZ xs (i + 1))) su (stK (xZ xs (i + 1)) 0 0) (max 0 (0 - (xZ xs (i + 1)))) (flK (xZ xs (i + 1)).toNat 0) (cSK (xZ xs (i + 1)) (fun _ => 0) (fun _ => 0)) (cHK (xZ xs (i + 1)) (fun _ => 0)) (dnD (h + (xZ xs (i + 1))) (flK (xZ xs (i + 1)).toNat 0)) (dnE (h + (xZ xs (i + 1))) (cSK (xZ xs (i + 1)) (fun _ => 0) (fun _ => 0))) (dnF (h + (xZ xs (i + 1))) su (stK (xZ xs (i + 1)) 0 0))) ++ ((grdW ad 15 cy sea noi) ++ ((rayW ad 18 cy (ur 0) (ur 1) (ur 2) (ur 3) (ur 4) (ur 5) (ur 6) (ur 7)) ++ ((sndW ad 19 cy 12 sn pl pw an hd fq) ++ ((sndW ad 25 cy 6 bn bp bw ban bhd bo) ++ ((conW ad 31 cy cm c1 c2 c3 c4 c5) ++ ((entW ad 37 cy em ep e1 e2 e3 e4 e5) ++ (outW od 0 cy (h + (xZ xs (i + 1)))))))))))))) := hD
      exfalso
      omega
    ·
      have hP : va_P D vwCl (mdlW bd 0 cy 2 h su st sh fl 0 sn bn fm fr cm em lg le lf dl cS cH sea noi pl pw an hd bp bo bw c1 c2 c3 c4 c5 e1 e2 e3 e4 e5) H := hP
      have hD : va_D (fun q => z0 ≤ q) ((mdlW bd 0 cy 2 h su st sh fl 0 sn bn fm fr cm em lg le lf dl cS cH sea noi pl pw an hd bp bo bw c1 c2 c3 c4 c5 e1 e2 e3 e4 e5) ++ ((rooW ad 0 cy fm fr) ++ ((airW ad 1 cy (h + (xZ xs (i + 1))) su (stK (xZ xs (i + 1)) st sh) (max 0 (sh - (xZ xs (i + 1)))) (flK (xZ xs (i + 1)).toNat fl) (cSK (xZ xs (i + 1)) cS cH) (cHK (xZ xs (i + 1)) cH) (dnD (h + (xZ xs (i + 1))) (flK (xZ xs (i + 1)).toNat fl)) (dnE (h + (xZ xs (i + 1))) (cSK (xZ xs (i + 1)) cS cH)) (dnF (h + (xZ xs (i + 1))) su (stK (xZ xs (i + 1)) st sh))) ++ ((airW ad 8 cy (h + (xZ xs (i + 1))) su (stK (xZ xs (i + 1)) 0 0) (max 0 (0 - (xZ xs (i + 1)))) (flK (xZ xs (i + 1)).toNat 0) (cSK (xZ xs (i + 1)) (fun _ => 0) (fun _ => 0)) (cHK (xZ xs (i + 1)) (fun _ => 0)) (dnD (h + (xZ xs (i + 1))) (flK (xZ xs (i + 1)).toNat 0)) (dnE (h + (xZ xs (i + 1))) (cSK (xZ xs (i + 1)) (fun _ => 0) (fun _ => 0))) (dnF (h + (xZ xs (i + 1))) su (stK (xZ xs (i + 1)) 0 0))) ++ ((grdW ad 15 cy sea noi) ++ ((rayW ad 18 cy (ur 0) (ur 1) (ur 2) (ur 3) (ur 4) (ur 5) (ur 6) (ur 7)) ++ ((sndW ad 19 cy 12 sn pl pw an hd fq) ++ ((sndW ad 25 cy 6 bn bp bw ban bhd bo) ++ ((conW ad 31 cy cm c1 c2 c3 c4 c5) ++ ((entW ad 37 cy em ep e1 e2 e3 e4 e5) ++ (outW od 0 cy (h + (xZ xs (i + 1)))))))))))))) := hD
      exfalso
      omega
  ·
    have hw_2 := hv_2.symm
    subst hw_2
    have hP : va_P D vwCl ((rooW ad 0 cy fm fr) ++ ((airW ad 1 cy h su st sh fl cS cH (dnD h fl) (dnE h cS) (dnF h su st)) ++ ((airW ad 8 cy h su 0 0 0 (fun _ => 0) (fun _ => 0) (dnD h 0) (dnE h (fun _ => 0)) (dnF h su 0)) ++ ((grdW ad 15 cy sea noi) ++ ((rayW ad 18 cy (ur 0) (ur 1) (ur 2) (ur 3) (ur 4) (ur 5) (ur 6) (ur 7)) ++ ((sndW ad 19 cy 12 sn pl pw an hd fq) ++ ((sndW ad 25 cy 6 bn bp bw ban bhd bo) ++ ((conW ad 31 cy cm c1 c2 c3 c4 c5) ++ ((entW ad 37 cy em ep e1 e2 e3 e4 e5) ++ (outW od 0 cy o)))))))))) H := hP
    have hD : va_D (fun q => z0 ≤ q) (((rooW ad 0 cy fm fr) ++ ((airW ad 1 cy h su st sh fl cS cH (dnD h fl) (dnE h cS) (dnF h su st)) ++ ((airW ad 8 cy h su 0 0 0 (fun _ => 0) (fun _ => 0) (dnD h 0) (dnE h (fun _ => 0)) (dnF h su 0)) ++ ((grdW ad 15 cy sea noi) ++ ((rayW ad 18 cy (ur 0) (ur 1) (ur 2) (ur 3) (ur 4) (ur 5) (ur 6) (ur 7)) ++ ((sndW ad 19 cy 12 sn pl pw an hd fq) ++ ((sndW ad 25 cy 6 bn bp bw ban bhd bo) ++ ((conW ad 31 cy cm c1 c2 c3 c4 c5) ++ ((entW ad 37 cy em ep e1 e2 e3 e4 e5) ++ (outW od 0 cy o)))))))))) ++ (mdlW bd 0 cy th h su st sh fl 0 sn bn fm fr cm em lg le lf dl cS cH sea noi pl pw an hd bp bo bw c1 c2 c3 c4 c5 e1 e2 e3 e4 e5)) := hD
    refine lv_istore (lv' := [(5, .int (iI 1)), (0, .ref (b)), (1, .ref (ad 0)), (2, .ref (bd 0)), (3, .ref (od 0)), (4, .int (iI i))]) M.1 M.2.1 dL_law_558 hl (by decide) rfl (fun ls hl => ?_)
    refine lv_aload_n M.1 M.2.1 dL_law_560 rfl (lv_at hl 3 rfl) ?_
    refine lv_aload_n M.1 M.2.1 dL_law_561 rfl (lv_at hl 1 rfl) ?_
    refine lv_iload M.1 M.2.1 dL_law_562 (lv_at hl 5 rfl) ?_
    refine zi_push M dL_law_564 ?_
    refine zi_iadd M dL_law_565 ?_
    refine zi_sld M hX hbl hbA hS hL (by omega) (by omega) dL_law_566 ?_
    have hx_5 := xZ_rg xs (i + 1)
    have hPx := hP
    have hP := hPm
    have hPm := hPx
    have hD := zD_c hD
    refine z_cW2 (z_runV (As := [.int (iI (xZ xs (i + 1)))]) (rest := []) M (c_X7_pass l D cy z0 bd th h su st sh fl 0 sn bn fm fr cm em lg le lf dl cS cH sea noi pl pw an hd bp bo bw c1 c2 c3 c4 c5 e1 e2 e3 e4 e5 (xZ xs (i + 1)) (by omega) (by omega) (by omega) (by omega) (by omega) (by omega) g_cS g_cH (by omega)) hE hS hAz (z_cut hP (zD_l hD) hAz [0, 1, 2, 3, 4, 5, 6, 7, 8, 9, 10, 11, 12, 13, 14, 15, 16, 17, 18, 19, 20, 21] rfl (by decide +kernel)) (zRc.of (ci := 7) (q0 := 0) hE hP rfl rfl) zk_cd_X7_pass zk_in_RX7 zk_im_X7_pass zk_se_X7_pass zk_ml_RL_141 rfl rfl zd_X7_pass ⟨by decide, by decide⟩ rfl hl.1 rfl (Nat.le_of_ble_eq_true rfl) dL_law_567 ⟨by show _ ≤ 601024; omega, by show _ ≤ 7293034; omega⟩) hP hPm hD hS [0, 1, 2, 3, 4, 5, 6, 7, 8, 9, 10, 11, 12, 13, 14, 15, 16, 17, 18, 19, 20, 21] rfl (fun _ => by simp only [List.map_append, mdlW_adr]) (fun r_6 u_6 H locs hp_6 hP hPm hD hS => ?_)
    try simp only [mdD_0, mdE_0, mdF_0, mdD_1, mdE_1, mdF_1] at hp_6
    have hP : va_P D vwCl (mdlW bd 0 cy u_6 (if u_6 = 0 then (h + (xZ xs (i + 1))) else h) su (if u_6 = 0 then (stK (xZ xs (i + 1)) st sh) else st) (if u_6 = 0 then (max 0 (sh - (xZ xs (i + 1)))) else sh) (if u_6 = 0 then (flK (xZ xs (i + 1)).toNat fl) else fl) 0 sn bn fm fr cm em lg le lf dl (if u_6 = 0 then (cSK (xZ xs (i + 1)) cS cH) else cS) (if u_6 = 0 then (cHK (xZ xs (i + 1)) cH) else cH) sea noi pl pw an hd bp bo bw c1 c2 c3 c4 c5 e1 e2 e3 e4 e5) H := hP
    have hD : va_D (fun q => z0 ≤ q) ((mdlW bd 0 cy u_6 (if u_6 = 0 then (h + (xZ xs (i + 1))) else h) su (if u_6 = 0 then (stK (xZ xs (i + 1)) st sh) else st) (if u_6 = 0 then (max 0 (sh - (xZ xs (i + 1)))) else sh) (if u_6 = 0 then (flK (xZ xs (i + 1)).toNat fl) else fl) 0 sn bn fm fr cm em lg le lf dl (if u_6 = 0 then (cSK (xZ xs (i + 1)) cS cH) else cS) (if u_6 = 0 then (cHK (xZ xs (i + 1)) cH) else cH) sea noi pl pw an hd bp bo bw c1 c2 c3 c4 c5 e1 e2 e3 e4 e5) ++ ((rooW ad 0 cy fm fr) ++ ((airW ad 1 cy h su st sh fl cS cH (dnD h fl) (dnE h cS) (dnF h su st)) ++ ((airW ad 8 cy h su 0 0 0 (fun _ => 0) (fun _ => 0) (dnD h 0) (dnE h (fun _ => 0)) (dnF h su 0)) ++ ((grdW ad 15 cy sea noi) ++ ((rayW ad 18 cy (ur 0) (ur 1) (ur 2) (ur 3) (ur 4) (ur 5) (ur 6) (ur 7)) ++ ((sndW ad 19 cy 12 sn pl pw an hd fq) ++ ((sndW ad 25 cy 6 bn bp bw ban bhd bo) ++ ((conW ad 31 cy cm c1 c2 c3 c4 c5) ++ ((entW ad 37 cy em ep e1 e2 e3 e4 e5) ++ (outW od 0 cy o))))))))))) := hD
    rcases hp_6 with ⟨rfl, hN_6, rfl⟩ | ⟨rfl, hN_6, rfl⟩ | ⟨rfl, hN_6, rfl⟩
    ·
      have hP : va_P D vwCl (mdlW bd 0 cy 0 (h + (xZ xs (i + 1))) su (stK (xZ xs (i + 1)) st sh) (max 0 (sh - (xZ xs (i + 1)))) (flK (xZ xs (i + 1)).toNat fl) 0 sn bn fm fr cm em lg le lf dl (cSK (xZ xs (i + 1)) cS cH) (cHK (xZ xs (i + 1)) cH) sea noi pl pw an hd bp bo bw c1 c2 c3 c4 c5 e1 e2 e3 e4 e5) H := hP
      have hD : va_D (fun q => z0 ≤ q) ((mdlW bd 0 cy 0 (h + (xZ xs (i + 1))) su (stK (xZ xs (i + 1)) st sh) (max 0 (sh - (xZ xs (i + 1)))) (flK (xZ xs (i + 1)).toNat fl) 0 sn bn fm fr cm em lg le lf dl (cSK (xZ xs (i + 1)) cS cH) (cHK (xZ xs (i + 1)) cH) sea noi pl pw an hd bp bo bw c1 c2 c3 c4 c5 e1 e2 e3 e4 e5) ++ ((rooW ad 0 cy fm fr) ++ ((airW ad 1 cy h su st sh fl cS cH (dnD h fl) (dnE h cS) (dnF h su st)) ++ ((airW ad 8 cy h su 0 0 0 (fun _ => 0) (fun _ => 0) (dnD h 0) (dnE h (fun _ => 0)) (dnF h su 0)) ++ ((grdW ad 15 cy sea noi) ++ ((rayW ad 18 cy (ur 0) (ur 1) (ur 2) (ur 3) (ur 4) (ur 5) (ur 6) (ur 7)) ++ ((sndW ad 19 cy 12 sn pl pw an hd fq) ++ ((sndW ad 25 cy 6 bn bp bw ban bhd bo) ++ ((conW ad 31 cy cm c1 c2 c3 c4 c5) ++ ((entW ad 37 cy em ep e1 e2 e3 e4 e5) ++ (outW od 0 cy o))))))))))) := hD
      exfalso
      omega
    ·
      have hP : va_P D vwCl (mdlW bd 0 cy 1 h su st sh fl 0 sn bn fm fr cm em lg le lf dl cS cH sea noi pl pw an hd bp bo bw c1 c2 c3 c4 c5 e1 e2 e3 e4 e5) H := hP
      have hD : va_D (fun q => z0 ≤ q) ((mdlW bd 0 cy 1 h su st sh fl 0 sn bn fm fr cm em lg le lf dl cS cH sea noi pl pw an hd bp bo bw c1 c2 c3 c4 c5 e1 e2 e3 e4 e5) ++ ((rooW ad 0 cy fm fr) ++ ((airW ad 1 cy h su st sh fl cS cH (dnD h fl) (dnE h cS) (dnF h su st)) ++ ((airW ad 8 cy h su 0 0 0 (fun _ => 0) (fun _ => 0) (dnD h 0) (dnE h (fun _ => 0)) (dnF h su 0)) ++ ((grdW ad 15 cy sea noi) ++ ((rayW ad 18 cy (ur 0) (ur 1) (ur 2) (ur 3) (ur 4) (ur 5) (ur 6) (ur 7)) ++ ((sndW ad 19 cy 12 sn pl pw an hd fq) ++ ((sndW ad 25 cy 6 bn bp bw ban bhd bo) ++ ((conW ad 31 cy cm c1 c2 c3 c4 c5) ++ ((entW ad 37 cy em ep e1 e2 e3 e4 e5) ++ (outW od 0 cy o))))))))))) := hD
      refine lv_istore (lv' := [(6, .int (iI 0)), (5, .int (iI 1)), (0, .ref (b)), (1, .ref (ad 0)), (2, .ref (bd 0)), (3, .ref (od 0)), (4, .int (iI i))]) M.1 M.2.1 dL_law_570 hl (by decide) rfl (fun ls hl => ?_)
      refine lv_aload_n M.1 M.2.1 dL_law_572 rfl (lv_at hl 4 rfl) ?_
      refine z_cR (z_runV (As := []) (rest := []) M (c_X7_thrown l D cy z0 bd 1 h su st sh fl 0 sn bn fm fr cm em lg le lf dl cS cH sea noi pl pw an hd bp bo bw c1 c2 c3 c4 c5 e1 e2 e3 e4 e5) hE hS hAz hP (zRc.of (ci := 7) (q0 := 0) hE hP rfl rfl) zk_cd_X7_thrown zk_in_RX7 zk_im_X7_thrown zk_se_X7_thrown zk_ml_RL_116 rfl rfl zd_X7_thrown ⟨by decide, by decide⟩ rfl hl.1 rfl (Nat.le_of_ble_eq_true rfl) dL_law_573 ⟨by show _ ≤ 601024; omega, by show _ ≤ 7293034; omega⟩) ?_
      refine lv_iload M.1 M.2.1 dL_law_576 (lv_at hl 1 rfl) ?_
      refine zi_same (tgt := 583) M dL_law_578 (by decide) ?_
      refine lv_iload M.1 M.2.1 dL_law_583 (lv_at hl 1 rfl) ?_
      refine zi_if_ne (tgt := 600) M dL_law_585 (by decide) ⟨by decide, by decide⟩ (fun _ => ?_) (fun q => absurd q (by decide))
      refine zi_goto (tgt := 2286) M dL_law_600 (by decide) ?_
      have hPx := hP
      have hP := hPm
      have hPm := hPx
      have hD := zD_c hD
      refine W.widen (k := cells + 6) (n := slots + 36) (by omega) (by omega) ?_
      exact hback h su st sh fl sn bn cm em ep fm fr 1 o lg le lf dl cS cH sea noi pl pw an hd fq bp bw ban bhd bo c1 c2 c3 c4 c5 e1 e2 e3 e4 e5 ur h_h h_su h_st h_sh h_fl h_sn h_bn h_cm h_em g_cS g_cH g_sea g_noi g_pl g_pw g_an g_hd g_bp g_bw g_ban g_bhd g_c1 g_c2 g_c3 g_c4 g_c5 g_e1 g_e2 g_e3 g_e4 g_e5 hbo hep H locs hP hPm hD hS ls (lv_sub hl [2, 3, 4, 5, 6] rfl)
    ·
      have hP : va_P D vwCl (mdlW bd 0 cy 2 h su st sh fl 0 sn bn fm fr cm em lg le lf dl cS cH sea noi pl pw an hd bp bo bw c1 c2 c3 c4 c5 e1 e2 e3 e4 e5) H := hP
      have hD : va_D (fun q => z0 ≤ q) ((mdlW bd 0 cy 2 h su st sh fl 0 sn bn fm fr cm em lg le lf dl cS cH sea noi pl pw an hd bp bo bw c1 c2 c3 c4 c5 e1 e2 e3 e4 e5) ++ ((rooW ad 0 cy fm fr) ++ ((airW ad 1 cy h su st sh fl cS cH (dnD h fl) (dnE h cS) (dnF h su st)) ++ ((airW ad 8 cy h su 0 0 0 (fun _ => 0) (fun _ => 0) (dnD h 0) (dnE h (fun _ => 0)) (dnF h su 0)) ++ ((grdW ad 15 cy sea noi) ++ ((rayW ad 18 cy (ur 0) (ur 1) (ur 2) (ur 3) (ur 4) (ur 5) (ur 6) (ur 7)) ++ ((sndW ad 19 cy 12 sn pl pw an hd fq) ++ ((sndW ad 25 cy 6 bn bp bw ban bhd bo) ++ ((conW ad 31 cy cm c1 c2 c3 c4 c5) ++ ((entW ad 37 cy em ep e1 e2 e3 e4 e5) ++ (outW od 0 cy o))))))))))) := hD
      exfalso
      omega
  ·
    have hw_2 := hv_2.symm
    subst hw_2
    have hP : va_P D vwCl ((rooW ad 0 cy fm fr) ++ ((airW ad 1 cy h su st sh fl cS cH (dnD h fl) (dnE h cS) (dnF h su st)) ++ ((airW ad 8 cy h su 0 0 0 (fun _ => 0) (fun _ => 0) (dnD h 0) (dnE h (fun _ => 0)) (dnF h su 0)) ++ ((grdW ad 15 cy sea noi) ++ ((rayW ad 18 cy (ur 0) (ur 1) (ur 2) (ur 3) (ur 4) (ur 5) (ur 6) (ur 7)) ++ ((sndW ad 19 cy 12 sn pl pw an hd fq) ++ ((sndW ad 25 cy 6 bn bp bw ban bhd bo) ++ ((conW ad 31 cy cm c1 c2 c3 c4 c5) ++ ((entW ad 37 cy em ep e1 e2 e3 e4 e5) ++ (outW od 0 cy o)))))))))) H := hP
    have hD : va_D (fun q => z0 ≤ q) (((rooW ad 0 cy fm fr) ++ ((airW ad 1 cy h su st sh fl cS cH (dnD h fl) (dnE h cS) (dnF h su st)) ++ ((airW ad 8 cy h su 0 0 0 (fun _ => 0) (fun _ => 0) (dnD h 0) (dnE h (fun _ => 0)) (dnF h su 0)) ++ ((grdW ad 15 cy sea noi) ++ ((rayW ad 18 cy (ur 0) (ur 1) (ur 2) (ur 3) (ur 4) (ur 5) (ur 6) (ur 7)) ++ ((sndW ad 19 cy 12 sn pl pw an hd fq) ++ ((sndW ad 25 cy 6 bn bp bw ban bhd bo) ++ ((conW ad 31 cy cm c1 c2 c3 c4 c5) ++ ((entW ad 37 cy em ep e1 e2 e3 e4 e5) ++ (outW od 0 cy o)))))))))) ++ (mdlW bd 0 cy th h su st sh fl 0 sn bn fm fr cm em lg le lf dl cS cH sea noi pl pw an hd bp bo bw c1 c2 c3 c4 c5 e1 e2 e3 e4 e5)) := hD
    refine lv_istore (lv' := [(5, .int (iI 2)), (0, .ref (b)), (1, .ref (ad 0)), (2, .ref (bd 0)), (3, .ref (od 0)), (4, .int (iI i))]) M.1 M.2.1 dL_law_558 hl (by decide) rfl (fun ls hl => ?_)
    refine lv_aload_n M.1 M.2.1 dL_law_560 rfl (lv_at hl 3 rfl) ?_
    refine lv_aload_n M.1 M.2.1 dL_law_561 rfl (lv_at hl 1 rfl) ?_
    refine lv_iload M.1 M.2.1 dL_law_562 (lv_at hl 5 rfl) ?_
    refine zi_push M dL_law_564 ?_
    refine zi_iadd M dL_law_565 ?_
    refine zi_sld M hX hbl hbA hS hL (by omega) (by omega) dL_law_566 ?_
    have hx_7 := xZ_rg xs (i + 1)
    have hPx := hP
    have hP := hPm
    have hPm := hPx
    have hD := zD_c hD
    refine z_cW2 (z_runV (As := [.int (iI (xZ xs (i + 1)))]) (rest := []) M (c_X7_pass l D cy z0 bd th h su st sh fl 0 sn bn fm fr cm em lg le lf dl cS cH sea noi pl pw an hd bp bo bw c1 c2 c3 c4 c5 e1 e2 e3 e4 e5 (xZ xs (i + 1)) (by omega) (by omega) (by omega) (by omega) (by omega) (by omega) g_cS g_cH (by omega)) hE hS hAz (z_cut hP (zD_l hD) hAz [0, 1, 2, 3, 4, 5, 6, 7, 8, 9, 10, 11, 12, 13, 14, 15, 16, 17, 18, 19, 20, 21] rfl (by decide +kernel)) (zRc.of (ci := 7) (q0 := 0) hE hP rfl rfl) zk_cd_X7_pass zk_in_RX7 zk_im_X7_pass zk_se_X7_pass zk_ml_RL_141 rfl rfl zd_X7_pass ⟨by decide, by decide⟩ rfl hl.1 rfl (Nat.le_of_ble_eq_true rfl) dL_law_567 ⟨by show _ ≤ 601024; omega, by show _ ≤ 7293034; omega⟩) hP hPm hD hS [0, 1, 2, 3, 4, 5, 6, 7, 8, 9, 10, 11, 12, 13, 14, 15, 16, 17, 18, 19, 20, 21] rfl (fun _ => by simp only [List.map_append, mdlW_adr]) (fun r_8 u_8 H locs hp_8 hP hPm hD hS => ?_)
    try simp only [mdD_0, mdE_0, mdF_0, mdD_1, mdE_1, mdF_1] at hp_8
    have hP : va_P D vwCl (mdlW bd 0 cy u_8 (if u_8 = 0 then (h + (xZ xs (i + 1))) else h) su (if u_8 = 0 then (stK (xZ xs (i + 1)) st sh) else st) (if u_8 = 0 then (max 0 (sh - (xZ xs (i + 1)))) else sh) (if u_8 = 0 then (flK (xZ xs (i + 1)).toNat fl) else fl) 0 sn bn fm fr cm em lg le lf dl (if u_8 = 0 then (cSK (xZ xs (i + 1)) cS cH) else cS) (if u_8 = 0 then (cHK (xZ xs (i + 1)) cH) else cH) sea noi pl pw an hd bp bo bw c1 c2 c3 c4 c5 e1 e2 e3 e4 e5) H := hP
    have hD : va_D (fun q => z0 ≤ q) ((mdlW bd 0 cy u_8 (if u_8 = 0 then (h + (xZ xs (i + 1))) else h) su (if u_8 = 0 then (stK (xZ xs (i + 1)) st sh) else st) (if u_8 = 0 then (max 0 (sh - (xZ xs (i + 1)))) else sh) (if u_8 = 0 then (flK (xZ xs (i + 1)).toNat fl) else fl) 0 sn bn fm fr cm em lg le lf dl (if u_8 = 0 then (cSK (xZ xs (i + 1)) cS cH) else cS) (if u_8 = 0 then (cHK (xZ xs (i + 1)) cH) else cH) sea noi pl pw an hd bp bo bw c1 c2 c3 c4 c5 e1 e2 e3 e4 e5) ++ ((rooW ad 0 cy fm fr) ++ ((airW ad 1 cy h su st sh fl cS cH (dnD h fl) (dnE h cS) (dnF h su st)) ++ ((airW ad 8 cy h su 0 0 0 (fun _ => 0) (fun _ => 0) (dnD h 0) (dnE h (fun _ => 0)) (dnF h su 0)) ++ ((grdW ad 15 cy sea noi) ++ ((rayW ad 18 cy (ur 0) (ur 1) (ur 2) (ur 3) (ur 4) (ur 5) (ur 6) (ur 7)) ++ ((sndW ad 19 cy 12 sn pl pw an hd fq) ++ ((sndW ad 25 cy 6 bn bp bw ban bhd bo) ++ ((conW ad 31 cy cm c1 c2 c3 c4 c5) ++ ((entW ad 37 cy em ep e1 e2 e3 e4 e5) ++ (outW od 0 cy o))))))))))) := hD
    rcases hp_8 with ⟨rfl, hN_8, rfl⟩ | ⟨rfl, hN_8, rfl⟩ | ⟨rfl, hN_8, rfl⟩
    ·
      have hP : va_P D vwCl (mdlW bd 0 cy 0 (h + (xZ xs (i + 1))) su (stK (xZ xs (i + 1)) st sh) (max 0 (sh - (xZ xs (i + 1)))) (flK (xZ xs (i + 1)).toNat fl) 0 sn bn fm fr cm em lg le lf dl (cSK (xZ xs (i + 1)) cS cH) (cHK (xZ xs (i + 1)) cH) sea noi pl pw an hd bp bo bw c1 c2 c3 c4 c5 e1 e2 e3 e4 e5) H := hP
      have hD : va_D (fun q => z0 ≤ q) ((mdlW bd 0 cy 0 (h + (xZ xs (i + 1))) su (stK (xZ xs (i + 1)) st sh) (max 0 (sh - (xZ xs (i + 1)))) (flK (xZ xs (i + 1)).toNat fl) 0 sn bn fm fr cm em lg le lf dl (cSK (xZ xs (i + 1)) cS cH) (cHK (xZ xs (i + 1)) cH) sea noi pl pw an hd bp bo bw c1 c2 c3 c4 c5 e1 e2 e3 e4 e5) ++ ((rooW ad 0 cy fm fr) ++ ((airW ad 1 cy h su st sh fl cS cH (dnD h fl) (dnE h cS) (dnF h su st)) ++ ((airW ad 8 cy h su 0 0 0 (fun _ => 0) (fun _ => 0) (dnD h 0) (dnE h (fun _ => 0)) (dnF h su 0)) ++ ((grdW ad 15 cy sea noi) ++ ((rayW ad 18 cy (ur 0) (ur 1) (ur 2) (ur 3) (ur 4) (ur 5) (ur 6) (ur 7)) ++ ((sndW ad 19 cy 12 sn pl pw an hd fq) ++ ((sndW ad 25 cy 6 bn bp bw ban bhd bo) ++ ((conW ad 31 cy cm c1 c2 c3 c4 c5) ++ ((entW ad 37 cy em ep e1 e2 e3 e4 e5) ++ (outW od 0 cy o))))))))))) := hD
      exfalso
      omega
    ·
      have hP : va_P D vwCl (mdlW bd 0 cy 1 h su st sh fl 0 sn bn fm fr cm em lg le lf dl cS cH sea noi pl pw an hd bp bo bw c1 c2 c3 c4 c5 e1 e2 e3 e4 e5) H := hP
      have hD : va_D (fun q => z0 ≤ q) ((mdlW bd 0 cy 1 h su st sh fl 0 sn bn fm fr cm em lg le lf dl cS cH sea noi pl pw an hd bp bo bw c1 c2 c3 c4 c5 e1 e2 e3 e4 e5) ++ ((rooW ad 0 cy fm fr) ++ ((airW ad 1 cy h su st sh fl cS cH (dnD h fl) (dnE h cS) (dnF h su st)) ++ ((airW ad 8 cy h su 0 0 0 (fun _ => 0) (fun _ => 0) (dnD h 0) (dnE h (fun _ => 0)) (dnF h su 0)) ++ ((grdW ad 15 cy sea noi) ++ ((rayW ad 18 cy (ur 0) (ur 1) (ur 2) (ur 3) (ur 4) (ur 5) (ur 6) (ur 7)) ++ ((sndW ad 19 cy 12 sn pl pw an hd fq) ++ ((sndW ad 25 cy 6 bn bp bw ban bhd bo) ++ ((conW ad 31 cy cm c1 c2 c3 c4 c5) ++ ((entW ad 37 cy em ep e1 e2 e3 e4 e5) ++ (outW od 0 cy o))))))))))) := hD
      exfalso
      omega
    ·
      have hP : va_P D vwCl (mdlW bd 0 cy 2 h su st sh fl 0 sn bn fm fr cm em lg le lf dl cS cH sea noi pl pw an hd bp bo bw c1 c2 c3 c4 c5 e1 e2 e3 e4 e5) H := hP
      have hD : va_D (fun q => z0 ≤ q) ((mdlW bd 0 cy 2 h su st sh fl 0 sn bn fm fr cm em lg le lf dl cS cH sea noi pl pw an hd bp bo bw c1 c2 c3 c4 c5 e1 e2 e3 e4 e5) ++ ((rooW ad 0 cy fm fr) ++ ((airW ad 1 cy h su st sh fl cS cH (dnD h fl) (dnE h cS) (dnF h su st)) ++ ((airW ad 8 cy h su 0 0 0 (fun _ => 0) (fun _ => 0) (dnD h 0) (dnE h (fun _ => 0)) (dnF h su 0)) ++ ((grdW ad 15 cy sea noi) ++ ((rayW ad 18 cy (ur 0) (ur 1) (ur 2) (ur 3) (ur 4) (ur 5) (ur 6) (ur 7)) ++ ((sndW ad 19 cy 12 sn pl pw an hd fq) ++ ((sndW ad 25 cy 6 bn bp bw ban bhd bo) ++ ((conW ad 31 cy cm c1 c2 c3 c4 c5) ++ ((entW ad 37 cy em ep e1 e2 e3 e4 e5) ++ (outW od 0 cy o))))))))))) := hD
      refine lv_istore (lv' := [(6, .int (iI 0)), (5, .int (iI 2)), (0, .ref (b)), (1, .ref (ad 0)), (2, .ref (bd 0)), (3, .ref (od 0)), (4, .int (iI i))]) M.1 M.2.1 dL_law_570 hl (by decide) rfl (fun ls hl => ?_)
      refine lv_aload_n M.1 M.2.1 dL_law_572 rfl (lv_at hl 4 rfl) ?_
      refine z_cR (z_runV (As := []) (rest := []) M (c_X7_thrown l D cy z0 bd 2 h su st sh fl 0 sn bn fm fr cm em lg le lf dl cS cH sea noi pl pw an hd bp bo bw c1 c2 c3 c4 c5 e1 e2 e3 e4 e5) hE hS hAz hP (zRc.of (ci := 7) (q0 := 0) hE hP rfl rfl) zk_cd_X7_thrown zk_in_RX7 zk_im_X7_thrown zk_se_X7_thrown zk_ml_RL_116 rfl rfl zd_X7_thrown ⟨by decide, by decide⟩ rfl hl.1 rfl (Nat.le_of_ble_eq_true rfl) dL_law_573 ⟨by show _ ≤ 601024; omega, by show _ ≤ 7293034; omega⟩) ?_
      refine lv_iload M.1 M.2.1 dL_law_576 (lv_at hl 1 rfl) ?_
      refine zi_same (tgt := 583) M dL_law_578 (by decide) ?_
      refine lv_iload M.1 M.2.1 dL_law_583 (lv_at hl 1 rfl) ?_
      refine zi_if_ne (tgt := 600) M dL_law_585 (by decide) ⟨by decide, by decide⟩ (fun _ => ?_) (fun q => absurd q (by decide))
      refine zi_goto (tgt := 2286) M dL_law_600 (by decide) ?_
      have hPx := hP
      have hP := hPm
      have hPm := hPx
      have hD := zD_c hD
      refine W.widen (k := cells + 6) (n := slots + 36) (by omega) (by omega) ?_
      exact hback h su st sh fl sn bn cm em ep fm fr 2 o lg le lf dl cS cH sea noi pl pw an hd fq bp bw ban bhd bo c1 c2 c3 c4 c5 e1 e2 e3 e4 e5 ur h_h h_su h_st h_sh h_fl h_sn h_bn h_cm h_em g_cS g_cH g_sea g_noi g_pl g_pw g_an g_hd g_bp g_bw g_ban g_bhd g_c1 g_c2 g_c3 g_c4 g_c5 g_e1 g_e2 g_e3 g_e4 g_e5 hbo hep H locs hP hPm hD hS ls (lv_sub hl [2, 3, 4, 5, 6] rfl)

set_option maxRecDepth 100000 in
set_option maxHeartbeats 8000000 in
theorem lw_case7 (l : Launch) (D : va_G) (cy : Nat → ClassId) (z0 : Nat) (ad bd od : Nat → Nat) (p : Program) (e : Env) (s : State) (m : MethodId) (args : Array Value) (below : List Frame) (meth : Method) (c : Code) (b : Nat) (i : Int) (Q : State → Prop) (cells slots : Nat) (hst : l.stackTraces = false) (hL7 : ∀ q : Nat, q = 0 → True) (b_L : Nat) (xs : Nat → Int32) (M : zM p s m args c cL_law RL 7) (hE : zE D cy z0 s) (hN : zNc s) (hL : b_L ≤ 3584) (hX : va_X b b_L xs s s.heap) (hbl : b < s.heap.size) (hbA : ¬ z0 ≤ b) (hi : 0 ≤ i ∧ i + 7 ≤ b_L) (hc : cells + 6 ≤ 601024) (hs : slots + 36 ≤ 7293034) (hback : lwB l D cy z0 ad bd od p e s m args below meth c b i Q cells slots) (h su st sh fl sn bn cm em ep fm fr th o lg le lf dl : Int) (cS cH sea noi pl pw an hd fq bp bw ban bhd bo c1 c2 c3 c4 c5 e1 e2 e3 e4 e5 : Int → Int) (ur : Nat → Int) (h_h : 0 ≤ h ∧ h ≤ 5000) (h_su : 0 ≤ su ∧ su ≤ 100) (h_st : 0 ≤ st ∧ st ≤ 60) (h_sh : 0 ≤ sh ∧ sh ≤ 72) (h_fl : 0 ≤ fl ∧ fl ≤ 80) (h_sn : 0 ≤ sn ∧ sn ≤ 12) (h_bn : 0 ≤ bn ∧ bn ≤ 6) (h_cm : 0 ≤ cm ∧ cm ≤ 60) (h_em : 0 ≤ em ∧ em ≤ 80) (g_cS : zrg 48 0 100 cS) (g_cH : zrg 48 0 24 cH) (g_sea : zrg 48 0 1 sea) (g_noi : zrg 48 0 40 noi) (g_pl : zrg 12 0 47 pl) (g_pw : zrg 12 0 80 pw) (g_an : zrg 12 0 2 an) (g_hd : zrg 12 0 2 hd) (g_bp : zrg 6 0 47 bp) (g_bw : zrg 6 0 80 bw) (g_ban : zrg 6 0 2 ban) (g_bhd : zrg 6 0 2 bhd) (g_c1 : zrg 60 0 11 c1) (g_c2 : zrg 60 0 11 c2) (g_c3 : zrg 60 0 300 c3) (g_c4 : zrg 60 0 2 c4) (g_c5 : zrg 60 0 5000 c5) (g_e1 : zrg 80 0 11 e1) (g_e2 : zrg 80 0 11 e2) (g_e3 : zrg 80 0 300 e3) (g_e4 : zrg 80 0 5000 e4) (g_e5 : zrg 80 (-1) 79 e5) (hbo : ∀ n : Int, 0 ≤ n → n < bn → (10 ≤ bo n ∧ bo n ≤ 300) ∧ ban n = 2 ∧ bhd n = 2) (hep : ep = prF e5 em.toNat) (H : Heap) (locs : List Loc) (hP : va_P D vwCl ((rooW ad 0 cy fm fr) ++ ((airW ad 1 cy h su st sh fl cS cH (dnD h fl) (dnE h cS) (dnF h su st)) ++ ((airW ad 8 cy h su 0 0 0 (fun _ => 0) (fun _ => 0) (dnD h 0) (dnE h (fun _ => 0)) (dnF h su 0)) ++ ((grdW ad 15 cy sea noi) ++ ((rayW ad 18 cy (ur 0) (ur 1) (ur 2) (ur 3) (ur 4) (ur 5) (ur 6) (ur 7)) ++ ((sndW ad 19 cy 12 sn pl pw an hd fq) ++ ((sndW ad 25 cy 6 bn bp bw ban bhd bo) ++ ((conW ad 31 cy cm c1 c2 c3 c4 c5) ++ ((entW ad 37 cy em ep e1 e2 e3 e4 e5) ++ (outW od 0 cy o)))))))))) H) (hPm : va_P D vwCl (mdlW bd 0 cy th h su st sh fl 0 sn bn fm fr cm em lg le lf dl cS cH sea noi pl pw an hd bp bo bw c1 c2 c3 c4 c5 e1 e2 e3 e4 e5) H) (hD : va_D (fun q => z0 ≤ q) (((rooW ad 0 cy fm fr) ++ ((airW ad 1 cy h su st sh fl cS cH (dnD h fl) (dnE h cS) (dnF h su st)) ++ ((airW ad 8 cy h su 0 0 0 (fun _ => 0) (fun _ => 0) (dnD h 0) (dnE h (fun _ => 0)) (dnF h su 0)) ++ ((grdW ad 15 cy sea noi) ++ ((rayW ad 18 cy (ur 0) (ur 1) (ur 2) (ur 3) (ur 4) (ur 5) (ur 6) (ur 7)) ++ ((sndW ad 19 cy 12 sn pl pw an hd fq) ++ ((sndW ad 25 cy 6 bn bp bw ban bhd bo) ++ ((conW ad 31 cy cm c1 c2 c3 c4 c5) ++ ((entW ad 37 cy em ep e1 e2 e3 e4 e5) ++ (outW od 0 cy o)))))))))) ++ (mdlW bd 0 cy th h su st sh fl 0 sn bn fm fr cm em lg le lf dl cS cH sea noi pl pw an hd bp bo bw c1 c2 c3 c4 c5 e1 e2 e3 e4 e5))) (hS : va_S (fun q => z0 ≤ q) s.heap H locs) (ls : Array Slot) (hl : lv_has ls 7 [(0, .ref b), (1, .ref (ad 0)), (2, .ref (bd 0)), (3, .ref (od 0)), (4, .int (iI i))]) : W p l e room_1 s m args below meth c H locs (cells) (slots) Q (F0 m 603 ls []) := by
  have hAz : ∀ q : Nat, (fun q => z0 ≤ q) q → z0 ≤ q := fun _ h => h
  refine lv_aload_n M.1 M.2.1 dL_law_603 rfl (lv_at hl 1 rfl) ?_
  refine lv_aload_n M.1 M.2.1 dL_law_604 rfl (lv_at hl 0 rfl) ?_
  refine lv_iload M.1 M.2.1 dL_law_605 (lv_at hl 4 rfl) ?_
  refine zi_push M dL_law_607 ?_
  refine zi_iadd M dL_law_608 ?_
  refine zi_sld M hX hbl hbA hS hL (by omega) (by omega) dL_law_609 ?_
  have hx_1 := xZ_rg xs (i + 1)
  refine lv_aload_n M.1 M.2.1 dL_law_610 rfl (lv_at hl 0 rfl) ?_
  refine lv_iload M.1 M.2.1 dL_law_611 (lv_at hl 4 rfl) ?_
  refine zi_push M dL_law_613 ?_
  refine zi_iadd M dL_law_614 ?_
  refine zi_sld M hX hbl hbA hS hL (by omega) (by omega) dL_law_615 ?_
  have hx_2 := xZ_rg xs (i + 2)
  refine lv_aload_n M.1 M.2.1 dL_law_616 rfl (lv_at hl 0 rfl) ?_
  refine lv_iload M.1 M.2.1 dL_law_617 (lv_at hl 4 rfl) ?_
  refine zi_push M dL_law_619 ?_
  refine zi_iadd M dL_law_620 ?_
  refine zi_sld M hX hbl hbA hS hL (by omega) (by omega) dL_law_621 ?_
  have hx_3 := xZ_rg xs (i + 3)
  refine lv_aload_n M.1 M.2.1 dL_law_622 rfl (lv_at hl 0 rfl) ?_
  refine lv_iload M.1 M.2.1 dL_law_623 (lv_at hl 4 rfl) ?_
  refine zi_push M dL_law_625 ?_
  refine zi_iadd M dL_law_626 ?_
  refine zi_sld M hX hbl hbA hS hL (by omega) (by omega) dL_law_627 ?_
  have hx_4 := xZ_rg xs (i + 4)
  refine lv_aload_n M.1 M.2.1 dL_law_628 rfl (lv_at hl 3 rfl) ?_
  refine z_cW2 (zx_runH (As := [.ref (ad 0), .int (iI (xZ xs (i + 1))), .int (iI (xZ xs (i + 2))), .int (iI (xZ xs (i + 3))), .int (iI (xZ xs (i + 4))), .ref (od 0)]) (rest := []) M (c_L_station l hst D cy z0 ad od fm fr sn o pl pw an hd fq (xZ xs (i + 1)) (xZ xs (i + 2)) (xZ xs (i + 3)) (xZ xs (i + 4)) (by omega) (by omega) (by omega) (by omega) (by omega)) hE hN hS hAz (z_cut hP (zD_l hD) hAz [0, 19, 20, 21, 22, 23, 24, 43] rfl (by decide +kernel)) zk_cw_L_station zk_in_RL zk_st_L_station zk_ml_RL_142 rfl rfl zd_L_station ⟨by decide, by decide⟩ rfl hl.1 rfl (Nat.le_of_ble_eq_true rfl) dL_law_629 ⟨by show _ ≤ 601024; omega, by show _ ≤ 7293034; omega⟩) hP hPm hD hS [0, 19, 20, 21, 22, 23, 24, 43] rfl (fun _ => by simp only [List.map_append, outW_adr, rooW_adr, sndW_adr]) (fun r_5 u_5 H locs hp_5 hP hPm hD hS => ?_)
  have hP : va_P D vwCl ((rooW ad 0 cy fm fr) ++ ((airW ad 1 cy h su st sh fl cS cH (dnD h fl) (dnE h cS) (dnF h su st)) ++ ((airW ad 8 cy h su 0 0 0 (fun _ => 0) (fun _ => 0) (dnD h 0) (dnE h (fun _ => 0)) (dnF h su 0)) ++ ((grdW ad 15 cy sea noi) ++ ((rayW ad 18 cy (ur 0) (ur 1) (ur 2) (ur 3) (ur 4) (ur 5) (ur 6) (ur 7)) ++ ((sndW ad 19 cy 12 (if u_5.1 = 0 then (sn + 1) else sn) (if u_5.1 = 0 then (zu pl sn (xZ xs (i + 1))) else pl) (if u_5.1 = 0 then (zu pw sn (xZ xs (i + 2))) else pw) (if u_5.1 = 0 then (zu an sn (xZ xs (i + 3))) else an) (if u_5.1 = 0 then (zu hd sn (xZ xs (i + 4))) else hd) (if u_5.1 = 0 then (zu fq sn (-1)) else fq)) ++ ((sndW ad 25 cy 6 bn bp bw ban bhd bo) ++ ((conW ad 31 cy cm c1 c2 c3 c4 c5) ++ ((entW ad 37 cy em ep e1 e2 e3 e4 e5) ++ (outW od 0 cy u_5.2.1)))))))))) H := hP
  have hD : va_D (fun q => z0 ≤ q) (((rooW ad 0 cy fm fr) ++ ((airW ad 1 cy h su st sh fl cS cH (dnD h fl) (dnE h cS) (dnF h su st)) ++ ((airW ad 8 cy h su 0 0 0 (fun _ => 0) (fun _ => 0) (dnD h 0) (dnE h (fun _ => 0)) (dnF h su 0)) ++ ((grdW ad 15 cy sea noi) ++ ((rayW ad 18 cy (ur 0) (ur 1) (ur 2) (ur 3) (ur 4) (ur 5) (ur 6) (ur 7)) ++ ((sndW ad 19 cy 12 (if u_5.1 = 0 then (sn + 1) else sn) (if u_5.1 = 0 then (zu pl sn (xZ xs (i + 1))) else pl) (if u_5.1 = 0 then (zu pw sn (xZ xs (i + 2))) else pw) (if u_5.1 = 0 then (zu an sn (xZ xs (i + 3))) else an) (if u_5.1 = 0 then (zu hd sn (xZ xs (i + 4))) else hd) (if u_5.1 = 0 then (zu fq sn (-1)) else fq)) ++ ((sndW ad 25 cy 6 bn bp bw ban bhd bo) ++ ((conW ad 31 cy cm c1 c2 c3 c4 c5) ++ ((entW ad 37 cy em ep e1 e2 e3 e4 e5) ++ (outW od 0 cy u_5.2.1)))))))))) ++ (mdlW bd 0 cy th h su st sh fl 0 sn bn fm fr cm em lg le lf dl cS cH sea noi pl pw an hd bp bo bw c1 c2 c3 c4 c5 e1 e2 e3 e4 e5)) := hD
  obtain ⟨u1_5, u2_5, u3_5⟩ := u_5
  dsimp only at hp_5
  rcases hp_5 with ⟨rfl, rfl, hN_5, hv_5⟩ | ⟨rfl, rfl, hN_5, hv_5⟩ | ⟨rfl, rfl, hN_5, hv_5⟩ | ⟨rfl, rfl, hN_5, hv_5⟩
  ·
    have hw_5 := hv_5.symm
    subst hw_5
    have hP : va_P D vwCl ((rooW ad 0 cy fm fr) ++ ((airW ad 1 cy h su st sh fl cS cH (dnD h fl) (dnE h cS) (dnF h su st)) ++ ((airW ad 8 cy h su 0 0 0 (fun _ => 0) (fun _ => 0) (dnD h 0) (dnE h (fun _ => 0)) (dnF h su 0)) ++ ((grdW ad 15 cy sea noi) ++ ((rayW ad 18 cy (ur 0) (ur 1) (ur 2) (ur 3) (ur 4) (ur 5) (ur 6) (ur 7)) ++ ((sndW ad 19 cy 12 (sn + 1) (zu pl sn (xZ xs (i + 1))) (zu pw sn (xZ xs (i + 2))) (zu an sn (xZ xs (i + 3))) (zu hd sn (xZ xs (i + 4))) (zu fq sn (-1))) ++ ((sndW ad 25 cy 6 bn bp bw ban bhd bo) ++ ((conW ad 31 cy cm c1 c2 c3 c4 c5) ++ ((entW ad 37 cy em ep e1 e2 e3 e4 e5) ++ (outW od 0 cy sn)))))))))) H := hP
    have hD : va_D (fun q => z0 ≤ q) (((rooW ad 0 cy fm fr) ++ ((airW ad 1 cy h su st sh fl cS cH (dnD h fl) (dnE h cS) (dnF h su st)) ++ ((airW ad 8 cy h su 0 0 0 (fun _ => 0) (fun _ => 0) (dnD h 0) (dnE h (fun _ => 0)) (dnF h su 0)) ++ ((grdW ad 15 cy sea noi) ++ ((rayW ad 18 cy (ur 0) (ur 1) (ur 2) (ur 3) (ur 4) (ur 5) (ur 6) (ur 7)) ++ ((sndW ad 19 cy 12 (sn + 1) (zu pl sn (xZ xs (i + 1))) (zu pw sn (xZ xs (i + 2))) (zu an sn (xZ xs (i + 3))) (zu hd sn (xZ xs (i + 4))) (zu fq sn (-1))) ++ ((sndW ad 25 cy 6 bn bp bw ban bhd bo) ++ ((conW ad 31 cy cm c1 c2 c3 c4 c5) ++ ((entW ad 37 cy em ep e1 e2 e3 e4 e5) ++ (outW od 0 cy sn)))))))))) ++ (mdlW bd 0 cy th h su st sh fl 0 sn bn fm fr cm em lg le lf dl cS cH sea noi pl pw an hd bp bo bw c1 c2 c3 c4 c5 e1 e2 e3 e4 e5)) := hD
    refine lv_istore (lv' := [(5, .int (iI 0)), (0, .ref (b)), (1, .ref (ad 0)), (2, .ref (bd 0)), (3, .ref (od 0)), (4, .int (iI i))]) M.1 M.2.1 dL_law_632 hl (by decide) rfl (fun ls hl => ?_)
    refine lv_aload_n M.1 M.2.1 dL_law_634 rfl (lv_at hl 3 rfl) ?_
    refine lv_aload_n M.1 M.2.1 dL_law_635 rfl (lv_at hl 1 rfl) ?_
    refine lv_iload M.1 M.2.1 dL_law_636 (lv_at hl 5 rfl) ?_
    refine zi_push M dL_law_638 ?_
    refine zi_iadd M dL_law_639 ?_
    refine zi_sld M hX hbl hbA hS hL (by omega) (by omega) dL_law_640 ?_
    have hx_6 := xZ_rg xs (i + 1)
    refine lv_aload_n M.1 M.2.1 dL_law_641 rfl (lv_at hl 1 rfl) ?_
    refine lv_iload M.1 M.2.1 dL_law_642 (lv_at hl 5 rfl) ?_
    refine zi_push M dL_law_644 ?_
    refine zi_iadd M dL_law_645 ?_
    refine zi_sld M hX hbl hbA hS hL (by omega) (by omega) dL_law_646 ?_
    have hx_7 := xZ_rg xs (i + 2)
    refine lv_aload_n M.1 M.2.1 dL_law_647 rfl (lv_at hl 1 rfl) ?_
    refine lv_iload M.1 M.2.1 dL_law_648 (lv_at hl 5 rfl) ?_
    refine zi_push M dL_law_650 ?_
    refine zi_iadd M dL_law_651 ?_
    refine zi_sld M hX hbl hbA hS hL (by omega) (by omega) dL_law_652 ?_
    have hx_8 := xZ_rg xs (i + 3)
    refine lv_aload_n M.1 M.2.1 dL_law_653 rfl (lv_at hl 1 rfl) ?_
    refine lv_iload M.1 M.2.1 dL_law_654 (lv_at hl 5 rfl) ?_
    refine zi_push M dL_law_656 ?_
    refine zi_iadd M dL_law_657 ?_
    refine zi_sld M hX hbl hbA hS hL (by omega) (by omega) dL_law_658 ?_
    have hx_9 := xZ_rg xs (i + 4)
    have hPx := hP
    have hP := hPm
    have hPm := hPx
    have hD := zD_c hD
    refine z_cW2 (z_runV (As := [.int (iI (xZ xs (i + 1))), .int (iI (xZ xs (i + 2))), .int (iI (xZ xs (i + 3))), .int (iI (xZ xs (i + 4)))]) (rest := []) M (c_X7_station l D cy z0 bd th h su st sh fl 0 sn bn fm fr cm em lg le lf dl cS cH sea noi pl pw an hd bp bo bw c1 c2 c3 c4 c5 e1 e2 e3 e4 e5 (xZ xs (i + 1)) (xZ xs (i + 2)) (xZ xs (i + 3)) (xZ xs (i + 4)) (by omega) (by omega) (by omega) (by omega) (by omega)) hE hS hAz (z_cut hP (zD_l hD) hAz [0, 1, 2, 3, 4, 5, 6, 7, 8, 9, 10, 11, 12, 13, 14, 15, 16, 17, 18, 19, 20, 21] rfl (by decide +kernel)) (zRc.of (ci := 7) (q0 := 0) hE hP rfl rfl) zk_cd_X7_station zk_in_RX7 zk_im_X7_station zk_se_X7_station zk_ml_RL_145 rfl rfl zd_X7_station ⟨by decide, by decide⟩ rfl hl.1 rfl (Nat.le_of_ble_eq_true rfl) dL_law_659 ⟨by show _ ≤ 601024; omega, by show _ ≤ 7293034; omega⟩) hP hPm hD hS [0, 1, 2, 3, 4, 5, 6, 7, 8, 9, 10, 11, 12, 13, 14, 15, 16, 17, 18, 19, 20, 21] rfl (fun _ => by simp only [List.map_append, mdlW_adr]) (fun r_10 u_10 H locs hp_10 hP hPm hD hS => ?_)
    try simp only [mdD_0, mdE_0, mdF_0, mdD_1, mdE_1, mdF_1] at hp_10
    have hP : va_P D vwCl (mdlW bd 0 cy u_10 h su st sh fl 0 (if u_10 = 0 then (sn + 1) else sn) bn fm fr cm em lg le lf dl cS cH sea noi (if u_10 = 0 then (zu pl sn (xZ xs (i + 1))) else pl) (if u_10 = 0 then (zu pw sn (xZ xs (i + 2))) else pw) (if u_10 = 0 then (zu an sn (xZ xs (i + 3))) else an) (if u_10 = 0 then (zu hd sn (xZ xs (i + 4))) else hd) bp bo bw c1 c2 c3 c4 c5 e1 e2 e3 e4 e5) H := hP
    have hD : va_D (fun q => z0 ≤ q) ((mdlW bd 0 cy u_10 h su st sh fl 0 (if u_10 = 0 then (sn + 1) else sn) bn fm fr cm em lg le lf dl cS cH sea noi (if u_10 = 0 then (zu pl sn (xZ xs (i + 1))) else pl) (if u_10 = 0 then (zu pw sn (xZ xs (i + 2))) else pw) (if u_10 = 0 then (zu an sn (xZ xs (i + 3))) else an) (if u_10 = 0 then (zu hd sn (xZ xs (i + 4))) else hd) bp bo bw c1 c2 c3 c4 c5 e1 e2 e3 e4 e5) ++ ((rooW ad 0 cy fm fr) ++ ((airW ad 1 cy h su st sh fl cS cH (dnD h fl) (dnE h cS) (dnF h su st)) ++ ((airW ad 8 cy h su 0 0 0 (fun _ => 0) (fun _ => 0) (dnD h 0) (dnE h (fun _ => 0)) (dnF h su 0)) ++ ((grdW ad 15 cy sea noi) ++ ((rayW ad 18 cy (ur 0) (ur 1) (ur 2) (ur 3) (ur 4) (ur 5) (ur 6) (ur 7)) ++ ((sndW ad 19 cy 12 (sn + 1) (zu pl sn (xZ xs (i + 1))) (zu pw sn (xZ xs (i + 2))) (zu an sn (xZ xs (i + 3))) (zu hd sn (xZ xs (i + 4))) (zu fq sn (-1))) ++ ((sndW ad 25 cy 6 bn bp bw ban bhd bo) ++ ((conW ad 31 cy cm c1 c2 c3 c4 c5) ++ ((entW ad 37 cy em ep e1 e2 e3 e4 e5) ++ (outW od 0 cy sn))))))))))) := hD
    rcases hp_10 with ⟨rfl, hN_10, rfl⟩ | ⟨rfl, hN_10, rfl⟩ | ⟨rfl, hN_10, rfl⟩ | ⟨rfl, hN_10, rfl⟩
    ·
      have hP : va_P D vwCl (mdlW bd 0 cy 0 h su st sh fl 0 (sn + 1) bn fm fr cm em lg le lf dl cS cH sea noi (zu pl sn (xZ xs (i + 1))) (zu pw sn (xZ xs (i + 2))) (zu an sn (xZ xs (i + 3))) (zu hd sn (xZ xs (i + 4))) bp bo bw c1 c2 c3 c4 c5 e1 e2 e3 e4 e5) H := hP
      have hD : va_D (fun q => z0 ≤ q) ((mdlW bd 0 cy 0 h su st sh fl 0 (sn + 1) bn fm fr cm em lg le lf dl cS cH sea noi (zu pl sn (xZ xs (i + 1))) (zu pw sn (xZ xs (i + 2))) (zu an sn (xZ xs (i + 3))) (zu hd sn (xZ xs (i + 4))) bp bo bw c1 c2 c3 c4 c5 e1 e2 e3 e4 e5) ++ ((rooW ad 0 cy fm fr) ++ ((airW ad 1 cy h su st sh fl cS cH (dnD h fl) (dnE h cS) (dnF h su st)) ++ ((airW ad 8 cy h su 0 0 0 (fun _ => 0) (fun _ => 0) (dnD h 0) (dnE h (fun _ => 0)) (dnF h su 0)) ++ ((grdW ad 15 cy sea noi) ++ ((rayW ad 18 cy (ur 0) (ur 1) (ur 2) (ur 3) (ur 4) (ur 5) (ur 6) (ur 7)) ++ ((sndW ad 19 cy 12 (sn + 1) (zu pl sn (xZ xs (i + 1))) (zu pw sn (xZ xs (i + 2))) (zu an sn (xZ xs (i + 3))) (zu hd sn (xZ xs (i + 4))) (zu fq sn (-1))) ++ ((sndW ad 25 cy 6 bn bp bw ban bhd bo) ++ ((conW ad 31 cy cm c1 c2 c3 c4 c5) ++ ((entW ad 37 cy em ep e1 e2 e3 e4 e5) ++ (outW od 0 cy sn))))))))))) := hD
      refine lv_istore (lv' := [(6, .int (iI sn)), (5, .int (iI 0)), (0, .ref (b)), (1, .ref (ad 0)), (2, .ref (bd 0)), (3, .ref (od 0)), (4, .int (iI i))]) M.1 M.2.1 dL_law_662 hl (by decide) rfl (fun ls hl => ?_)
      refine lv_aload_n M.1 M.2.1 dL_law_664 rfl (lv_at hl 4 rfl) ?_
      refine z_cR (z_runV (As := []) (rest := []) M (c_X7_thrown l D cy z0 bd 0 h su st sh fl 0 (sn + 1) bn fm fr cm em lg le lf dl cS cH sea noi (zu pl sn (xZ xs (i + 1))) (zu pw sn (xZ xs (i + 2))) (zu an sn (xZ xs (i + 3))) (zu hd sn (xZ xs (i + 4))) bp bo bw c1 c2 c3 c4 c5 e1 e2 e3 e4 e5) hE hS hAz hP (zRc.of (ci := 7) (q0 := 0) hE hP rfl rfl) zk_cd_X7_thrown zk_in_RX7 zk_im_X7_thrown zk_se_X7_thrown zk_ml_RL_116 rfl rfl zd_X7_thrown ⟨by decide, by decide⟩ rfl hl.1 rfl (Nat.le_of_ble_eq_true rfl) dL_law_665 ⟨by show _ ≤ 601024; omega, by show _ ≤ 7293034; omega⟩) ?_
      refine lv_iload M.1 M.2.1 dL_law_668 (lv_at hl 1 rfl) ?_
      refine zi_same (tgt := 675) M dL_law_670 (by decide) ?_
      refine lv_iload M.1 M.2.1 dL_law_675 (lv_at hl 1 rfl) ?_
      refine zi_if_ne (tgt := 692) M dL_law_677 (by decide) ⟨by decide, by decide⟩ (fun q => absurd q (by decide)) (fun _ => ?_)
      refine lv_aload_n M.1 M.2.1 dL_law_680 rfl (lv_at hl 5 rfl) ?_
      refine zi_push M dL_law_681 ?_
      refine zi_lald M hE hPm 43 rfl dL_law_682 ?_
      refine lv_iload M.1 M.2.1 dL_law_683 (lv_at hl 0 rfl) ?_
      refine zi_i2l M dL_law_685 ?_
      refine zi_lcmpE M dL_law_686 ?_
      refine zi_if_eq (tgt := 692) M dL_law_687 (by decide) ⟨by decide, by decide⟩ (fun _ => ?_) (fun q => absurd q (by decide))
      refine zi_goto (tgt := 2286) M dL_law_692 (by decide) ?_
      have hPx := hP
      have hP := hPm
      have hPm := hPx
      have hD := zD_c hD
      refine W.widen (k := cells + 6) (n := slots + 36) (by omega) (by omega) ?_
      exact hback h su st sh fl (sn + 1) bn cm em ep fm fr 0 sn lg le lf dl cS cH sea noi (zu pl sn (xZ xs (i + 1))) (zu pw sn (xZ xs (i + 2))) (zu an sn (xZ xs (i + 3))) (zu hd sn (xZ xs (i + 4))) (zu fq sn (-1)) bp bw ban bhd bo c1 c2 c3 c4 c5 e1 e2 e3 e4 e5 ur h_h h_su h_st h_sh h_fl (by omega) h_bn h_cm h_em g_cS g_cH g_sea g_noi (zrg_zu g_pl (by omega)) (zrg_zu g_pw (by omega)) (zrg_zu g_an (by omega)) (zrg_zu g_hd (by omega)) g_bp g_bw g_ban g_bhd g_c1 g_c2 g_c3 g_c4 g_c5 g_e1 g_e2 g_e3 g_e4 g_e5 hbo hep H locs hP hPm hD hS ls (lv_sub hl [2, 3, 4, 5, 6] rfl)
    ·
      have hP : va_P D vwCl (mdlW bd 0 cy 1 h su st sh fl 0 sn bn fm fr cm em lg le lf dl cS cH sea noi pl pw an hd bp bo bw c1 c2 c3 c4 c5 e1 e2 e3 e4 e5) H := hP
      have hD : va_D (fun q => z0 ≤ q) ((mdlW bd 0 cy 1 h su st sh fl 0 sn bn fm fr cm em lg le lf dl cS cH sea noi pl pw an hd bp bo bw c1 c2 c3 c4 c5 e1 e2 e3 e4 e5) ++ ((rooW ad 0 cy fm fr) ++ ((airW ad 1 cy h su st sh fl cS cH (dnD h fl) (dnE h cS) (dnF h su st)) ++ ((airW ad 8 cy h su 0 0 0 (fun _ => 0) (fun _ => 0) (dnD h 0) (dnE h (fun _ => 0)) (dnF h su 0)) ++ ((grdW ad 15 cy sea noi) ++ ((rayW ad 18 cy (ur 0) (ur 1) (ur 2) (ur 3) (ur 4) (ur 5) (ur 6) (ur 7)) ++ ((sndW ad 19 cy 12 (sn + 1) (zu pl sn (xZ xs (i + 1))) (zu pw sn (xZ xs (i + 2))) (zu an sn (xZ xs (i + 3))) (zu hd sn (xZ xs (i + 4))) (zu fq sn (-1))) ++ ((sndW ad 25 cy 6 bn bp bw ban bhd bo) ++ ((conW ad 31 cy cm c1 c2 c3 c4 c5) ++ ((entW ad 37 cy em ep e1 e2 e3 e4 e5) ++ (outW od 0 cy sn))))))))))) := hD
      exfalso
      omega
    ·
      have hP : va_P D vwCl (mdlW bd 0 cy 2 h su st sh fl 0 sn bn fm fr cm em lg le lf dl cS cH sea noi pl pw an hd bp bo bw c1 c2 c3 c4 c5 e1 e2 e3 e4 e5) H := hP
      have hD : va_D (fun q => z0 ≤ q) ((mdlW bd 0 cy 2 h su st sh fl 0 sn bn fm fr cm em lg le lf dl cS cH sea noi pl pw an hd bp bo bw c1 c2 c3 c4 c5 e1 e2 e3 e4 e5) ++ ((rooW ad 0 cy fm fr) ++ ((airW ad 1 cy h su st sh fl cS cH (dnD h fl) (dnE h cS) (dnF h su st)) ++ ((airW ad 8 cy h su 0 0 0 (fun _ => 0) (fun _ => 0) (dnD h 0) (dnE h (fun _ => 0)) (dnF h su 0)) ++ ((grdW ad 15 cy sea noi) ++ ((rayW ad 18 cy (ur 0) (ur 1) (ur 2) (ur 3) (ur 4) (ur 5) (ur 6) (ur 7)) ++ ((sndW ad 19 cy 12 (sn + 1) (zu pl sn (xZ xs (i + 1))) (zu pw sn (xZ xs (i + 2))) (zu an sn (xZ xs (i + 3))) (zu hd sn (xZ xs (i + 4))) (zu fq sn (-1))) ++ ((sndW ad 25 cy 6 bn bp bw ban bhd bo) ++ ((conW ad 31 cy cm c1 c2 c3 c4 c5) ++ ((entW ad 37 cy em ep e1 e2 e3 e4 e5) ++ (outW od 0 cy sn))))))))))) := hD
      exfalso
      omega
    ·
      have hP : va_P D vwCl (mdlW bd 0 cy 3 h su st sh fl 0 sn bn fm fr cm em lg le lf dl cS cH sea noi pl pw an hd bp bo bw c1 c2 c3 c4 c5 e1 e2 e3 e4 e5) H := hP
      have hD : va_D (fun q => z0 ≤ q) ((mdlW bd 0 cy 3 h su st sh fl 0 sn bn fm fr cm em lg le lf dl cS cH sea noi pl pw an hd bp bo bw c1 c2 c3 c4 c5 e1 e2 e3 e4 e5) ++ ((rooW ad 0 cy fm fr) ++ ((airW ad 1 cy h su st sh fl cS cH (dnD h fl) (dnE h cS) (dnF h su st)) ++ ((airW ad 8 cy h su 0 0 0 (fun _ => 0) (fun _ => 0) (dnD h 0) (dnE h (fun _ => 0)) (dnF h su 0)) ++ ((grdW ad 15 cy sea noi) ++ ((rayW ad 18 cy (ur 0) (ur 1) (ur 2) (ur 3) (ur 4) (ur 5) (ur 6) (ur 7)) ++ ((sndW ad 19 cy 12 (sn + 1) (zu pl sn (xZ xs (i + 1))) (zu pw sn (xZ xs (i + 2))) (zu an sn (xZ xs (i + 3))) (zu hd sn (xZ xs (i + 4))) (zu fq sn (-1))) ++ ((sndW ad 25 cy 6 bn bp bw ban bhd bo) ++ ((conW ad 31 cy cm c1 c2 c3 c4 c5) ++ ((entW ad 37 cy em ep e1 e2 e3 e4 e5) ++ (outW od 0 cy sn))))))))))) := hD
      exfalso
      omega
  ·
    have hw_5 := hv_5.symm
    subst hw_5
    have hP : va_P D vwCl ((rooW ad 0 cy fm fr) ++ ((airW ad 1 cy h su st sh fl cS cH (dnD h fl) (dnE h cS) (dnF h su st)) ++ ((airW ad 8 cy h su 0 0 0 (fun _ => 0) (fun _ => 0) (dnD h 0) (dnE h (fun _ => 0)) (dnF h su 0)) ++ ((grdW ad 15 cy sea noi) ++ ((rayW ad 18 cy (ur 0) (ur 1) (ur 2) (ur 3) (ur 4) (ur 5) (ur 6) (ur 7)) ++ ((sndW ad 19 cy 12 sn pl pw an hd fq) ++ ((sndW ad 25 cy 6 bn bp bw ban bhd bo) ++ ((conW ad 31 cy cm c1 c2 c3 c4 c5) ++ ((entW ad 37 cy em ep e1 e2 e3 e4 e5) ++ (outW od 0 cy o)))))))))) H := hP
    have hD : va_D (fun q => z0 ≤ q) (((rooW ad 0 cy fm fr) ++ ((airW ad 1 cy h su st sh fl cS cH (dnD h fl) (dnE h cS) (dnF h su st)) ++ ((airW ad 8 cy h su 0 0 0 (fun _ => 0) (fun _ => 0) (dnD h 0) (dnE h (fun _ => 0)) (dnF h su 0)) ++ ((grdW ad 15 cy sea noi) ++ ((rayW ad 18 cy (ur 0) (ur 1) (ur 2) (ur 3) (ur 4) (ur 5) (ur 6) (ur 7)) ++ ((sndW ad 19 cy 12 sn pl pw an hd fq) ++ ((sndW ad 25 cy 6 bn bp bw ban bhd bo) ++ ((conW ad 31 cy cm c1 c2 c3 c4 c5) ++ ((entW ad 37 cy em ep e1 e2 e3 e4 e5) ++ (outW od 0 cy o)))))))))) ++ (mdlW bd 0 cy th h su st sh fl 0 sn bn fm fr cm em lg le lf dl cS cH sea noi pl pw an hd bp bo bw c1 c2 c3 c4 c5 e1 e2 e3 e4 e5)) := hD
    refine lv_istore (lv' := [(5, .int (iI 1)), (0, .ref (b)), (1, .ref (ad 0)), (2, .ref (bd 0)), (3, .ref (od 0)), (4, .int (iI i))]) M.1 M.2.1 dL_law_632 hl (by decide) rfl (fun ls hl => ?_)
    refine lv_aload_n M.1 M.2.1 dL_law_634 rfl (lv_at hl 3 rfl) ?_
    refine lv_aload_n M.1 M.2.1 dL_law_635 rfl (lv_at hl 1 rfl) ?_
    refine lv_iload M.1 M.2.1 dL_law_636 (lv_at hl 5 rfl) ?_
    refine zi_push M dL_law_638 ?_
    refine zi_iadd M dL_law_639 ?_
    refine zi_sld M hX hbl hbA hS hL (by omega) (by omega) dL_law_640 ?_
    have hx_11 := xZ_rg xs (i + 1)
    refine lv_aload_n M.1 M.2.1 dL_law_641 rfl (lv_at hl 1 rfl) ?_
    refine lv_iload M.1 M.2.1 dL_law_642 (lv_at hl 5 rfl) ?_
    refine zi_push M dL_law_644 ?_
    refine zi_iadd M dL_law_645 ?_
    refine zi_sld M hX hbl hbA hS hL (by omega) (by omega) dL_law_646 ?_
    have hx_12 := xZ_rg xs (i + 2)
    refine lv_aload_n M.1 M.2.1 dL_law_647 rfl (lv_at hl 1 rfl) ?_
    refine lv_iload M.1 M.2.1 dL_law_648 (lv_at hl 5 rfl) ?_
    refine zi_push M dL_law_650 ?_
    refine zi_iadd M dL_law_651 ?_
    refine zi_sld M hX hbl hbA hS hL (by omega) (by omega) dL_law_652 ?_
    have hx_13 := xZ_rg xs (i + 3)
    refine lv_aload_n M.1 M.2.1 dL_law_653 rfl (lv_at hl 1 rfl) ?_
    refine lv_iload M.1 M.2.1 dL_law_654 (lv_at hl 5 rfl) ?_
    refine zi_push M dL_law_656 ?_
    refine zi_iadd M dL_law_657 ?_
    refine zi_sld M hX hbl hbA hS hL (by omega) (by omega) dL_law_658 ?_
    have hx_14 := xZ_rg xs (i + 4)
    have hPx := hP
    have hP := hPm
    have hPm := hPx
    have hD := zD_c hD
    refine z_cW2 (z_runV (As := [.int (iI (xZ xs (i + 1))), .int (iI (xZ xs (i + 2))), .int (iI (xZ xs (i + 3))), .int (iI (xZ xs (i + 4)))]) (rest := []) M (c_X7_station l D cy z0 bd th h su st sh fl 0 sn bn fm fr cm em lg le lf dl cS cH sea noi pl pw an hd bp bo bw c1 c2 c3 c4 c5 e1 e2 e3 e4 e5 (xZ xs (i + 1)) (xZ xs (i + 2)) (xZ xs (i + 3)) (xZ xs (i + 4)) (by omega) (by omega) (by omega) (by omega) (by omega)) hE hS hAz (z_cut hP (zD_l hD) hAz [0, 1, 2, 3, 4, 5, 6, 7, 8, 9, 10, 11, 12, 13, 14, 15, 16, 17, 18, 19, 20, 21] rfl (by decide +kernel)) (zRc.of (ci := 7) (q0 := 0) hE hP rfl rfl) zk_cd_X7_station zk_in_RX7 zk_im_X7_station zk_se_X7_station zk_ml_RL_145 rfl rfl zd_X7_station ⟨by decide, by decide⟩ rfl hl.1 rfl (Nat.le_of_ble_eq_true rfl) dL_law_659 ⟨by show _ ≤ 601024; omega, by show _ ≤ 7293034; omega⟩) hP hPm hD hS [0, 1, 2, 3, 4, 5, 6, 7, 8, 9, 10, 11, 12, 13, 14, 15, 16, 17, 18, 19, 20, 21] rfl (fun _ => by simp only [List.map_append, mdlW_adr]) (fun r_15 u_15 H locs hp_15 hP hPm hD hS => ?_)
    try simp only [mdD_0, mdE_0, mdF_0, mdD_1, mdE_1, mdF_1] at hp_15
    have hP : va_P D vwCl (mdlW bd 0 cy u_15 h su st sh fl 0 (if u_15 = 0 then (sn + 1) else sn) bn fm fr cm em lg le lf dl cS cH sea noi (if u_15 = 0 then (zu pl sn (xZ xs (i + 1))) else pl) (if u_15 = 0 then (zu pw sn (xZ xs (i + 2))) else pw) (if u_15 = 0 then (zu an sn (xZ xs (i + 3))) else an) (if u_15 = 0 then (zu hd sn (xZ xs (i + 4))) else hd) bp bo bw c1 c2 c3 c4 c5 e1 e2 e3 e4 e5) H := hP
    have hD : va_D (fun q => z0 ≤ q) ((mdlW bd 0 cy u_15 h su st sh fl 0 (if u_15 = 0 then (sn + 1) else sn) bn fm fr cm em lg le lf dl cS cH sea noi (if u_15 = 0 then (zu pl sn (xZ xs (i + 1))) else pl) (if u_15 = 0 then (zu pw sn (xZ xs (i + 2))) else pw) (if u_15 = 0 then (zu an sn (xZ xs (i + 3))) else an) (if u_15 = 0 then (zu hd sn (xZ xs (i + 4))) else hd) bp bo bw c1 c2 c3 c4 c5 e1 e2 e3 e4 e5) ++ ((rooW ad 0 cy fm fr) ++ ((airW ad 1 cy h su st sh fl cS cH (dnD h fl) (dnE h cS) (dnF h su st)) ++ ((airW ad 8 cy h su 0 0 0 (fun _ => 0) (fun _ => 0) (dnD h 0) (dnE h (fun _ => 0)) (dnF h su 0)) ++ ((grdW ad 15 cy sea noi) ++ ((rayW ad 18 cy (ur 0) (ur 1) (ur 2) (ur 3) (ur 4) (ur 5) (ur 6) (ur 7)) ++ ((sndW ad 19 cy 12 sn pl pw an hd fq) ++ ((sndW ad 25 cy 6 bn bp bw ban bhd bo) ++ ((conW ad 31 cy cm c1 c2 c3 c4 c5) ++ ((entW ad 37 cy em ep e1 e2 e3 e4 e5) ++ (outW od 0 cy o))))))))))) := hD
    rcases hp_15 with ⟨rfl, hN_15, rfl⟩ | ⟨rfl, hN_15, rfl⟩ | ⟨rfl, hN_15, rfl⟩ | ⟨rfl, hN_15, rfl⟩
    ·
      have hP : va_P D vwCl (mdlW bd 0 cy 0 h su st sh fl 0 (sn + 1) bn fm fr cm em lg le lf dl cS cH sea noi (zu pl sn (xZ xs (i + 1))) (zu pw sn (xZ xs (i + 2))) (zu an sn (xZ xs (i + 3))) (zu hd sn (xZ xs (i + 4))) bp bo bw c1 c2 c3 c4 c5 e1 e2 e3 e4 e5) H := hP
      have hD : va_D (fun q => z0 ≤ q) ((mdlW bd 0 cy 0 h su st sh fl 0 (sn + 1) bn fm fr cm em lg le lf dl cS cH sea noi (zu pl sn (xZ xs (i + 1))) (zu pw sn (xZ xs (i + 2))) (zu an sn (xZ xs (i + 3))) (zu hd sn (xZ xs (i + 4))) bp bo bw c1 c2 c3 c4 c5 e1 e2 e3 e4 e5) ++ ((rooW ad 0 cy fm fr) ++ ((airW ad 1 cy h su st sh fl cS cH (dnD h fl) (dnE h cS) (dnF h su st)) ++ ((airW ad 8 cy h su 0 0 0 (fun _ => 0) (fun _ => 0) (dnD h 0) (dnE h (fun _ => 0)) (dnF h su 0)) ++ ((grdW ad 15 cy sea noi) ++ ((rayW ad 18 cy (ur 0) (ur 1) (ur 2) (ur 3) (ur 4) (ur 5) (ur 6) (ur 7)) ++ ((sndW ad 19 cy 12 sn pl pw an hd fq) ++ ((sndW ad 25 cy 6 bn bp bw ban bhd bo) ++ ((conW ad 31 cy cm c1 c2 c3 c4 c5) ++ ((entW ad 37 cy em ep e1 e2 e3 e4 e5) ++ (outW od 0 cy o))))))))))) := hD
      exfalso
      omega
    ·
      have hP : va_P D vwCl (mdlW bd 0 cy 1 h su st sh fl 0 sn bn fm fr cm em lg le lf dl cS cH sea noi pl pw an hd bp bo bw c1 c2 c3 c4 c5 e1 e2 e3 e4 e5) H := hP
      have hD : va_D (fun q => z0 ≤ q) ((mdlW bd 0 cy 1 h su st sh fl 0 sn bn fm fr cm em lg le lf dl cS cH sea noi pl pw an hd bp bo bw c1 c2 c3 c4 c5 e1 e2 e3 e4 e5) ++ ((rooW ad 0 cy fm fr) ++ ((airW ad 1 cy h su st sh fl cS cH (dnD h fl) (dnE h cS) (dnF h su st)) ++ ((airW ad 8 cy h su 0 0 0 (fun _ => 0) (fun _ => 0) (dnD h 0) (dnE h (fun _ => 0)) (dnF h su 0)) ++ ((grdW ad 15 cy sea noi) ++ ((rayW ad 18 cy (ur 0) (ur 1) (ur 2) (ur 3) (ur 4) (ur 5) (ur 6) (ur 7)) ++ ((sndW ad 19 cy 12 sn pl pw an hd fq) ++ ((sndW ad 25 cy 6 bn bp bw ban bhd bo) ++ ((conW ad 31 cy cm c1 c2 c3 c4 c5) ++ ((entW ad 37 cy em ep e1 e2 e3 e4 e5) ++ (outW od 0 cy o))))))))))) := hD
      refine lv_istore (lv' := [(6, .int (iI 0)), (5, .int (iI 1)), (0, .ref (b)), (1, .ref (ad 0)), (2, .ref (bd 0)), (3, .ref (od 0)), (4, .int (iI i))]) M.1 M.2.1 dL_law_662 hl (by decide) rfl (fun ls hl => ?_)
      refine lv_aload_n M.1 M.2.1 dL_law_664 rfl (lv_at hl 4 rfl) ?_
      refine z_cR (z_runV (As := []) (rest := []) M (c_X7_thrown l D cy z0 bd 1 h su st sh fl 0 sn bn fm fr cm em lg le lf dl cS cH sea noi pl pw an hd bp bo bw c1 c2 c3 c4 c5 e1 e2 e3 e4 e5) hE hS hAz hP (zRc.of (ci := 7) (q0 := 0) hE hP rfl rfl) zk_cd_X7_thrown zk_in_RX7 zk_im_X7_thrown zk_se_X7_thrown zk_ml_RL_116 rfl rfl zd_X7_thrown ⟨by decide, by decide⟩ rfl hl.1 rfl (Nat.le_of_ble_eq_true rfl) dL_law_665 ⟨by show _ ≤ 601024; omega, by show _ ≤ 7293034; omega⟩) ?_
      refine lv_iload M.1 M.2.1 dL_law_668 (lv_at hl 1 rfl) ?_
      refine zi_same (tgt := 675) M dL_law_670 (by decide) ?_
      refine lv_iload M.1 M.2.1 dL_law_675 (lv_at hl 1 rfl) ?_
      refine zi_if_ne (tgt := 692) M dL_law_677 (by decide) ⟨by decide, by decide⟩ (fun _ => ?_) (fun q => absurd q (by decide))
      refine zi_goto (tgt := 2286) M dL_law_692 (by decide) ?_
      have hPx := hP
      have hP := hPm
      have hPm := hPx
      have hD := zD_c hD
      refine W.widen (k := cells + 6) (n := slots + 36) (by omega) (by omega) ?_
      exact hback h su st sh fl sn bn cm em ep fm fr 1 o lg le lf dl cS cH sea noi pl pw an hd fq bp bw ban bhd bo c1 c2 c3 c4 c5 e1 e2 e3 e4 e5 ur h_h h_su h_st h_sh h_fl h_sn h_bn h_cm h_em g_cS g_cH g_sea g_noi g_pl g_pw g_an g_hd g_bp g_bw g_ban g_bhd g_c1 g_c2 g_c3 g_c4 g_c5 g_e1 g_e2 g_e3 g_e4 g_e5 hbo hep H locs hP hPm hD hS ls (lv_sub hl [2, 3, 4, 5, 6] rfl)
    ·
      have hP : va_P D vwCl (mdlW bd 0 cy 2 h su st sh fl 0 sn bn fm fr cm em lg le lf dl cS cH sea noi pl pw an hd bp bo bw c1 c2 c3 c4 c5 e1 e2 e3 e4 e5) H := hP
      have hD : va_D (fun q => z0 ≤ q) ((mdlW bd 0 cy 2 h su st sh fl 0 sn bn fm fr cm em lg le lf dl cS cH sea noi pl pw an hd bp bo bw c1 c2 c3 c4 c5 e1 e2 e3 e4 e5) ++ ((rooW ad 0 cy fm fr) ++ ((airW ad 1 cy h su st sh fl cS cH (dnD h fl) (dnE h cS) (dnF h su st)) ++ ((airW ad 8 cy h su 0 0 0 (fun _ => 0) (fun _ => 0) (dnD h 0) (dnE h (fun _ => 0)) (dnF h su 0)) ++ ((grdW ad 15 cy sea noi) ++ ((rayW ad 18 cy (ur 0) (ur 1) (ur 2) (ur 3) (ur 4) (ur 5) (ur 6) (ur 7)) ++ ((sndW ad 19 cy 12 sn pl pw an hd fq) ++ ((sndW ad 25 cy 6 bn bp bw ban bhd bo) ++ ((conW ad 31 cy cm c1 c2 c3 c4 c5) ++ ((entW ad 37 cy em ep e1 e2 e3 e4 e5) ++ (outW od 0 cy o))))))))))) := hD
      exfalso
      omega
    ·
      have hP : va_P D vwCl (mdlW bd 0 cy 3 h su st sh fl 0 sn bn fm fr cm em lg le lf dl cS cH sea noi pl pw an hd bp bo bw c1 c2 c3 c4 c5 e1 e2 e3 e4 e5) H := hP
      have hD : va_D (fun q => z0 ≤ q) ((mdlW bd 0 cy 3 h su st sh fl 0 sn bn fm fr cm em lg le lf dl cS cH sea noi pl pw an hd bp bo bw c1 c2 c3 c4 c5 e1 e2 e3 e4 e5) ++ ((rooW ad 0 cy fm fr) ++ ((airW ad 1 cy h su st sh fl cS cH (dnD h fl) (dnE h cS) (dnF h su st)) ++ ((airW ad 8 cy h su 0 0 0 (fun _ => 0) (fun _ => 0) (dnD h 0) (dnE h (fun _ => 0)) (dnF h su 0)) ++ ((grdW ad 15 cy sea noi) ++ ((rayW ad 18 cy (ur 0) (ur 1) (ur 2) (ur 3) (ur 4) (ur 5) (ur 6) (ur 7)) ++ ((sndW ad 19 cy 12 sn pl pw an hd fq) ++ ((sndW ad 25 cy 6 bn bp bw ban bhd bo) ++ ((conW ad 31 cy cm c1 c2 c3 c4 c5) ++ ((entW ad 37 cy em ep e1 e2 e3 e4 e5) ++ (outW od 0 cy o))))))))))) := hD
      exfalso
      omega
  ·
    have hw_5 := hv_5.symm
    subst hw_5
    have hP : va_P D vwCl ((rooW ad 0 cy fm fr) ++ ((airW ad 1 cy h su st sh fl cS cH (dnD h fl) (dnE h cS) (dnF h su st)) ++ ((airW ad 8 cy h su 0 0 0 (fun _ => 0) (fun _ => 0) (dnD h 0) (dnE h (fun _ => 0)) (dnF h su 0)) ++ ((grdW ad 15 cy sea noi) ++ ((rayW ad 18 cy (ur 0) (ur 1) (ur 2) (ur 3) (ur 4) (ur 5) (ur 6) (ur 7)) ++ ((sndW ad 19 cy 12 sn pl pw an hd fq) ++ ((sndW ad 25 cy 6 bn bp bw ban bhd bo) ++ ((conW ad 31 cy cm c1 c2 c3 c4 c5) ++ ((entW ad 37 cy em ep e1 e2 e3 e4 e5) ++ (outW od 0 cy o)))))))))) H := hP
    have hD : va_D (fun q => z0 ≤ q) (((rooW ad 0 cy fm fr) ++ ((airW ad 1 cy h su st sh fl cS cH (dnD h fl) (dnE h cS) (dnF h su st)) ++ ((airW ad 8 cy h su 0 0 0 (fun _ => 0) (fun _ => 0) (dnD h 0) (dnE h (fun _ => 0)) (dnF h su 0)) ++ ((grdW ad 15 cy sea noi) ++ ((rayW ad 18 cy (ur 0) (ur 1) (ur 2) (ur 3) (ur 4) (ur 5) (ur 6) (ur 7)) ++ ((sndW ad 19 cy 12 sn pl pw an hd fq) ++ ((sndW ad 25 cy 6 bn bp bw ban bhd bo) ++ ((conW ad 31 cy cm c1 c2 c3 c4 c5) ++ ((entW ad 37 cy em ep e1 e2 e3 e4 e5) ++ (outW od 0 cy o)))))))))) ++ (mdlW bd 0 cy th h su st sh fl 0 sn bn fm fr cm em lg le lf dl cS cH sea noi pl pw an hd bp bo bw c1 c2 c3 c4 c5 e1 e2 e3 e4 e5)) := hD
    refine lv_istore (lv' := [(5, .int (iI 2)), (0, .ref (b)), (1, .ref (ad 0)), (2, .ref (bd 0)), (3, .ref (od 0)), (4, .int (iI i))]) M.1 M.2.1 dL_law_632 hl (by decide) rfl (fun ls hl => ?_)
    refine lv_aload_n M.1 M.2.1 dL_law_634 rfl (lv_at hl 3 rfl) ?_
    refine lv_aload_n M.1 M.2.1 dL_law_635 rfl (lv_at hl 1 rfl) ?_
    refine lv_iload M.1 M.2.1 dL_law_636 (lv_at hl 5 rfl) ?_
    refine zi_push M dL_law_638 ?_
    refine zi_iadd M dL_law_639 ?_
    refine zi_sld M hX hbl hbA hS hL (by omega) (by omega) dL_law_640 ?_
    have hx_16 := xZ_rg xs (i + 1)
    refine lv_aload_n M.1 M.2.1 dL_law_641 rfl (lv_at hl 1 rfl) ?_
    refine lv_iload M.1 M.2.1 dL_law_642 (lv_at hl 5 rfl) ?_
    refine zi_push M dL_law_644 ?_
    refine zi_iadd M dL_law_645 ?_
    refine zi_sld M hX hbl hbA hS hL (by omega) (by omega) dL_law_646 ?_
    have hx_17 := xZ_rg xs (i + 2)
    refine lv_aload_n M.1 M.2.1 dL_law_647 rfl (lv_at hl 1 rfl) ?_
    refine lv_iload M.1 M.2.1 dL_law_648 (lv_at hl 5 rfl) ?_
    refine zi_push M dL_law_650 ?_
    refine zi_iadd M dL_law_651 ?_
    refine zi_sld M hX hbl hbA hS hL (by omega) (by omega) dL_law_652 ?_
    have hx_18 := xZ_rg xs (i + 3)
    refine lv_aload_n M.1 M.2.1 dL_law_653 rfl (lv_at hl 1 rfl) ?_
    refine lv_iload M.1 M.2.1 dL_law_654 (lv_at hl 5 rfl) ?_
    refine zi_push M dL_law_656 ?_
    refine zi_iadd M dL_law_657 ?_
    refine zi_sld M hX hbl hbA hS hL (by omega) (by omega) dL_law_658 ?_
    have hx_19 := xZ_rg xs (i + 4)
    have hPx := hP
    have hP := hPm
    have hPm := hPx
    have hD := zD_c hD
    refine z_cW2 (z_runV (As := [.int (iI (xZ xs (i + 1))), .int (iI (xZ xs (i + 2))), .int (iI (xZ xs (i + 3))), .int (iI (xZ xs (i + 4)))]) (rest := []) M (c_X7_station l D cy z0 bd th h su st sh fl 0 sn bn fm fr cm em lg le lf dl cS cH sea noi pl pw an hd bp bo bw c1 c2 c3 c4 c5 e1 e2 e3 e4 e5 (xZ xs (i + 1)) (xZ xs (i + 2)) (xZ xs (i + 3)) (xZ xs (i + 4)) (by omega) (by omega) (by omega) (by omega) (by omega)) hE hS hAz (z_cut hP (zD_l hD) hAz [0, 1, 2, 3, 4, 5, 6, 7, 8, 9, 10, 11, 12, 13, 14, 15, 16, 17, 18, 19, 20, 21] rfl (by decide +kernel)) (zRc.of (ci := 7) (q0 := 0) hE hP rfl rfl) zk_cd_X7_station zk_in_RX7 zk_im_X7_station zk_se_X7_station zk_ml_RL_145 rfl rfl zd_X7_station ⟨by decide, by decide⟩ rfl hl.1 rfl (Nat.le_of_ble_eq_true rfl) dL_law_659 ⟨by show _ ≤ 601024; omega, by show _ ≤ 7293034; omega⟩) hP hPm hD hS [0, 1, 2, 3, 4, 5, 6, 7, 8, 9, 10, 11, 12, 13, 14, 15, 16, 17, 18, 19, 20, 21] rfl (fun _ => by simp only [List.map_append, mdlW_adr]) (fun r_20 u_20 H locs hp_20 hP hPm hD hS => ?_)
    try simp only [mdD_0, mdE_0, mdF_0, mdD_1, mdE_1, mdF_1] at hp_20
    have hP : va_P D vwCl (mdlW bd 0 cy u_20 h su st sh fl 0 (if u_20 = 0 then (sn + 1) else sn) bn fm fr cm em lg le lf dl cS cH sea noi (if u_20 = 0 then (zu pl sn (xZ xs (i + 1))) else pl) (if u_20 = 0 then (zu pw sn (xZ xs (i + 2))) else pw) (if u_20 = 0 then (zu an sn (xZ xs (i + 3))) else an) (if u_20 = 0 then (zu hd sn (xZ xs (i + 4))) else hd) bp bo bw c1 c2 c3 c4 c5 e1 e2 e3 e4 e5) H := hP
    have hD : va_D (fun q => z0 ≤ q) ((mdlW bd 0 cy u_20 h su st sh fl 0 (if u_20 = 0 then (sn + 1) else sn) bn fm fr cm em lg le lf dl cS cH sea noi (if u_20 = 0 then (zu pl sn (xZ xs (i + 1))) else pl) (if u_20 = 0 then (zu pw sn (xZ xs (i + 2))) else pw) (if u_20 = 0 then (zu an sn (xZ xs (i + 3))) else an) (if u_20 = 0 then (zu hd sn (xZ xs (i + 4))) else hd) bp bo bw c1 c2 c3 c4 c5 e1 e2 e3 e4 e5) ++ ((rooW ad 0 cy fm fr) ++ ((airW ad 1 cy h su st sh fl cS cH (dnD h fl) (dnE h cS) (dnF h su st)) ++ ((airW ad 8 cy h su 0 0 0 (fun _ => 0) (fun _ => 0) (dnD h 0) (dnE h (fun _ => 0)) (dnF h su 0)) ++ ((grdW ad 15 cy sea noi) ++ ((rayW ad 18 cy (ur 0) (ur 1) (ur 2) (ur 3) (ur 4) (ur 5) (ur 6) (ur 7)) ++ ((sndW ad 19 cy 12 sn pl pw an hd fq) ++ ((sndW ad 25 cy 6 bn bp bw ban bhd bo) ++ ((conW ad 31 cy cm c1 c2 c3 c4 c5) ++ ((entW ad 37 cy em ep e1 e2 e3 e4 e5) ++ (outW od 0 cy o))))))))))) := hD
    rcases hp_20 with ⟨rfl, hN_20, rfl⟩ | ⟨rfl, hN_20, rfl⟩ | ⟨rfl, hN_20, rfl⟩ | ⟨rfl, hN_20, rfl⟩
    ·
      have hP : va_P D vwCl (mdlW bd 0 cy 0 h su st sh fl 0 (sn + 1) bn fm fr cm em lg le lf dl cS cH sea noi (zu pl sn (xZ xs (i + 1))) (zu pw sn (xZ xs (i + 2))) (zu an sn (xZ xs (i + 3))) (zu hd sn (xZ xs (i + 4))) bp bo bw c1 c2 c3 c4 c5 e1 e2 e3 e4 e5) H := hP
      have hD : va_D (fun q => z0 ≤ q) ((mdlW bd 0 cy 0 h su st sh fl 0 (sn + 1) bn fm fr cm em lg le lf dl cS cH sea noi (zu pl sn (xZ xs (i + 1))) (zu pw sn (xZ xs (i + 2))) (zu an sn (xZ xs (i + 3))) (zu hd sn (xZ xs (i + 4))) bp bo bw c1 c2 c3 c4 c5 e1 e2 e3 e4 e5) ++ ((rooW ad 0 cy fm fr) ++ ((airW ad 1 cy h su st sh fl cS cH (dnD h fl) (dnE h cS) (dnF h su st)) ++ ((airW ad 8 cy h su 0 0 0 (fun _ => 0) (fun _ => 0) (dnD h 0) (dnE h (fun _ => 0)) (dnF h su 0)) ++ ((grdW ad 15 cy sea noi) ++ ((rayW ad 18 cy (ur 0) (ur 1) (ur 2) (ur 3) (ur 4) (ur 5) (ur 6) (ur 7)) ++ ((sndW ad 19 cy 12 sn pl pw an hd fq) ++ ((sndW ad 25 cy 6 bn bp bw ban bhd bo) ++ ((conW ad 31 cy cm c1 c2 c3 c4 c5) ++ ((entW ad 37 cy em ep e1 e2 e3 e4 e5) ++ (outW od 0 cy o))))))))))) := hD
      exfalso
      omega
    ·
      have hP : va_P D vwCl (mdlW bd 0 cy 1 h su st sh fl 0 sn bn fm fr cm em lg le lf dl cS cH sea noi pl pw an hd bp bo bw c1 c2 c3 c4 c5 e1 e2 e3 e4 e5) H := hP
      have hD : va_D (fun q => z0 ≤ q) ((mdlW bd 0 cy 1 h su st sh fl 0 sn bn fm fr cm em lg le lf dl cS cH sea noi pl pw an hd bp bo bw c1 c2 c3 c4 c5 e1 e2 e3 e4 e5) ++ ((rooW ad 0 cy fm fr) ++ ((airW ad 1 cy h su st sh fl cS cH (dnD h fl) (dnE h cS) (dnF h su st)) ++ ((airW ad 8 cy h su 0 0 0 (fun _ => 0) (fun _ => 0) (dnD h 0) (dnE h (fun _ => 0)) (dnF h su 0)) ++ ((grdW ad 15 cy sea noi) ++ ((rayW ad 18 cy (ur 0) (ur 1) (ur 2) (ur 3) (ur 4) (ur 5) (ur 6) (ur 7)) ++ ((sndW ad 19 cy 12 sn pl pw an hd fq) ++ ((sndW ad 25 cy 6 bn bp bw ban bhd bo) ++ ((conW ad 31 cy cm c1 c2 c3 c4 c5) ++ ((entW ad 37 cy em ep e1 e2 e3 e4 e5) ++ (outW od 0 cy o))))))))))) := hD
      exfalso
      omega
    ·
      have hP : va_P D vwCl (mdlW bd 0 cy 2 h su st sh fl 0 sn bn fm fr cm em lg le lf dl cS cH sea noi pl pw an hd bp bo bw c1 c2 c3 c4 c5 e1 e2 e3 e4 e5) H := hP
      have hD : va_D (fun q => z0 ≤ q) ((mdlW bd 0 cy 2 h su st sh fl 0 sn bn fm fr cm em lg le lf dl cS cH sea noi pl pw an hd bp bo bw c1 c2 c3 c4 c5 e1 e2 e3 e4 e5) ++ ((rooW ad 0 cy fm fr) ++ ((airW ad 1 cy h su st sh fl cS cH (dnD h fl) (dnE h cS) (dnF h su st)) ++ ((airW ad 8 cy h su 0 0 0 (fun _ => 0) (fun _ => 0) (dnD h 0) (dnE h (fun _ => 0)) (dnF h su 0)) ++ ((grdW ad 15 cy sea noi) ++ ((rayW ad 18 cy (ur 0) (ur 1) (ur 2) (ur 3) (ur 4) (ur 5) (ur 6) (ur 7)) ++ ((sndW ad 19 cy 12 sn pl pw an hd fq) ++ ((sndW ad 25 cy 6 bn bp bw ban bhd bo) ++ ((conW ad 31 cy cm c1 c2 c3 c4 c5) ++ ((entW ad 37 cy em ep e1 e2 e3 e4 e5) ++ (outW od 0 cy o))))))))))) := hD
      refine lv_istore (lv' := [(6, .int (iI 0)), (5, .int (iI 2)), (0, .ref (b)), (1, .ref (ad 0)), (2, .ref (bd 0)), (3, .ref (od 0)), (4, .int (iI i))]) M.1 M.2.1 dL_law_662 hl (by decide) rfl (fun ls hl => ?_)
      refine lv_aload_n M.1 M.2.1 dL_law_664 rfl (lv_at hl 4 rfl) ?_
      refine z_cR (z_runV (As := []) (rest := []) M (c_X7_thrown l D cy z0 bd 2 h su st sh fl 0 sn bn fm fr cm em lg le lf dl cS cH sea noi pl pw an hd bp bo bw c1 c2 c3 c4 c5 e1 e2 e3 e4 e5) hE hS hAz hP (zRc.of (ci := 7) (q0 := 0) hE hP rfl rfl) zk_cd_X7_thrown zk_in_RX7 zk_im_X7_thrown zk_se_X7_thrown zk_ml_RL_116 rfl rfl zd_X7_thrown ⟨by decide, by decide⟩ rfl hl.1 rfl (Nat.le_of_ble_eq_true rfl) dL_law_665 ⟨by show _ ≤ 601024; omega, by show _ ≤ 7293034; omega⟩) ?_
      refine lv_iload M.1 M.2.1 dL_law_668 (lv_at hl 1 rfl) ?_
      refine zi_same (tgt := 675) M dL_law_670 (by decide) ?_
      refine lv_iload M.1 M.2.1 dL_law_675 (lv_at hl 1 rfl) ?_
      refine zi_if_ne (tgt := 692) M dL_law_677 (by decide) ⟨by decide, by decide⟩ (fun _ => ?_) (fun q => absurd q (by decide))
      refine zi_goto (tgt := 2286) M dL_law_692 (by decide) ?_
      have hPx := hP
      have hP := hPm
      have hPm := hPx
      have hD := zD_c hD
      refine W.widen (k := cells + 6) (n := slots + 36) (by omega) (by omega) ?_
      exact hback h su st sh fl sn bn cm em ep fm fr 2 o lg le lf dl cS cH sea noi pl pw an hd fq bp bw ban bhd bo c1 c2 c3 c4 c5 e1 e2 e3 e4 e5 ur h_h h_su h_st h_sh h_fl h_sn h_bn h_cm h_em g_cS g_cH g_sea g_noi g_pl g_pw g_an g_hd g_bp g_bw g_ban g_bhd g_c1 g_c2 g_c3 g_c4 g_c5 g_e1 g_e2 g_e3 g_e4 g_e5 hbo hep H locs hP hPm hD hS ls (lv_sub hl [2, 3, 4, 5, 6] rfl)
    ·
      have hP : va_P D vwCl (mdlW bd 0 cy 3 h su st sh fl 0 sn bn fm fr cm em lg le lf dl cS cH sea noi pl pw an hd bp bo bw c1 c2 c3 c4 c5 e1 e2 e3 e4 e5) H := hP
      have hD : va_D (fun q => z0 ≤ q) ((mdlW bd 0 cy 3 h su st sh fl 0 sn bn fm fr cm em lg le lf dl cS cH sea noi pl pw an hd bp bo bw c1 c2 c3 c4 c5 e1 e2 e3 e4 e5) ++ ((rooW ad 0 cy fm fr) ++ ((airW ad 1 cy h su st sh fl cS cH (dnD h fl) (dnE h cS) (dnF h su st)) ++ ((airW ad 8 cy h su 0 0 0 (fun _ => 0) (fun _ => 0) (dnD h 0) (dnE h (fun _ => 0)) (dnF h su 0)) ++ ((grdW ad 15 cy sea noi) ++ ((rayW ad 18 cy (ur 0) (ur 1) (ur 2) (ur 3) (ur 4) (ur 5) (ur 6) (ur 7)) ++ ((sndW ad 19 cy 12 sn pl pw an hd fq) ++ ((sndW ad 25 cy 6 bn bp bw ban bhd bo) ++ ((conW ad 31 cy cm c1 c2 c3 c4 c5) ++ ((entW ad 37 cy em ep e1 e2 e3 e4 e5) ++ (outW od 0 cy o))))))))))) := hD
      exfalso
      omega
  ·
    have hw_5 := hv_5.symm
    subst hw_5
    have hP : va_P D vwCl ((rooW ad 0 cy fm fr) ++ ((airW ad 1 cy h su st sh fl cS cH (dnD h fl) (dnE h cS) (dnF h su st)) ++ ((airW ad 8 cy h su 0 0 0 (fun _ => 0) (fun _ => 0) (dnD h 0) (dnE h (fun _ => 0)) (dnF h su 0)) ++ ((grdW ad 15 cy sea noi) ++ ((rayW ad 18 cy (ur 0) (ur 1) (ur 2) (ur 3) (ur 4) (ur 5) (ur 6) (ur 7)) ++ ((sndW ad 19 cy 12 sn pl pw an hd fq) ++ ((sndW ad 25 cy 6 bn bp bw ban bhd bo) ++ ((conW ad 31 cy cm c1 c2 c3 c4 c5) ++ ((entW ad 37 cy em ep e1 e2 e3 e4 e5) ++ (outW od 0 cy o)))))))))) H := hP
    have hD : va_D (fun q => z0 ≤ q) (((rooW ad 0 cy fm fr) ++ ((airW ad 1 cy h su st sh fl cS cH (dnD h fl) (dnE h cS) (dnF h su st)) ++ ((airW ad 8 cy h su 0 0 0 (fun _ => 0) (fun _ => 0) (dnD h 0) (dnE h (fun _ => 0)) (dnF h su 0)) ++ ((grdW ad 15 cy sea noi) ++ ((rayW ad 18 cy (ur 0) (ur 1) (ur 2) (ur 3) (ur 4) (ur 5) (ur 6) (ur 7)) ++ ((sndW ad 19 cy 12 sn pl pw an hd fq) ++ ((sndW ad 25 cy 6 bn bp bw ban bhd bo) ++ ((conW ad 31 cy cm c1 c2 c3 c4 c5) ++ ((entW ad 37 cy em ep e1 e2 e3 e4 e5) ++ (outW od 0 cy o)))))))))) ++ (mdlW bd 0 cy th h su st sh fl 0 sn bn fm fr cm em lg le lf dl cS cH sea noi pl pw an hd bp bo bw c1 c2 c3 c4 c5 e1 e2 e3 e4 e5)) := hD
    refine lv_istore (lv' := [(5, .int (iI 3)), (0, .ref (b)), (1, .ref (ad 0)), (2, .ref (bd 0)), (3, .ref (od 0)), (4, .int (iI i))]) M.1 M.2.1 dL_law_632 hl (by decide) rfl (fun ls hl => ?_)
    refine lv_aload_n M.1 M.2.1 dL_law_634 rfl (lv_at hl 3 rfl) ?_
    refine lv_aload_n M.1 M.2.1 dL_law_635 rfl (lv_at hl 1 rfl) ?_
    refine lv_iload M.1 M.2.1 dL_law_636 (lv_at hl 5 rfl) ?_
    refine zi_push M dL_law_638 ?_
    refine zi_iadd M dL_law_639 ?_
    refine zi_sld M hX hbl hbA hS hL (by omega) (by omega) dL_law_640 ?_
    have hx_21 := xZ_rg xs (i + 1)
    refine lv_aload_n M.1 M.2.1 dL_law_641 rfl (lv_at hl 1 rfl) ?_
    refine lv_iload M.1 M.2.1 dL_law_642 (lv_at hl 5 rfl) ?_
    refine zi_push M dL_law_644 ?_
    refine zi_iadd M dL_law_645 ?_
    refine zi_sld M hX hbl hbA hS hL (by omega) (by omega) dL_law_646 ?_
    have hx_22 := xZ_rg xs (i + 2)
    refine lv_aload_n M.1 M.2.1 dL_law_647 rfl (lv_at hl 1 rfl) ?_
    refine lv_iload M.1 M.2.1 dL_law_648 (lv_at hl 5 rfl) ?_
    refine zi_push M dL_law_650 ?_
    refine zi_iadd M dL_law_651 ?_
    refine zi_sld M hX hbl hbA hS hL (by omega) (by omega) dL_law_652 ?_
    have hx_23 := xZ_rg xs (i + 3)
    refine lv_aload_n M.1 M.2.1 dL_law_653 rfl (lv_at hl 1 rfl) ?_
    refine lv_iload M.1 M.2.1 dL_law_654 (lv_at hl 5 rfl) ?_
    refine zi_push M dL_law_656 ?_
    refine zi_iadd M dL_law_657 ?_
    refine zi_sld M hX hbl hbA hS hL (by omega) (by omega) dL_law_658 ?_
    have hx_24 := xZ_rg xs (i + 4)
    have hPx := hP
    have hP := hPm
    have hPm := hPx
    have hD := zD_c hD
    refine z_cW2 (z_runV (As := [.int (iI (xZ xs (i + 1))), .int (iI (xZ xs (i + 2))), .int (iI (xZ xs (i + 3))), .int (iI (xZ xs (i + 4)))]) (rest := []) M (c_X7_station l D cy z0 bd th h su st sh fl 0 sn bn fm fr cm em lg le lf dl cS cH sea noi pl pw an hd bp bo bw c1 c2 c3 c4 c5 e1 e2 e3 e4 e5 (xZ xs (i + 1)) (xZ xs (i + 2)) (xZ xs (i + 3)) (xZ xs (i + 4)) (by omega) (by omega) (by omega) (by omega) (by omega)) hE hS hAz (z_cut hP (zD_l hD) hAz [0, 1, 2, 3, 4, 5, 6, 7, 8, 9, 10, 11, 12, 13, 14, 15, 16, 17, 18, 19, 20, 21] rfl (by decide +kernel)) (zRc.of (ci := 7) (q0 := 0) hE hP rfl rfl) zk_cd_X7_station zk_in_RX7 zk_im_X7_station zk_se_X7_station zk_ml_RL_145 rfl rfl zd_X7_station ⟨by decide, by decide⟩ rfl hl.1 rfl (Nat.le_of_ble_eq_true rfl) dL_law_659 ⟨by show _ ≤ 601024; omega, by show _ ≤ 7293034; omega⟩) hP hPm hD hS [0, 1, 2, 3, 4, 5, 6, 7, 8, 9, 10, 11, 12, 13, 14, 15, 16, 17, 18, 19, 20, 21] rfl (fun _ => by simp only [List.map_append, mdlW_adr]) (fun r_25 u_25 H locs hp_25 hP hPm hD hS => ?_)
    try simp only [mdD_0, mdE_0, mdF_0, mdD_1, mdE_1, mdF_1] at hp_25
    have hP : va_P D vwCl (mdlW bd 0 cy u_25 h su st sh fl 0 (if u_25 = 0 then (sn + 1) else sn) bn fm fr cm em lg le lf dl cS cH sea noi (if u_25 = 0 then (zu pl sn (xZ xs (i + 1))) else pl) (if u_25 = 0 then (zu pw sn (xZ xs (i + 2))) else pw) (if u_25 = 0 then (zu an sn (xZ xs (i + 3))) else an) (if u_25 = 0 then (zu hd sn (xZ xs (i + 4))) else hd) bp bo bw c1 c2 c3 c4 c5 e1 e2 e3 e4 e5) H := hP
    have hD : va_D (fun q => z0 ≤ q) ((mdlW bd 0 cy u_25 h su st sh fl 0 (if u_25 = 0 then (sn + 1) else sn) bn fm fr cm em lg le lf dl cS cH sea noi (if u_25 = 0 then (zu pl sn (xZ xs (i + 1))) else pl) (if u_25 = 0 then (zu pw sn (xZ xs (i + 2))) else pw) (if u_25 = 0 then (zu an sn (xZ xs (i + 3))) else an) (if u_25 = 0 then (zu hd sn (xZ xs (i + 4))) else hd) bp bo bw c1 c2 c3 c4 c5 e1 e2 e3 e4 e5) ++ ((rooW ad 0 cy fm fr) ++ ((airW ad 1 cy h su st sh fl cS cH (dnD h fl) (dnE h cS) (dnF h su st)) ++ ((airW ad 8 cy h su 0 0 0 (fun _ => 0) (fun _ => 0) (dnD h 0) (dnE h (fun _ => 0)) (dnF h su 0)) ++ ((grdW ad 15 cy sea noi) ++ ((rayW ad 18 cy (ur 0) (ur 1) (ur 2) (ur 3) (ur 4) (ur 5) (ur 6) (ur 7)) ++ ((sndW ad 19 cy 12 sn pl pw an hd fq) ++ ((sndW ad 25 cy 6 bn bp bw ban bhd bo) ++ ((conW ad 31 cy cm c1 c2 c3 c4 c5) ++ ((entW ad 37 cy em ep e1 e2 e3 e4 e5) ++ (outW od 0 cy o))))))))))) := hD
    rcases hp_25 with ⟨rfl, hN_25, rfl⟩ | ⟨rfl, hN_25, rfl⟩ | ⟨rfl, hN_25, rfl⟩ | ⟨rfl, hN_25, rfl⟩
    ·
      have hP : va_P D vwCl (mdlW bd 0 cy 0 h su st sh fl 0 (sn + 1) bn fm fr cm em lg le lf dl cS cH sea noi (zu pl sn (xZ xs (i + 1))) (zu pw sn (xZ xs (i + 2))) (zu an sn (xZ xs (i + 3))) (zu hd sn (xZ xs (i + 4))) bp bo bw c1 c2 c3 c4 c5 e1 e2 e3 e4 e5) H := hP
      have hD : va_D (fun q => z0 ≤ q) ((mdlW bd 0 cy 0 h su st sh fl 0 (sn + 1) bn fm fr cm em lg le lf dl cS cH sea noi (zu pl sn (xZ xs (i + 1))) (zu pw sn (xZ xs (i + 2))) (zu an sn (xZ xs (i + 3))) (zu hd sn (xZ xs (i + 4))) bp bo bw c1 c2 c3 c4 c5 e1 e2 e3 e4 e5) ++ ((rooW ad 0 cy fm fr) ++ ((airW ad 1 cy h su st sh fl cS cH (dnD h fl) (dnE h cS) (dnF h su st)) ++ ((airW ad 8 cy h su 0 0 0 (fun _ => 0) (fun _ => 0) (dnD h 0) (dnE h (fun _ => 0)) (dnF h su 0)) ++ ((grdW ad 15 cy sea noi) ++ ((rayW ad 18 cy (ur 0) (ur 1) (ur 2) (ur 3) (ur 4) (ur 5) (ur 6) (ur 7)) ++ ((sndW ad 19 cy 12 sn pl pw an hd fq) ++ ((sndW ad 25 cy 6 bn bp bw ban bhd bo) ++ ((conW ad 31 cy cm c1 c2 c3 c4 c5) ++ ((entW ad 37 cy em ep e1 e2 e3 e4 e5) ++ (outW od 0 cy o))))))))))) := hD
      exfalso
      omega
    ·
      have hP : va_P D vwCl (mdlW bd 0 cy 1 h su st sh fl 0 sn bn fm fr cm em lg le lf dl cS cH sea noi pl pw an hd bp bo bw c1 c2 c3 c4 c5 e1 e2 e3 e4 e5) H := hP
      have hD : va_D (fun q => z0 ≤ q) ((mdlW bd 0 cy 1 h su st sh fl 0 sn bn fm fr cm em lg le lf dl cS cH sea noi pl pw an hd bp bo bw c1 c2 c3 c4 c5 e1 e2 e3 e4 e5) ++ ((rooW ad 0 cy fm fr) ++ ((airW ad 1 cy h su st sh fl cS cH (dnD h fl) (dnE h cS) (dnF h su st)) ++ ((airW ad 8 cy h su 0 0 0 (fun _ => 0) (fun _ => 0) (dnD h 0) (dnE h (fun _ => 0)) (dnF h su 0)) ++ ((grdW ad 15 cy sea noi) ++ ((rayW ad 18 cy (ur 0) (ur 1) (ur 2) (ur 3) (ur 4) (ur 5) (ur 6) (ur 7)) ++ ((sndW ad 19 cy 12 sn pl pw an hd fq) ++ ((sndW ad 25 cy 6 bn bp bw ban bhd bo) ++ ((conW ad 31 cy cm c1 c2 c3 c4 c5) ++ ((entW ad 37 cy em ep e1 e2 e3 e4 e5) ++ (outW od 0 cy o))))))))))) := hD
      exfalso
      omega
    ·
      have hP : va_P D vwCl (mdlW bd 0 cy 2 h su st sh fl 0 sn bn fm fr cm em lg le lf dl cS cH sea noi pl pw an hd bp bo bw c1 c2 c3 c4 c5 e1 e2 e3 e4 e5) H := hP
      have hD : va_D (fun q => z0 ≤ q) ((mdlW bd 0 cy 2 h su st sh fl 0 sn bn fm fr cm em lg le lf dl cS cH sea noi pl pw an hd bp bo bw c1 c2 c3 c4 c5 e1 e2 e3 e4 e5) ++ ((rooW ad 0 cy fm fr) ++ ((airW ad 1 cy h su st sh fl cS cH (dnD h fl) (dnE h cS) (dnF h su st)) ++ ((airW ad 8 cy h su 0 0 0 (fun _ => 0) (fun _ => 0) (dnD h 0) (dnE h (fun _ => 0)) (dnF h su 0)) ++ ((grdW ad 15 cy sea noi) ++ ((rayW ad 18 cy (ur 0) (ur 1) (ur 2) (ur 3) (ur 4) (ur 5) (ur 6) (ur 7)) ++ ((sndW ad 19 cy 12 sn pl pw an hd fq) ++ ((sndW ad 25 cy 6 bn bp bw ban bhd bo) ++ ((conW ad 31 cy cm c1 c2 c3 c4 c5) ++ ((entW ad 37 cy em ep e1 e2 e3 e4 e5) ++ (outW od 0 cy o))))))))))) := hD
      exfalso
      omega
    ·
      have hP : va_P D vwCl (mdlW bd 0 cy 3 h su st sh fl 0 sn bn fm fr cm em lg le lf dl cS cH sea noi pl pw an hd bp bo bw c1 c2 c3 c4 c5 e1 e2 e3 e4 e5) H := hP
      have hD : va_D (fun q => z0 ≤ q) ((mdlW bd 0 cy 3 h su st sh fl 0 sn bn fm fr cm em lg le lf dl cS cH sea noi pl pw an hd bp bo bw c1 c2 c3 c4 c5 e1 e2 e3 e4 e5) ++ ((rooW ad 0 cy fm fr) ++ ((airW ad 1 cy h su st sh fl cS cH (dnD h fl) (dnE h cS) (dnF h su st)) ++ ((airW ad 8 cy h su 0 0 0 (fun _ => 0) (fun _ => 0) (dnD h 0) (dnE h (fun _ => 0)) (dnF h su 0)) ++ ((grdW ad 15 cy sea noi) ++ ((rayW ad 18 cy (ur 0) (ur 1) (ur 2) (ur 3) (ur 4) (ur 5) (ur 6) (ur 7)) ++ ((sndW ad 19 cy 12 sn pl pw an hd fq) ++ ((sndW ad 25 cy 6 bn bp bw ban bhd bo) ++ ((conW ad 31 cy cm c1 c2 c3 c4 c5) ++ ((entW ad 37 cy em ep e1 e2 e3 e4 e5) ++ (outW od 0 cy o))))))))))) := hD
      refine lv_istore (lv' := [(6, .int (iI 0)), (5, .int (iI 3)), (0, .ref (b)), (1, .ref (ad 0)), (2, .ref (bd 0)), (3, .ref (od 0)), (4, .int (iI i))]) M.1 M.2.1 dL_law_662 hl (by decide) rfl (fun ls hl => ?_)
      refine lv_aload_n M.1 M.2.1 dL_law_664 rfl (lv_at hl 4 rfl) ?_
      refine z_cR (z_runV (As := []) (rest := []) M (c_X7_thrown l D cy z0 bd 3 h su st sh fl 0 sn bn fm fr cm em lg le lf dl cS cH sea noi pl pw an hd bp bo bw c1 c2 c3 c4 c5 e1 e2 e3 e4 e5) hE hS hAz hP (zRc.of (ci := 7) (q0 := 0) hE hP rfl rfl) zk_cd_X7_thrown zk_in_RX7 zk_im_X7_thrown zk_se_X7_thrown zk_ml_RL_116 rfl rfl zd_X7_thrown ⟨by decide, by decide⟩ rfl hl.1 rfl (Nat.le_of_ble_eq_true rfl) dL_law_665 ⟨by show _ ≤ 601024; omega, by show _ ≤ 7293034; omega⟩) ?_
      refine lv_iload M.1 M.2.1 dL_law_668 (lv_at hl 1 rfl) ?_
      refine zi_same (tgt := 675) M dL_law_670 (by decide) ?_
      refine lv_iload M.1 M.2.1 dL_law_675 (lv_at hl 1 rfl) ?_
      refine zi_if_ne (tgt := 692) M dL_law_677 (by decide) ⟨by decide, by decide⟩ (fun _ => ?_) (fun q => absurd q (by decide))
      refine zi_goto (tgt := 2286) M dL_law_692 (by decide) ?_
      have hPx := hP
      have hP := hPm
      have hPm := hPx
      have hD := zD_c hD
      refine W.widen (k := cells + 6) (n := slots + 36) (by omega) (by omega) ?_
      exact hback h su st sh fl sn bn cm em ep fm fr 3 o lg le lf dl cS cH sea noi pl pw an hd fq bp bw ban bhd bo c1 c2 c3 c4 c5 e1 e2 e3 e4 e5 ur h_h h_su h_st h_sh h_fl h_sn h_bn h_cm h_em g_cS g_cH g_sea g_noi g_pl g_pw g_an g_hd g_bp g_bw g_ban g_bhd g_c1 g_c2 g_c3 g_c4 g_c5 g_e1 g_e2 g_e3 g_e4 g_e5 hbo hep H locs hP hPm hD hS ls (lv_sub hl [2, 3, 4, 5, 6] rfl)
