/-! the roads of act -/
set_option maxRecDepth 100000 in
set_option maxHeartbeats 8000000 in
theorem la_803_1 (l : Launch) (hst : l.stackTraces = false) (D : va_G) (cy : Nat → ClassId) (z0 : Nat) (ad : Nat → Nat) (σ : zSt) (ur : Nat → Int) (v pa pb xa xb mu fe fv yi : Int) (r_v : r32 v) (r_pa : r32 pa) (r_pb : r32 pb) (r_xa : r32 xa) (r_xb : r32 xb) (r_mu : r32 mu) (r_fe : r32 fe) (r_fv : r32 fv) (h_yi : 0 ≤ yi ∧ yi ≤ 1) (hI : zInv σ) (p : Program) (e : Env) (s : State) (m : MethodId) (args : Array Value) (below : List Frame) (meth : Method) (c : Code) (M : zM p s m args c cL_act RL 11) (hr : meth.sig.returnType = some .int) (hlk : meth.locks = false) (hE : zE D cy z0 s) (hN : zNc s) (hP0 : zWl D z0 (wldW ad cy σ ur) s.heap) (ls : Array Slot) (hl : lv_has ls 11 [(0, .ref (ad 0)), (1, .int (iI v)), (2, .int (iI 1)), (3, .int (iI pa)), (4, .int (iI pb)), (5, .int (iI xa)), (6, .int (iI xb)), (7, .int (iI mu)), (8, .int (iI fe)), (9, .int (iI fv)), (10, .int (iI yi))]) : W p l e (zRm 11 6 36 211) s m args below meth c s.heap [] 0 0 (MQ below (zQ1 D (wldW ad cy σ ur) (fun (r : Int32) (u : Int × zSt × (Nat → Int)) => r = iI u.1 ∧ (R_paths σ pa pb fv mu u.1 u.2.1)) (fun (u : Int × zSt × (Nat → Int)) => wldW ad cy u.2.1 u.2.2)) args s 6 36 (zIn (wldW ad cy σ ur))) (F0 m 803 ls []) := by
  obtain ⟨h_h, h_su, h_st, h_sh, h_fl, h_sn, h_bn, h_cm, h_em, h_ep, h_fr, g_cS, g_cH, g_sea, g_noi, g_pl, g_pw, g_an, g_hd, g_bp, g_bw, g_ban, g_bhd, g_c1, g_c2, g_c3, g_c4, g_c5, g_e1, g_e2, g_e3, g_e4, g_e5, hbo, hpr⟩ := hI
  have hP : va_P D vwCl ((rooW ad 0 cy (s_fm σ) (s_fr σ)) ++ ((airW ad 1 cy (s_h σ) (s_su σ) (s_st σ) (s_sh σ) (s_fl σ) (s_cS σ) (s_cH σ) (dnD (s_h σ) (s_fl σ)) (dnE (s_h σ) (s_cS σ)) (dnF (s_h σ) (s_su σ) (s_st σ))) ++ ((airW ad 8 cy (s_h σ) (s_su σ) 0 0 0 (fun _ => 0) (fun _ => 0) (dnD (s_h σ) 0) (dnE (s_h σ) (fun _ => 0)) (dnF (s_h σ) (s_su σ) 0)) ++ ((grdW ad 15 cy (s_sea σ) (s_noi σ)) ++ ((rayW ad 18 cy (ur 0) (ur 1) (ur 2) (ur 3) (ur 4) (ur 5) (ur 6) (ur 7)) ++ ((sndW ad 19 cy 12 (s_sn σ) (s_pl σ) (s_pw σ) (s_an σ) (s_hd σ) (s_fq σ)) ++ ((sndW ad 25 cy 6 (s_bn σ) (s_bp σ) (s_bw σ) (s_ban σ) (s_bhd σ) (s_bo σ)) ++ ((conW ad 31 cy (s_cm σ) (s_c1 σ) (s_c2 σ) (s_c3 σ) (s_c4 σ) (s_c5 σ)) ++ (entW ad 37 cy (s_em σ) (s_ep σ) (s_e1 σ) (s_e2 σ) (s_e3 σ) (s_e4 σ) (s_e5 σ)))))))))) s.heap := hP0.1
  have hD : va_D (zIn (wldW ad cy σ ur)) ((rooW ad 0 cy (s_fm σ) (s_fr σ)) ++ ((airW ad 1 cy (s_h σ) (s_su σ) (s_st σ) (s_sh σ) (s_fl σ) (s_cS σ) (s_cH σ) (dnD (s_h σ) (s_fl σ)) (dnE (s_h σ) (s_cS σ)) (dnF (s_h σ) (s_su σ) (s_st σ))) ++ ((airW ad 8 cy (s_h σ) (s_su σ) 0 0 0 (fun _ => 0) (fun _ => 0) (dnD (s_h σ) 0) (dnE (s_h σ) (fun _ => 0)) (dnF (s_h σ) (s_su σ) 0)) ++ ((grdW ad 15 cy (s_sea σ) (s_noi σ)) ++ ((rayW ad 18 cy (ur 0) (ur 1) (ur 2) (ur 3) (ur 4) (ur 5) (ur 6) (ur 7)) ++ ((sndW ad 19 cy 12 (s_sn σ) (s_pl σ) (s_pw σ) (s_an σ) (s_hd σ) (s_fq σ)) ++ ((sndW ad 25 cy 6 (s_bn σ) (s_bp σ) (s_bw σ) (s_ban σ) (s_bhd σ) (s_bo σ)) ++ ((conW ad 31 cy (s_cm σ) (s_c1 σ) (s_c2 σ) (s_c3 σ) (s_c4 σ) (s_c5 σ)) ++ (entW ad 37 cy (s_em σ) (s_ep σ) (s_e1 σ) (s_e2 σ) (s_e3 σ) (s_e4 σ) (s_e5 σ)))))))))) := hP0.self
  have hAz := hP0.A
  have hS : va_S (zIn (wldW ad cy σ ur)) s.heap s.heap [] := va_S.rf
  refine lv_aload_n M.1 M.2.1 dL_act_803 rfl (lv_at hl 0 rfl) ?_
  refine lv_iload_n M.1 M.2.1 dL_act_804 rfl (lv_at hl 3 rfl) ?_
  refine lv_iload M.1 M.2.1 dL_act_805 (lv_at hl 4 rfl) ?_
  refine lv_iload M.1 M.2.1 dL_act_807 (lv_at hl 9 rfl) ?_
  refine lv_iload_n M.1 M.2.1 dL_act_809 rfl (lv_at hl 2 rfl) ?_
  refine zi_if_eq (tgt := 818) M dL_act_810 (by decide) ⟨by decide, by decide⟩ (fun q => absurd q (by decide)) (fun _ => ?_)
  refine lv_iload M.1 M.2.1 dL_act_813 (lv_at hl 7 rfl) ?_
  refine zi_goto (tgt := 823) M dL_act_815 (by decide) ?_
  refine z_cW (zx_runH (As := [.ref (ad 0), .int (iI pa), .int (iI pb), .int (iI fv), .int (iI mu)]) (rest := []) M (c_L_paths l hst D cy z0 ad (s_fm σ) (s_fr σ) (s_h σ) (s_su σ) (s_st σ) (s_sh σ) (s_fl σ) (ur 0) (ur 1) (ur 2) (ur 3) (ur 4) (ur 5) (ur 6) (ur 7) (s_cS σ) (s_cH σ) (dnD (s_h σ) (s_fl σ)) (dnE (s_h σ) (s_cS σ)) (dnF (s_h σ) (s_su σ) (s_st σ)) (s_sea σ) (s_noi σ) pa pb fv mu (by omega) (by omega) (by omega) (by omega) (dnD_rg h_fl) (dnE_rg g_cS) (dnF_rg h_su h_st) g_sea) hE hN hS hAz (z_cut hP hD hAz [0, 1, 2, 3, 4, 5, 6, 7, 15, 16, 17, 18] rfl (by decide +kernel)) zk_cw_L_paths zk_in_RL zk_st_L_paths zk_ml_RL_146 rfl rfl zd_L_paths ⟨by decide, by decide⟩ rfl hl.1 rfl (Nat.le_of_ble_eq_true rfl) dL_act_823 ⟨by decide, by decide⟩) hP hD hS [0, 1, 2, 3, 4, 5, 6, 7, 15, 16, 17, 18] rfl (fun _ => rfl) (fun r_1 u_1 H locs hp_1 hP hD hS => ?_)
  have hP : va_P D vwCl ((rooW ad 0 cy (s_fm σ) (s_fr σ)) ++ ((airW ad 1 cy (s_h σ) (s_su σ) (s_st σ) (s_sh σ) (s_fl σ) (s_cS σ) (s_cH σ) (dnD (s_h σ) (s_fl σ)) (dnE (s_h σ) (s_cS σ)) (dnF (s_h σ) (s_su σ) (s_st σ))) ++ ((airW ad 8 cy (s_h σ) (s_su σ) 0 0 0 (fun _ => 0) (fun _ => 0) (dnD (s_h σ) 0) (dnE (s_h σ) (fun _ => 0)) (dnF (s_h σ) (s_su σ) 0)) ++ ((grdW ad 15 cy (s_sea σ) (s_noi σ)) ++ ((rayW ad 18 cy (u_1.2.2 0) (u_1.2.2 1) (u_1.2.2 2) (u_1.2.2 3) (u_1.2.2 4) (u_1.2.2 5) (u_1.2.2 6) (u_1.2.2 7)) ++ ((sndW ad 19 cy 12 (s_sn σ) (s_pl σ) (s_pw σ) (s_an σ) (s_hd σ) (s_fq σ)) ++ ((sndW ad 25 cy 6 (s_bn σ) (s_bp σ) (s_bw σ) (s_ban σ) (s_bhd σ) (s_bo σ)) ++ ((conW ad 31 cy (s_cm σ) (s_c1 σ) (s_c2 σ) (s_c3 σ) (s_c4 σ) (s_c5 σ)) ++ (entW ad 37 cy (s_em σ) (s_ep σ) (s_e1 σ) (s_e2 σ) (s_e3 σ) (s_e4 σ) (s_e5 σ)))))))))) H := hP
  have hD : va_D (zIn (wldW ad cy σ ur)) ((rooW ad 0 cy (s_fm σ) (s_fr σ)) ++ ((airW ad 1 cy (s_h σ) (s_su σ) (s_st σ) (s_sh σ) (s_fl σ) (s_cS σ) (s_cH σ) (dnD (s_h σ) (s_fl σ)) (dnE (s_h σ) (s_cS σ)) (dnF (s_h σ) (s_su σ) (s_st σ))) ++ ((airW ad 8 cy (s_h σ) (s_su σ) 0 0 0 (fun _ => 0) (fun _ => 0) (dnD (s_h σ) 0) (dnE (s_h σ) (fun _ => 0)) (dnF (s_h σ) (s_su σ) 0)) ++ ((grdW ad 15 cy (s_sea σ) (s_noi σ)) ++ ((rayW ad 18 cy (u_1.2.2 0) (u_1.2.2 1) (u_1.2.2 2) (u_1.2.2 3) (u_1.2.2 4) (u_1.2.2 5) (u_1.2.2 6) (u_1.2.2 7)) ++ ((sndW ad 19 cy 12 (s_sn σ) (s_pl σ) (s_pw σ) (s_an σ) (s_hd σ) (s_fq σ)) ++ ((sndW ad 25 cy 6 (s_bn σ) (s_bp σ) (s_bw σ) (s_ban σ) (s_bhd σ) (s_bo σ)) ++ ((conW ad 31 cy (s_cm σ) (s_c1 σ) (s_c2 σ) (s_c3 σ) (s_c4 σ) (s_c5 σ)) ++ (entW ad 37 cy (s_em σ) (s_ep σ) (s_e1 σ) (s_e2 σ) (s_e3 σ) (s_e4 σ) (s_e5 σ)))))))))) := hD
  obtain ⟨rfl, hq_1⟩ := hp_1
  obtain ⟨a_1, b_1, g_1⟩ := u_1
  rcases hq_1 with ⟨ha, hN9, hV9⟩ | ⟨ha, hB9, hV9⟩
  ·
    have ha : a_1 = 0 := ha
    subst ha
    have hP : va_P D vwCl (wldW ad cy σ g_1) H := hP
    exact zw_i M hr hlk ((b_1 : Int), σ, g_1) hP hS ⟨rfl, Or.inl ⟨hN9, hV9, rfl⟩⟩ (by decide) (by decide) dL_act_826
  ·
    have ha : a_1 = 1 := ha
    subst ha
    have hP : va_P D vwCl (wldW ad cy σ g_1) H := hP
    exact zw_i M hr hlk ((b_1 : Int), σ, g_1) hP hS ⟨rfl, Or.inr ⟨hB9, hV9, rfl⟩⟩ (by decide) (by decide) dL_act_826

set_option maxRecDepth 100000 in
set_option maxHeartbeats 8000000 in
theorem la_803_0 (l : Launch) (hst : l.stackTraces = false) (D : va_G) (cy : Nat → ClassId) (z0 : Nat) (ad : Nat → Nat) (σ : zSt) (ur : Nat → Int) (v pa pb xa xb mu fe fv yi : Int) (r_v : r32 v) (r_pa : r32 pa) (r_pb : r32 pb) (r_xa : r32 xa) (r_xb : r32 xb) (r_mu : r32 mu) (r_fe : r32 fe) (r_fv : r32 fv) (h_yi : 0 ≤ yi ∧ yi ≤ 1) (hI : zInv σ) (p : Program) (e : Env) (s : State) (m : MethodId) (args : Array Value) (below : List Frame) (meth : Method) (c : Code) (M : zM p s m args c cL_act RL 11) (hr : meth.sig.returnType = some .int) (hlk : meth.locks = false) (hE : zE D cy z0 s) (hN : zNc s) (hP0 : zWl D z0 (wldW ad cy σ ur) s.heap) (ls : Array Slot) (h_mu : 0 ≤ mu ∧ mu < 60) (hl : lv_has ls 11 [(0, .ref (ad 0)), (1, .int (iI v)), (2, .int (iI 0)), (3, .int (iI pa)), (4, .int (iI pb)), (5, .int (iI xa)), (6, .int (iI xb)), (7, .int (iI mu)), (8, .int (iI fe)), (9, .int (iI fv)), (10, .int (iI yi))]) : W p l e (zRm 11 6 36 211) s m args below meth c s.heap [] 0 0 (MQ below (zQ1 D (wldW ad cy σ ur) (fun (r : Int32) (u : Int × zSt × (Nat → Int)) => r = iI u.1 ∧ (R_paths σ pa pb fv (20 + mu) u.1 u.2.1)) (fun (u : Int × zSt × (Nat → Int)) => wldW ad cy u.2.1 u.2.2)) args s 6 36 (zIn (wldW ad cy σ ur))) (F0 m 803 ls []) := by
  obtain ⟨h_h, h_su, h_st, h_sh, h_fl, h_sn, h_bn, h_cm, h_em, h_ep, h_fr, g_cS, g_cH, g_sea, g_noi, g_pl, g_pw, g_an, g_hd, g_bp, g_bw, g_ban, g_bhd, g_c1, g_c2, g_c3, g_c4, g_c5, g_e1, g_e2, g_e3, g_e4, g_e5, hbo, hpr⟩ := hI
  have hP : va_P D vwCl ((rooW ad 0 cy (s_fm σ) (s_fr σ)) ++ ((airW ad 1 cy (s_h σ) (s_su σ) (s_st σ) (s_sh σ) (s_fl σ) (s_cS σ) (s_cH σ) (dnD (s_h σ) (s_fl σ)) (dnE (s_h σ) (s_cS σ)) (dnF (s_h σ) (s_su σ) (s_st σ))) ++ ((airW ad 8 cy (s_h σ) (s_su σ) 0 0 0 (fun _ => 0) (fun _ => 0) (dnD (s_h σ) 0) (dnE (s_h σ) (fun _ => 0)) (dnF (s_h σ) (s_su σ) 0)) ++ ((grdW ad 15 cy (s_sea σ) (s_noi σ)) ++ ((rayW ad 18 cy (ur 0) (ur 1) (ur 2) (ur 3) (ur 4) (ur 5) (ur 6) (ur 7)) ++ ((sndW ad 19 cy 12 (s_sn σ) (s_pl σ) (s_pw σ) (s_an σ) (s_hd σ) (s_fq σ)) ++ ((sndW ad 25 cy 6 (s_bn σ) (s_bp σ) (s_bw σ) (s_ban σ) (s_bhd σ) (s_bo σ)) ++ ((conW ad 31 cy (s_cm σ) (s_c1 σ) (s_c2 σ) (s_c3 σ) (s_c4 σ) (s_c5 σ)) ++ (entW ad 37 cy (s_em σ) (s_ep σ) (s_e1 σ) (s_e2 σ) (s_e3 σ) (s_e4 σ) (s_e5 σ)))))))))) s.heap := hP0.1
  have hD : va_D (zIn (wldW ad cy σ ur)) ((rooW ad 0 cy (s_fm σ) (s_fr σ)) ++ ((airW ad 1 cy (s_h σ) (s_su σ) (s_st σ) (s_sh σ) (s_fl σ) (s_cS σ) (s_cH σ) (dnD (s_h σ) (s_fl σ)) (dnE (s_h σ) (s_cS σ)) (dnF (s_h σ) (s_su σ) (s_st σ))) ++ ((airW ad 8 cy (s_h σ) (s_su σ) 0 0 0 (fun _ => 0) (fun _ => 0) (dnD (s_h σ) 0) (dnE (s_h σ) (fun _ => 0)) (dnF (s_h σ) (s_su σ) 0)) ++ ((grdW ad 15 cy (s_sea σ) (s_noi σ)) ++ ((rayW ad 18 cy (ur 0) (ur 1) (ur 2) (ur 3) (ur 4) (ur 5) (ur 6) (ur 7)) ++ ((sndW ad 19 cy 12 (s_sn σ) (s_pl σ) (s_pw σ) (s_an σ) (s_hd σ) (s_fq σ)) ++ ((sndW ad 25 cy 6 (s_bn σ) (s_bp σ) (s_bw σ) (s_ban σ) (s_bhd σ) (s_bo σ)) ++ ((conW ad 31 cy (s_cm σ) (s_c1 σ) (s_c2 σ) (s_c3 σ) (s_c4 σ) (s_c5 σ)) ++ (entW ad 37 cy (s_em σ) (s_ep σ) (s_e1 σ) (s_e2 σ) (s_e3 σ) (s_e4 σ) (s_e5 σ)))))))))) := hP0.self
  have hAz := hP0.A
  have hS : va_S (zIn (wldW ad cy σ ur)) s.heap s.heap [] := va_S.rf
  refine lv_aload_n M.1 M.2.1 dL_act_803 rfl (lv_at hl 0 rfl) ?_
  refine lv_iload_n M.1 M.2.1 dL_act_804 rfl (lv_at hl 3 rfl) ?_
  refine lv_iload M.1 M.2.1 dL_act_805 (lv_at hl 4 rfl) ?_
  refine lv_iload M.1 M.2.1 dL_act_807 (lv_at hl 9 rfl) ?_
  refine lv_iload_n M.1 M.2.1 dL_act_809 rfl (lv_at hl 2 rfl) ?_
  refine zi_if_eq (tgt := 818) M dL_act_810 (by decide) ⟨by decide, by decide⟩ (fun _ => ?_) (fun q => absurd q (by decide))
  refine zi_bipush M dL_act_818 ⟨by decide, by decide⟩ ?_
  refine lv_iload M.1 M.2.1 dL_act_820 (lv_at hl 7 rfl) ?_
  refine zi_iadd M dL_act_822 ?_
  refine z_cW (zx_runH (As := [.ref (ad 0), .int (iI pa), .int (iI pb), .int (iI fv), .int (iI (20 + mu))]) (rest := []) M (c_L_paths l hst D cy z0 ad (s_fm σ) (s_fr σ) (s_h σ) (s_su σ) (s_st σ) (s_sh σ) (s_fl σ) (ur 0) (ur 1) (ur 2) (ur 3) (ur 4) (ur 5) (ur 6) (ur 7) (s_cS σ) (s_cH σ) (dnD (s_h σ) (s_fl σ)) (dnE (s_h σ) (s_cS σ)) (dnF (s_h σ) (s_su σ) (s_st σ)) (s_sea σ) (s_noi σ) pa pb fv (20 + mu) (by omega) (by omega) (by omega) (by omega) (dnD_rg h_fl) (dnE_rg g_cS) (dnF_rg h_su h_st) g_sea) hE hN hS hAz (z_cut hP hD hAz [0, 1, 2, 3, 4, 5, 6, 7, 15, 16, 17, 18] rfl (by decide +kernel)) zk_cw_L_paths zk_in_RL zk_st_L_paths zk_ml_RL_146 rfl rfl zd_L_paths ⟨by decide, by decide⟩ rfl hl.1 rfl (Nat.le_of_ble_eq_true rfl) dL_act_823 ⟨by decide, by decide⟩) hP hD hS [0, 1, 2, 3, 4, 5, 6, 7, 15, 16, 17, 18] rfl (fun _ => rfl) (fun r_1 u_1 H locs hp_1 hP hD hS => ?_)
  have hP : va_P D vwCl ((rooW ad 0 cy (s_fm σ) (s_fr σ)) ++ ((airW ad 1 cy (s_h σ) (s_su σ) (s_st σ) (s_sh σ) (s_fl σ) (s_cS σ) (s_cH σ) (dnD (s_h σ) (s_fl σ)) (dnE (s_h σ) (s_cS σ)) (dnF (s_h σ) (s_su σ) (s_st σ))) ++ ((airW ad 8 cy (s_h σ) (s_su σ) 0 0 0 (fun _ => 0) (fun _ => 0) (dnD (s_h σ) 0) (dnE (s_h σ) (fun _ => 0)) (dnF (s_h σ) (s_su σ) 0)) ++ ((grdW ad 15 cy (s_sea σ) (s_noi σ)) ++ ((rayW ad 18 cy (u_1.2.2 0) (u_1.2.2 1) (u_1.2.2 2) (u_1.2.2 3) (u_1.2.2 4) (u_1.2.2 5) (u_1.2.2 6) (u_1.2.2 7)) ++ ((sndW ad 19 cy 12 (s_sn σ) (s_pl σ) (s_pw σ) (s_an σ) (s_hd σ) (s_fq σ)) ++ ((sndW ad 25 cy 6 (s_bn σ) (s_bp σ) (s_bw σ) (s_ban σ) (s_bhd σ) (s_bo σ)) ++ ((conW ad 31 cy (s_cm σ) (s_c1 σ) (s_c2 σ) (s_c3 σ) (s_c4 σ) (s_c5 σ)) ++ (entW ad 37 cy (s_em σ) (s_ep σ) (s_e1 σ) (s_e2 σ) (s_e3 σ) (s_e4 σ) (s_e5 σ)))))))))) H := hP
  have hD : va_D (zIn (wldW ad cy σ ur)) ((rooW ad 0 cy (s_fm σ) (s_fr σ)) ++ ((airW ad 1 cy (s_h σ) (s_su σ) (s_st σ) (s_sh σ) (s_fl σ) (s_cS σ) (s_cH σ) (dnD (s_h σ) (s_fl σ)) (dnE (s_h σ) (s_cS σ)) (dnF (s_h σ) (s_su σ) (s_st σ))) ++ ((airW ad 8 cy (s_h σ) (s_su σ) 0 0 0 (fun _ => 0) (fun _ => 0) (dnD (s_h σ) 0) (dnE (s_h σ) (fun _ => 0)) (dnF (s_h σ) (s_su σ) 0)) ++ ((grdW ad 15 cy (s_sea σ) (s_noi σ)) ++ ((rayW ad 18 cy (u_1.2.2 0) (u_1.2.2 1) (u_1.2.2 2) (u_1.2.2 3) (u_1.2.2 4) (u_1.2.2 5) (u_1.2.2 6) (u_1.2.2 7)) ++ ((sndW ad 19 cy 12 (s_sn σ) (s_pl σ) (s_pw σ) (s_an σ) (s_hd σ) (s_fq σ)) ++ ((sndW ad 25 cy 6 (s_bn σ) (s_bp σ) (s_bw σ) (s_ban σ) (s_bhd σ) (s_bo σ)) ++ ((conW ad 31 cy (s_cm σ) (s_c1 σ) (s_c2 σ) (s_c3 σ) (s_c4 σ) (s_c5 σ)) ++ (entW ad 37 cy (s_em σ) (s_ep σ) (s_e1 σ) (s_e2 σ) (s_e3 σ) (s_e4 σ) (s_e5 σ)))))))))) := hD
  obtain ⟨rfl, hq_1⟩ := hp_1
  obtain ⟨a_1, b_1, g_1⟩ := u_1
  rcases hq_1 with ⟨ha, hN9, hV9⟩ | ⟨ha, hB9, hV9⟩
  ·
    have ha : a_1 = 0 := ha
    subst ha
    have hP : va_P D vwCl (wldW ad cy σ g_1) H := hP
    exact zw_i M hr hlk ((b_1 : Int), σ, g_1) hP hS ⟨rfl, Or.inl ⟨hN9, hV9, rfl⟩⟩ (by decide) (by decide) dL_act_826
  ·
    have ha : a_1 = 1 := ha
    subst ha
    have hP : va_P D vwCl (wldW ad cy σ g_1) H := hP
    exact zw_i M hr hlk ((b_1 : Int), σ, g_1) hP hS ⟨rfl, Or.inr ⟨hB9, hV9, rfl⟩⟩ (by decide) (by decide) dL_act_826

set_option maxRecDepth 100000 in
set_option maxHeartbeats 8000000 in
theorem la_827_1 (l : Launch) (hst : l.stackTraces = false) (D : va_G) (cy : Nat → ClassId) (z0 : Nat) (ad : Nat → Nat) (σ : zSt) (ur : Nat → Int) (v pa pb xa xb mu fe fv yi : Int) (r_v : r32 v) (r_pa : r32 pa) (r_pb : r32 pb) (r_xa : r32 xa) (r_xb : r32 xb) (r_mu : r32 mu) (r_fe : r32 fe) (r_fv : r32 fv) (h_yi : 0 ≤ yi ∧ yi ≤ 1) (hI : zInv σ) (p : Program) (e : Env) (s : State) (m : MethodId) (args : Array Value) (below : List Frame) (meth : Method) (c : Code) (M : zM p s m args c cL_act RL 11) (hr : meth.sig.returnType = some .int) (hlk : meth.locks = false) (hE : zE D cy z0 s) (hN : zNc s) (hP0 : zWl D z0 (wldW ad cy σ ur) s.heap) (ls : Array Slot) (hl : lv_has ls 11 [(0, .ref (ad 0)), (1, .int (iI v)), (2, .int (iI 1)), (3, .int (iI pa)), (4, .int (iI pb)), (5, .int (iI xa)), (6, .int (iI xb)), (7, .int (iI mu)), (8, .int (iI fe)), (9, .int (iI fv)), (10, .int (iI yi))]) : W p l e (zRm 11 6 36 211) s m args below meth c s.heap [] 0 0 (MQ below (zQ1 D (wldW ad cy σ ur) (fun (r : Int32) (u : Int × zSt × (Nat → Int)) => r = iI u.1 ∧ (R_path σ pa pb fv mu fe fe u.1 u.2.1)) (fun (u : Int × zSt × (Nat → Int)) => wldW ad cy u.2.1 u.2.2)) args s 6 36 (zIn (wldW ad cy σ ur))) (F0 m 827 ls []) := by
  obtain ⟨h_h, h_su, h_st, h_sh, h_fl, h_sn, h_bn, h_cm, h_em, h_ep, h_fr, g_cS, g_cH, g_sea, g_noi, g_pl, g_pw, g_an, g_hd, g_bp, g_bw, g_ban, g_bhd, g_c1, g_c2, g_c3, g_c4, g_c5, g_e1, g_e2, g_e3, g_e4, g_e5, hbo, hpr⟩ := hI
  have hP : va_P D vwCl ((rooW ad 0 cy (s_fm σ) (s_fr σ)) ++ ((airW ad 1 cy (s_h σ) (s_su σ) (s_st σ) (s_sh σ) (s_fl σ) (s_cS σ) (s_cH σ) (dnD (s_h σ) (s_fl σ)) (dnE (s_h σ) (s_cS σ)) (dnF (s_h σ) (s_su σ) (s_st σ))) ++ ((airW ad 8 cy (s_h σ) (s_su σ) 0 0 0 (fun _ => 0) (fun _ => 0) (dnD (s_h σ) 0) (dnE (s_h σ) (fun _ => 0)) (dnF (s_h σ) (s_su σ) 0)) ++ ((grdW ad 15 cy (s_sea σ) (s_noi σ)) ++ ((rayW ad 18 cy (ur 0) (ur 1) (ur 2) (ur 3) (ur 4) (ur 5) (ur 6) (ur 7)) ++ ((sndW ad 19 cy 12 (s_sn σ) (s_pl σ) (s_pw σ) (s_an σ) (s_hd σ) (s_fq σ)) ++ ((sndW ad 25 cy 6 (s_bn σ) (s_bp σ) (s_bw σ) (s_ban σ) (s_bhd σ) (s_bo σ)) ++ ((conW ad 31 cy (s_cm σ) (s_c1 σ) (s_c2 σ) (s_c3 σ) (s_c4 σ) (s_c5 σ)) ++ (entW ad 37 cy (s_em σ) (s_ep σ) (s_e1 σ) (s_e2 σ) (s_e3 σ) (s_e4 σ) (s_e5 σ)))))))))) s.heap := hP0.1
  have hD : va_D (zIn (wldW ad cy σ ur)) ((rooW ad 0 cy (s_fm σ) (s_fr σ)) ++ ((airW ad 1 cy (s_h σ) (s_su σ) (s_st σ) (s_sh σ) (s_fl σ) (s_cS σ) (s_cH σ) (dnD (s_h σ) (s_fl σ)) (dnE (s_h σ) (s_cS σ)) (dnF (s_h σ) (s_su σ) (s_st σ))) ++ ((airW ad 8 cy (s_h σ) (s_su σ) 0 0 0 (fun _ => 0) (fun _ => 0) (dnD (s_h σ) 0) (dnE (s_h σ) (fun _ => 0)) (dnF (s_h σ) (s_su σ) 0)) ++ ((grdW ad 15 cy (s_sea σ) (s_noi σ)) ++ ((rayW ad 18 cy (ur 0) (ur 1) (ur 2) (ur 3) (ur 4) (ur 5) (ur 6) (ur 7)) ++ ((sndW ad 19 cy 12 (s_sn σ) (s_pl σ) (s_pw σ) (s_an σ) (s_hd σ) (s_fq σ)) ++ ((sndW ad 25 cy 6 (s_bn σ) (s_bp σ) (s_bw σ) (s_ban σ) (s_bhd σ) (s_bo σ)) ++ ((conW ad 31 cy (s_cm σ) (s_c1 σ) (s_c2 σ) (s_c3 σ) (s_c4 σ) (s_c5 σ)) ++ (entW ad 37 cy (s_em σ) (s_ep σ) (s_e1 σ) (s_e2 σ) (s_e3 σ) (s_e4 σ) (s_e5 σ)))))))))) := hP0.self
  have hAz := hP0.A
  have hS : va_S (zIn (wldW ad cy σ ur)) s.heap s.heap [] := va_S.rf
  refine lv_aload_n M.1 M.2.1 dL_act_827 rfl (lv_at hl 0 rfl) ?_
  refine lv_iload_n M.1 M.2.1 dL_act_828 rfl (lv_at hl 3 rfl) ?_
  refine lv_iload M.1 M.2.1 dL_act_829 (lv_at hl 4 rfl) ?_
  refine lv_iload M.1 M.2.1 dL_act_831 (lv_at hl 9 rfl) ?_
  refine lv_iload_n M.1 M.2.1 dL_act_833 rfl (lv_at hl 2 rfl) ?_
  refine zi_if_eq (tgt := 842) M dL_act_834 (by decide) ⟨by decide, by decide⟩ (fun q => absurd q (by decide)) (fun _ => ?_)
  refine lv_iload M.1 M.2.1 dL_act_837 (lv_at hl 7 rfl) ?_
  refine zi_goto (tgt := 847) M dL_act_839 (by decide) ?_
  refine lv_iload_n M.1 M.2.1 dL_act_847 rfl (lv_at hl 2 rfl) ?_
  refine zi_if_eq (tgt := 856) M dL_act_848 (by decide) ⟨by decide, by decide⟩ (fun q => absurd q (by decide)) (fun _ => ?_)
  refine lv_iload M.1 M.2.1 dL_act_851 (lv_at hl 8 rfl) ?_
  refine zi_goto (tgt := 857) M dL_act_853 (by decide) ?_
  refine lv_iload_n M.1 M.2.1 dL_act_857 rfl (lv_at hl 2 rfl) ?_
  refine zi_if_eq (tgt := 866) M dL_act_858 (by decide) ⟨by decide, by decide⟩ (fun q => absurd q (by decide)) (fun _ => ?_)
  refine lv_iload M.1 M.2.1 dL_act_861 (lv_at hl 8 rfl) ?_
  refine zi_goto (tgt := 875) M dL_act_863 (by decide) ?_
  refine z_cW (zx_runH (As := [.ref (ad 0), .int (iI pa), .int (iI pb), .int (iI fv), .int (iI mu), .int (iI fe), .int (iI fe)]) (rest := []) M (c_L_path l hst D cy z0 ad (s_fm σ) (s_fr σ) (s_h σ) (s_su σ) (s_st σ) (s_sh σ) (s_fl σ) (ur 0) (ur 1) (ur 2) (ur 3) (ur 4) (ur 5) (ur 6) (ur 7) (s_cS σ) (s_cH σ) (dnD (s_h σ) (s_fl σ)) (dnE (s_h σ) (s_cS σ)) (dnF (s_h σ) (s_su σ) (s_st σ)) (s_sea σ) (s_noi σ) pa pb fv mu fe fe (by omega) (by omega) (by omega) (by omega) (by omega) (by omega) (dnD_rg h_fl) (dnE_rg g_cS) (dnF_rg h_su h_st) g_sea) hE hN hS hAz (z_cut hP hD hAz [0, 1, 2, 3, 4, 5, 6, 7, 15, 16, 17, 18] rfl (by decide +kernel)) zk_cw_L_path zk_in_RL zk_st_L_path zk_ml_RL_148 rfl rfl zd_L_path ⟨by decide, by decide⟩ rfl hl.1 rfl (Nat.le_of_ble_eq_true rfl) dL_act_875 ⟨by decide, by decide⟩) hP hD hS [0, 1, 2, 3, 4, 5, 6, 7, 15, 16, 17, 18] rfl (fun _ => rfl) (fun r_1 u_1 H locs hp_1 hP hD hS => ?_)
  have hP : va_P D vwCl ((rooW ad 0 cy (s_fm σ) (s_fr σ)) ++ ((airW ad 1 cy (s_h σ) (s_su σ) (s_st σ) (s_sh σ) (s_fl σ) (s_cS σ) (s_cH σ) (dnD (s_h σ) (s_fl σ)) (dnE (s_h σ) (s_cS σ)) (dnF (s_h σ) (s_su σ) (s_st σ))) ++ ((airW ad 8 cy (s_h σ) (s_su σ) 0 0 0 (fun _ => 0) (fun _ => 0) (dnD (s_h σ) 0) (dnE (s_h σ) (fun _ => 0)) (dnF (s_h σ) (s_su σ) 0)) ++ ((grdW ad 15 cy (s_sea σ) (s_noi σ)) ++ ((rayW ad 18 cy (u_1.2.2 0) (u_1.2.2 1) (u_1.2.2 2) (u_1.2.2 3) (u_1.2.2 4) (u_1.2.2 5) (u_1.2.2 6) (u_1.2.2 7)) ++ ((sndW ad 19 cy 12 (s_sn σ) (s_pl σ) (s_pw σ) (s_an σ) (s_hd σ) (s_fq σ)) ++ ((sndW ad 25 cy 6 (s_bn σ) (s_bp σ) (s_bw σ) (s_ban σ) (s_bhd σ) (s_bo σ)) ++ ((conW ad 31 cy (s_cm σ) (s_c1 σ) (s_c2 σ) (s_c3 σ) (s_c4 σ) (s_c5 σ)) ++ (entW ad 37 cy (s_em σ) (s_ep σ) (s_e1 σ) (s_e2 σ) (s_e3 σ) (s_e4 σ) (s_e5 σ)))))))))) H := hP
  have hD : va_D (zIn (wldW ad cy σ ur)) ((rooW ad 0 cy (s_fm σ) (s_fr σ)) ++ ((airW ad 1 cy (s_h σ) (s_su σ) (s_st σ) (s_sh σ) (s_fl σ) (s_cS σ) (s_cH σ) (dnD (s_h σ) (s_fl σ)) (dnE (s_h σ) (s_cS σ)) (dnF (s_h σ) (s_su σ) (s_st σ))) ++ ((airW ad 8 cy (s_h σ) (s_su σ) 0 0 0 (fun _ => 0) (fun _ => 0) (dnD (s_h σ) 0) (dnE (s_h σ) (fun _ => 0)) (dnF (s_h σ) (s_su σ) 0)) ++ ((grdW ad 15 cy (s_sea σ) (s_noi σ)) ++ ((rayW ad 18 cy (u_1.2.2 0) (u_1.2.2 1) (u_1.2.2 2) (u_1.2.2 3) (u_1.2.2 4) (u_1.2.2 5) (u_1.2.2 6) (u_1.2.2 7)) ++ ((sndW ad 19 cy 12 (s_sn σ) (s_pl σ) (s_pw σ) (s_an σ) (s_hd σ) (s_fq σ)) ++ ((sndW ad 25 cy 6 (s_bn σ) (s_bp σ) (s_bw σ) (s_ban σ) (s_bhd σ) (s_bo σ)) ++ ((conW ad 31 cy (s_cm σ) (s_c1 σ) (s_c2 σ) (s_c3 σ) (s_c4 σ) (s_c5 σ)) ++ (entW ad 37 cy (s_em σ) (s_ep σ) (s_e1 σ) (s_e2 σ) (s_e3 σ) (s_e4 σ) (s_e5 σ)))))))))) := hD
  obtain ⟨rfl, hq_1⟩ := hp_1
  obtain ⟨a_1, b_1, g_1⟩ := u_1
  rcases hq_1 with ⟨ha, hN9, hV9⟩ | ⟨ha, hB9, hV9⟩
  ·
    have ha : a_1 = 0 := ha
    subst ha
    have hP : va_P D vwCl (wldW ad cy σ g_1) H := hP
    exact zw_i M hr hlk ((b_1 : Int), σ, g_1) hP hS ⟨rfl, Or.inl ⟨hN9, hV9, rfl⟩⟩ (by decide) (by decide) dL_act_878
  ·
    have ha : a_1 = 1 := ha
    subst ha
    have hP : va_P D vwCl (wldW ad cy σ g_1) H := hP
    exact zw_i M hr hlk ((b_1 : Int), σ, g_1) hP hS ⟨rfl, Or.inr ⟨hB9, hV9, rfl⟩⟩ (by decide) (by decide) dL_act_878

set_option maxRecDepth 100000 in
set_option maxHeartbeats 8000000 in
theorem la_827_0 (l : Launch) (hst : l.stackTraces = false) (D : va_G) (cy : Nat → ClassId) (z0 : Nat) (ad : Nat → Nat) (σ : zSt) (ur : Nat → Int) (v pa pb xa xb mu fe fv yi : Int) (r_v : r32 v) (r_pa : r32 pa) (r_pb : r32 pb) (r_xa : r32 xa) (r_xb : r32 xb) (r_mu : r32 mu) (r_fe : r32 fe) (r_fv : r32 fv) (h_yi : 0 ≤ yi ∧ yi ≤ 1) (hI : zInv σ) (p : Program) (e : Env) (s : State) (m : MethodId) (args : Array Value) (below : List Frame) (meth : Method) (c : Code) (M : zM p s m args c cL_act RL 11) (hr : meth.sig.returnType = some .int) (hlk : meth.locks = false) (hE : zE D cy z0 s) (hN : zNc s) (hP0 : zWl D z0 (wldW ad cy σ ur) s.heap) (ls : Array Slot) (h_mu : 0 ≤ mu ∧ mu < 60) (hl : lv_has ls 11 [(0, .ref (ad 0)), (1, .int (iI v)), (2, .int (iI 0)), (3, .int (iI pa)), (4, .int (iI pb)), (5, .int (iI xa)), (6, .int (iI xb)), (7, .int (iI mu)), (8, .int (iI fe)), (9, .int (iI fv)), (10, .int (iI yi))]) : W p l e (zRm 11 6 36 211) s m args below meth c s.heap [] 0 0 (MQ below (zQ1 D (wldW ad cy σ ur) (fun (r : Int32) (u : Int × zSt × (Nat → Int)) => r = iI u.1 ∧ (R_path σ pa pb fv (20 + mu) 0 (loZ (shZ v 9) 6) u.1 u.2.1)) (fun (u : Int × zSt × (Nat → Int)) => wldW ad cy u.2.1 u.2.2)) args s 6 36 (zIn (wldW ad cy σ ur))) (F0 m 827 ls []) := by
  obtain ⟨h_h, h_su, h_st, h_sh, h_fl, h_sn, h_bn, h_cm, h_em, h_ep, h_fr, g_cS, g_cH, g_sea, g_noi, g_pl, g_pw, g_an, g_hd, g_bp, g_bw, g_ban, g_bhd, g_c1, g_c2, g_c3, g_c4, g_c5, g_e1, g_e2, g_e3, g_e4, g_e5, hbo, hpr⟩ := hI
  have hP : va_P D vwCl ((rooW ad 0 cy (s_fm σ) (s_fr σ)) ++ ((airW ad 1 cy (s_h σ) (s_su σ) (s_st σ) (s_sh σ) (s_fl σ) (s_cS σ) (s_cH σ) (dnD (s_h σ) (s_fl σ)) (dnE (s_h σ) (s_cS σ)) (dnF (s_h σ) (s_su σ) (s_st σ))) ++ ((airW ad 8 cy (s_h σ) (s_su σ) 0 0 0 (fun _ => 0) (fun _ => 0) (dnD (s_h σ) 0) (dnE (s_h σ) (fun _ => 0)) (dnF (s_h σ) (s_su σ) 0)) ++ ((grdW ad 15 cy (s_sea σ) (s_noi σ)) ++ ((rayW ad 18 cy (ur 0) (ur 1) (ur 2) (ur 3) (ur 4) (ur 5) (ur 6) (ur 7)) ++ ((sndW ad 19 cy 12 (s_sn σ) (s_pl σ) (s_pw σ) (s_an σ) (s_hd σ) (s_fq σ)) ++ ((sndW ad 25 cy 6 (s_bn σ) (s_bp σ) (s_bw σ) (s_ban σ) (s_bhd σ) (s_bo σ)) ++ ((conW ad 31 cy (s_cm σ) (s_c1 σ) (s_c2 σ) (s_c3 σ) (s_c4 σ) (s_c5 σ)) ++ (entW ad 37 cy (s_em σ) (s_ep σ) (s_e1 σ) (s_e2 σ) (s_e3 σ) (s_e4 σ) (s_e5 σ)))))))))) s.heap := hP0.1
  have hD : va_D (zIn (wldW ad cy σ ur)) ((rooW ad 0 cy (s_fm σ) (s_fr σ)) ++ ((airW ad 1 cy (s_h σ) (s_su σ) (s_st σ) (s_sh σ) (s_fl σ) (s_cS σ) (s_cH σ) (dnD (s_h σ) (s_fl σ)) (dnE (s_h σ) (s_cS σ)) (dnF (s_h σ) (s_su σ) (s_st σ))) ++ ((airW ad 8 cy (s_h σ) (s_su σ) 0 0 0 (fun _ => 0) (fun _ => 0) (dnD (s_h σ) 0) (dnE (s_h σ) (fun _ => 0)) (dnF (s_h σ) (s_su σ) 0)) ++ ((grdW ad 15 cy (s_sea σ) (s_noi σ)) ++ ((rayW ad 18 cy (ur 0) (ur 1) (ur 2) (ur 3) (ur 4) (ur 5) (ur 6) (ur 7)) ++ ((sndW ad 19 cy 12 (s_sn σ) (s_pl σ) (s_pw σ) (s_an σ) (s_hd σ) (s_fq σ)) ++ ((sndW ad 25 cy 6 (s_bn σ) (s_bp σ) (s_bw σ) (s_ban σ) (s_bhd σ) (s_bo σ)) ++ ((conW ad 31 cy (s_cm σ) (s_c1 σ) (s_c2 σ) (s_c3 σ) (s_c4 σ) (s_c5 σ)) ++ (entW ad 37 cy (s_em σ) (s_ep σ) (s_e1 σ) (s_e2 σ) (s_e3 σ) (s_e4 σ) (s_e5 σ)))))))))) := hP0.self
  have hAz := hP0.A
  have hS : va_S (zIn (wldW ad cy σ ur)) s.heap s.heap [] := va_S.rf
  refine lv_aload_n M.1 M.2.1 dL_act_827 rfl (lv_at hl 0 rfl) ?_
  refine lv_iload_n M.1 M.2.1 dL_act_828 rfl (lv_at hl 3 rfl) ?_
  refine lv_iload M.1 M.2.1 dL_act_829 (lv_at hl 4 rfl) ?_
  refine lv_iload M.1 M.2.1 dL_act_831 (lv_at hl 9 rfl) ?_
  refine lv_iload_n M.1 M.2.1 dL_act_833 rfl (lv_at hl 2 rfl) ?_
  refine zi_if_eq (tgt := 842) M dL_act_834 (by decide) ⟨by decide, by decide⟩ (fun _ => ?_) (fun q => absurd q (by decide))
  refine zi_bipush M dL_act_842 ⟨by decide, by decide⟩ ?_
  refine lv_iload M.1 M.2.1 dL_act_844 (lv_at hl 7 rfl) ?_
  refine zi_iadd M dL_act_846 ?_
  refine lv_iload_n M.1 M.2.1 dL_act_847 rfl (lv_at hl 2 rfl) ?_
  refine zi_if_eq (tgt := 856) M dL_act_848 (by decide) ⟨by decide, by decide⟩ (fun _ => ?_) (fun q => absurd q (by decide))
  refine zi_push M dL_act_856 ?_
  refine lv_iload_n M.1 M.2.1 dL_act_857 rfl (lv_at hl 2 rfl) ?_
  refine zi_if_eq (tgt := 866) M dL_act_858 (by decide) ⟨by decide, by decide⟩ (fun _ => ?_) (fun q => absurd q (by decide))
  refine lv_iload_n M.1 M.2.1 dL_act_866 rfl (lv_at hl 1 rfl) ?_
  refine zi_bipush M dL_act_867 ⟨by decide, by decide⟩ ?_
  refine zi_ishr M dL_act_869 ?_
  refine zi_bipush M dL_act_870 ⟨by decide, by decide⟩ ?_
  refine z_cR (z_runS (As := [.int (iI (shZ v 9)), .int (iI 6)]) (rest := [.int (iI 0), .int (iI (20 + mu)), .int (iI fv), .int (iI pb), .int (iI pa), .ref (ad 0)]) M (c_L_low l D cy z0 (shZ v 9) 6 (by omega)) hE hS hAz trivial zk_cd_L_low zk_in_RL zk_st_L_low zk_ml_RL_105 rfl rfl zd_L_low ⟨by decide, by decide⟩ rfl hl.1 rfl (Nat.le_of_ble_eq_true rfl) dL_act_872 ⟨by decide, by decide⟩) ?_
  have hx_1 := loZ_rg2 ((shZ v 9)) (6) (by omega)
  refine z_cW (zx_runH (As := [.ref (ad 0), .int (iI pa), .int (iI pb), .int (iI fv), .int (iI (20 + mu)), .int (iI 0), .int (iI (loZ (shZ v 9) 6))]) (rest := []) M (c_L_path l hst D cy z0 ad (s_fm σ) (s_fr σ) (s_h σ) (s_su σ) (s_st σ) (s_sh σ) (s_fl σ) (ur 0) (ur 1) (ur 2) (ur 3) (ur 4) (ur 5) (ur 6) (ur 7) (s_cS σ) (s_cH σ) (dnD (s_h σ) (s_fl σ)) (dnE (s_h σ) (s_cS σ)) (dnF (s_h σ) (s_su σ) (s_st σ)) (s_sea σ) (s_noi σ) pa pb fv (20 + mu) 0 (loZ (shZ v 9) 6) (by omega) (by omega) (by omega) (by omega) (by omega) (by omega) (dnD_rg h_fl) (dnE_rg g_cS) (dnF_rg h_su h_st) g_sea) hE hN hS hAz (z_cut hP hD hAz [0, 1, 2, 3, 4, 5, 6, 7, 15, 16, 17, 18] rfl (by decide +kernel)) zk_cw_L_path zk_in_RL zk_st_L_path zk_ml_RL_148 rfl rfl zd_L_path ⟨by decide, by decide⟩ rfl hl.1 rfl (Nat.le_of_ble_eq_true rfl) dL_act_875 ⟨by decide, by decide⟩) hP hD hS [0, 1, 2, 3, 4, 5, 6, 7, 15, 16, 17, 18] rfl (fun _ => rfl) (fun r_2 u_2 H locs hp_2 hP hD hS => ?_)
  have hP : va_P D vwCl ((rooW ad 0 cy (s_fm σ) (s_fr σ)) ++ ((airW ad 1 cy (s_h σ) (s_su σ) (s_st σ) (s_sh σ) (s_fl σ) (s_cS σ) (s_cH σ) (dnD (s_h σ) (s_fl σ)) (dnE (s_h σ) (s_cS σ)) (dnF (s_h σ) (s_su σ) (s_st σ))) ++ ((airW ad 8 cy (s_h σ) (s_su σ) 0 0 0 (fun _ => 0) (fun _ => 0) (dnD (s_h σ) 0) (dnE (s_h σ) (fun _ => 0)) (dnF (s_h σ) (s_su σ) 0)) ++ ((grdW ad 15 cy (s_sea σ) (s_noi σ)) ++ ((rayW ad 18 cy (u_2.2.2 0) (u_2.2.2 1) (u_2.2.2 2) (u_2.2.2 3) (u_2.2.2 4) (u_2.2.2 5) (u_2.2.2 6) (u_2.2.2 7)) ++ ((sndW ad 19 cy 12 (s_sn σ) (s_pl σ) (s_pw σ) (s_an σ) (s_hd σ) (s_fq σ)) ++ ((sndW ad 25 cy 6 (s_bn σ) (s_bp σ) (s_bw σ) (s_ban σ) (s_bhd σ) (s_bo σ)) ++ ((conW ad 31 cy (s_cm σ) (s_c1 σ) (s_c2 σ) (s_c3 σ) (s_c4 σ) (s_c5 σ)) ++ (entW ad 37 cy (s_em σ) (s_ep σ) (s_e1 σ) (s_e2 σ) (s_e3 σ) (s_e4 σ) (s_e5 σ)))))))))) H := hP
  have hD : va_D (zIn (wldW ad cy σ ur)) ((rooW ad 0 cy (s_fm σ) (s_fr σ)) ++ ((airW ad 1 cy (s_h σ) (s_su σ) (s_st σ) (s_sh σ) (s_fl σ) (s_cS σ) (s_cH σ) (dnD (s_h σ) (s_fl σ)) (dnE (s_h σ) (s_cS σ)) (dnF (s_h σ) (s_su σ) (s_st σ))) ++ ((airW ad 8 cy (s_h σ) (s_su σ) 0 0 0 (fun _ => 0) (fun _ => 0) (dnD (s_h σ) 0) (dnE (s_h σ) (fun _ => 0)) (dnF (s_h σ) (s_su σ) 0)) ++ ((grdW ad 15 cy (s_sea σ) (s_noi σ)) ++ ((rayW ad 18 cy (u_2.2.2 0) (u_2.2.2 1) (u_2.2.2 2) (u_2.2.2 3) (u_2.2.2 4) (u_2.2.2 5) (u_2.2.2 6) (u_2.2.2 7)) ++ ((sndW ad 19 cy 12 (s_sn σ) (s_pl σ) (s_pw σ) (s_an σ) (s_hd σ) (s_fq σ)) ++ ((sndW ad 25 cy 6 (s_bn σ) (s_bp σ) (s_bw σ) (s_ban σ) (s_bhd σ) (s_bo σ)) ++ ((conW ad 31 cy (s_cm σ) (s_c1 σ) (s_c2 σ) (s_c3 σ) (s_c4 σ) (s_c5 σ)) ++ (entW ad 37 cy (s_em σ) (s_ep σ) (s_e1 σ) (s_e2 σ) (s_e3 σ) (s_e4 σ) (s_e5 σ)))))))))) := hD
  obtain ⟨rfl, hq_2⟩ := hp_2
  obtain ⟨a_2, b_2, g_2⟩ := u_2
  rcases hq_2 with ⟨ha, hN9, hV9⟩ | ⟨ha, hB9, hV9⟩
  ·
    have ha : a_2 = 0 := ha
    subst ha
    have hP : va_P D vwCl (wldW ad cy σ g_2) H := hP
    exact zw_i M hr hlk ((b_2 : Int), σ, g_2) hP hS ⟨rfl, Or.inl ⟨hN9, hV9, rfl⟩⟩ (by decide) (by decide) dL_act_878
  ·
    have ha : a_2 = 1 := ha
    subst ha
    have hP : va_P D vwCl (wldW ad cy σ g_2) H := hP
    exact zw_i M hr hlk ((b_2 : Int), σ, g_2) hP hS ⟨rfl, Or.inr ⟨hB9, hV9, rfl⟩⟩ (by decide) (by decide) dL_act_878

set_option maxRecDepth 100000 in
set_option maxHeartbeats 8000000 in
theorem la_879_1 (l : Launch) (hst : l.stackTraces = false) (D : va_G) (cy : Nat → ClassId) (z0 : Nat) (ad : Nat → Nat) (σ : zSt) (ur : Nat → Int) (v pa pb xa xb mu fe fv yi : Int) (r_v : r32 v) (r_pa : r32 pa) (r_pb : r32 pb) (r_xa : r32 xa) (r_xb : r32 xb) (r_mu : r32 mu) (r_fe : r32 fe) (r_fv : r32 fv) (h_yi : 0 ≤ yi ∧ yi ≤ 1) (hI : zInv σ) (p : Program) (e : Env) (s : State) (m : MethodId) (args : Array Value) (below : List Frame) (meth : Method) (c : Code) (M : zM p s m args c cL_act RL 11) (hr : meth.sig.returnType = some .int) (hlk : meth.locks = false) (hE : zE D cy z0 s) (hN : zNc s) (hP0 : zWl D z0 (wldW ad cy σ ur) s.heap) (ls : Array Slot) (hl : lv_has ls 11 [(0, .ref (ad 0)), (1, .int (iI v)), (2, .int (iI 1)), (3, .int (iI pa)), (4, .int (iI pb)), (5, .int (iI xa)), (6, .int (iI xb)), (7, .int (iI mu)), (8, .int (iI fe)), (9, .int (iI fv)), (10, .int (iI yi))]) : W p l e (zRm 11 6 36 211) s m args below meth c s.heap [] 0 0 (MQ below (zQ1 D (wldW ad cy σ ur) (fun (r : Int32) (u : Int × zSt × (Nat → Int)) => r = iI u.1 ∧ (R_explain σ pa pb fv fe v u.1 u.2.1)) (fun (u : Int × zSt × (Nat → Int)) => wldW ad cy u.2.1 u.2.2)) args s 6 36 (zIn (wldW ad cy σ ur))) (F0 m 879 ls []) := by
  obtain ⟨h_h, h_su, h_st, h_sh, h_fl, h_sn, h_bn, h_cm, h_em, h_ep, h_fr, g_cS, g_cH, g_sea, g_noi, g_pl, g_pw, g_an, g_hd, g_bp, g_bw, g_ban, g_bhd, g_c1, g_c2, g_c3, g_c4, g_c5, g_e1, g_e2, g_e3, g_e4, g_e5, hbo, hpr⟩ := hI
  have hP : va_P D vwCl ((rooW ad 0 cy (s_fm σ) (s_fr σ)) ++ ((airW ad 1 cy (s_h σ) (s_su σ) (s_st σ) (s_sh σ) (s_fl σ) (s_cS σ) (s_cH σ) (dnD (s_h σ) (s_fl σ)) (dnE (s_h σ) (s_cS σ)) (dnF (s_h σ) (s_su σ) (s_st σ))) ++ ((airW ad 8 cy (s_h σ) (s_su σ) 0 0 0 (fun _ => 0) (fun _ => 0) (dnD (s_h σ) 0) (dnE (s_h σ) (fun _ => 0)) (dnF (s_h σ) (s_su σ) 0)) ++ ((grdW ad 15 cy (s_sea σ) (s_noi σ)) ++ ((rayW ad 18 cy (ur 0) (ur 1) (ur 2) (ur 3) (ur 4) (ur 5) (ur 6) (ur 7)) ++ ((sndW ad 19 cy 12 (s_sn σ) (s_pl σ) (s_pw σ) (s_an σ) (s_hd σ) (s_fq σ)) ++ ((sndW ad 25 cy 6 (s_bn σ) (s_bp σ) (s_bw σ) (s_ban σ) (s_bhd σ) (s_bo σ)) ++ ((conW ad 31 cy (s_cm σ) (s_c1 σ) (s_c2 σ) (s_c3 σ) (s_c4 σ) (s_c5 σ)) ++ (entW ad 37 cy (s_em σ) (s_ep σ) (s_e1 σ) (s_e2 σ) (s_e3 σ) (s_e4 σ) (s_e5 σ)))))))))) s.heap := hP0.1
  have hD : va_D (zIn (wldW ad cy σ ur)) ((rooW ad 0 cy (s_fm σ) (s_fr σ)) ++ ((airW ad 1 cy (s_h σ) (s_su σ) (s_st σ) (s_sh σ) (s_fl σ) (s_cS σ) (s_cH σ) (dnD (s_h σ) (s_fl σ)) (dnE (s_h σ) (s_cS σ)) (dnF (s_h σ) (s_su σ) (s_st σ))) ++ ((airW ad 8 cy (s_h σ) (s_su σ) 0 0 0 (fun _ => 0) (fun _ => 0) (dnD (s_h σ) 0) (dnE (s_h σ) (fun _ => 0)) (dnF (s_h σ) (s_su σ) 0)) ++ ((grdW ad 15 cy (s_sea σ) (s_noi σ)) ++ ((rayW ad 18 cy (ur 0) (ur 1) (ur 2) (ur 3) (ur 4) (ur 5) (ur 6) (ur 7)) ++ ((sndW ad 19 cy 12 (s_sn σ) (s_pl σ) (s_pw σ) (s_an σ) (s_hd σ) (s_fq σ)) ++ ((sndW ad 25 cy 6 (s_bn σ) (s_bp σ) (s_bw σ) (s_ban σ) (s_bhd σ) (s_bo σ)) ++ ((conW ad 31 cy (s_cm σ) (s_c1 σ) (s_c2 σ) (s_c3 σ) (s_c4 σ) (s_c5 σ)) ++ (entW ad 37 cy (s_em σ) (s_ep σ) (s_e1 σ) (s_e2 σ) (s_e3 σ) (s_e4 σ) (s_e5 σ)))))))))) := hP0.self
  have hAz := hP0.A
  have hS : va_S (zIn (wldW ad cy σ ur)) s.heap s.heap [] := va_S.rf
  refine lv_aload_n M.1 M.2.1 dL_act_879 rfl (lv_at hl 0 rfl) ?_
  refine lv_iload_n M.1 M.2.1 dL_act_880 rfl (lv_at hl 3 rfl) ?_
  refine lv_iload M.1 M.2.1 dL_act_881 (lv_at hl 4 rfl) ?_
  refine lv_iload M.1 M.2.1 dL_act_883 (lv_at hl 9 rfl) ?_
  refine lv_iload_n M.1 M.2.1 dL_act_885 rfl (lv_at hl 2 rfl) ?_
  refine zi_if_eq (tgt := 894) M dL_act_886 (by decide) ⟨by decide, by decide⟩ (fun q => absurd q (by decide)) (fun _ => ?_)
  refine lv_iload M.1 M.2.1 dL_act_889 (lv_at hl 8 rfl) ?_
  refine zi_goto (tgt := 896) M dL_act_891 (by decide) ?_
  refine lv_iload_n M.1 M.2.1 dL_act_896 rfl (lv_at hl 2 rfl) ?_
  refine zi_if_eq (tgt := 904) M dL_act_897 (by decide) ⟨by decide, by decide⟩ (fun q => absurd q (by decide)) (fun _ => ?_)
  refine lv_iload_n M.1 M.2.1 dL_act_900 rfl (lv_at hl 1 rfl) ?_
  refine zi_goto (tgt := 908) M dL_act_901 (by decide) ?_
  refine z_cW (zx_runH (As := [.ref (ad 0), .int (iI pa), .int (iI pb), .int (iI fv), .int (iI fe), .int (iI v)]) (rest := []) M (c_L_explain l hst D cy z0 ad (s_fm σ) (s_fr σ) (s_h σ) (s_su σ) (s_st σ) (s_sh σ) (s_fl σ) (ur 0) (ur 1) (ur 2) (ur 3) (ur 4) (ur 5) (ur 6) (ur 7) (s_cS σ) (s_cH σ) (dnD (s_h σ) (s_fl σ)) (dnE (s_h σ) (s_cS σ)) (dnF (s_h σ) (s_su σ) (s_st σ)) (s_sea σ) (s_noi σ) pa pb fv fe v (by omega) (by omega) (by omega) (by omega) (by omega) (dnD_rg h_fl) (dnE_rg g_cS) (dnF_rg h_su h_st) g_sea) hE hN hS hAz (z_cut hP hD hAz [0, 1, 2, 3, 4, 5, 6, 7, 15, 16, 17, 18] rfl (by decide +kernel)) zk_cw_L_explain zk_in_RL zk_st_L_explain zk_ml_RL_151 rfl rfl zd_L_explain ⟨by decide, by decide⟩ rfl hl.1 rfl (Nat.le_of_ble_eq_true rfl) dL_act_908 ⟨by decide, by decide⟩) hP hD hS [0, 1, 2, 3, 4, 5, 6, 7, 15, 16, 17, 18] rfl (fun _ => rfl) (fun r_1 u_1 H locs hp_1 hP hD hS => ?_)
  have hP : va_P D vwCl ((rooW ad 0 cy (s_fm σ) (s_fr σ)) ++ ((airW ad 1 cy (s_h σ) (s_su σ) (s_st σ) (s_sh σ) (s_fl σ) (s_cS σ) (s_cH σ) (dnD (s_h σ) (s_fl σ)) (dnE (s_h σ) (s_cS σ)) (dnF (s_h σ) (s_su σ) (s_st σ))) ++ ((airW ad 8 cy (s_h σ) (s_su σ) 0 0 0 (fun _ => 0) (fun _ => 0) (dnD (s_h σ) 0) (dnE (s_h σ) (fun _ => 0)) (dnF (s_h σ) (s_su σ) 0)) ++ ((grdW ad 15 cy (s_sea σ) (s_noi σ)) ++ ((rayW ad 18 cy (u_1.2.2 0) (u_1.2.2 1) (u_1.2.2 2) (u_1.2.2 3) (u_1.2.2 4) (u_1.2.2 5) (u_1.2.2 6) (u_1.2.2 7)) ++ ((sndW ad 19 cy 12 (s_sn σ) (s_pl σ) (s_pw σ) (s_an σ) (s_hd σ) (s_fq σ)) ++ ((sndW ad 25 cy 6 (s_bn σ) (s_bp σ) (s_bw σ) (s_ban σ) (s_bhd σ) (s_bo σ)) ++ ((conW ad 31 cy (s_cm σ) (s_c1 σ) (s_c2 σ) (s_c3 σ) (s_c4 σ) (s_c5 σ)) ++ (entW ad 37 cy (s_em σ) (s_ep σ) (s_e1 σ) (s_e2 σ) (s_e3 σ) (s_e4 σ) (s_e5 σ)))))))))) H := hP
  have hD : va_D (zIn (wldW ad cy σ ur)) ((rooW ad 0 cy (s_fm σ) (s_fr σ)) ++ ((airW ad 1 cy (s_h σ) (s_su σ) (s_st σ) (s_sh σ) (s_fl σ) (s_cS σ) (s_cH σ) (dnD (s_h σ) (s_fl σ)) (dnE (s_h σ) (s_cS σ)) (dnF (s_h σ) (s_su σ) (s_st σ))) ++ ((airW ad 8 cy (s_h σ) (s_su σ) 0 0 0 (fun _ => 0) (fun _ => 0) (dnD (s_h σ) 0) (dnE (s_h σ) (fun _ => 0)) (dnF (s_h σ) (s_su σ) 0)) ++ ((grdW ad 15 cy (s_sea σ) (s_noi σ)) ++ ((rayW ad 18 cy (u_1.2.2 0) (u_1.2.2 1) (u_1.2.2 2) (u_1.2.2 3) (u_1.2.2 4) (u_1.2.2 5) (u_1.2.2 6) (u_1.2.2 7)) ++ ((sndW ad 19 cy 12 (s_sn σ) (s_pl σ) (s_pw σ) (s_an σ) (s_hd σ) (s_fq σ)) ++ ((sndW ad 25 cy 6 (s_bn σ) (s_bp σ) (s_bw σ) (s_ban σ) (s_bhd σ) (s_bo σ)) ++ ((conW ad 31 cy (s_cm σ) (s_c1 σ) (s_c2 σ) (s_c3 σ) (s_c4 σ) (s_c5 σ)) ++ (entW ad 37 cy (s_em σ) (s_ep σ) (s_e1 σ) (s_e2 σ) (s_e3 σ) (s_e4 σ) (s_e5 σ)))))))))) := hD
  obtain ⟨rfl, hq_1⟩ := hp_1
  obtain ⟨a_1, b_1, g_1⟩ := u_1
  rcases hq_1 with ⟨ha, hN9, hV9⟩ | ⟨ha, hB9, hV9⟩
  ·
    have ha : a_1 = 0 := ha
    subst ha
    have hP : va_P D vwCl (wldW ad cy σ g_1) H := hP
    exact zw_i M hr hlk ((b_1 : Int), σ, g_1) hP hS ⟨rfl, Or.inl ⟨hN9, hV9, rfl⟩⟩ (by decide) (by decide) dL_act_911
  ·
    have ha : a_1 = 1 := ha
    subst ha
    have hP : va_P D vwCl (wldW ad cy σ g_1) H := hP
    exact zw_i M hr hlk ((b_1 : Int), σ, g_1) hP hS ⟨rfl, Or.inr ⟨hB9, hV9, rfl⟩⟩ (by decide) (by decide) dL_act_911

set_option maxRecDepth 100000 in
set_option maxHeartbeats 8000000 in
theorem la_879_0 (l : Launch) (hst : l.stackTraces = false) (D : va_G) (cy : Nat → ClassId) (z0 : Nat) (ad : Nat → Nat) (σ : zSt) (ur : Nat → Int) (v pa pb xa xb mu fe fv yi : Int) (r_v : r32 v) (r_pa : r32 pa) (r_pb : r32 pb) (r_xa : r32 xa) (r_xb : r32 xb) (r_mu : r32 mu) (r_fe : r32 fe) (r_fv : r32 fv) (h_yi : 0 ≤ yi ∧ yi ≤ 1) (hI : zInv σ) (p : Program) (e : Env) (s : State) (m : MethodId) (args : Array Value) (below : List Frame) (meth : Method) (c : Code) (M : zM p s m args c cL_act RL 11) (hr : meth.sig.returnType = some .int) (hlk : meth.locks = false) (hE : zE D cy z0 s) (hN : zNc s) (hP0 : zWl D z0 (wldW ad cy σ ur) s.heap) (ls : Array Slot) (h_mu : 0 ≤ mu ∧ mu < 60) (hl : lv_has ls 11 [(0, .ref (ad 0)), (1, .int (iI v)), (2, .int (iI 0)), (3, .int (iI pa)), (4, .int (iI pb)), (5, .int (iI xa)), (6, .int (iI xb)), (7, .int (iI mu)), (8, .int (iI fe)), (9, .int (iI fv)), (10, .int (iI yi))]) : W p l e (zRm 11 6 36 211) s m args below meth c s.heap [] 0 0 (MQ below (zQ1 D (wldW ad cy σ ur) (fun (r : Int32) (u : Int × zSt × (Nat → Int)) => r = iI u.1 ∧ (R_explain σ pa pb fv 60 (5 * mu) u.1 u.2.1)) (fun (u : Int × zSt × (Nat → Int)) => wldW ad cy u.2.1 u.2.2)) args s 6 36 (zIn (wldW ad cy σ ur))) (F0 m 879 ls []) := by
  obtain ⟨h_h, h_su, h_st, h_sh, h_fl, h_sn, h_bn, h_cm, h_em, h_ep, h_fr, g_cS, g_cH, g_sea, g_noi, g_pl, g_pw, g_an, g_hd, g_bp, g_bw, g_ban, g_bhd, g_c1, g_c2, g_c3, g_c4, g_c5, g_e1, g_e2, g_e3, g_e4, g_e5, hbo, hpr⟩ := hI
  have hP : va_P D vwCl ((rooW ad 0 cy (s_fm σ) (s_fr σ)) ++ ((airW ad 1 cy (s_h σ) (s_su σ) (s_st σ) (s_sh σ) (s_fl σ) (s_cS σ) (s_cH σ) (dnD (s_h σ) (s_fl σ)) (dnE (s_h σ) (s_cS σ)) (dnF (s_h σ) (s_su σ) (s_st σ))) ++ ((airW ad 8 cy (s_h σ) (s_su σ) 0 0 0 (fun _ => 0) (fun _ => 0) (dnD (s_h σ) 0) (dnE (s_h σ) (fun _ => 0)) (dnF (s_h σ) (s_su σ) 0)) ++ ((grdW ad 15 cy (s_sea σ) (s_noi σ)) ++ ((rayW ad 18 cy (ur 0) (ur 1) (ur 2) (ur 3) (ur 4) (ur 5) (ur 6) (ur 7)) ++ ((sndW ad 19 cy 12 (s_sn σ) (s_pl σ) (s_pw σ) (s_an σ) (s_hd σ) (s_fq σ)) ++ ((sndW ad 25 cy 6 (s_bn σ) (s_bp σ) (s_bw σ) (s_ban σ) (s_bhd σ) (s_bo σ)) ++ ((conW ad 31 cy (s_cm σ) (s_c1 σ) (s_c2 σ) (s_c3 σ) (s_c4 σ) (s_c5 σ)) ++ (entW ad 37 cy (s_em σ) (s_ep σ) (s_e1 σ) (s_e2 σ) (s_e3 σ) (s_e4 σ) (s_e5 σ)))))))))) s.heap := hP0.1
  have hD : va_D (zIn (wldW ad cy σ ur)) ((rooW ad 0 cy (s_fm σ) (s_fr σ)) ++ ((airW ad 1 cy (s_h σ) (s_su σ) (s_st σ) (s_sh σ) (s_fl σ) (s_cS σ) (s_cH σ) (dnD (s_h σ) (s_fl σ)) (dnE (s_h σ) (s_cS σ)) (dnF (s_h σ) (s_su σ) (s_st σ))) ++ ((airW ad 8 cy (s_h σ) (s_su σ) 0 0 0 (fun _ => 0) (fun _ => 0) (dnD (s_h σ) 0) (dnE (s_h σ) (fun _ => 0)) (dnF (s_h σ) (s_su σ) 0)) ++ ((grdW ad 15 cy (s_sea σ) (s_noi σ)) ++ ((rayW ad 18 cy (ur 0) (ur 1) (ur 2) (ur 3) (ur 4) (ur 5) (ur 6) (ur 7)) ++ ((sndW ad 19 cy 12 (s_sn σ) (s_pl σ) (s_pw σ) (s_an σ) (s_hd σ) (s_fq σ)) ++ ((sndW ad 25 cy 6 (s_bn σ) (s_bp σ) (s_bw σ) (s_ban σ) (s_bhd σ) (s_bo σ)) ++ ((conW ad 31 cy (s_cm σ) (s_c1 σ) (s_c2 σ) (s_c3 σ) (s_c4 σ) (s_c5 σ)) ++ (entW ad 37 cy (s_em σ) (s_ep σ) (s_e1 σ) (s_e2 σ) (s_e3 σ) (s_e4 σ) (s_e5 σ)))))))))) := hP0.self
  have hAz := hP0.A
  have hS : va_S (zIn (wldW ad cy σ ur)) s.heap s.heap [] := va_S.rf
  refine lv_aload_n M.1 M.2.1 dL_act_879 rfl (lv_at hl 0 rfl) ?_
  refine lv_iload_n M.1 M.2.1 dL_act_880 rfl (lv_at hl 3 rfl) ?_
  refine lv_iload M.1 M.2.1 dL_act_881 (lv_at hl 4 rfl) ?_
  refine lv_iload M.1 M.2.1 dL_act_883 (lv_at hl 9 rfl) ?_
  refine lv_iload_n M.1 M.2.1 dL_act_885 rfl (lv_at hl 2 rfl) ?_
  refine zi_if_eq (tgt := 894) M dL_act_886 (by decide) ⟨by decide, by decide⟩ (fun _ => ?_) (fun q => absurd q (by decide))
  refine zi_bipush M dL_act_894 ⟨by decide, by decide⟩ ?_
  refine lv_iload_n M.1 M.2.1 dL_act_896 rfl (lv_at hl 2 rfl) ?_
  refine zi_if_eq (tgt := 904) M dL_act_897 (by decide) ⟨by decide, by decide⟩ (fun _ => ?_) (fun q => absurd q (by decide))
  refine zi_push M dL_act_904 ?_
  refine lv_iload M.1 M.2.1 dL_act_905 (lv_at hl 7 rfl) ?_
  refine zi_imul M dL_act_907 ?_
  refine z_cW (zx_runH (As := [.ref (ad 0), .int (iI pa), .int (iI pb), .int (iI fv), .int (iI 60), .int (iI (5 * mu))]) (rest := []) M (c_L_explain l hst D cy z0 ad (s_fm σ) (s_fr σ) (s_h σ) (s_su σ) (s_st σ) (s_sh σ) (s_fl σ) (ur 0) (ur 1) (ur 2) (ur 3) (ur 4) (ur 5) (ur 6) (ur 7) (s_cS σ) (s_cH σ) (dnD (s_h σ) (s_fl σ)) (dnE (s_h σ) (s_cS σ)) (dnF (s_h σ) (s_su σ) (s_st σ)) (s_sea σ) (s_noi σ) pa pb fv 60 (5 * mu) (by omega) (by omega) (by omega) (by omega) (by omega) (dnD_rg h_fl) (dnE_rg g_cS) (dnF_rg h_su h_st) g_sea) hE hN hS hAz (z_cut hP hD hAz [0, 1, 2, 3, 4, 5, 6, 7, 15, 16, 17, 18] rfl (by decide +kernel)) zk_cw_L_explain zk_in_RL zk_st_L_explain zk_ml_RL_151 rfl rfl zd_L_explain ⟨by decide, by decide⟩ rfl hl.1 rfl (Nat.le_of_ble_eq_true rfl) dL_act_908 ⟨by decide, by decide⟩) hP hD hS [0, 1, 2, 3, 4, 5, 6, 7, 15, 16, 17, 18] rfl (fun _ => rfl) (fun r_1 u_1 H locs hp_1 hP hD hS => ?_)
  have hP : va_P D vwCl ((rooW ad 0 cy (s_fm σ) (s_fr σ)) ++ ((airW ad 1 cy (s_h σ) (s_su σ) (s_st σ) (s_sh σ) (s_fl σ) (s_cS σ) (s_cH σ) (dnD (s_h σ) (s_fl σ)) (dnE (s_h σ) (s_cS σ)) (dnF (s_h σ) (s_su σ) (s_st σ))) ++ ((airW ad 8 cy (s_h σ) (s_su σ) 0 0 0 (fun _ => 0) (fun _ => 0) (dnD (s_h σ) 0) (dnE (s_h σ) (fun _ => 0)) (dnF (s_h σ) (s_su σ) 0)) ++ ((grdW ad 15 cy (s_sea σ) (s_noi σ)) ++ ((rayW ad 18 cy (u_1.2.2 0) (u_1.2.2 1) (u_1.2.2 2) (u_1.2.2 3) (u_1.2.2 4) (u_1.2.2 5) (u_1.2.2 6) (u_1.2.2 7)) ++ ((sndW ad 19 cy 12 (s_sn σ) (s_pl σ) (s_pw σ) (s_an σ) (s_hd σ) (s_fq σ)) ++ ((sndW ad 25 cy 6 (s_bn σ) (s_bp σ) (s_bw σ) (s_ban σ) (s_bhd σ) (s_bo σ)) ++ ((conW ad 31 cy (s_cm σ) (s_c1 σ) (s_c2 σ) (s_c3 σ) (s_c4 σ) (s_c5 σ)) ++ (entW ad 37 cy (s_em σ) (s_ep σ) (s_e1 σ) (s_e2 σ) (s_e3 σ) (s_e4 σ) (s_e5 σ)))))))))) H := hP
  have hD : va_D (zIn (wldW ad cy σ ur)) ((rooW ad 0 cy (s_fm σ) (s_fr σ)) ++ ((airW ad 1 cy (s_h σ) (s_su σ) (s_st σ) (s_sh σ) (s_fl σ) (s_cS σ) (s_cH σ) (dnD (s_h σ) (s_fl σ)) (dnE (s_h σ) (s_cS σ)) (dnF (s_h σ) (s_su σ) (s_st σ))) ++ ((airW ad 8 cy (s_h σ) (s_su σ) 0 0 0 (fun _ => 0) (fun _ => 0) (dnD (s_h σ) 0) (dnE (s_h σ) (fun _ => 0)) (dnF (s_h σ) (s_su σ) 0)) ++ ((grdW ad 15 cy (s_sea σ) (s_noi σ)) ++ ((rayW ad 18 cy (u_1.2.2 0) (u_1.2.2 1) (u_1.2.2 2) (u_1.2.2 3) (u_1.2.2 4) (u_1.2.2 5) (u_1.2.2 6) (u_1.2.2 7)) ++ ((sndW ad 19 cy 12 (s_sn σ) (s_pl σ) (s_pw σ) (s_an σ) (s_hd σ) (s_fq σ)) ++ ((sndW ad 25 cy 6 (s_bn σ) (s_bp σ) (s_bw σ) (s_ban σ) (s_bhd σ) (s_bo σ)) ++ ((conW ad 31 cy (s_cm σ) (s_c1 σ) (s_c2 σ) (s_c3 σ) (s_c4 σ) (s_c5 σ)) ++ (entW ad 37 cy (s_em σ) (s_ep σ) (s_e1 σ) (s_e2 σ) (s_e3 σ) (s_e4 σ) (s_e5 σ)))))))))) := hD
  obtain ⟨rfl, hq_1⟩ := hp_1
  obtain ⟨a_1, b_1, g_1⟩ := u_1
  rcases hq_1 with ⟨ha, hN9, hV9⟩ | ⟨ha, hB9, hV9⟩
  ·
    have ha : a_1 = 0 := ha
    subst ha
    have hP : va_P D vwCl (wldW ad cy σ g_1) H := hP
    exact zw_i M hr hlk ((b_1 : Int), σ, g_1) hP hS ⟨rfl, Or.inl ⟨hN9, hV9, rfl⟩⟩ (by decide) (by decide) dL_act_911
  ·
    have ha : a_1 = 1 := ha
    subst ha
    have hP : va_P D vwCl (wldW ad cy σ g_1) H := hP
    exact zw_i M hr hlk ((b_1 : Int), σ, g_1) hP hS ⟨rfl, Or.inr ⟨hB9, hV9, rfl⟩⟩ (by decide) (by decide) dL_act_911

set_option maxRecDepth 100000 in
set_option maxHeartbeats 8000000 in
theorem la_912_1 (l : Launch) (hst : l.stackTraces = false) (D : va_G) (cy : Nat → ClassId) (z0 : Nat) (ad : Nat → Nat) (σ : zSt) (ur : Nat → Int) (v pa pb xa xb mu fe fv yi : Int) (r_v : r32 v) (r_pa : r32 pa) (r_pb : r32 pb) (r_xa : r32 xa) (r_xb : r32 xb) (r_mu : r32 mu) (r_fe : r32 fe) (r_fv : r32 fv) (h_yi : 0 ≤ yi ∧ yi ≤ 1) (hI : zInv σ) (p : Program) (e : Env) (s : State) (m : MethodId) (args : Array Value) (below : List Frame) (meth : Method) (c : Code) (M : zM p s m args c cL_act RL 11) (hr : meth.sig.returnType = some .int) (hlk : meth.locks = false) (hE : zE D cy z0 s) (hN : zNc s) (hP0 : zWl D z0 (wldW ad cy σ ur) s.heap) (ls : Array Slot) (hl : lv_has ls 11 [(0, .ref (ad 0)), (1, .int (iI v)), (2, .int (iI 1)), (3, .int (iI pa)), (4, .int (iI pb)), (5, .int (iI xa)), (6, .int (iI xb)), (7, .int (iI mu)), (8, .int (iI fe)), (9, .int (iI fv)), (10, .int (iI yi))]) : W p l e (zRm 11 6 36 211) s m args below meth c s.heap [] 0 0 (MQ below (zQ1 D (wldW ad cy σ ur) (fun (r : Int32) (u : Int × zSt × (Nat → Int)) => r = iI u.1 ∧ (if (loZ (shZ v 12) 5) = 0 then R_usable σ pa pb mu yi u.1 u.2.1 else R_skipped σ pa yi fv u.1 u.2.1)) (fun (u : Int × zSt × (Nat → Int)) => wldW ad cy u.2.1 u.2.2)) args s 6 36 (zIn (wldW ad cy σ ur))) (F0 m 912 ls []) := by
  obtain ⟨h_h, h_su, h_st, h_sh, h_fl, h_sn, h_bn, h_cm, h_em, h_ep, h_fr, g_cS, g_cH, g_sea, g_noi, g_pl, g_pw, g_an, g_hd, g_bp, g_bw, g_ban, g_bhd, g_c1, g_c2, g_c3, g_c4, g_c5, g_e1, g_e2, g_e3, g_e4, g_e5, hbo, hpr⟩ := hI
  have hP : va_P D vwCl ((rooW ad 0 cy (s_fm σ) (s_fr σ)) ++ ((airW ad 1 cy (s_h σ) (s_su σ) (s_st σ) (s_sh σ) (s_fl σ) (s_cS σ) (s_cH σ) (dnD (s_h σ) (s_fl σ)) (dnE (s_h σ) (s_cS σ)) (dnF (s_h σ) (s_su σ) (s_st σ))) ++ ((airW ad 8 cy (s_h σ) (s_su σ) 0 0 0 (fun _ => 0) (fun _ => 0) (dnD (s_h σ) 0) (dnE (s_h σ) (fun _ => 0)) (dnF (s_h σ) (s_su σ) 0)) ++ ((grdW ad 15 cy (s_sea σ) (s_noi σ)) ++ ((rayW ad 18 cy (ur 0) (ur 1) (ur 2) (ur 3) (ur 4) (ur 5) (ur 6) (ur 7)) ++ ((sndW ad 19 cy 12 (s_sn σ) (s_pl σ) (s_pw σ) (s_an σ) (s_hd σ) (s_fq σ)) ++ ((sndW ad 25 cy 6 (s_bn σ) (s_bp σ) (s_bw σ) (s_ban σ) (s_bhd σ) (s_bo σ)) ++ ((conW ad 31 cy (s_cm σ) (s_c1 σ) (s_c2 σ) (s_c3 σ) (s_c4 σ) (s_c5 σ)) ++ (entW ad 37 cy (s_em σ) (s_ep σ) (s_e1 σ) (s_e2 σ) (s_e3 σ) (s_e4 σ) (s_e5 σ)))))))))) s.heap := hP0.1
  have hD : va_D (zIn (wldW ad cy σ ur)) ((rooW ad 0 cy (s_fm σ) (s_fr σ)) ++ ((airW ad 1 cy (s_h σ) (s_su σ) (s_st σ) (s_sh σ) (s_fl σ) (s_cS σ) (s_cH σ) (dnD (s_h σ) (s_fl σ)) (dnE (s_h σ) (s_cS σ)) (dnF (s_h σ) (s_su σ) (s_st σ))) ++ ((airW ad 8 cy (s_h σ) (s_su σ) 0 0 0 (fun _ => 0) (fun _ => 0) (dnD (s_h σ) 0) (dnE (s_h σ) (fun _ => 0)) (dnF (s_h σ) (s_su σ) 0)) ++ ((grdW ad 15 cy (s_sea σ) (s_noi σ)) ++ ((rayW ad 18 cy (ur 0) (ur 1) (ur 2) (ur 3) (ur 4) (ur 5) (ur 6) (ur 7)) ++ ((sndW ad 19 cy 12 (s_sn σ) (s_pl σ) (s_pw σ) (s_an σ) (s_hd σ) (s_fq σ)) ++ ((sndW ad 25 cy 6 (s_bn σ) (s_bp σ) (s_bw σ) (s_ban σ) (s_bhd σ) (s_bo σ)) ++ ((conW ad 31 cy (s_cm σ) (s_c1 σ) (s_c2 σ) (s_c3 σ) (s_c4 σ) (s_c5 σ)) ++ (entW ad 37 cy (s_em σ) (s_ep σ) (s_e1 σ) (s_e2 σ) (s_e3 σ) (s_e4 σ) (s_e5 σ)))))))))) := hP0.self
  have hAz := hP0.A
  have hS : va_S (zIn (wldW ad cy σ ur)) s.heap s.heap [] := va_S.rf
  refine lv_iload_n M.1 M.2.1 dL_act_912 rfl (lv_at hl 1 rfl) ?_
  refine zi_bipush M dL_act_913 ⟨by decide, by decide⟩ ?_
  refine zi_ishr M dL_act_915 ?_
  refine zi_push M dL_act_916 ?_
  refine z_cR (z_runS (As := [.int (iI (shZ v 12)), .int (iI 5)]) (rest := []) M (c_L_low l D cy z0 (shZ v 12) 5 (by omega)) hE hS hAz trivial zk_cd_L_low zk_in_RL zk_st_L_low zk_ml_RL_105 rfl rfl zd_L_low ⟨by decide, by decide⟩ rfl hl.1 rfl (Nat.le_of_ble_eq_true rfl) dL_act_917 ⟨by decide, by decide⟩) ?_
  have hx_1 := loZ_rg2 ((shZ v 12)) (5) (by omega)
  refine zi_if_ne (tgt := 946) M dL_act_920 (by decide) (by omega) (fun c_2 => ?_) (fun c_2 => ?_)
  ·
    refine lv_aload_n M.1 M.2.1 dL_act_946 rfl (lv_at hl 0 rfl) ?_
    refine lv_iload_n M.1 M.2.1 dL_act_947 rfl (lv_at hl 3 rfl) ?_
    refine lv_iload M.1 M.2.1 dL_act_948 (lv_at hl 10 rfl) ?_
    refine lv_iload M.1 M.2.1 dL_act_950 (lv_at hl 9 rfl) ?_
    refine z_cW (zx_runH (As := [.ref (ad 0), .int (iI pa), .int (iI yi), .int (iI fv)]) (rest := []) M (c_L_skipped l hst D cy z0 ad (s_fm σ) (s_fr σ) (s_h σ) (s_su σ) (s_st σ) (s_sh σ) (s_fl σ) (s_cS σ) (s_cH σ) (dnD (s_h σ) (s_fl σ)) (dnE (s_h σ) (s_cS σ)) (dnF (s_h σ) (s_su σ) (s_st σ)) pa yi fv (by omega) (by omega) (by omega) (dnE_rg g_cS) (dnF_rg h_su h_st)) hE hN hS hAz (z_cut hP hD hAz [0, 1, 2, 3, 4, 5, 6, 7] rfl (by decide +kernel)) zk_cw_L_skipped zk_in_RL zk_st_L_skipped zk_ml_RL_157 rfl rfl zd_L_skipped ⟨by decide, by decide⟩ rfl hl.1 rfl (Nat.le_of_ble_eq_true rfl) dL_act_952 ⟨by decide, by decide⟩) hP hD hS [0, 1, 2, 3, 4, 5, 6, 7] rfl (fun _ => rfl) (fun r_3 u_3 H locs hp_3 hP hD hS => ?_)
    have hP : va_P D vwCl ((rooW ad 0 cy (s_fm σ) (s_fr σ)) ++ ((airW ad 1 cy (s_h σ) (s_su σ) (s_st σ) (s_sh σ) (s_fl σ) (s_cS σ) (s_cH σ) (dnD (s_h σ) (s_fl σ)) (dnE (s_h σ) (s_cS σ)) (dnF (s_h σ) (s_su σ) (s_st σ))) ++ ((airW ad 8 cy (s_h σ) (s_su σ) 0 0 0 (fun _ => 0) (fun _ => 0) (dnD (s_h σ) 0) (dnE (s_h σ) (fun _ => 0)) (dnF (s_h σ) (s_su σ) 0)) ++ ((grdW ad 15 cy (s_sea σ) (s_noi σ)) ++ ((rayW ad 18 cy (ur 0) (ur 1) (ur 2) (ur 3) (ur 4) (ur 5) (ur 6) (ur 7)) ++ ((sndW ad 19 cy 12 (s_sn σ) (s_pl σ) (s_pw σ) (s_an σ) (s_hd σ) (s_fq σ)) ++ ((sndW ad 25 cy 6 (s_bn σ) (s_bp σ) (s_bw σ) (s_ban σ) (s_bhd σ) (s_bo σ)) ++ ((conW ad 31 cy (s_cm σ) (s_c1 σ) (s_c2 σ) (s_c3 σ) (s_c4 σ) (s_c5 σ)) ++ (entW ad 37 cy (s_em σ) (s_ep σ) (s_e1 σ) (s_e2 σ) (s_e3 σ) (s_e4 σ) (s_e5 σ)))))))))) H := hP
    have hD : va_D (zIn (wldW ad cy σ ur)) ((rooW ad 0 cy (s_fm σ) (s_fr σ)) ++ ((airW ad 1 cy (s_h σ) (s_su σ) (s_st σ) (s_sh σ) (s_fl σ) (s_cS σ) (s_cH σ) (dnD (s_h σ) (s_fl σ)) (dnE (s_h σ) (s_cS σ)) (dnF (s_h σ) (s_su σ) (s_st σ))) ++ ((airW ad 8 cy (s_h σ) (s_su σ) 0 0 0 (fun _ => 0) (fun _ => 0) (dnD (s_h σ) 0) (dnE (s_h σ) (fun _ => 0)) (dnF (s_h σ) (s_su σ) 0)) ++ ((grdW ad 15 cy (s_sea σ) (s_noi σ)) ++ ((rayW ad 18 cy (ur 0) (ur 1) (ur 2) (ur 3) (ur 4) (ur 5) (ur 6) (ur 7)) ++ ((sndW ad 19 cy 12 (s_sn σ) (s_pl σ) (s_pw σ) (s_an σ) (s_hd σ) (s_fq σ)) ++ ((sndW ad 25 cy 6 (s_bn σ) (s_bp σ) (s_bw σ) (s_ban σ) (s_bhd σ) (s_bo σ)) ++ ((conW ad 31 cy (s_cm σ) (s_c1 σ) (s_c2 σ) (s_c3 σ) (s_c4 σ) (s_c5 σ)) ++ (entW ad 37 cy (s_em σ) (s_ep σ) (s_e1 σ) (s_e2 σ) (s_e3 σ) (s_e4 σ) (s_e5 σ)))))))))) := hD
    obtain ⟨rfl, hq_3⟩ := hp_3
    obtain ⟨a_3, b_3, g_3⟩ := u_3
    rcases hq_3 with ⟨ha, hN9, hV9⟩ | ⟨ha, hB9, hV9⟩
    ·
      have ha : a_3 = 0 := ha
      subst ha
      have hP : va_P D vwCl (wldW ad cy σ ur) H := hP
      exact zw_i M hr hlk ((b_3 : Int), σ, ur) hP hS ⟨rfl, (by rw [if_neg c_2]; exact Or.inl ⟨hN9, hV9, rfl⟩)⟩ (by decide) (by decide) dL_act_955
    ·
      have ha : a_3 = 1 := ha
      subst ha
      have hP : va_P D vwCl (wldW ad cy σ ur) H := hP
      exact zw_i M hr hlk ((b_3 : Int), σ, ur) hP hS ⟨rfl, (by rw [if_neg c_2]; exact Or.inr ⟨hB9, hV9, rfl⟩)⟩ (by decide) (by decide) dL_act_955
  ·
    refine lv_aload_n M.1 M.2.1 dL_act_923 rfl (lv_at hl 0 rfl) ?_
    refine lv_iload_n M.1 M.2.1 dL_act_924 rfl (lv_at hl 3 rfl) ?_
    refine lv_iload M.1 M.2.1 dL_act_925 (lv_at hl 4 rfl) ?_
    refine lv_iload_n M.1 M.2.1 dL_act_927 rfl (lv_at hl 2 rfl) ?_
    refine zi_if_eq (tgt := 936) M dL_act_928 (by decide) ⟨by decide, by decide⟩ (fun q => absurd q (by decide)) (fun _ => ?_)
    refine lv_iload M.1 M.2.1 dL_act_931 (lv_at hl 7 rfl) ?_
    refine zi_goto (tgt := 938) M dL_act_933 (by decide) ?_
    refine lv_iload M.1 M.2.1 dL_act_938 (lv_at hl 10 rfl) ?_
    refine z_cW (zx_runH (As := [.ref (ad 0), .int (iI pa), .int (iI pb), .int (iI mu), .int (iI yi)]) (rest := []) M (c_L_usable l hst D cy z0 ad (s_fm σ) (s_fr σ) (s_h σ) (s_su σ) (s_st σ) (s_sh σ) (s_fl σ) (ur 0) (ur 1) (ur 2) (ur 3) (ur 4) (ur 5) (ur 6) (ur 7) (s_cS σ) (s_cH σ) (dnD (s_h σ) (s_fl σ)) (dnE (s_h σ) (s_cS σ)) (dnF (s_h σ) (s_su σ) (s_st σ)) (s_sea σ) (s_noi σ) pa pb mu yi (by omega) (by omega) (by omega) (by omega) (dnD_rg h_fl) (dnE_rg g_cS) (dnF_rg h_su h_st) g_sea) hE hN hS hAz (z_cut hP hD hAz [0, 1, 2, 3, 4, 5, 6, 7, 15, 16, 17, 18] rfl (by decide +kernel)) zk_cw_L_usable zk_in_RL zk_st_L_usable zk_ml_RL_154 rfl rfl zd_L_usable ⟨by decide, by decide⟩ rfl hl.1 rfl (Nat.le_of_ble_eq_true rfl) dL_act_940 ⟨by decide, by decide⟩) hP hD hS [0, 1, 2, 3, 4, 5, 6, 7, 15, 16, 17, 18] rfl (fun _ => rfl) (fun r_4 u_4 H locs hp_4 hP hD hS => ?_)
    have hP : va_P D vwCl ((rooW ad 0 cy (s_fm σ) (s_fr σ)) ++ ((airW ad 1 cy (s_h σ) (s_su σ) (s_st σ) (s_sh σ) (s_fl σ) (s_cS σ) (s_cH σ) (dnD (s_h σ) (s_fl σ)) (dnE (s_h σ) (s_cS σ)) (dnF (s_h σ) (s_su σ) (s_st σ))) ++ ((airW ad 8 cy (s_h σ) (s_su σ) 0 0 0 (fun _ => 0) (fun _ => 0) (dnD (s_h σ) 0) (dnE (s_h σ) (fun _ => 0)) (dnF (s_h σ) (s_su σ) 0)) ++ ((grdW ad 15 cy (s_sea σ) (s_noi σ)) ++ ((rayW ad 18 cy (u_4.2.2 0) (u_4.2.2 1) (u_4.2.2 2) (u_4.2.2 3) (u_4.2.2 4) (u_4.2.2 5) (u_4.2.2 6) (u_4.2.2 7)) ++ ((sndW ad 19 cy 12 (s_sn σ) (s_pl σ) (s_pw σ) (s_an σ) (s_hd σ) (s_fq σ)) ++ ((sndW ad 25 cy 6 (s_bn σ) (s_bp σ) (s_bw σ) (s_ban σ) (s_bhd σ) (s_bo σ)) ++ ((conW ad 31 cy (s_cm σ) (s_c1 σ) (s_c2 σ) (s_c3 σ) (s_c4 σ) (s_c5 σ)) ++ (entW ad 37 cy (s_em σ) (s_ep σ) (s_e1 σ) (s_e2 σ) (s_e3 σ) (s_e4 σ) (s_e5 σ)))))))))) H := hP
    have hD : va_D (zIn (wldW ad cy σ ur)) ((rooW ad 0 cy (s_fm σ) (s_fr σ)) ++ ((airW ad 1 cy (s_h σ) (s_su σ) (s_st σ) (s_sh σ) (s_fl σ) (s_cS σ) (s_cH σ) (dnD (s_h σ) (s_fl σ)) (dnE (s_h σ) (s_cS σ)) (dnF (s_h σ) (s_su σ) (s_st σ))) ++ ((airW ad 8 cy (s_h σ) (s_su σ) 0 0 0 (fun _ => 0) (fun _ => 0) (dnD (s_h σ) 0) (dnE (s_h σ) (fun _ => 0)) (dnF (s_h σ) (s_su σ) 0)) ++ ((grdW ad 15 cy (s_sea σ) (s_noi σ)) ++ ((rayW ad 18 cy (u_4.2.2 0) (u_4.2.2 1) (u_4.2.2 2) (u_4.2.2 3) (u_4.2.2 4) (u_4.2.2 5) (u_4.2.2 6) (u_4.2.2 7)) ++ ((sndW ad 19 cy 12 (s_sn σ) (s_pl σ) (s_pw σ) (s_an σ) (s_hd σ) (s_fq σ)) ++ ((sndW ad 25 cy 6 (s_bn σ) (s_bp σ) (s_bw σ) (s_ban σ) (s_bhd σ) (s_bo σ)) ++ ((conW ad 31 cy (s_cm σ) (s_c1 σ) (s_c2 σ) (s_c3 σ) (s_c4 σ) (s_c5 σ)) ++ (entW ad 37 cy (s_em σ) (s_ep σ) (s_e1 σ) (s_e2 σ) (s_e3 σ) (s_e4 σ) (s_e5 σ)))))))))) := hD
    obtain ⟨rfl, hq_4⟩ := hp_4
    refine zi_goto (tgt := 955) M dL_act_943 (by decide) ?_
    obtain ⟨a_4, b_4, g_4⟩ := u_4
    rcases hq_4 with ⟨ha, hN9, hV9⟩ | ⟨ha, hB9, hV9⟩
    ·
      have ha : a_4 = 0 := ha
      subst ha
      have hP : va_P D vwCl (wldW ad cy σ g_4) H := hP
      exact zw_i M hr hlk ((b_4 : Int), σ, g_4) hP hS ⟨rfl, (by rw [if_pos c_2]; exact Or.inl ⟨hN9, hV9, rfl⟩)⟩ (by decide) (by decide) dL_act_955
    ·
      have ha : a_4 = 1 := ha
      subst ha
      have hP : va_P D vwCl (wldW ad cy σ g_4) H := hP
      exact zw_i M hr hlk ((b_4 : Int), σ, g_4) hP hS ⟨rfl, (by rw [if_pos c_2]; exact Or.inr ⟨hB9, hV9, rfl⟩)⟩ (by decide) (by decide) dL_act_955

set_option maxRecDepth 100000 in
set_option maxHeartbeats 8000000 in
theorem la_912_0 (l : Launch) (hst : l.stackTraces = false) (D : va_G) (cy : Nat → ClassId) (z0 : Nat) (ad : Nat → Nat) (σ : zSt) (ur : Nat → Int) (v pa pb xa xb mu fe fv yi : Int) (r_v : r32 v) (r_pa : r32 pa) (r_pb : r32 pb) (r_xa : r32 xa) (r_xb : r32 xb) (r_mu : r32 mu) (r_fe : r32 fe) (r_fv : r32 fv) (h_yi : 0 ≤ yi ∧ yi ≤ 1) (hI : zInv σ) (p : Program) (e : Env) (s : State) (m : MethodId) (args : Array Value) (below : List Frame) (meth : Method) (c : Code) (M : zM p s m args c cL_act RL 11) (hr : meth.sig.returnType = some .int) (hlk : meth.locks = false) (hE : zE D cy z0 s) (hN : zNc s) (hP0 : zWl D z0 (wldW ad cy σ ur) s.heap) (ls : Array Slot) (h_mu : 0 ≤ mu ∧ mu < 60) (hl : lv_has ls 11 [(0, .ref (ad 0)), (1, .int (iI v)), (2, .int (iI 0)), (3, .int (iI pa)), (4, .int (iI pb)), (5, .int (iI xa)), (6, .int (iI xb)), (7, .int (iI mu)), (8, .int (iI fe)), (9, .int (iI fv)), (10, .int (iI yi))]) : W p l e (zRm 11 6 36 211) s m args below meth c s.heap [] 0 0 (MQ below (zQ1 D (wldW ad cy σ ur) (fun (r : Int32) (u : Int × zSt × (Nat → Int)) => r = iI u.1 ∧ (if (loZ (shZ v 12) 5) = 0 then R_usable σ pa pb 40 yi u.1 u.2.1 else R_skipped σ pa yi fv u.1 u.2.1)) (fun (u : Int × zSt × (Nat → Int)) => wldW ad cy u.2.1 u.2.2)) args s 6 36 (zIn (wldW ad cy σ ur))) (F0 m 912 ls []) := by
  obtain ⟨h_h, h_su, h_st, h_sh, h_fl, h_sn, h_bn, h_cm, h_em, h_ep, h_fr, g_cS, g_cH, g_sea, g_noi, g_pl, g_pw, g_an, g_hd, g_bp, g_bw, g_ban, g_bhd, g_c1, g_c2, g_c3, g_c4, g_c5, g_e1, g_e2, g_e3, g_e4, g_e5, hbo, hpr⟩ := hI
  have hP : va_P D vwCl ((rooW ad 0 cy (s_fm σ) (s_fr σ)) ++ ((airW ad 1 cy (s_h σ) (s_su σ) (s_st σ) (s_sh σ) (s_fl σ) (s_cS σ) (s_cH σ) (dnD (s_h σ) (s_fl σ)) (dnE (s_h σ) (s_cS σ)) (dnF (s_h σ) (s_su σ) (s_st σ))) ++ ((airW ad 8 cy (s_h σ) (s_su σ) 0 0 0 (fun _ => 0) (fun _ => 0) (dnD (s_h σ) 0) (dnE (s_h σ) (fun _ => 0)) (dnF (s_h σ) (s_su σ) 0)) ++ ((grdW ad 15 cy (s_sea σ) (s_noi σ)) ++ ((rayW ad 18 cy (ur 0) (ur 1) (ur 2) (ur 3) (ur 4) (ur 5) (ur 6) (ur 7)) ++ ((sndW ad 19 cy 12 (s_sn σ) (s_pl σ) (s_pw σ) (s_an σ) (s_hd σ) (s_fq σ)) ++ ((sndW ad 25 cy 6 (s_bn σ) (s_bp σ) (s_bw σ) (s_ban σ) (s_bhd σ) (s_bo σ)) ++ ((conW ad 31 cy (s_cm σ) (s_c1 σ) (s_c2 σ) (s_c3 σ) (s_c4 σ) (s_c5 σ)) ++ (entW ad 37 cy (s_em σ) (s_ep σ) (s_e1 σ) (s_e2 σ) (s_e3 σ) (s_e4 σ) (s_e5 σ)))))))))) s.heap := hP0.1
  have hD : va_D (zIn (wldW ad cy σ ur)) ((rooW ad 0 cy (s_fm σ) (s_fr σ)) ++ ((airW ad 1 cy (s_h σ) (s_su σ) (s_st σ) (s_sh σ) (s_fl σ) (s_cS σ) (s_cH σ) (dnD (s_h σ) (s_fl σ)) (dnE (s_h σ) (s_cS σ)) (dnF (s_h σ) (s_su σ) (s_st σ))) ++ ((airW ad 8 cy (s_h σ) (s_su σ) 0 0 0 (fun _ => 0) (fun _ => 0) (dnD (s_h σ) 0) (dnE (s_h σ) (fun _ => 0)) (dnF (s_h σ) (s_su σ) 0)) ++ ((grdW ad 15 cy (s_sea σ) (s_noi σ)) ++ ((rayW ad 18 cy (ur 0) (ur 1) (ur 2) (ur 3) (ur 4) (ur 5) (ur 6) (ur 7)) ++ ((sndW ad 19 cy 12 (s_sn σ) (s_pl σ) (s_pw σ) (s_an σ) (s_hd σ) (s_fq σ)) ++ ((sndW ad 25 cy 6 (s_bn σ) (s_bp σ) (s_bw σ) (s_ban σ) (s_bhd σ) (s_bo σ)) ++ ((conW ad 31 cy (s_cm σ) (s_c1 σ) (s_c2 σ) (s_c3 σ) (s_c4 σ) (s_c5 σ)) ++ (entW ad 37 cy (s_em σ) (s_ep σ) (s_e1 σ) (s_e2 σ) (s_e3 σ) (s_e4 σ) (s_e5 σ)))))))))) := hP0.self
  have hAz := hP0.A
  have hS : va_S (zIn (wldW ad cy σ ur)) s.heap s.heap [] := va_S.rf
  refine lv_iload_n M.1 M.2.1 dL_act_912 rfl (lv_at hl 1 rfl) ?_
  refine zi_bipush M dL_act_913 ⟨by decide, by decide⟩ ?_
  refine zi_ishr M dL_act_915 ?_
  refine zi_push M dL_act_916 ?_
  refine z_cR (z_runS (As := [.int (iI (shZ v 12)), .int (iI 5)]) (rest := []) M (c_L_low l D cy z0 (shZ v 12) 5 (by omega)) hE hS hAz trivial zk_cd_L_low zk_in_RL zk_st_L_low zk_ml_RL_105 rfl rfl zd_L_low ⟨by decide, by decide⟩ rfl hl.1 rfl (Nat.le_of_ble_eq_true rfl) dL_act_917 ⟨by decide, by decide⟩) ?_
  have hx_1 := loZ_rg2 ((shZ v 12)) (5) (by omega)
  refine zi_if_ne (tgt := 946) M dL_act_920 (by decide) (by omega) (fun c_2 => ?_) (fun c_2 => ?_)
  ·
    refine lv_aload_n M.1 M.2.1 dL_act_946 rfl (lv_at hl 0 rfl) ?_
    refine lv_iload_n M.1 M.2.1 dL_act_947 rfl (lv_at hl 3 rfl) ?_
    refine lv_iload M.1 M.2.1 dL_act_948 (lv_at hl 10 rfl) ?_
    refine lv_iload M.1 M.2.1 dL_act_950 (lv_at hl 9 rfl) ?_
    refine z_cW (zx_runH (As := [.ref (ad 0), .int (iI pa), .int (iI yi), .int (iI fv)]) (rest := []) M (c_L_skipped l hst D cy z0 ad (s_fm σ) (s_fr σ) (s_h σ) (s_su σ) (s_st σ) (s_sh σ) (s_fl σ) (s_cS σ) (s_cH σ) (dnD (s_h σ) (s_fl σ)) (dnE (s_h σ) (s_cS σ)) (dnF (s_h σ) (s_su σ) (s_st σ)) pa yi fv (by omega) (by omega) (by omega) (dnE_rg g_cS) (dnF_rg h_su h_st)) hE hN hS hAz (z_cut hP hD hAz [0, 1, 2, 3, 4, 5, 6, 7] rfl (by decide +kernel)) zk_cw_L_skipped zk_in_RL zk_st_L_skipped zk_ml_RL_157 rfl rfl zd_L_skipped ⟨by decide, by decide⟩ rfl hl.1 rfl (Nat.le_of_ble_eq_true rfl) dL_act_952 ⟨by decide, by decide⟩) hP hD hS [0, 1, 2, 3, 4, 5, 6, 7] rfl (fun _ => rfl) (fun r_3 u_3 H locs hp_3 hP hD hS => ?_)
    have hP : va_P D vwCl ((rooW ad 0 cy (s_fm σ) (s_fr σ)) ++ ((airW ad 1 cy (s_h σ) (s_su σ) (s_st σ) (s_sh σ) (s_fl σ) (s_cS σ) (s_cH σ) (dnD (s_h σ) (s_fl σ)) (dnE (s_h σ) (s_cS σ)) (dnF (s_h σ) (s_su σ) (s_st σ))) ++ ((airW ad 8 cy (s_h σ) (s_su σ) 0 0 0 (fun _ => 0) (fun _ => 0) (dnD (s_h σ) 0) (dnE (s_h σ) (fun _ => 0)) (dnF (s_h σ) (s_su σ) 0)) ++ ((grdW ad 15 cy (s_sea σ) (s_noi σ)) ++ ((rayW ad 18 cy (ur 0) (ur 1) (ur 2) (ur 3) (ur 4) (ur 5) (ur 6) (ur 7)) ++ ((sndW ad 19 cy 12 (s_sn σ) (s_pl σ) (s_pw σ) (s_an σ) (s_hd σ) (s_fq σ)) ++ ((sndW ad 25 cy 6 (s_bn σ) (s_bp σ) (s_bw σ) (s_ban σ) (s_bhd σ) (s_bo σ)) ++ ((conW ad 31 cy (s_cm σ) (s_c1 σ) (s_c2 σ) (s_c3 σ) (s_c4 σ) (s_c5 σ)) ++ (entW ad 37 cy (s_em σ) (s_ep σ) (s_e1 σ) (s_e2 σ) (s_e3 σ) (s_e4 σ) (s_e5 σ)))))))))) H := hP
    have hD : va_D (zIn (wldW ad cy σ ur)) ((rooW ad 0 cy (s_fm σ) (s_fr σ)) ++ ((airW ad 1 cy (s_h σ) (s_su σ) (s_st σ) (s_sh σ) (s_fl σ) (s_cS σ) (s_cH σ) (dnD (s_h σ) (s_fl σ)) (dnE (s_h σ) (s_cS σ)) (dnF (s_h σ) (s_su σ) (s_st σ))) ++ ((airW ad 8 cy (s_h σ) (s_su σ) 0 0 0 (fun _ => 0) (fun _ => 0) (dnD (s_h σ) 0) (dnE (s_h σ) (fun _ => 0)) (dnF (s_h σ) (s_su σ) 0)) ++ ((grdW ad 15 cy (s_sea σ) (s_noi σ)) ++ ((rayW ad 18 cy (ur 0) (ur 1) (ur 2) (ur 3) (ur 4) (ur 5) (ur 6) (ur 7)) ++ ((sndW ad 19 cy 12 (s_sn σ) (s_pl σ) (s_pw σ) (s_an σ) (s_hd σ) (s_fq σ)) ++ ((sndW ad 25 cy 6 (s_bn σ) (s_bp σ) (s_bw σ) (s_ban σ) (s_bhd σ) (s_bo σ)) ++ ((conW ad 31 cy (s_cm σ) (s_c1 σ) (s_c2 σ) (s_c3 σ) (s_c4 σ) (s_c5 σ)) ++ (entW ad 37 cy (s_em σ) (s_ep σ) (s_e1 σ) (s_e2 σ) (s_e3 σ) (s_e4 σ) (s_e5 σ)))))))))) := hD
    obtain ⟨rfl, hq_3⟩ := hp_3
    obtain ⟨a_3, b_3, g_3⟩ := u_3
    rcases hq_3 with ⟨ha, hN9, hV9⟩ | ⟨ha, hB9, hV9⟩
    ·
      have ha : a_3 = 0 := ha
      subst ha
      have hP : va_P D vwCl (wldW ad cy σ ur) H := hP
      exact zw_i M hr hlk ((b_3 : Int), σ, ur) hP hS ⟨rfl, (by rw [if_neg c_2]; exact Or.inl ⟨hN9, hV9, rfl⟩)⟩ (by decide) (by decide) dL_act_955
    ·
      have ha : a_3 = 1 := ha
      subst ha
      have hP : va_P D vwCl (wldW ad cy σ ur) H := hP
      exact zw_i M hr hlk ((b_3 : Int), σ, ur) hP hS ⟨rfl, (by rw [if_neg c_2]; exact Or.inr ⟨hB9, hV9, rfl⟩)⟩ (by decide) (by decide) dL_act_955
  ·
    refine lv_aload_n M.1 M.2.1 dL_act_923 rfl (lv_at hl 0 rfl) ?_
    refine lv_iload_n M.1 M.2.1 dL_act_924 rfl (lv_at hl 3 rfl) ?_
    refine lv_iload M.1 M.2.1 dL_act_925 (lv_at hl 4 rfl) ?_
    refine lv_iload_n M.1 M.2.1 dL_act_927 rfl (lv_at hl 2 rfl) ?_
    refine zi_if_eq (tgt := 936) M dL_act_928 (by decide) ⟨by decide, by decide⟩ (fun _ => ?_) (fun q => absurd q (by decide))
    refine zi_bipush M dL_act_936 ⟨by decide, by decide⟩ ?_
    refine lv_iload M.1 M.2.1 dL_act_938 (lv_at hl 10 rfl) ?_
    refine z_cW (zx_runH (As := [.ref (ad 0), .int (iI pa), .int (iI pb), .int (iI 40), .int (iI yi)]) (rest := []) M (c_L_usable l hst D cy z0 ad (s_fm σ) (s_fr σ) (s_h σ) (s_su σ) (s_st σ) (s_sh σ) (s_fl σ) (ur 0) (ur 1) (ur 2) (ur 3) (ur 4) (ur 5) (ur 6) (ur 7) (s_cS σ) (s_cH σ) (dnD (s_h σ) (s_fl σ)) (dnE (s_h σ) (s_cS σ)) (dnF (s_h σ) (s_su σ) (s_st σ)) (s_sea σ) (s_noi σ) pa pb 40 yi (by omega) (by omega) (by omega) (by omega) (dnD_rg h_fl) (dnE_rg g_cS) (dnF_rg h_su h_st) g_sea) hE hN hS hAz (z_cut hP hD hAz [0, 1, 2, 3, 4, 5, 6, 7, 15, 16, 17, 18] rfl (by decide +kernel)) zk_cw_L_usable zk_in_RL zk_st_L_usable zk_ml_RL_154 rfl rfl zd_L_usable ⟨by decide, by decide⟩ rfl hl.1 rfl (Nat.le_of_ble_eq_true rfl) dL_act_940 ⟨by decide, by decide⟩) hP hD hS [0, 1, 2, 3, 4, 5, 6, 7, 15, 16, 17, 18] rfl (fun _ => rfl) (fun r_4 u_4 H locs hp_4 hP hD hS => ?_)
    have hP : va_P D vwCl ((rooW ad 0 cy (s_fm σ) (s_fr σ)) ++ ((airW ad 1 cy (s_h σ) (s_su σ) (s_st σ) (s_sh σ) (s_fl σ) (s_cS σ) (s_cH σ) (dnD (s_h σ) (s_fl σ)) (dnE (s_h σ) (s_cS σ)) (dnF (s_h σ) (s_su σ) (s_st σ))) ++ ((airW ad 8 cy (s_h σ) (s_su σ) 0 0 0 (fun _ => 0) (fun _ => 0) (dnD (s_h σ) 0) (dnE (s_h σ) (fun _ => 0)) (dnF (s_h σ) (s_su σ) 0)) ++ ((grdW ad 15 cy (s_sea σ) (s_noi σ)) ++ ((rayW ad 18 cy (u_4.2.2 0) (u_4.2.2 1) (u_4.2.2 2) (u_4.2.2 3) (u_4.2.2 4) (u_4.2.2 5) (u_4.2.2 6) (u_4.2.2 7)) ++ ((sndW ad 19 cy 12 (s_sn σ) (s_pl σ) (s_pw σ) (s_an σ) (s_hd σ) (s_fq σ)) ++ ((sndW ad 25 cy 6 (s_bn σ) (s_bp σ) (s_bw σ) (s_ban σ) (s_bhd σ) (s_bo σ)) ++ ((conW ad 31 cy (s_cm σ) (s_c1 σ) (s_c2 σ) (s_c3 σ) (s_c4 σ) (s_c5 σ)) ++ (entW ad 37 cy (s_em σ) (s_ep σ) (s_e1 σ) (s_e2 σ) (s_e3 σ) (s_e4 σ) (s_e5 σ)))))))))) H := hP
    have hD : va_D (zIn (wldW ad cy σ ur)) ((rooW ad 0 cy (s_fm σ) (s_fr σ)) ++ ((airW ad 1 cy (s_h σ) (s_su σ) (s_st σ) (s_sh σ) (s_fl σ) (s_cS σ) (s_cH σ) (dnD (s_h σ) (s_fl σ)) (dnE (s_h σ) (s_cS σ)) (dnF (s_h σ) (s_su σ) (s_st σ))) ++ ((airW ad 8 cy (s_h σ) (s_su σ) 0 0 0 (fun _ => 0) (fun _ => 0) (dnD (s_h σ) 0) (dnE (s_h σ) (fun _ => 0)) (dnF (s_h σ) (s_su σ) 0)) ++ ((grdW ad 15 cy (s_sea σ) (s_noi σ)) ++ ((rayW ad 18 cy (u_4.2.2 0) (u_4.2.2 1) (u_4.2.2 2) (u_4.2.2 3) (u_4.2.2 4) (u_4.2.2 5) (u_4.2.2 6) (u_4.2.2 7)) ++ ((sndW ad 19 cy 12 (s_sn σ) (s_pl σ) (s_pw σ) (s_an σ) (s_hd σ) (s_fq σ)) ++ ((sndW ad 25 cy 6 (s_bn σ) (s_bp σ) (s_bw σ) (s_ban σ) (s_bhd σ) (s_bo σ)) ++ ((conW ad 31 cy (s_cm σ) (s_c1 σ) (s_c2 σ) (s_c3 σ) (s_c4 σ) (s_c5 σ)) ++ (entW ad 37 cy (s_em σ) (s_ep σ) (s_e1 σ) (s_e2 σ) (s_e3 σ) (s_e4 σ) (s_e5 σ)))))))))) := hD
    obtain ⟨rfl, hq_4⟩ := hp_4
    refine zi_goto (tgt := 955) M dL_act_943 (by decide) ?_
    obtain ⟨a_4, b_4, g_4⟩ := u_4
    rcases hq_4 with ⟨ha, hN9, hV9⟩ | ⟨ha, hB9, hV9⟩
    ·
      have ha : a_4 = 0 := ha
      subst ha
      have hP : va_P D vwCl (wldW ad cy σ g_4) H := hP
      exact zw_i M hr hlk ((b_4 : Int), σ, g_4) hP hS ⟨rfl, (by rw [if_pos c_2]; exact Or.inl ⟨hN9, hV9, rfl⟩)⟩ (by decide) (by decide) dL_act_955
    ·
      have ha : a_4 = 1 := ha
      subst ha
      have hP : va_P D vwCl (wldW ad cy σ g_4) H := hP
      exact zw_i M hr hlk ((b_4 : Int), σ, g_4) hP hS ⟨rfl, (by rw [if_pos c_2]; exact Or.inr ⟨hB9, hV9, rfl⟩)⟩ (by decide) (by decide) dL_act_955

set_option maxRecDepth 100000 in
set_option maxHeartbeats 8000000 in
theorem la_956_1 (l : Launch) (hst : l.stackTraces = false) (D : va_G) (cy : Nat → ClassId) (z0 : Nat) (ad : Nat → Nat) (σ : zSt) (ur : Nat → Int) (v pa pb xa xb mu fe fv yi : Int) (r_v : r32 v) (r_pa : r32 pa) (r_pb : r32 pb) (r_xa : r32 xa) (r_xb : r32 xb) (r_mu : r32 mu) (r_fe : r32 fe) (r_fv : r32 fv) (h_yi : 0 ≤ yi ∧ yi ≤ 1) (hI : zInv σ) (p : Program) (e : Env) (s : State) (m : MethodId) (args : Array Value) (below : List Frame) (meth : Method) (c : Code) (M : zM p s m args c cL_act RL 11) (hr : meth.sig.returnType = some .int) (hlk : meth.locks = false) (hE : zE D cy z0 s) (hN : zNc s) (hP0 : zWl D z0 (wldW ad cy σ ur) s.heap) (ls : Array Slot) (hl : lv_has ls 11 [(0, .ref (ad 0)), (1, .int (iI v)), (2, .int (iI 1)), (3, .int (iI pa)), (4, .int (iI pb)), (5, .int (iI xa)), (6, .int (iI xb)), (7, .int (iI mu)), (8, .int (iI fe)), (9, .int (iI fv)), (10, .int (iI yi))]) : W p l e (zRm 11 6 36 211) s m args below meth c s.heap [] 0 0 (MQ below (zQ1 D (wldW ad cy σ ur) (fun (r : Int32) (u : Int × zSt × (Nat → Int)) => r = iI u.1 ∧ (R_signal σ xa xb fv u.1 u.2.1)) (fun (u : Int × zSt × (Nat → Int)) => wldW ad cy u.2.1 u.2.2)) args s 6 36 (zIn (wldW ad cy σ ur))) (F0 m 956 ls []) := by
  obtain ⟨h_h, h_su, h_st, h_sh, h_fl, h_sn, h_bn, h_cm, h_em, h_ep, h_fr, g_cS, g_cH, g_sea, g_noi, g_pl, g_pw, g_an, g_hd, g_bp, g_bw, g_ban, g_bhd, g_c1, g_c2, g_c3, g_c4, g_c5, g_e1, g_e2, g_e3, g_e4, g_e5, hbo, hpr⟩ := hI
  have hP : va_P D vwCl ((rooW ad 0 cy (s_fm σ) (s_fr σ)) ++ ((airW ad 1 cy (s_h σ) (s_su σ) (s_st σ) (s_sh σ) (s_fl σ) (s_cS σ) (s_cH σ) (dnD (s_h σ) (s_fl σ)) (dnE (s_h σ) (s_cS σ)) (dnF (s_h σ) (s_su σ) (s_st σ))) ++ ((airW ad 8 cy (s_h σ) (s_su σ) 0 0 0 (fun _ => 0) (fun _ => 0) (dnD (s_h σ) 0) (dnE (s_h σ) (fun _ => 0)) (dnF (s_h σ) (s_su σ) 0)) ++ ((grdW ad 15 cy (s_sea σ) (s_noi σ)) ++ ((rayW ad 18 cy (ur 0) (ur 1) (ur 2) (ur 3) (ur 4) (ur 5) (ur 6) (ur 7)) ++ ((sndW ad 19 cy 12 (s_sn σ) (s_pl σ) (s_pw σ) (s_an σ) (s_hd σ) (s_fq σ)) ++ ((sndW ad 25 cy 6 (s_bn σ) (s_bp σ) (s_bw σ) (s_ban σ) (s_bhd σ) (s_bo σ)) ++ ((conW ad 31 cy (s_cm σ) (s_c1 σ) (s_c2 σ) (s_c3 σ) (s_c4 σ) (s_c5 σ)) ++ (entW ad 37 cy (s_em σ) (s_ep σ) (s_e1 σ) (s_e2 σ) (s_e3 σ) (s_e4 σ) (s_e5 σ)))))))))) s.heap := hP0.1
  have hD : va_D (zIn (wldW ad cy σ ur)) ((rooW ad 0 cy (s_fm σ) (s_fr σ)) ++ ((airW ad 1 cy (s_h σ) (s_su σ) (s_st σ) (s_sh σ) (s_fl σ) (s_cS σ) (s_cH σ) (dnD (s_h σ) (s_fl σ)) (dnE (s_h σ) (s_cS σ)) (dnF (s_h σ) (s_su σ) (s_st σ))) ++ ((airW ad 8 cy (s_h σ) (s_su σ) 0 0 0 (fun _ => 0) (fun _ => 0) (dnD (s_h σ) 0) (dnE (s_h σ) (fun _ => 0)) (dnF (s_h σ) (s_su σ) 0)) ++ ((grdW ad 15 cy (s_sea σ) (s_noi σ)) ++ ((rayW ad 18 cy (ur 0) (ur 1) (ur 2) (ur 3) (ur 4) (ur 5) (ur 6) (ur 7)) ++ ((sndW ad 19 cy 12 (s_sn σ) (s_pl σ) (s_pw σ) (s_an σ) (s_hd σ) (s_fq σ)) ++ ((sndW ad 25 cy 6 (s_bn σ) (s_bp σ) (s_bw σ) (s_ban σ) (s_bhd σ) (s_bo σ)) ++ ((conW ad 31 cy (s_cm σ) (s_c1 σ) (s_c2 σ) (s_c3 σ) (s_c4 σ) (s_c5 σ)) ++ (entW ad 37 cy (s_em σ) (s_ep σ) (s_e1 σ) (s_e2 σ) (s_e3 σ) (s_e4 σ) (s_e5 σ)))))))))) := hP0.self
  have hAz := hP0.A
  have hS : va_S (zIn (wldW ad cy σ ur)) s.heap s.heap [] := va_S.rf
  refine lv_aload_n M.1 M.2.1 dL_act_956 rfl (lv_at hl 0 rfl) ?_
  refine lv_iload M.1 M.2.1 dL_act_957 (lv_at hl 5 rfl) ?_
  refine lv_iload M.1 M.2.1 dL_act_959 (lv_at hl 6 rfl) ?_
  refine lv_iload M.1 M.2.1 dL_act_961 (lv_at hl 9 rfl) ?_
  refine z_cW (zx_runH (As := [.ref (ad 0), .int (iI xa), .int (iI xb), .int (iI fv)]) (rest := []) M (c_L_signal l hst D cy z0 ad (s_fm σ) (s_fr σ) (s_h σ) (s_su σ) (s_st σ) (s_sh σ) (s_fl σ) (ur 0) (ur 1) (ur 2) (ur 3) (ur 4) (ur 5) (ur 6) (ur 7) (s_sn σ) (s_cS σ) (s_cH σ) (dnD (s_h σ) (s_fl σ)) (dnE (s_h σ) (s_cS σ)) (dnF (s_h σ) (s_su σ) (s_st σ)) (s_sea σ) (s_noi σ) (s_pl σ) (s_pw σ) (s_an σ) (s_hd σ) (s_fq σ) xa xb fv (by omega) (by omega) (by omega) (dnD_rg h_fl) (dnE_rg g_cS) (dnF_rg h_su h_st) g_sea g_noi g_pl g_pw g_an g_hd (by omega) (by omega)) hE hN hS hAz (z_cut hP hD hAz [0, 1, 2, 3, 4, 5, 6, 7, 15, 16, 17, 18, 19, 20, 21, 22, 23, 24] rfl (by decide +kernel)) zk_cw_L_signal zk_in_RL zk_st_L_signal zk_ml_RL_160 rfl rfl zd_L_signal ⟨by decide, by decide⟩ rfl hl.1 rfl (Nat.le_of_ble_eq_true rfl) dL_act_963 ⟨by decide, by decide⟩) hP hD hS [0, 1, 2, 3, 4, 5, 6, 7, 15, 16, 17, 18, 19, 20, 21, 22, 23, 24] rfl (fun _ => rfl) (fun r_1 u_1 H locs hp_1 hP hD hS => ?_)
  have hP : va_P D vwCl ((rooW ad 0 cy (s_fm σ) (s_fr σ)) ++ ((airW ad 1 cy (s_h σ) (s_su σ) (s_st σ) (s_sh σ) (s_fl σ) (s_cS σ) (s_cH σ) (dnD (s_h σ) (s_fl σ)) (dnE (s_h σ) (s_cS σ)) (dnF (s_h σ) (s_su σ) (s_st σ))) ++ ((airW ad 8 cy (s_h σ) (s_su σ) 0 0 0 (fun _ => 0) (fun _ => 0) (dnD (s_h σ) 0) (dnE (s_h σ) (fun _ => 0)) (dnF (s_h σ) (s_su σ) 0)) ++ ((grdW ad 15 cy (s_sea σ) (s_noi σ)) ++ ((rayW ad 18 cy (u_1.2.2 0) (u_1.2.2 1) (u_1.2.2 2) (u_1.2.2 3) (u_1.2.2 4) (u_1.2.2 5) (u_1.2.2 6) (u_1.2.2 7)) ++ ((sndW ad 19 cy 12 (s_sn σ) (s_pl σ) (s_pw σ) (s_an σ) (s_hd σ) (s_fq σ)) ++ ((sndW ad 25 cy 6 (s_bn σ) (s_bp σ) (s_bw σ) (s_ban σ) (s_bhd σ) (s_bo σ)) ++ ((conW ad 31 cy (s_cm σ) (s_c1 σ) (s_c2 σ) (s_c3 σ) (s_c4 σ) (s_c5 σ)) ++ (entW ad 37 cy (s_em σ) (s_ep σ) (s_e1 σ) (s_e2 σ) (s_e3 σ) (s_e4 σ) (s_e5 σ)))))))))) H := hP
  have hD : va_D (zIn (wldW ad cy σ ur)) ((rooW ad 0 cy (s_fm σ) (s_fr σ)) ++ ((airW ad 1 cy (s_h σ) (s_su σ) (s_st σ) (s_sh σ) (s_fl σ) (s_cS σ) (s_cH σ) (dnD (s_h σ) (s_fl σ)) (dnE (s_h σ) (s_cS σ)) (dnF (s_h σ) (s_su σ) (s_st σ))) ++ ((airW ad 8 cy (s_h σ) (s_su σ) 0 0 0 (fun _ => 0) (fun _ => 0) (dnD (s_h σ) 0) (dnE (s_h σ) (fun _ => 0)) (dnF (s_h σ) (s_su σ) 0)) ++ ((grdW ad 15 cy (s_sea σ) (s_noi σ)) ++ ((rayW ad 18 cy (u_1.2.2 0) (u_1.2.2 1) (u_1.2.2 2) (u_1.2.2 3) (u_1.2.2 4) (u_1.2.2 5) (u_1.2.2 6) (u_1.2.2 7)) ++ ((sndW ad 19 cy 12 (s_sn σ) (s_pl σ) (s_pw σ) (s_an σ) (s_hd σ) (s_fq σ)) ++ ((sndW ad 25 cy 6 (s_bn σ) (s_bp σ) (s_bw σ) (s_ban σ) (s_bhd σ) (s_bo σ)) ++ ((conW ad 31 cy (s_cm σ) (s_c1 σ) (s_c2 σ) (s_c3 σ) (s_c4 σ) (s_c5 σ)) ++ (entW ad 37 cy (s_em σ) (s_ep σ) (s_e1 σ) (s_e2 σ) (s_e3 σ) (s_e4 σ) (s_e5 σ)))))))))) := hD
  obtain ⟨rfl, hq_1⟩ := hp_1
  obtain ⟨a_1, b_1, g_1⟩ := u_1
  rcases hq_1 with ⟨ha, hN9, hV9⟩ | ⟨ha, hB9, hV9⟩
  ·
    have ha : a_1 = 0 := ha
    subst ha
    have hP : va_P D vwCl (wldW ad cy σ g_1) H := hP
    exact zw_i M hr hlk ((b_1 : Int), σ, g_1) hP hS ⟨rfl, Or.inl ⟨hN9, hV9, rfl⟩⟩ (by decide) (by decide) dL_act_966
  ·
    have ha : a_1 = 1 := ha
    subst ha
    have hP : va_P D vwCl (wldW ad cy σ g_1) H := hP
    exact zw_i M hr hlk ((b_1 : Int), σ, g_1) hP hS ⟨rfl, Or.inr ⟨hB9, hV9, rfl⟩⟩ (by decide) (by decide) dL_act_966

set_option maxRecDepth 100000 in
set_option maxHeartbeats 8000000 in
theorem la_956_0 (l : Launch) (hst : l.stackTraces = false) (D : va_G) (cy : Nat → ClassId) (z0 : Nat) (ad : Nat → Nat) (σ : zSt) (ur : Nat → Int) (v pa pb xa xb mu fe fv yi : Int) (r_v : r32 v) (r_pa : r32 pa) (r_pb : r32 pb) (r_xa : r32 xa) (r_xb : r32 xb) (r_mu : r32 mu) (r_fe : r32 fe) (r_fv : r32 fv) (h_yi : 0 ≤ yi ∧ yi ≤ 1) (hI : zInv σ) (p : Program) (e : Env) (s : State) (m : MethodId) (args : Array Value) (below : List Frame) (meth : Method) (c : Code) (M : zM p s m args c cL_act RL 11) (hr : meth.sig.returnType = some .int) (hlk : meth.locks = false) (hE : zE D cy z0 s) (hN : zNc s) (hP0 : zWl D z0 (wldW ad cy σ ur) s.heap) (ls : Array Slot) (h_mu : 0 ≤ mu ∧ mu < 60) (hl : lv_has ls 11 [(0, .ref (ad 0)), (1, .int (iI v)), (2, .int (iI 0)), (3, .int (iI pa)), (4, .int (iI pb)), (5, .int (iI xa)), (6, .int (iI xb)), (7, .int (iI mu)), (8, .int (iI fe)), (9, .int (iI fv)), (10, .int (iI yi))]) : W p l e (zRm 11 6 36 211) s m args below meth c s.heap [] 0 0 (MQ below (zQ1 D (wldW ad cy σ ur) (fun (r : Int32) (u : Int × zSt × (Nat → Int)) => r = iI u.1 ∧ (R_signal σ xa xb fv u.1 u.2.1)) (fun (u : Int × zSt × (Nat → Int)) => wldW ad cy u.2.1 u.2.2)) args s 6 36 (zIn (wldW ad cy σ ur))) (F0 m 956 ls []) := by
  obtain ⟨h_h, h_su, h_st, h_sh, h_fl, h_sn, h_bn, h_cm, h_em, h_ep, h_fr, g_cS, g_cH, g_sea, g_noi, g_pl, g_pw, g_an, g_hd, g_bp, g_bw, g_ban, g_bhd, g_c1, g_c2, g_c3, g_c4, g_c5, g_e1, g_e2, g_e3, g_e4, g_e5, hbo, hpr⟩ := hI
  have hP : va_P D vwCl ((rooW ad 0 cy (s_fm σ) (s_fr σ)) ++ ((airW ad 1 cy (s_h σ) (s_su σ) (s_st σ) (s_sh σ) (s_fl σ) (s_cS σ) (s_cH σ) (dnD (s_h σ) (s_fl σ)) (dnE (s_h σ) (s_cS σ)) (dnF (s_h σ) (s_su σ) (s_st σ))) ++ ((airW ad 8 cy (s_h σ) (s_su σ) 0 0 0 (fun _ => 0) (fun _ => 0) (dnD (s_h σ) 0) (dnE (s_h σ) (fun _ => 0)) (dnF (s_h σ) (s_su σ) 0)) ++ ((grdW ad 15 cy (s_sea σ) (s_noi σ)) ++ ((rayW ad 18 cy (ur 0) (ur 1) (ur 2) (ur 3) (ur 4) (ur 5) (ur 6) (ur 7)) ++ ((sndW ad 19 cy 12 (s_sn σ) (s_pl σ) (s_pw σ) (s_an σ) (s_hd σ) (s_fq σ)) ++ ((sndW ad 25 cy 6 (s_bn σ) (s_bp σ) (s_bw σ) (s_ban σ) (s_bhd σ) (s_bo σ)) ++ ((conW ad 31 cy (s_cm σ) (s_c1 σ) (s_c2 σ) (s_c3 σ) (s_c4 σ) (s_c5 σ)) ++ (entW ad 37 cy (s_em σ) (s_ep σ) (s_e1 σ) (s_e2 σ) (s_e3 σ) (s_e4 σ) (s_e5 σ)))))))))) s.heap := hP0.1
  have hD : va_D (zIn (wldW ad cy σ ur)) ((rooW ad 0 cy (s_fm σ) (s_fr σ)) ++ ((airW ad 1 cy (s_h σ) (s_su σ) (s_st σ) (s_sh σ) (s_fl σ) (s_cS σ) (s_cH σ) (dnD (s_h σ) (s_fl σ)) (dnE (s_h σ) (s_cS σ)) (dnF (s_h σ) (s_su σ) (s_st σ))) ++ ((airW ad 8 cy (s_h σ) (s_su σ) 0 0 0 (fun _ => 0) (fun _ => 0) (dnD (s_h σ) 0) (dnE (s_h σ) (fun _ => 0)) (dnF (s_h σ) (s_su σ) 0)) ++ ((grdW ad 15 cy (s_sea σ) (s_noi σ)) ++ ((rayW ad 18 cy (ur 0) (ur 1) (ur 2) (ur 3) (ur 4) (ur 5) (ur 6) (ur 7)) ++ ((sndW ad 19 cy 12 (s_sn σ) (s_pl σ) (s_pw σ) (s_an σ) (s_hd σ) (s_fq σ)) ++ ((sndW ad 25 cy 6 (s_bn σ) (s_bp σ) (s_bw σ) (s_ban σ) (s_bhd σ) (s_bo σ)) ++ ((conW ad 31 cy (s_cm σ) (s_c1 σ) (s_c2 σ) (s_c3 σ) (s_c4 σ) (s_c5 σ)) ++ (entW ad 37 cy (s_em σ) (s_ep σ) (s_e1 σ) (s_e2 σ) (s_e3 σ) (s_e4 σ) (s_e5 σ)))))))))) := hP0.self
  have hAz := hP0.A
  have hS : va_S (zIn (wldW ad cy σ ur)) s.heap s.heap [] := va_S.rf
  refine lv_aload_n M.1 M.2.1 dL_act_956 rfl (lv_at hl 0 rfl) ?_
  refine lv_iload M.1 M.2.1 dL_act_957 (lv_at hl 5 rfl) ?_
  refine lv_iload M.1 M.2.1 dL_act_959 (lv_at hl 6 rfl) ?_
  refine lv_iload M.1 M.2.1 dL_act_961 (lv_at hl 9 rfl) ?_
  refine z_cW (zx_runH (As := [.ref (ad 0), .int (iI xa), .int (iI xb), .int (iI fv)]) (rest := []) M (c_L_signal l hst D cy z0 ad (s_fm σ) (s_fr σ) (s_h σ) (s_su σ) (s_st σ) (s_sh σ) (s_fl σ) (ur 0) (ur 1) (ur 2) (ur 3) (ur 4) (ur 5) (ur 6) (ur 7) (s_sn σ) (s_cS σ) (s_cH σ) (dnD (s_h σ) (s_fl σ)) (dnE (s_h σ) (s_cS σ)) (dnF (s_h σ) (s_su σ) (s_st σ)) (s_sea σ) (s_noi σ) (s_pl σ) (s_pw σ) (s_an σ) (s_hd σ) (s_fq σ) xa xb fv (by omega) (by omega) (by omega) (dnD_rg h_fl) (dnE_rg g_cS) (dnF_rg h_su h_st) g_sea g_noi g_pl g_pw g_an g_hd (by omega) (by omega)) hE hN hS hAz (z_cut hP hD hAz [0, 1, 2, 3, 4, 5, 6, 7, 15, 16, 17, 18, 19, 20, 21, 22, 23, 24] rfl (by decide +kernel)) zk_cw_L_signal zk_in_RL zk_st_L_signal zk_ml_RL_160 rfl rfl zd_L_signal ⟨by decide, by decide⟩ rfl hl.1 rfl (Nat.le_of_ble_eq_true rfl) dL_act_963 ⟨by decide, by decide⟩) hP hD hS [0, 1, 2, 3, 4, 5, 6, 7, 15, 16, 17, 18, 19, 20, 21, 22, 23, 24] rfl (fun _ => rfl) (fun r_1 u_1 H locs hp_1 hP hD hS => ?_)
  have hP : va_P D vwCl ((rooW ad 0 cy (s_fm σ) (s_fr σ)) ++ ((airW ad 1 cy (s_h σ) (s_su σ) (s_st σ) (s_sh σ) (s_fl σ) (s_cS σ) (s_cH σ) (dnD (s_h σ) (s_fl σ)) (dnE (s_h σ) (s_cS σ)) (dnF (s_h σ) (s_su σ) (s_st σ))) ++ ((airW ad 8 cy (s_h σ) (s_su σ) 0 0 0 (fun _ => 0) (fun _ => 0) (dnD (s_h σ) 0) (dnE (s_h σ) (fun _ => 0)) (dnF (s_h σ) (s_su σ) 0)) ++ ((grdW ad 15 cy (s_sea σ) (s_noi σ)) ++ ((rayW ad 18 cy (u_1.2.2 0) (u_1.2.2 1) (u_1.2.2 2) (u_1.2.2 3) (u_1.2.2 4) (u_1.2.2 5) (u_1.2.2 6) (u_1.2.2 7)) ++ ((sndW ad 19 cy 12 (s_sn σ) (s_pl σ) (s_pw σ) (s_an σ) (s_hd σ) (s_fq σ)) ++ ((sndW ad 25 cy 6 (s_bn σ) (s_bp σ) (s_bw σ) (s_ban σ) (s_bhd σ) (s_bo σ)) ++ ((conW ad 31 cy (s_cm σ) (s_c1 σ) (s_c2 σ) (s_c3 σ) (s_c4 σ) (s_c5 σ)) ++ (entW ad 37 cy (s_em σ) (s_ep σ) (s_e1 σ) (s_e2 σ) (s_e3 σ) (s_e4 σ) (s_e5 σ)))))))))) H := hP
  have hD : va_D (zIn (wldW ad cy σ ur)) ((rooW ad 0 cy (s_fm σ) (s_fr σ)) ++ ((airW ad 1 cy (s_h σ) (s_su σ) (s_st σ) (s_sh σ) (s_fl σ) (s_cS σ) (s_cH σ) (dnD (s_h σ) (s_fl σ)) (dnE (s_h σ) (s_cS σ)) (dnF (s_h σ) (s_su σ) (s_st σ))) ++ ((airW ad 8 cy (s_h σ) (s_su σ) 0 0 0 (fun _ => 0) (fun _ => 0) (dnD (s_h σ) 0) (dnE (s_h σ) (fun _ => 0)) (dnF (s_h σ) (s_su σ) 0)) ++ ((grdW ad 15 cy (s_sea σ) (s_noi σ)) ++ ((rayW ad 18 cy (u_1.2.2 0) (u_1.2.2 1) (u_1.2.2 2) (u_1.2.2 3) (u_1.2.2 4) (u_1.2.2 5) (u_1.2.2 6) (u_1.2.2 7)) ++ ((sndW ad 19 cy 12 (s_sn σ) (s_pl σ) (s_pw σ) (s_an σ) (s_hd σ) (s_fq σ)) ++ ((sndW ad 25 cy 6 (s_bn σ) (s_bp σ) (s_bw σ) (s_ban σ) (s_bhd σ) (s_bo σ)) ++ ((conW ad 31 cy (s_cm σ) (s_c1 σ) (s_c2 σ) (s_c3 σ) (s_c4 σ) (s_c5 σ)) ++ (entW ad 37 cy (s_em σ) (s_ep σ) (s_e1 σ) (s_e2 σ) (s_e3 σ) (s_e4 σ) (s_e5 σ)))))))))) := hD
  obtain ⟨rfl, hq_1⟩ := hp_1
  obtain ⟨a_1, b_1, g_1⟩ := u_1
  rcases hq_1 with ⟨ha, hN9, hV9⟩ | ⟨ha, hB9, hV9⟩
  ·
    have ha : a_1 = 0 := ha
    subst ha
    have hP : va_P D vwCl (wldW ad cy σ g_1) H := hP
    exact zw_i M hr hlk ((b_1 : Int), σ, g_1) hP hS ⟨rfl, Or.inl ⟨hN9, hV9, rfl⟩⟩ (by decide) (by decide) dL_act_966
  ·
    have ha : a_1 = 1 := ha
    subst ha
    have hP : va_P D vwCl (wldW ad cy σ g_1) H := hP
    exact zw_i M hr hlk ((b_1 : Int), σ, g_1) hP hS ⟨rfl, Or.inr ⟨hB9, hV9, rfl⟩⟩ (by decide) (by decide) dL_act_966
