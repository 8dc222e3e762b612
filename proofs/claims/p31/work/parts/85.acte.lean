/-! the roads of act -/
set_option maxRecDepth 100000 in
set_option maxHeartbeats 8000000 in
theorem la_967_1 (l : Launch) (hst : l.stackTraces = false) (D : va_G) (cy : Nat → ClassId) (z0 : Nat) (ad : Nat → Nat) (σ : zSt) (ur : Nat → Int) (v pa pb xa xb mu fe fv yi : Int) (r_v : r32 v) (r_pa : r32 pa) (r_pb : r32 pb) (r_xa : r32 xa) (r_xb : r32 xb) (r_mu : r32 mu) (r_fe : r32 fe) (r_fv : r32 fv) (h_yi : 0 ≤ yi ∧ yi ≤ 1) (hI : zInv σ) (p : Program) (e : Env) (s : State) (m : MethodId) (args : Array Value) (below : List Frame) (meth : Method) (c : Code) (M : zM p s m args c cL_act RL 11) (hr : meth.sig.returnType = some .int) (hlk : meth.locks = false) (hE : zE D cy z0 s) (hN : zNc s) (hP0 : zWl D z0 (wldW ad cy σ ur) s.heap) (ls : Array Slot) (hl : lv_has ls 11 [(0, .ref (ad 0)), (1, .int (iI v)), (2, .int (iI 1)), (3, .int (iI pa)), (4, .int (iI pb)), (5, .int (iI xa)), (6, .int (iI xb)), (7, .int (iI mu)), (8, .int (iI fe)), (9, .int (iI fv)), (10, .int (iI yi))]) : W p l e (zRm 11 6 36 211) s m args below meth c s.heap [] 0 0 (MQ below (zQ1 D (wldW ad cy σ ur) (fun (r : Int32) (u : Int × zSt × (Nat → Int)) => r = iI u.1 ∧ (R_contactOf σ fe mu u.1 u.2.1)) (fun (u : Int × zSt × (Nat → Int)) => wldW ad cy u.2.1 u.2.2)) args s 6 36 (zIn (wldW ad cy σ ur))) (F0 m 967 ls []) := by
  obtain ⟨h_h, h_su, h_st, h_sh, h_fl, h_sn, h_bn, h_cm, h_em, h_ep, h_fr, g_cS, g_cH, g_sea, g_noi, g_pl, g_pw, g_an, g_hd, g_bp, g_bw, g_ban, g_bhd, g_c1, g_c2, g_c3, g_c4, g_c5, g_e1, g_e2, g_e3, g_e4, g_e5, hbo, hpr⟩ := hI
  have hP : va_P D vwCl ((rooW ad 0 cy (s_fm σ) (s_fr σ)) ++ ((airW ad 1 cy (s_h σ) (s_su σ) (s_st σ) (s_sh σ) (s_fl σ) (s_cS σ) (s_cH σ) (dnD (s_h σ) (s_fl σ)) (dnE (s_h σ) (s_cS σ)) (dnF (s_h σ) (s_su σ) (s_st σ))) ++ ((airW ad 8 cy (s_h σ) (s_su σ) 0 0 0 (fun _ => 0) (fun _ => 0) (dnD (s_h σ) 0) (dnE (s_h σ) (fun _ => 0)) (dnF (s_h σ) (s_su σ) 0)) ++ ((grdW ad 15 cy (s_sea σ) (s_noi σ)) ++ ((rayW ad 18 cy (ur 0) (ur 1) (ur 2) (ur 3) (ur 4) (ur 5) (ur 6) (ur 7)) ++ ((sndW ad 19 cy 12 (s_sn σ) (s_pl σ) (s_pw σ) (s_an σ) (s_hd σ) (s_fq σ)) ++ ((sndW ad 25 cy 6 (s_bn σ) (s_bp σ) (s_bw σ) (s_ban σ) (s_bhd σ) (s_bo σ)) ++ ((conW ad 31 cy (s_cm σ) (s_c1 σ) (s_c2 σ) (s_c3 σ) (s_c4 σ) (s_c5 σ)) ++ (entW ad 37 cy (s_em σ) (s_ep σ) (s_e1 σ) (s_e2 σ) (s_e3 σ) (s_e4 σ) (s_e5 σ)))))))))) s.heap := hP0.1
  have hD : va_D (zIn (wldW ad cy σ ur)) ((rooW ad 0 cy (s_fm σ) (s_fr σ)) ++ ((airW ad 1 cy (s_h σ) (s_su σ) (s_st σ) (s_sh σ) (s_fl σ) (s_cS σ) (s_cH σ) (dnD (s_h σ) (s_fl σ)) (dnE (s_h σ) (s_cS σ)) (dnF (s_h σ) (s_su σ) (s_st σ))) ++ ((airW ad 8 cy (s_h σ) (s_su σ) 0 0 0 (fun _ => 0) (fun _ => 0) (dnD (s_h σ) 0) (dnE (s_h σ) (fun _ => 0)) (dnF (s_h σ) (s_su σ) 0)) ++ ((grdW ad 15 cy (s_sea σ) (s_noi σ)) ++ ((rayW ad 18 cy (ur 0) (ur 1) (ur 2) (ur 3) (ur 4) (ur 5) (ur 6) (ur 7)) ++ ((sndW ad 19 cy 12 (s_sn σ) (s_pl σ) (s_pw σ) (s_an σ) (s_hd σ) (s_fq σ)) ++ ((sndW ad 25 cy 6 (s_bn σ) (s_bp σ) (s_bw σ) (s_ban σ) (s_bhd σ) (s_bo σ)) ++ ((conW ad 31 cy (s_cm σ) (s_c1 σ) (s_c2 σ) (s_c3 σ) (s_c4 σ) (s_c5 σ)) ++ (entW ad 37 cy (s_em σ) (s_ep σ) (s_e1 σ) (s_e2 σ) (s_e3 σ) (s_e4 σ) (s_e5 σ)))))))))) := hP0.self
  have hAz := hP0.A
  have hS : va_S (zIn (wldW ad cy σ ur)) s.heap s.heap [] := va_S.rf
  refine lv_aload_n M.1 M.2.1 dL_act_967 rfl (lv_at hl 0 rfl) ?_
  refine lv_iload M.1 M.2.1 dL_act_968 (lv_at hl 8 rfl) ?_
  refine lv_iload_n M.1 M.2.1 dL_act_970 rfl (lv_at hl 2 rfl) ?_
  refine zi_if_eq (tgt := 979) M dL_act_971 (by decide) ⟨by decide, by decide⟩ (fun q => absurd q (by decide)) (fun _ => ?_)
  refine lv_iload M.1 M.2.1 dL_act_974 (lv_at hl 7 rfl) ?_
  refine zi_goto (tgt := 987) M dL_act_976 (by decide) ?_
  refine z_cW (zx_runH (As := [.ref (ad 0), .int (iI fe), .int (iI mu)]) (rest := []) M (c_L_contactOf l hst D cy z0 ad (s_fm σ) (s_fr σ) (s_cm σ) (s_c1 σ) (s_c2 σ) (s_c3 σ) (s_c4 σ) (s_c5 σ) fe mu (by omega) (by omega) (by omega)) hE hN hS hAz (z_cut hP hD hAz [0, 31, 32, 33, 34, 35, 36] rfl (by decide +kernel)) zk_cw_L_contactOf zk_in_RL zk_st_L_contactOf zk_ml_RL_162 rfl rfl zd_L_contactOf ⟨by decide, by decide⟩ rfl hl.1 rfl (Nat.le_of_ble_eq_true rfl) dL_act_987 ⟨by decide, by decide⟩) hP hD hS [0, 31, 32, 33, 34, 35, 36] rfl (fun _ => rfl) (fun r_1 u_1 H locs hp_1 hP hD hS => ?_)
  have hP : va_P D vwCl ((rooW ad 0 cy (s_fm σ) (s_fr σ)) ++ ((airW ad 1 cy (s_h σ) (s_su σ) (s_st σ) (s_sh σ) (s_fl σ) (s_cS σ) (s_cH σ) (dnD (s_h σ) (s_fl σ)) (dnE (s_h σ) (s_cS σ)) (dnF (s_h σ) (s_su σ) (s_st σ))) ++ ((airW ad 8 cy (s_h σ) (s_su σ) 0 0 0 (fun _ => 0) (fun _ => 0) (dnD (s_h σ) 0) (dnE (s_h σ) (fun _ => 0)) (dnF (s_h σ) (s_su σ) 0)) ++ ((grdW ad 15 cy (s_sea σ) (s_noi σ)) ++ ((rayW ad 18 cy (ur 0) (ur 1) (ur 2) (ur 3) (ur 4) (ur 5) (ur 6) (ur 7)) ++ ((sndW ad 19 cy 12 (s_sn σ) (s_pl σ) (s_pw σ) (s_an σ) (s_hd σ) (s_fq σ)) ++ ((sndW ad 25 cy 6 (s_bn σ) (s_bp σ) (s_bw σ) (s_ban σ) (s_bhd σ) (s_bo σ)) ++ ((conW ad 31 cy (s_cm σ) (s_c1 σ) (s_c2 σ) (s_c3 σ) (s_c4 σ) (s_c5 σ)) ++ (entW ad 37 cy (s_em σ) (s_ep σ) (s_e1 σ) (s_e2 σ) (s_e3 σ) (s_e4 σ) (s_e5 σ)))))))))) H := hP
  have hD : va_D (zIn (wldW ad cy σ ur)) ((rooW ad 0 cy (s_fm σ) (s_fr σ)) ++ ((airW ad 1 cy (s_h σ) (s_su σ) (s_st σ) (s_sh σ) (s_fl σ) (s_cS σ) (s_cH σ) (dnD (s_h σ) (s_fl σ)) (dnE (s_h σ) (s_cS σ)) (dnF (s_h σ) (s_su σ) (s_st σ))) ++ ((airW ad 8 cy (s_h σ) (s_su σ) 0 0 0 (fun _ => 0) (fun _ => 0) (dnD (s_h σ) 0) (dnE (s_h σ) (fun _ => 0)) (dnF (s_h σ) (s_su σ) 0)) ++ ((grdW ad 15 cy (s_sea σ) (s_noi σ)) ++ ((rayW ad 18 cy (ur 0) (ur 1) (ur 2) (ur 3) (ur 4) (ur 5) (ur 6) (ur 7)) ++ ((sndW ad 19 cy 12 (s_sn σ) (s_pl σ) (s_pw σ) (s_an σ) (s_hd σ) (s_fq σ)) ++ ((sndW ad 25 cy 6 (s_bn σ) (s_bp σ) (s_bw σ) (s_ban σ) (s_bhd σ) (s_bo σ)) ++ ((conW ad 31 cy (s_cm σ) (s_c1 σ) (s_c2 σ) (s_c3 σ) (s_c4 σ) (s_c5 σ)) ++ (entW ad 37 cy (s_em σ) (s_ep σ) (s_e1 σ) (s_e2 σ) (s_e3 σ) (s_e4 σ) (s_e5 σ)))))))))) := hD
  obtain ⟨rfl, hq_1⟩ := hp_1
  obtain ⟨a_1, b_1, g_1⟩ := u_1
  rcases hq_1 with ⟨ha, hN9, hV9⟩ | ⟨ha, hB9, hV9⟩
  ·
    have ha : a_1 = 0 := ha
    subst ha
    have hP : va_P D vwCl (wldW ad cy σ ur) H := hP
    exact zw_i M hr hlk ((b_1 : Int), σ, ur) hP hS ⟨rfl, Or.inl ⟨hN9, hV9, rfl⟩⟩ (by decide) (by decide) dL_act_990
  ·
    have ha : a_1 = 1 := ha
    subst ha
    have hP : va_P D vwCl (wldW ad cy σ ur) H := hP
    exact zw_i M hr hlk ((b_1 : Int), σ, ur) hP hS ⟨rfl, Or.inr ⟨hB9, hV9, rfl⟩⟩ (by decide) (by decide) dL_act_990

set_option maxRecDepth 100000 in
set_option maxHeartbeats 8000000 in
theorem la_967_0 (l : Launch) (hst : l.stackTraces = false) (D : va_G) (cy : Nat → ClassId) (z0 : Nat) (ad : Nat → Nat) (σ : zSt) (ur : Nat → Int) (v pa pb xa xb mu fe fv yi : Int) (r_v : r32 v) (r_pa : r32 pa) (r_pb : r32 pb) (r_xa : r32 xa) (r_xb : r32 xb) (r_mu : r32 mu) (r_fe : r32 fe) (r_fv : r32 fv) (h_yi : 0 ≤ yi ∧ yi ≤ 1) (hI : zInv σ) (p : Program) (e : Env) (s : State) (m : MethodId) (args : Array Value) (below : List Frame) (meth : Method) (c : Code) (M : zM p s m args c cL_act RL 11) (hr : meth.sig.returnType = some .int) (hlk : meth.locks = false) (hE : zE D cy z0 s) (hN : zNc s) (hP0 : zWl D z0 (wldW ad cy σ ur) s.heap) (ls : Array Slot) (h_mu : 0 ≤ mu ∧ mu < 60) (hl : lv_has ls 11 [(0, .ref (ad 0)), (1, .int (iI v)), (2, .int (iI 0)), (3, .int (iI pa)), (4, .int (iI pb)), (5, .int (iI xa)), (6, .int (iI xb)), (7, .int (iI mu)), (8, .int (iI fe)), (9, .int (iI fv)), (10, .int (iI yi))]) : W p l e (zRm 11 6 36 211) s m args below meth c s.heap [] 0 0 (MQ below (zQ1 D (wldW ad cy σ ur) (fun (r : Int32) (u : Int × zSt × (Nat → Int)) => r = iI u.1 ∧ (R_contactOf σ fe (loZ (shZ v 9) 5) u.1 u.2.1)) (fun (u : Int × zSt × (Nat → Int)) => wldW ad cy u.2.1 u.2.2)) args s 6 36 (zIn (wldW ad cy σ ur))) (F0 m 967 ls []) := by
  obtain ⟨h_h, h_su, h_st, h_sh, h_fl, h_sn, h_bn, h_cm, h_em, h_ep, h_fr, g_cS, g_cH, g_sea, g_noi, g_pl, g_pw, g_an, g_hd, g_bp, g_bw, g_ban, g_bhd, g_c1, g_c2, g_c3, g_c4, g_c5, g_e1, g_e2, g_e3, g_e4, g_e5, hbo, hpr⟩ := hI
  have hP : va_P D vwCl ((rooW ad 0 cy (s_fm σ) (s_fr σ)) ++ ((airW ad 1 cy (s_h σ) (s_su σ) (s_st σ) (s_sh σ) (s_fl σ) (s_cS σ) (s_cH σ) (dnD (s_h σ) (s_fl σ)) (dnE (s_h σ) (s_cS σ)) (dnF (s_h σ) (s_su σ) (s_st σ))) ++ ((airW ad 8 cy (s_h σ) (s_su σ) 0 0 0 (fun _ => 0) (fun _ => 0) (dnD (s_h σ) 0) (dnE (s_h σ) (fun _ => 0)) (dnF (s_h σ) (s_su σ) 0)) ++ ((grdW ad 15 cy (s_sea σ) (s_noi σ)) ++ ((rayW ad 18 cy (ur 0) (ur 1) (ur 2) (ur 3) (ur 4) (ur 5) (ur 6) (ur 7)) ++ ((sndW ad 19 cy 12 (s_sn σ) (s_pl σ) (s_pw σ) (s_an σ) (s_hd σ) (s_fq σ)) ++ ((sndW ad 25 cy 6 (s_bn σ) (s_bp σ) (s_bw σ) (s_ban σ) (s_bhd σ) (s_bo σ)) ++ ((conW ad 31 cy (s_cm σ) (s_c1 σ) (s_c2 σ) (s_c3 σ) (s_c4 σ) (s_c5 σ)) ++ (entW ad 37 cy (s_em σ) (s_ep σ) (s_e1 σ) (s_e2 σ) (s_e3 σ) (s_e4 σ) (s_e5 σ)))))))))) s.heap := hP0.1
  have hD : va_D (zIn (wldW ad cy σ ur)) ((rooW ad 0 cy (s_fm σ) (s_fr σ)) ++ ((airW ad 1 cy (s_h σ) (s_su σ) (s_st σ) (s_sh σ) (s_fl σ) (s_cS σ) (s_cH σ) (dnD (s_h σ) (s_fl σ)) (dnE (s_h σ) (s_cS σ)) (dnF (s_h σ) (s_su σ) (s_st σ))) ++ ((airW ad 8 cy (s_h σ) (s_su σ) 0 0 0 (fun _ => 0) (fun _ => 0) (dnD (s_h σ) 0) (dnE (s_h σ) (fun _ => 0)) (dnF (s_h σ) (s_su σ) 0)) ++ ((grdW ad 15 cy (s_sea σ) (s_noi σ)) ++ ((rayW ad 18 cy (ur 0) (ur 1) (ur 2) (ur 3) (ur 4) (ur 5) (ur 6) (ur 7)) ++ ((sndW ad 19 cy 12 (s_sn σ) (s_pl σ) (s_pw σ) (s_an σ) (s_hd σ) (s_fq σ)) ++ ((sndW ad 25 cy 6 (s_bn σ) (s_bp σ) (s_bw σ) (s_ban σ) (s_bhd σ) (s_bo σ)) ++ ((conW ad 31 cy (s_cm σ) (s_c1 σ) (s_c2 σ) (s_c3 σ) (s_c4 σ) (s_c5 σ)) ++ (entW ad 37 cy (s_em σ) (s_ep σ) (s_e1 σ) (s_e2 σ) (s_e3 σ) (s_e4 σ) (s_e5 σ)))))))))) := hP0.self
  have hAz := hP0.A
  have hS : va_S (zIn (wldW ad cy σ ur)) s.heap s.heap [] := va_S.rf
  refine lv_aload_n M.1 M.2.1 dL_act_967 rfl (lv_at hl 0 rfl) ?_
  refine lv_iload M.1 M.2.1 dL_act_968 (lv_at hl 8 rfl) ?_
  refine lv_iload_n M.1 M.2.1 dL_act_970 rfl (lv_at hl 2 rfl) ?_
  refine zi_if_eq (tgt := 979) M dL_act_971 (by decide) ⟨by decide, by decide⟩ (fun _ => ?_) (fun q => absurd q (by decide))
  refine lv_iload_n M.1 M.2.1 dL_act_979 rfl (lv_at hl 1 rfl) ?_
  refine zi_bipush M dL_act_980 ⟨by decide, by decide⟩ ?_
  refine zi_ishr M dL_act_982 ?_
  refine zi_push M dL_act_983 ?_
  refine z_cR (z_runS (As := [.int (iI (shZ v 9)), .int (iI 5)]) (rest := [.int (iI fe), .ref (ad 0)]) M (c_L_low l D cy z0 (shZ v 9) 5 (by omega)) hE hS hAz trivial zk_cd_L_low zk_in_RL zk_st_L_low zk_ml_RL_105 rfl rfl zd_L_low ⟨by decide, by decide⟩ rfl hl.1 rfl (Nat.le_of_ble_eq_true rfl) dL_act_984 ⟨by decide, by decide⟩) ?_
  have hx_1 := loZ_rg2 ((shZ v 9)) (5) (by omega)
  refine z_cW (zx_runH (As := [.ref (ad 0), .int (iI fe), .int (iI (loZ (shZ v 9) 5))]) (rest := []) M (c_L_contactOf l hst D cy z0 ad (s_fm σ) (s_fr σ) (s_cm σ) (s_c1 σ) (s_c2 σ) (s_c3 σ) (s_c4 σ) (s_c5 σ) fe (loZ (shZ v 9) 5) (by omega) (by omega) (by omega)) hE hN hS hAz (z_cut hP hD hAz [0, 31, 32, 33, 34, 35, 36] rfl (by decide +kernel)) zk_cw_L_contactOf zk_in_RL zk_st_L_contactOf zk_ml_RL_162 rfl rfl zd_L_contactOf ⟨by decide, by decide⟩ rfl hl.1 rfl (Nat.le_of_ble_eq_true rfl) dL_act_987 ⟨by decide, by decide⟩) hP hD hS [0, 31, 32, 33, 34, 35, 36] rfl (fun _ => rfl) (fun r_2 u_2 H locs hp_2 hP hD hS => ?_)
  have hP : va_P D vwCl ((rooW ad 0 cy (s_fm σ) (s_fr σ)) ++ ((airW ad 1 cy (s_h σ) (s_su σ) (s_st σ) (s_sh σ) (s_fl σ) (s_cS σ) (s_cH σ) (dnD (s_h σ) (s_fl σ)) (dnE (s_h σ) (s_cS σ)) (dnF (s_h σ) (s_su σ) (s_st σ))) ++ ((airW ad 8 cy (s_h σ) (s_su σ) 0 0 0 (fun _ => 0) (fun _ => 0) (dnD (s_h σ) 0) (dnE (s_h σ) (fun _ => 0)) (dnF (s_h σ) (s_su σ) 0)) ++ ((grdW ad 15 cy (s_sea σ) (s_noi σ)) ++ ((rayW ad 18 cy (ur 0) (ur 1) (ur 2) (ur 3) (ur 4) (ur 5) (ur 6) (ur 7)) ++ ((sndW ad 19 cy 12 (s_sn σ) (s_pl σ) (s_pw σ) (s_an σ) (s_hd σ) (s_fq σ)) ++ ((sndW ad 25 cy 6 (s_bn σ) (s_bp σ) (s_bw σ) (s_ban σ) (s_bhd σ) (s_bo σ)) ++ ((conW ad 31 cy (s_cm σ) (s_c1 σ) (s_c2 σ) (s_c3 σ) (s_c4 σ) (s_c5 σ)) ++ (entW ad 37 cy (s_em σ) (s_ep σ) (s_e1 σ) (s_e2 σ) (s_e3 σ) (s_e4 σ) (s_e5 σ)))))))))) H := hP
  have hD : va_D (zIn (wldW ad cy σ ur)) ((rooW ad 0 cy (s_fm σ) (s_fr σ)) ++ ((airW ad 1 cy (s_h σ) (s_su σ) (s_st σ) (s_sh σ) (s_fl σ) (s_cS σ) (s_cH σ) (dnD (s_h σ) (s_fl σ)) (dnE (s_h σ) (s_cS σ)) (dnF (s_h σ) (s_su σ) (s_st σ))) ++ ((airW ad 8 cy (s_h σ) (s_su σ) 0 0 0 (fun _ => 0) (fun _ => 0) (dnD (s_h σ) 0) (dnE (s_h σ) (fun _ => 0)) (dnF (s_h σ) (s_su σ) 0)) ++ ((grdW ad 15 cy (s_sea σ) (s_noi σ)) ++ ((rayW ad 18 cy (ur 0) (ur 1) (ur 2) (ur 3) (ur 4) (ur 5) (ur 6) (ur 7)) ++ ((sndW ad 19 cy 12 (s_sn σ) (s_pl σ) (s_pw σ) (s_an σ) (s_hd σ) (s_fq σ)) ++ ((sndW ad 25 cy 6 (s_bn σ) (s_bp σ) (s_bw σ) (s_ban σ) (s_bhd σ) (s_bo σ)) ++ ((conW ad 31 cy (s_cm σ) (s_c1 σ) (s_c2 σ) (s_c3 σ) (s_c4 σ) (s_c5 σ)) ++ (entW ad 37 cy (s_em σ) (s_ep σ) (s_e1 σ) (s_e2 σ) (s_e3 σ) (s_e4 σ) (s_e5 σ)))))))))) := hD
  obtain ⟨rfl, hq_2⟩ := hp_2
  obtain ⟨a_2, b_2, g_2⟩ := u_2
  rcases hq_2 with ⟨ha, hN9, hV9⟩ | ⟨ha, hB9, hV9⟩
  ·
    have ha : a_2 = 0 := ha
    subst ha
    have hP : va_P D vwCl (wldW ad cy σ ur) H := hP
    exact zw_i M hr hlk ((b_2 : Int), σ, ur) hP hS ⟨rfl, Or.inl ⟨hN9, hV9, rfl⟩⟩ (by decide) (by decide) dL_act_990
  ·
    have ha : a_2 = 1 := ha
    subst ha
    have hP : va_P D vwCl (wldW ad cy σ ur) H := hP
    exact zw_i M hr hlk ((b_2 : Int), σ, ur) hP hS ⟨rfl, Or.inr ⟨hB9, hV9, rfl⟩⟩ (by decide) (by decide) dL_act_990

set_option maxRecDepth 100000 in
set_option maxHeartbeats 8000000 in
theorem la_991_1 (l : Launch) (hst : l.stackTraces = false) (D : va_G) (cy : Nat → ClassId) (z0 : Nat) (ad : Nat → Nat) (σ : zSt) (ur : Nat → Int) (v pa pb xa xb mu fe fv yi : Int) (r_v : r32 v) (r_pa : r32 pa) (r_pb : r32 pb) (r_xa : r32 xa) (r_xb : r32 xb) (r_mu : r32 mu) (r_fe : r32 fe) (r_fv : r32 fv) (h_yi : 0 ≤ yi ∧ yi ≤ 1) (hI : zInv σ) (p : Program) (e : Env) (s : State) (m : MethodId) (args : Array Value) (below : List Frame) (meth : Method) (c : Code) (M : zM p s m args c cL_act RL 11) (hr : meth.sig.returnType = some .int) (hlk : meth.locks = false) (hE : zE D cy z0 s) (hN : zNc s) (hP0 : zWl D z0 (wldW ad cy σ ur) s.heap) (ls : Array Slot) (hl : lv_has ls 11 [(0, .ref (ad 0)), (1, .int (iI v)), (2, .int (iI 1)), (3, .int (iI pa)), (4, .int (iI pb)), (5, .int (iI xa)), (6, .int (iI xb)), (7, .int (iI mu)), (8, .int (iI fe)), (9, .int (iI fv)), (10, .int (iI yi))]) : W p l e (zRm 11 6 36 211) s m args below meth c s.heap [] 0 0 (MQ below (zQ1 D (wldW ad cy σ ur) (fun (r : Int32) (u : Int × zSt × (Nat → Int)) => r = iI u.1 ∧ (R_entryOf σ mu fe u.1 u.2.1)) (fun (u : Int × zSt × (Nat → Int)) => wldW ad cy u.2.1 u.2.2)) args s 6 36 (zIn (wldW ad cy σ ur))) (F0 m 991 ls []) := by
  obtain ⟨h_h, h_su, h_st, h_sh, h_fl, h_sn, h_bn, h_cm, h_em, h_ep, h_fr, g_cS, g_cH, g_sea, g_noi, g_pl, g_pw, g_an, g_hd, g_bp, g_bw, g_ban, g_bhd, g_c1, g_c2, g_c3, g_c4, g_c5, g_e1, g_e2, g_e3, g_e4, g_e5, hbo, hpr⟩ := hI
  have hP : va_P D vwCl ((rooW ad 0 cy (s_fm σ) (s_fr σ)) ++ ((airW ad 1 cy (s_h σ) (s_su σ) (s_st σ) (s_sh σ) (s_fl σ) (s_cS σ) (s_cH σ) (dnD (s_h σ) (s_fl σ)) (dnE (s_h σ) (s_cS σ)) (dnF (s_h σ) (s_su σ) (s_st σ))) ++ ((airW ad 8 cy (s_h σ) (s_su σ) 0 0 0 (fun _ => 0) (fun _ => 0) (dnD (s_h σ) 0) (dnE (s_h σ) (fun _ => 0)) (dnF (s_h σ) (s_su σ) 0)) ++ ((grdW ad 15 cy (s_sea σ) (s_noi σ)) ++ ((rayW ad 18 cy (ur 0) (ur 1) (ur 2) (ur 3) (ur 4) (ur 5) (ur 6) (ur 7)) ++ ((sndW ad 19 cy 12 (s_sn σ) (s_pl σ) (s_pw σ) (s_an σ) (s_hd σ) (s_fq σ)) ++ ((sndW ad 25 cy 6 (s_bn σ) (s_bp σ) (s_bw σ) (s_ban σ) (s_bhd σ) (s_bo σ)) ++ ((conW ad 31 cy (s_cm σ) (s_c1 σ) (s_c2 σ) (s_c3 σ) (s_c4 σ) (s_c5 σ)) ++ (entW ad 37 cy (s_em σ) (s_ep σ) (s_e1 σ) (s_e2 σ) (s_e3 σ) (s_e4 σ) (s_e5 σ)))))))))) s.heap := hP0.1
  have hD : va_D (zIn (wldW ad cy σ ur)) ((rooW ad 0 cy (s_fm σ) (s_fr σ)) ++ ((airW ad 1 cy (s_h σ) (s_su σ) (s_st σ) (s_sh σ) (s_fl σ) (s_cS σ) (s_cH σ) (dnD (s_h σ) (s_fl σ)) (dnE (s_h σ) (s_cS σ)) (dnF (s_h σ) (s_su σ) (s_st σ))) ++ ((airW ad 8 cy (s_h σ) (s_su σ) 0 0 0 (fun _ => 0) (fun _ => 0) (dnD (s_h σ) 0) (dnE (s_h σ) (fun _ => 0)) (dnF (s_h σ) (s_su σ) 0)) ++ ((grdW ad 15 cy (s_sea σ) (s_noi σ)) ++ ((rayW ad 18 cy (ur 0) (ur 1) (ur 2) (ur 3) (ur 4) (ur 5) (ur 6) (ur 7)) ++ ((sndW ad 19 cy 12 (s_sn σ) (s_pl σ) (s_pw σ) (s_an σ) (s_hd σ) (s_fq σ)) ++ ((sndW ad 25 cy 6 (s_bn σ) (s_bp σ) (s_bw σ) (s_ban σ) (s_bhd σ) (s_bo σ)) ++ ((conW ad 31 cy (s_cm σ) (s_c1 σ) (s_c2 σ) (s_c3 σ) (s_c4 σ) (s_c5 σ)) ++ (entW ad 37 cy (s_em σ) (s_ep σ) (s_e1 σ) (s_e2 σ) (s_e3 σ) (s_e4 σ) (s_e5 σ)))))))))) := hP0.self
  have hAz := hP0.A
  have hS : va_S (zIn (wldW ad cy σ ur)) s.heap s.heap [] := va_S.rf
  refine lv_aload_n M.1 M.2.1 dL_act_991 rfl (lv_at hl 0 rfl) ?_
  refine lv_iload_n M.1 M.2.1 dL_act_992 rfl (lv_at hl 2 rfl) ?_
  refine zi_if_eq (tgt := 1001) M dL_act_993 (by decide) ⟨by decide, by decide⟩ (fun q => absurd q (by decide)) (fun _ => ?_)
  refine lv_iload M.1 M.2.1 dL_act_996 (lv_at hl 7 rfl) ?_
  refine zi_goto (tgt := 1010) M dL_act_998 (by decide) ?_
  refine lv_iload_n M.1 M.2.1 dL_act_1010 rfl (lv_at hl 2 rfl) ?_
  refine zi_if_eq (tgt := 1019) M dL_act_1011 (by decide) ⟨by decide, by decide⟩ (fun q => absurd q (by decide)) (fun _ => ?_)
  refine lv_iload M.1 M.2.1 dL_act_1014 (lv_at hl 8 rfl) ?_
  refine zi_goto (tgt := 1027) M dL_act_1016 (by decide) ?_
  refine z_cW (zx_runH (As := [.ref (ad 0), .int (iI mu), .int (iI fe)]) (rest := []) M (c_L_entryOf l hst D cy z0 ad (s_fm σ) (s_fr σ) (s_cm σ) (s_em σ) (s_ep σ) (s_c1 σ) (s_c2 σ) (s_c3 σ) (s_c4 σ) (s_c5 σ) (s_e1 σ) (s_e2 σ) (s_e3 σ) (s_e4 σ) (s_e5 σ) mu fe (by omega) (by omega) g_c1 g_c2 g_c3 g_c5 g_e1 g_e2 g_e3 g_e4 g_e5 (by omega) (by omega)) hE hN hS hAz (z_cut hP hD hAz [0, 31, 32, 33, 34, 35, 36, 37, 38, 39, 40, 41, 42] rfl (by decide +kernel)) zk_cw_L_entryOf zk_in_RL zk_st_L_entryOf zk_ml_RL_164 rfl rfl zd_L_entryOf ⟨by decide, by decide⟩ rfl hl.1 rfl (Nat.le_of_ble_eq_true rfl) dL_act_1027 ⟨by decide, by decide⟩) hP hD hS [0, 31, 32, 33, 34, 35, 36, 37, 38, 39, 40, 41, 42] rfl (fun _ => rfl) (fun r_1 u_1 H locs hp_1 hP hD hS => ?_)
  have hP : va_P D vwCl ((rooW ad 0 cy (s_fm σ) (s_fr σ)) ++ ((airW ad 1 cy (s_h σ) (s_su σ) (s_st σ) (s_sh σ) (s_fl σ) (s_cS σ) (s_cH σ) (dnD (s_h σ) (s_fl σ)) (dnE (s_h σ) (s_cS σ)) (dnF (s_h σ) (s_su σ) (s_st σ))) ++ ((airW ad 8 cy (s_h σ) (s_su σ) 0 0 0 (fun _ => 0) (fun _ => 0) (dnD (s_h σ) 0) (dnE (s_h σ) (fun _ => 0)) (dnF (s_h σ) (s_su σ) 0)) ++ ((grdW ad 15 cy (s_sea σ) (s_noi σ)) ++ ((rayW ad 18 cy (ur 0) (ur 1) (ur 2) (ur 3) (ur 4) (ur 5) (ur 6) (ur 7)) ++ ((sndW ad 19 cy 12 (s_sn σ) (s_pl σ) (s_pw σ) (s_an σ) (s_hd σ) (s_fq σ)) ++ ((sndW ad 25 cy 6 (s_bn σ) (s_bp σ) (s_bw σ) (s_ban σ) (s_bhd σ) (s_bo σ)) ++ ((conW ad 31 cy (s_cm σ) (s_c1 σ) (s_c2 σ) (s_c3 σ) (s_c4 σ) (s_c5 σ)) ++ (entW ad 37 cy (s_em σ) (s_ep σ) (s_e1 σ) (s_e2 σ) (s_e3 σ) (s_e4 σ) (s_e5 σ)))))))))) H := hP
  have hD : va_D (zIn (wldW ad cy σ ur)) ((rooW ad 0 cy (s_fm σ) (s_fr σ)) ++ ((airW ad 1 cy (s_h σ) (s_su σ) (s_st σ) (s_sh σ) (s_fl σ) (s_cS σ) (s_cH σ) (dnD (s_h σ) (s_fl σ)) (dnE (s_h σ) (s_cS σ)) (dnF (s_h σ) (s_su σ) (s_st σ))) ++ ((airW ad 8 cy (s_h σ) (s_su σ) 0 0 0 (fun _ => 0) (fun _ => 0) (dnD (s_h σ) 0) (dnE (s_h σ) (fun _ => 0)) (dnF (s_h σ) (s_su σ) 0)) ++ ((grdW ad 15 cy (s_sea σ) (s_noi σ)) ++ ((rayW ad 18 cy (ur 0) (ur 1) (ur 2) (ur 3) (ur 4) (ur 5) (ur 6) (ur 7)) ++ ((sndW ad 19 cy 12 (s_sn σ) (s_pl σ) (s_pw σ) (s_an σ) (s_hd σ) (s_fq σ)) ++ ((sndW ad 25 cy 6 (s_bn σ) (s_bp σ) (s_bw σ) (s_ban σ) (s_bhd σ) (s_bo σ)) ++ ((conW ad 31 cy (s_cm σ) (s_c1 σ) (s_c2 σ) (s_c3 σ) (s_c4 σ) (s_c5 σ)) ++ (entW ad 37 cy (s_em σ) (s_ep σ) (s_e1 σ) (s_e2 σ) (s_e3 σ) (s_e4 σ) (s_e5 σ)))))))))) := hD
  obtain ⟨rfl, hq_1⟩ := hp_1
  obtain ⟨a_1, b_1, g_1⟩ := u_1
  rcases hq_1 with ⟨ha, hN9, hV9⟩ | ⟨ha, hB9, hV9⟩
  ·
    have ha : a_1 = 0 := ha
    subst ha
    have hP : va_P D vwCl (wldW ad cy σ ur) H := hP
    exact zw_i M hr hlk ((b_1 : Int), σ, ur) hP hS ⟨rfl, Or.inl ⟨hN9, hV9, rfl⟩⟩ (by decide) (by decide) dL_act_1030
  ·
    have ha : a_1 = 1 := ha
    subst ha
    have hP : va_P D vwCl (wldW ad cy σ ur) H := hP
    exact zw_i M hr hlk ((b_1 : Int), σ, ur) hP hS ⟨rfl, Or.inr ⟨hB9, hV9, rfl⟩⟩ (by decide) (by decide) dL_act_1030

set_option maxRecDepth 100000 in
set_option maxHeartbeats 8000000 in
theorem la_991_0 (l : Launch) (hst : l.stackTraces = false) (D : va_G) (cy : Nat → ClassId) (z0 : Nat) (ad : Nat → Nat) (σ : zSt) (ur : Nat → Int) (v pa pb xa xb mu fe fv yi : Int) (r_v : r32 v) (r_pa : r32 pa) (r_pb : r32 pb) (r_xa : r32 xa) (r_xb : r32 xb) (r_mu : r32 mu) (r_fe : r32 fe) (r_fv : r32 fv) (h_yi : 0 ≤ yi ∧ yi ≤ 1) (hI : zInv σ) (p : Program) (e : Env) (s : State) (m : MethodId) (args : Array Value) (below : List Frame) (meth : Method) (c : Code) (M : zM p s m args c cL_act RL 11) (hr : meth.sig.returnType = some .int) (hlk : meth.locks = false) (hE : zE D cy z0 s) (hN : zNc s) (hP0 : zWl D z0 (wldW ad cy σ ur) s.heap) (ls : Array Slot) (h_mu : 0 ≤ mu ∧ mu < 60) (hl : lv_has ls 11 [(0, .ref (ad 0)), (1, .int (iI v)), (2, .int (iI 0)), (3, .int (iI pa)), (4, .int (iI pb)), (5, .int (iI xa)), (6, .int (iI xb)), (7, .int (iI mu)), (8, .int (iI fe)), (9, .int (iI fv)), (10, .int (iI yi))]) : W p l e (zRm 11 6 36 211) s m args below meth c s.heap [] 0 0 (MQ below (zQ1 D (wldW ad cy σ ur) (fun (r : Int32) (u : Int × zSt × (Nat → Int)) => r = iI u.1 ∧ (R_entryOf σ (loZ (shZ v 9) 8) (loZ (shZ v 3) 6) u.1 u.2.1)) (fun (u : Int × zSt × (Nat → Int)) => wldW ad cy u.2.1 u.2.2)) args s 6 36 (zIn (wldW ad cy σ ur))) (F0 m 991 ls []) := by
  obtain ⟨h_h, h_su, h_st, h_sh, h_fl, h_sn, h_bn, h_cm, h_em, h_ep, h_fr, g_cS, g_cH, g_sea, g_noi, g_pl, g_pw, g_an, g_hd, g_bp, g_bw, g_ban, g_bhd, g_c1, g_c2, g_c3, g_c4, g_c5, g_e1, g_e2, g_e3, g_e4, g_e5, hbo, hpr⟩ := hI
  have hP : va_P D vwCl ((rooW ad 0 cy (s_fm σ) (s_fr σ)) ++ ((airW ad 1 cy (s_h σ) (s_su σ) (s_st σ) (s_sh σ) (s_fl σ) (s_cS σ) (s_cH σ) (dnD (s_h σ) (s_fl σ)) (dnE (s_h σ) (s_cS σ)) (dnF (s_h σ) (s_su σ) (s_st σ))) ++ ((airW ad 8 cy (s_h σ) (s_su σ) 0 0 0 (fun _ => 0) (fun _ => 0) (dnD (s_h σ) 0) (dnE (s_h σ) (fun _ => 0)) (dnF (s_h σ) (s_su σ) 0)) ++ ((grdW ad 15 cy (s_sea σ) (s_noi σ)) ++ ((rayW ad 18 cy (ur 0) (ur 1) (ur 2) (ur 3) (ur 4) (ur 5) (ur 6) (ur 7)) ++ ((sndW ad 19 cy 12 (s_sn σ) (s_pl σ) (s_pw σ) (s_an σ) (s_hd σ) (s_fq σ)) ++ ((sndW ad 25 cy 6 (s_bn σ) (s_bp σ) (s_bw σ) (s_ban σ) (s_bhd σ) (s_bo σ)) ++ ((conW ad 31 cy (s_cm σ) (s_c1 σ) (s_c2 σ) (s_c3 σ) (s_c4 σ) (s_c5 σ)) ++ (entW ad 37 cy (s_em σ) (s_ep σ) (s_e1 σ) (s_e2 σ) (s_e3 σ) (s_e4 σ) (s_e5 σ)))))))))) s.heap := hP0.1
  have hD : va_D (zIn (wldW ad cy σ ur)) ((rooW ad 0 cy (s_fm σ) (s_fr σ)) ++ ((airW ad 1 cy (s_h σ) (s_su σ) (s_st σ) (s_sh σ) (s_fl σ) (s_cS σ) (s_cH σ) (dnD (s_h σ) (s_fl σ)) (dnE (s_h σ) (s_cS σ)) (dnF (s_h σ) (s_su σ) (s_st σ))) ++ ((airW ad 8 cy (s_h σ) (s_su σ) 0 0 0 (fun _ => 0) (fun _ => 0) (dnD (s_h σ) 0) (dnE (s_h σ) (fun _ => 0)) (dnF (s_h σ) (s_su σ) 0)) ++ ((grdW ad 15 cy (s_sea σ) (s_noi σ)) ++ ((rayW ad 18 cy (ur 0) (ur 1) (ur 2) (ur 3) (ur 4) (ur 5) (ur 6) (ur 7)) ++ ((sndW ad 19 cy 12 (s_sn σ) (s_pl σ) (s_pw σ) (s_an σ) (s_hd σ) (s_fq σ)) ++ ((sndW ad 25 cy 6 (s_bn σ) (s_bp σ) (s_bw σ) (s_ban σ) (s_bhd σ) (s_bo σ)) ++ ((conW ad 31 cy (s_cm σ) (s_c1 σ) (s_c2 σ) (s_c3 σ) (s_c4 σ) (s_c5 σ)) ++ (entW ad 37 cy (s_em σ) (s_ep σ) (s_e1 σ) (s_e2 σ) (s_e3 σ) (s_e4 σ) (s_e5 σ)))))))))) := hP0.self
  have hAz := hP0.A
  have hS : va_S (zIn (wldW ad cy σ ur)) s.heap s.heap [] := va_S.rf
  refine lv_aload_n M.1 M.2.1 dL_act_991 rfl (lv_at hl 0 rfl) ?_
  refine lv_iload_n M.1 M.2.1 dL_act_992 rfl (lv_at hl 2 rfl) ?_
  refine zi_if_eq (tgt := 1001) M dL_act_993 (by decide) ⟨by decide, by decide⟩ (fun _ => ?_) (fun q => absurd q (by decide))
  refine lv_iload_n M.1 M.2.1 dL_act_1001 rfl (lv_at hl 1 rfl) ?_
  refine zi_bipush M dL_act_1002 ⟨by decide, by decide⟩ ?_
  refine zi_ishr M dL_act_1004 ?_
  refine zi_bipush M dL_act_1005 ⟨by decide, by decide⟩ ?_
  refine z_cR (z_runS (As := [.int (iI (shZ v 9)), .int (iI 8)]) (rest := [.ref (ad 0)]) M (c_L_low l D cy z0 (shZ v 9) 8 (by omega)) hE hS hAz trivial zk_cd_L_low zk_in_RL zk_st_L_low zk_ml_RL_105 rfl rfl zd_L_low ⟨by decide, by decide⟩ rfl hl.1 rfl (Nat.le_of_ble_eq_true rfl) dL_act_1007 ⟨by decide, by decide⟩) ?_
  have hx_1 := loZ_rg2 ((shZ v 9)) (8) (by omega)
  refine lv_iload_n M.1 M.2.1 dL_act_1010 rfl (lv_at hl 2 rfl) ?_
  refine zi_if_eq (tgt := 1019) M dL_act_1011 (by decide) ⟨by decide, by decide⟩ (fun _ => ?_) (fun q => absurd q (by decide))
  refine lv_iload_n M.1 M.2.1 dL_act_1019 rfl (lv_at hl 1 rfl) ?_
  refine zi_push M dL_act_1020 ?_
  refine zi_ishr M dL_act_1021 ?_
  refine zi_bipush M dL_act_1022 ⟨by decide, by decide⟩ ?_
  refine z_cR (z_runS (As := [.int (iI (shZ v 3)), .int (iI 6)]) (rest := [.int (iI (loZ (shZ v 9) 8)), .ref (ad 0)]) M (c_L_low l D cy z0 (shZ v 3) 6 (by omega)) hE hS hAz trivial zk_cd_L_low zk_in_RL zk_st_L_low zk_ml_RL_105 rfl rfl zd_L_low ⟨by decide, by decide⟩ rfl hl.1 rfl (Nat.le_of_ble_eq_true rfl) dL_act_1024 ⟨by decide, by decide⟩) ?_
  have hx_2 := loZ_rg2 ((shZ v 3)) (6) (by omega)
  refine z_cW (zx_runH (As := [.ref (ad 0), .int (iI (loZ (shZ v 9) 8)), .int (iI (loZ (shZ v 3) 6))]) (rest := []) M (c_L_entryOf l hst D cy z0 ad (s_fm σ) (s_fr σ) (s_cm σ) (s_em σ) (s_ep σ) (s_c1 σ) (s_c2 σ) (s_c3 σ) (s_c4 σ) (s_c5 σ) (s_e1 σ) (s_e2 σ) (s_e3 σ) (s_e4 σ) (s_e5 σ) (loZ (shZ v 9) 8) (loZ (shZ v 3) 6) (by omega) (by omega) g_c1 g_c2 g_c3 g_c5 g_e1 g_e2 g_e3 g_e4 g_e5 (by omega) (by omega)) hE hN hS hAz (z_cut hP hD hAz [0, 31, 32, 33, 34, 35, 36, 37, 38, 39, 40, 41, 42] rfl (by decide +kernel)) zk_cw_L_entryOf zk_in_RL zk_st_L_entryOf zk_ml_RL_164 rfl rfl zd_L_entryOf ⟨by decide, by decide⟩ rfl hl.1 rfl (Nat.le_of_ble_eq_true rfl) dL_act_1027 ⟨by decide, by decide⟩) hP hD hS [0, 31, 32, 33, 34, 35, 36, 37, 38, 39, 40, 41, 42] rfl (fun _ => rfl) (fun r_3 u_3 H locs hp_3 hP hD hS => ?_)
  have hP : va_P D vwCl ((rooW ad 0 cy (s_fm σ) (s_fr σ)) ++ ((airW ad 1 cy (s_h σ) (s_su σ) (s_st σ) (s_sh σ) (s_fl σ) (s_cS σ) (s_cH σ) (dnD (s_h σ) (s_fl σ)) (dnE (s_h σ) (s_cS σ)) (dnF (s_h σ) (s_su σ) (s_st σ))) ++ ((airW ad 8 cy (s_h σ) (s_su σ) 0 0 0 (fun _ => 0) (fun _ => 0) (dnD (s_h σ) 0) (dnE (s_h σ) (fun _ => 0)) (dnF (s_h σ) (s_su σ) 0)) ++ ((grdW ad 15 cy (s_sea σ) (s_noi σ)) ++ ((rayW ad 18 cy (ur 0) (ur 1) (ur 2) (ur 3) (ur 4) (ur 5) (ur 6) (ur 7)) ++ ((sndW ad 19 cy 12 (s_sn σ) (s_pl σ) (s_pw σ) (s_an σ) (s_hd σ) (s_fq σ)) ++ ((sndW ad 25 cy 6 (s_bn σ) (s_bp σ) (s_bw σ) (s_ban σ) (s_bhd σ) (s_bo σ)) ++ ((conW ad 31 cy (s_cm σ) (s_c1 σ) (s_c2 σ) (s_c3 σ) (s_c4 σ) (s_c5 σ)) ++ (entW ad 37 cy (s_em σ) (s_ep σ) (s_e1 σ) (s_e2 σ) (s_e3 σ) (s_e4 σ) (s_e5 σ)))))))))) H := hP
  have hD : va_D (zIn (wldW ad cy σ ur)) ((rooW ad 0 cy (s_fm σ) (s_fr σ)) ++ ((airW ad 1 cy (s_h σ) (s_su σ) (s_st σ) (s_sh σ) (s_fl σ) (s_cS σ) (s_cH σ) (dnD (s_h σ) (s_fl σ)) (dnE (s_h σ) (s_cS σ)) (dnF (s_h σ) (s_su σ) (s_st σ))) ++ ((airW ad 8 cy (s_h σ) (s_su σ) 0 0 0 (fun _ => 0) (fun _ => 0) (dnD (s_h σ) 0) (dnE (s_h σ) (fun _ => 0)) (dnF (s_h σ) (s_su σ) 0)) ++ ((grdW ad 15 cy (s_sea σ) (s_noi σ)) ++ ((rayW ad 18 cy (ur 0) (ur 1) (ur 2) (ur 3) (ur 4) (ur 5) (ur 6) (ur 7)) ++ ((sndW ad 19 cy 12 (s_sn σ) (s_pl σ) (s_pw σ) (s_an σ) (s_hd σ) (s_fq σ)) ++ ((sndW ad 25 cy 6 (s_bn σ) (s_bp σ) (s_bw σ) (s_ban σ) (s_bhd σ) (s_bo σ)) ++ ((conW ad 31 cy (s_cm σ) (s_c1 σ) (s_c2 σ) (s_c3 σ) (s_c4 σ) (s_c5 σ)) ++ (entW ad 37 cy (s_em σ) (s_ep σ) (s_e1 σ) (s_e2 σ) (s_e3 σ) (s_e4 σ) (s_e5 σ)))))))))) := hD
  obtain ⟨rfl, hq_3⟩ := hp_3
  obtain ⟨a_3, b_3, g_3⟩ := u_3
  rcases hq_3 with ⟨ha, hN9, hV9⟩ | ⟨ha, hB9, hV9⟩
  ·
    have ha : a_3 = 0 := ha
    subst ha
    have hP : va_P D vwCl (wldW ad cy σ ur) H := hP
    exact zw_i M hr hlk ((b_3 : Int), σ, ur) hP hS ⟨rfl, Or.inl ⟨hN9, hV9, rfl⟩⟩ (by decide) (by decide) dL_act_1030
  ·
    have ha : a_3 = 1 := ha
    subst ha
    have hP : va_P D vwCl (wldW ad cy σ ur) H := hP
    exact zw_i M hr hlk ((b_3 : Int), σ, ur) hP hS ⟨rfl, Or.inr ⟨hB9, hV9, rfl⟩⟩ (by decide) (by decide) dL_act_1030

set_option maxRecDepth 100000 in
set_option maxHeartbeats 8000000 in
theorem la_1031_1 (l : Launch) (hst : l.stackTraces = false) (D : va_G) (cy : Nat → ClassId) (z0 : Nat) (ad : Nat → Nat) (σ : zSt) (ur : Nat → Int) (v pa pb xa xb mu fe fv yi : Int) (r_v : r32 v) (r_pa : r32 pa) (r_pb : r32 pb) (r_xa : r32 xa) (r_xb : r32 xb) (r_mu : r32 mu) (r_fe : r32 fe) (r_fv : r32 fv) (h_yi : 0 ≤ yi ∧ yi ≤ 1) (hI : zInv σ) (p : Program) (e : Env) (s : State) (m : MethodId) (args : Array Value) (below : List Frame) (meth : Method) (c : Code) (M : zM p s m args c cL_act RL 11) (hr : meth.sig.returnType = some .int) (hlk : meth.locks = false) (hE : zE D cy z0 s) (hN : zNc s) (hP0 : zWl D z0 (wldW ad cy σ ur) s.heap) (ls : Array Slot) (hl : lv_has ls 11 [(0, .ref (ad 0)), (1, .int (iI v)), (2, .int (iI 1)), (3, .int (iI pa)), (4, .int (iI pb)), (5, .int (iI xa)), (6, .int (iI xb)), (7, .int (iI mu)), (8, .int (iI fe)), (9, .int (iI fv)), (10, .int (iI yi))]) : W p l e (zRm 11 6 36 211) s m args below meth c s.heap [] 0 0 (MQ below (zQ1 D (wldW ad cy σ ur) (fun (r : Int32) (u : Int × zSt × (Nat → Int)) => r = iI u.1 ∧ (R_score σ xa u.1 u.2.1)) (fun (u : Int × zSt × (Nat → Int)) => wldW ad cy u.2.1 u.2.2)) args s 6 36 (zIn (wldW ad cy σ ur))) (F0 m 1031 ls []) := by
  obtain ⟨h_h, h_su, h_st, h_sh, h_fl, h_sn, h_bn, h_cm, h_em, h_ep, h_fr, g_cS, g_cH, g_sea, g_noi, g_pl, g_pw, g_an, g_hd, g_bp, g_bw, g_ban, g_bhd, g_c1, g_c2, g_c3, g_c4, g_c5, g_e1, g_e2, g_e3, g_e4, g_e5, hbo, hpr⟩ := hI
  have hP : va_P D vwCl ((rooW ad 0 cy (s_fm σ) (s_fr σ)) ++ ((airW ad 1 cy (s_h σ) (s_su σ) (s_st σ) (s_sh σ) (s_fl σ) (s_cS σ) (s_cH σ) (dnD (s_h σ) (s_fl σ)) (dnE (s_h σ) (s_cS σ)) (dnF (s_h σ) (s_su σ) (s_st σ))) ++ ((airW ad 8 cy (s_h σ) (s_su σ) 0 0 0 (fun _ => 0) (fun _ => 0) (dnD (s_h σ) 0) (dnE (s_h σ) (fun _ => 0)) (dnF (s_h σ) (s_su σ) 0)) ++ ((grdW ad 15 cy (s_sea σ) (s_noi σ)) ++ ((rayW ad 18 cy (ur 0) (ur 1) (ur 2) (ur 3) (ur 4) (ur 5) (ur 6) (ur 7)) ++ ((sndW ad 19 cy 12 (s_sn σ) (s_pl σ) (s_pw σ) (s_an σ) (s_hd σ) (s_fq σ)) ++ ((sndW ad 25 cy 6 (s_bn σ) (s_bp σ) (s_bw σ) (s_ban σ) (s_bhd σ) (s_bo σ)) ++ ((conW ad 31 cy (s_cm σ) (s_c1 σ) (s_c2 σ) (s_c3 σ) (s_c4 σ) (s_c5 σ)) ++ (entW ad 37 cy (s_em σ) (s_ep σ) (s_e1 σ) (s_e2 σ) (s_e3 σ) (s_e4 σ) (s_e5 σ)))))))))) s.heap := hP0.1
  have hD : va_D (zIn (wldW ad cy σ ur)) ((rooW ad 0 cy (s_fm σ) (s_fr σ)) ++ ((airW ad 1 cy (s_h σ) (s_su σ) (s_st σ) (s_sh σ) (s_fl σ) (s_cS σ) (s_cH σ) (dnD (s_h σ) (s_fl σ)) (dnE (s_h σ) (s_cS σ)) (dnF (s_h σ) (s_su σ) (s_st σ))) ++ ((airW ad 8 cy (s_h σ) (s_su σ) 0 0 0 (fun _ => 0) (fun _ => 0) (dnD (s_h σ) 0) (dnE (s_h σ) (fun _ => 0)) (dnF (s_h σ) (s_su σ) 0)) ++ ((grdW ad 15 cy (s_sea σ) (s_noi σ)) ++ ((rayW ad 18 cy (ur 0) (ur 1) (ur 2) (ur 3) (ur 4) (ur 5) (ur 6) (ur 7)) ++ ((sndW ad 19 cy 12 (s_sn σ) (s_pl σ) (s_pw σ) (s_an σ) (s_hd σ) (s_fq σ)) ++ ((sndW ad 25 cy 6 (s_bn σ) (s_bp σ) (s_bw σ) (s_ban σ) (s_bhd σ) (s_bo σ)) ++ ((conW ad 31 cy (s_cm σ) (s_c1 σ) (s_c2 σ) (s_c3 σ) (s_c4 σ) (s_c5 σ)) ++ (entW ad 37 cy (s_em σ) (s_ep σ) (s_e1 σ) (s_e2 σ) (s_e3 σ) (s_e4 σ) (s_e5 σ)))))))))) := hP0.self
  have hAz := hP0.A
  have hS : va_S (zIn (wldW ad cy σ ur)) s.heap s.heap [] := va_S.rf
  refine lv_aload_n M.1 M.2.1 dL_act_1031 rfl (lv_at hl 0 rfl) ?_
  refine lv_iload M.1 M.2.1 dL_act_1032 (lv_at hl 5 rfl) ?_
  refine z_cW (zx_runH (As := [.ref (ad 0), .int (iI xa)]) (rest := []) M (c_L_score l hst D cy z0 ad (s_fm σ) (s_fr σ) (s_h σ) (s_su σ) (s_st σ) (s_sh σ) (s_fl σ) (s_sn σ) (s_cm σ) (s_em σ) (s_ep σ) (s_cS σ) (s_cH σ) (dnD (s_h σ) (s_fl σ)) (dnE (s_h σ) (s_cS σ)) (dnF (s_h σ) (s_su σ) (s_st σ)) (s_pl σ) (s_pw σ) (s_an σ) (s_hd σ) (s_fq σ) (s_c1 σ) (s_c2 σ) (s_c3 σ) (s_c4 σ) (s_c5 σ) (s_e1 σ) (s_e2 σ) (s_e3 σ) (s_e4 σ) (s_e5 σ) xa (by omega) g_pl g_c1 g_c2 g_c3 g_c5 g_e1 g_e2 g_e3 g_e4 g_e5 (by omega) (by omega) (by omega) (by omega)) hE hN hS hAz (z_cut hP hD hAz [0, 1, 2, 3, 4, 5, 6, 7, 19, 20, 21, 22, 23, 24, 31, 32, 33, 34, 35, 36, 37, 38, 39, 40, 41, 42] rfl (by decide +kernel)) zk_cw_L_score zk_in_RL zk_st_L_score zk_ml_RL_166 rfl rfl zd_L_score ⟨by decide, by decide⟩ rfl hl.1 rfl (Nat.le_of_ble_eq_true rfl) dL_act_1034 ⟨by decide, by decide⟩) hP hD hS [0, 1, 2, 3, 4, 5, 6, 7, 19, 20, 21, 22, 23, 24, 31, 32, 33, 34, 35, 36, 37, 38, 39, 40, 41, 42] rfl (fun _ => rfl) (fun r_1 u_1 H locs hp_1 hP hD hS => ?_)
  have hP : va_P D vwCl ((rooW ad 0 cy (s_fm σ) (s_fr σ)) ++ ((airW ad 1 cy (s_h σ) (s_su σ) (s_st σ) (s_sh σ) (s_fl σ) (s_cS σ) (s_cH σ) (dnD (s_h σ) (s_fl σ)) (dnE (s_h σ) (s_cS σ)) (dnF (s_h σ) (s_su σ) (s_st σ))) ++ ((airW ad 8 cy (s_h σ) (s_su σ) 0 0 0 (fun _ => 0) (fun _ => 0) (dnD (s_h σ) 0) (dnE (s_h σ) (fun _ => 0)) (dnF (s_h σ) (s_su σ) 0)) ++ ((grdW ad 15 cy (s_sea σ) (s_noi σ)) ++ ((rayW ad 18 cy (ur 0) (ur 1) (ur 2) (ur 3) (ur 4) (ur 5) (ur 6) (ur 7)) ++ ((sndW ad 19 cy 12 (s_sn σ) (s_pl σ) (s_pw σ) (s_an σ) (s_hd σ) (s_fq σ)) ++ ((sndW ad 25 cy 6 (s_bn σ) (s_bp σ) (s_bw σ) (s_ban σ) (s_bhd σ) (s_bo σ)) ++ ((conW ad 31 cy (s_cm σ) (s_c1 σ) (s_c2 σ) (s_c3 σ) (s_c4 σ) (s_c5 σ)) ++ (entW ad 37 cy (s_em σ) (s_ep σ) (s_e1 σ) (s_e2 σ) (s_e3 σ) (s_e4 σ) (s_e5 σ)))))))))) H := hP
  have hD : va_D (zIn (wldW ad cy σ ur)) ((rooW ad 0 cy (s_fm σ) (s_fr σ)) ++ ((airW ad 1 cy (s_h σ) (s_su σ) (s_st σ) (s_sh σ) (s_fl σ) (s_cS σ) (s_cH σ) (dnD (s_h σ) (s_fl σ)) (dnE (s_h σ) (s_cS σ)) (dnF (s_h σ) (s_su σ) (s_st σ))) ++ ((airW ad 8 cy (s_h σ) (s_su σ) 0 0 0 (fun _ => 0) (fun _ => 0) (dnD (s_h σ) 0) (dnE (s_h σ) (fun _ => 0)) (dnF (s_h σ) (s_su σ) 0)) ++ ((grdW ad 15 cy (s_sea σ) (s_noi σ)) ++ ((rayW ad 18 cy (ur 0) (ur 1) (ur 2) (ur 3) (ur 4) (ur 5) (ur 6) (ur 7)) ++ ((sndW ad 19 cy 12 (s_sn σ) (s_pl σ) (s_pw σ) (s_an σ) (s_hd σ) (s_fq σ)) ++ ((sndW ad 25 cy 6 (s_bn σ) (s_bp σ) (s_bw σ) (s_ban σ) (s_bhd σ) (s_bo σ)) ++ ((conW ad 31 cy (s_cm σ) (s_c1 σ) (s_c2 σ) (s_c3 σ) (s_c4 σ) (s_c5 σ)) ++ (entW ad 37 cy (s_em σ) (s_ep σ) (s_e1 σ) (s_e2 σ) (s_e3 σ) (s_e4 σ) (s_e5 σ)))))))))) := hD
  obtain ⟨rfl, hq_1⟩ := hp_1
  obtain ⟨a_1, b_1, g_1⟩ := u_1
  rcases hq_1 with ⟨ha, hN9, hV9⟩ | ⟨ha, hB9, hV9⟩
  ·
    have ha : a_1 = 0 := ha
    subst ha
    have hP : va_P D vwCl (wldW ad cy σ ur) H := hP
    exact zw_i M hr hlk ((b_1 : Int), σ, ur) hP hS ⟨rfl, Or.inl ⟨hN9, hV9, rfl⟩⟩ (by decide) (by decide) dL_act_1037
  ·
    have ha : a_1 = 1 := ha
    subst ha
    have hP : va_P D vwCl (wldW ad cy σ ur) H := hP
    exact zw_i M hr hlk ((b_1 : Int), σ, ur) hP hS ⟨rfl, Or.inr ⟨hB9, hV9, rfl⟩⟩ (by decide) (by decide) dL_act_1037

set_option maxRecDepth 100000 in
set_option maxHeartbeats 8000000 in
theorem la_1031_0 (l : Launch) (hst : l.stackTraces = false) (D : va_G) (cy : Nat → ClassId) (z0 : Nat) (ad : Nat → Nat) (σ : zSt) (ur : Nat → Int) (v pa pb xa xb mu fe fv yi : Int) (r_v : r32 v) (r_pa : r32 pa) (r_pb : r32 pb) (r_xa : r32 xa) (r_xb : r32 xb) (r_mu : r32 mu) (r_fe : r32 fe) (r_fv : r32 fv) (h_yi : 0 ≤ yi ∧ yi ≤ 1) (hI : zInv σ) (p : Program) (e : Env) (s : State) (m : MethodId) (args : Array Value) (below : List Frame) (meth : Method) (c : Code) (M : zM p s m args c cL_act RL 11) (hr : meth.sig.returnType = some .int) (hlk : meth.locks = false) (hE : zE D cy z0 s) (hN : zNc s) (hP0 : zWl D z0 (wldW ad cy σ ur) s.heap) (ls : Array Slot) (h_mu : 0 ≤ mu ∧ mu < 60) (hl : lv_has ls 11 [(0, .ref (ad 0)), (1, .int (iI v)), (2, .int (iI 0)), (3, .int (iI pa)), (4, .int (iI pb)), (5, .int (iI xa)), (6, .int (iI xb)), (7, .int (iI mu)), (8, .int (iI fe)), (9, .int (iI fv)), (10, .int (iI yi))]) : W p l e (zRm 11 6 36 211) s m args below meth c s.heap [] 0 0 (MQ below (zQ1 D (wldW ad cy σ ur) (fun (r : Int32) (u : Int × zSt × (Nat → Int)) => r = iI u.1 ∧ (R_score σ xa u.1 u.2.1)) (fun (u : Int × zSt × (Nat → Int)) => wldW ad cy u.2.1 u.2.2)) args s 6 36 (zIn (wldW ad cy σ ur))) (F0 m 1031 ls []) := by
  obtain ⟨h_h, h_su, h_st, h_sh, h_fl, h_sn, h_bn, h_cm, h_em, h_ep, h_fr, g_cS, g_cH, g_sea, g_noi, g_pl, g_pw, g_an, g_hd, g_bp, g_bw, g_ban, g_bhd, g_c1, g_c2, g_c3, g_c4, g_c5, g_e1, g_e2, g_e3, g_e4, g_e5, hbo, hpr⟩ := hI
  have hP : va_P D vwCl ((rooW ad 0 cy (s_fm σ) (s_fr σ)) ++ ((airW ad 1 cy (s_h σ) (s_su σ) (s_st σ) (s_sh σ) (s_fl σ) (s_cS σ) (s_cH σ) (dnD (s_h σ) (s_fl σ)) (dnE (s_h σ) (s_cS σ)) (dnF (s_h σ) (s_su σ) (s_st σ))) ++ ((airW ad 8 cy (s_h σ) (s_su σ) 0 0 0 (fun _ => 0) (fun _ => 0) (dnD (s_h σ) 0) (dnE (s_h σ) (fun _ => 0)) (dnF (s_h σ) (s_su σ) 0)) ++ ((grdW ad 15 cy (s_sea σ) (s_noi σ)) ++ ((rayW ad 18 cy (ur 0) (ur 1) (ur 2) (ur 3) (ur 4) (ur 5) (ur 6) (ur 7)) ++ ((sndW ad 19 cy 12 (s_sn σ) (s_pl σ) (s_pw σ) (s_an σ) (s_hd σ) (s_fq σ)) ++ ((sndW ad 25 cy 6 (s_bn σ) (s_bp σ) (s_bw σ) (s_ban σ) (s_bhd σ) (s_bo σ)) ++ ((conW ad 31 cy (s_cm σ) (s_c1 σ) (s_c2 σ) (s_c3 σ) (s_c4 σ) (s_c5 σ)) ++ (entW ad 37 cy (s_em σ) (s_ep σ) (s_e1 σ) (s_e2 σ) (s_e3 σ) (s_e4 σ) (s_e5 σ)))))))))) s.heap := hP0.1
  have hD : va_D (zIn (wldW ad cy σ ur)) ((rooW ad 0 cy (s_fm σ) (s_fr σ)) ++ ((airW ad 1 cy (s_h σ) (s_su σ) (s_st σ) (s_sh σ) (s_fl σ) (s_cS σ) (s_cH σ) (dnD (s_h σ) (s_fl σ)) (dnE (s_h σ) (s_cS σ)) (dnF (s_h σ) (s_su σ) (s_st σ))) ++ ((airW ad 8 cy (s_h σ) (s_su σ) 0 0 0 (fun _ => 0) (fun _ => 0) (dnD (s_h σ) 0) (dnE (s_h σ) (fun _ => 0)) (dnF (s_h σ) (s_su σ) 0)) ++ ((grdW ad 15 cy (s_sea σ) (s_noi σ)) ++ ((rayW ad 18 cy (ur 0) (ur 1) (ur 2) (ur 3) (ur 4) (ur 5) (ur 6) (ur 7)) ++ ((sndW ad 19 cy 12 (s_sn σ) (s_pl σ) (s_pw σ) (s_an σ) (s_hd σ) (s_fq σ)) ++ ((sndW ad 25 cy 6 (s_bn σ) (s_bp σ) (s_bw σ) (s_ban σ) (s_bhd σ) (s_bo σ)) ++ ((conW ad 31 cy (s_cm σ) (s_c1 σ) (s_c2 σ) (s_c3 σ) (s_c4 σ) (s_c5 σ)) ++ (entW ad 37 cy (s_em σ) (s_ep σ) (s_e1 σ) (s_e2 σ) (s_e3 σ) (s_e4 σ) (s_e5 σ)))))))))) := hP0.self
  have hAz := hP0.A
  have hS : va_S (zIn (wldW ad cy σ ur)) s.heap s.heap [] := va_S.rf
  refine lv_aload_n M.1 M.2.1 dL_act_1031 rfl (lv_at hl 0 rfl) ?_
  refine lv_iload M.1 M.2.1 dL_act_1032 (lv_at hl 5 rfl) ?_
  refine z_cW (zx_runH (As := [.ref (ad 0), .int (iI xa)]) (rest := []) M (c_L_score l hst D cy z0 ad (s_fm σ) (s_fr σ) (s_h σ) (s_su σ) (s_st σ) (s_sh σ) (s_fl σ) (s_sn σ) (s_cm σ) (s_em σ) (s_ep σ) (s_cS σ) (s_cH σ) (dnD (s_h σ) (s_fl σ)) (dnE (s_h σ) (s_cS σ)) (dnF (s_h σ) (s_su σ) (s_st σ)) (s_pl σ) (s_pw σ) (s_an σ) (s_hd σ) (s_fq σ) (s_c1 σ) (s_c2 σ) (s_c3 σ) (s_c4 σ) (s_c5 σ) (s_e1 σ) (s_e2 σ) (s_e3 σ) (s_e4 σ) (s_e5 σ) xa (by omega) g_pl g_c1 g_c2 g_c3 g_c5 g_e1 g_e2 g_e3 g_e4 g_e5 (by omega) (by omega) (by omega) (by omega)) hE hN hS hAz (z_cut hP hD hAz [0, 1, 2, 3, 4, 5, 6, 7, 19, 20, 21, 22, 23, 24, 31, 32, 33, 34, 35, 36, 37, 38, 39, 40, 41, 42] rfl (by decide +kernel)) zk_cw_L_score zk_in_RL zk_st_L_score zk_ml_RL_166 rfl rfl zd_L_score ⟨by decide, by decide⟩ rfl hl.1 rfl (Nat.le_of_ble_eq_true rfl) dL_act_1034 ⟨by decide, by decide⟩) hP hD hS [0, 1, 2, 3, 4, 5, 6, 7, 19, 20, 21, 22, 23, 24, 31, 32, 33, 34, 35, 36, 37, 38, 39, 40, 41, 42] rfl (fun _ => rfl) (fun r_1 u_1 H locs hp_1 hP hD hS => ?_)
  have hP : va_P D vwCl ((rooW ad 0 cy (s_fm σ) (s_fr σ)) ++ ((airW ad 1 cy (s_h σ) (s_su σ) (s_st σ) (s_sh σ) (s_fl σ) (s_cS σ) (s_cH σ) (dnD (s_h σ) (s_fl σ)) (dnE (s_h σ) (s_cS σ)) (dnF (s_h σ) (s_su σ) (s_st σ))) ++ ((airW ad 8 cy (s_h σ) (s_su σ) 0 0 0 (fun _ => 0) (fun _ => 0) (dnD (s_h σ) 0) (dnE (s_h σ) (fun _ => 0)) (dnF (s_h σ) (s_su σ) 0)) ++ ((grdW ad 15 cy (s_sea σ) (s_noi σ)) ++ ((rayW ad 18 cy (ur 0) (ur 1) (ur 2) (ur 3) (ur 4) (ur 5) (ur 6) (ur 7)) ++ ((sndW ad 19 cy 12 (s_sn σ) (s_pl σ) (s_pw σ) (s_an σ) (s_hd σ) (s_fq σ)) ++ ((sndW ad 25 cy 6 (s_bn σ) (s_bp σ) (s_bw σ) (s_ban σ) (s_bhd σ) (s_bo σ)) ++ ((conW ad 31 cy (s_cm σ) (s_c1 σ) (s_c2 σ) (s_c3 σ) (s_c4 σ) (s_c5 σ)) ++ (entW ad 37 cy (s_em σ) (s_ep σ) (s_e1 σ) (s_e2 σ) (s_e3 σ) (s_e4 σ) (s_e5 σ)))))))))) H := hP
  have hD : va_D (zIn (wldW ad cy σ ur)) ((rooW ad 0 cy (s_fm σ) (s_fr σ)) ++ ((airW ad 1 cy (s_h σ) (s_su σ) (s_st σ) (s_sh σ) (s_fl σ) (s_cS σ) (s_cH σ) (dnD (s_h σ) (s_fl σ)) (dnE (s_h σ) (s_cS σ)) (dnF (s_h σ) (s_su σ) (s_st σ))) ++ ((airW ad 8 cy (s_h σ) (s_su σ) 0 0 0 (fun _ => 0) (fun _ => 0) (dnD (s_h σ) 0) (dnE (s_h σ) (fun _ => 0)) (dnF (s_h σ) (s_su σ) 0)) ++ ((grdW ad 15 cy (s_sea σ) (s_noi σ)) ++ ((rayW ad 18 cy (ur 0) (ur 1) (ur 2) (ur 3) (ur 4) (ur 5) (ur 6) (ur 7)) ++ ((sndW ad 19 cy 12 (s_sn σ) (s_pl σ) (s_pw σ) (s_an σ) (s_hd σ) (s_fq σ)) ++ ((sndW ad 25 cy 6 (s_bn σ) (s_bp σ) (s_bw σ) (s_ban σ) (s_bhd σ) (s_bo σ)) ++ ((conW ad 31 cy (s_cm σ) (s_c1 σ) (s_c2 σ) (s_c3 σ) (s_c4 σ) (s_c5 σ)) ++ (entW ad 37 cy (s_em σ) (s_ep σ) (s_e1 σ) (s_e2 σ) (s_e3 σ) (s_e4 σ) (s_e5 σ)))))))))) := hD
  obtain ⟨rfl, hq_1⟩ := hp_1
  obtain ⟨a_1, b_1, g_1⟩ := u_1
  rcases hq_1 with ⟨ha, hN9, hV9⟩ | ⟨ha, hB9, hV9⟩
  ·
    have ha : a_1 = 0 := ha
    subst ha
    have hP : va_P D vwCl (wldW ad cy σ ur) H := hP
    exact zw_i M hr hlk ((b_1 : Int), σ, ur) hP hS ⟨rfl, Or.inl ⟨hN9, hV9, rfl⟩⟩ (by decide) (by decide) dL_act_1037
  ·
    have ha : a_1 = 1 := ha
    subst ha
    have hP : va_P D vwCl (wldW ad cy σ ur) H := hP
    exact zw_i M hr hlk ((b_1 : Int), σ, ur) hP hS ⟨rfl, Or.inr ⟨hB9, hV9, rfl⟩⟩ (by decide) (by decide) dL_act_1037

set_option maxRecDepth 100000 in
set_option maxHeartbeats 8000000 in
theorem la_1038_1 (l : Launch) (hst : l.stackTraces = false) (D : va_G) (cy : Nat → ClassId) (z0 : Nat) (ad : Nat → Nat) (σ : zSt) (ur : Nat → Int) (v pa pb xa xb mu fe fv yi : Int) (r_v : r32 v) (r_pa : r32 pa) (r_pb : r32 pb) (r_xa : r32 xa) (r_xb : r32 xb) (r_mu : r32 mu) (r_fe : r32 fe) (r_fv : r32 fv) (h_yi : 0 ≤ yi ∧ yi ≤ 1) (hI : zInv σ) (p : Program) (e : Env) (s : State) (m : MethodId) (args : Array Value) (below : List Frame) (meth : Method) (c : Code) (M : zM p s m args c cL_act RL 11) (hr : meth.sig.returnType = some .int) (hlk : meth.locks = false) (hE : zE D cy z0 s) (hN : zNc s) (hP0 : zWl D z0 (wldW ad cy σ ur) s.heap) (ls : Array Slot) (hl : lv_has ls 11 [(0, .ref (ad 0)), (1, .int (iI v)), (2, .int (iI 1)), (3, .int (iI pa)), (4, .int (iI pb)), (5, .int (iI xa)), (6, .int (iI xb)), (7, .int (iI mu)), (8, .int (iI fe)), (9, .int (iI fv)), (10, .int (iI yi))]) : W p l e (zRm 11 6 36 211) s m args below meth c s.heap [] 0 0 (MQ below (zQ1 D (wldW ad cy σ ur) (fun (r : Int32) (u : Int × zSt × (Nat → Int)) => r = iI u.1 ∧ (if (loZ (shZ v 12) 3) = 0 then R_forecasts σ yi u.1 u.2.1 else R_count σ mu u.1 u.2.1)) (fun (u : Int × zSt × (Nat → Int)) => wldW ad cy u.2.1 u.2.2)) args s 6 36 (zIn (wldW ad cy σ ur))) (F0 m 1038 ls []) := by
  obtain ⟨h_h, h_su, h_st, h_sh, h_fl, h_sn, h_bn, h_cm, h_em, h_ep, h_fr, g_cS, g_cH, g_sea, g_noi, g_pl, g_pw, g_an, g_hd, g_bp, g_bw, g_ban, g_bhd, g_c1, g_c2, g_c3, g_c4, g_c5, g_e1, g_e2, g_e3, g_e4, g_e5, hbo, hpr⟩ := hI
  have hP : va_P D vwCl ((rooW ad 0 cy (s_fm σ) (s_fr σ)) ++ ((airW ad 1 cy (s_h σ) (s_su σ) (s_st σ) (s_sh σ) (s_fl σ) (s_cS σ) (s_cH σ) (dnD (s_h σ) (s_fl σ)) (dnE (s_h σ) (s_cS σ)) (dnF (s_h σ) (s_su σ) (s_st σ))) ++ ((airW ad 8 cy (s_h σ) (s_su σ) 0 0 0 (fun _ => 0) (fun _ => 0) (dnD (s_h σ) 0) (dnE (s_h σ) (fun _ => 0)) (dnF (s_h σ) (s_su σ) 0)) ++ ((grdW ad 15 cy (s_sea σ) (s_noi σ)) ++ ((rayW ad 18 cy (ur 0) (ur 1) (ur 2) (ur 3) (ur 4) (ur 5) (ur 6) (ur 7)) ++ ((sndW ad 19 cy 12 (s_sn σ) (s_pl σ) (s_pw σ) (s_an σ) (s_hd σ) (s_fq σ)) ++ ((sndW ad 25 cy 6 (s_bn σ) (s_bp σ) (s_bw σ) (s_ban σ) (s_bhd σ) (s_bo σ)) ++ ((conW ad 31 cy (s_cm σ) (s_c1 σ) (s_c2 σ) (s_c3 σ) (s_c4 σ) (s_c5 σ)) ++ (entW ad 37 cy (s_em σ) (s_ep σ) (s_e1 σ) (s_e2 σ) (s_e3 σ) (s_e4 σ) (s_e5 σ)))))))))) s.heap := hP0.1
  have hD : va_D (zIn (wldW ad cy σ ur)) ((rooW ad 0 cy (s_fm σ) (s_fr σ)) ++ ((airW ad 1 cy (s_h σ) (s_su σ) (s_st σ) (s_sh σ) (s_fl σ) (s_cS σ) (s_cH σ) (dnD (s_h σ) (s_fl σ)) (dnE (s_h σ) (s_cS σ)) (dnF (s_h σ) (s_su σ) (s_st σ))) ++ ((airW ad 8 cy (s_h σ) (s_su σ) 0 0 0 (fun _ => 0) (fun _ => 0) (dnD (s_h σ) 0) (dnE (s_h σ) (fun _ => 0)) (dnF (s_h σ) (s_su σ) 0)) ++ ((grdW ad 15 cy (s_sea σ) (s_noi σ)) ++ ((rayW ad 18 cy (ur 0) (ur 1) (ur 2) (ur 3) (ur 4) (ur 5) (ur 6) (ur 7)) ++ ((sndW ad 19 cy 12 (s_sn σ) (s_pl σ) (s_pw σ) (s_an σ) (s_hd σ) (s_fq σ)) ++ ((sndW ad 25 cy 6 (s_bn σ) (s_bp σ) (s_bw σ) (s_ban σ) (s_bhd σ) (s_bo σ)) ++ ((conW ad 31 cy (s_cm σ) (s_c1 σ) (s_c2 σ) (s_c3 σ) (s_c4 σ) (s_c5 σ)) ++ (entW ad 37 cy (s_em σ) (s_ep σ) (s_e1 σ) (s_e2 σ) (s_e3 σ) (s_e4 σ) (s_e5 σ)))))))))) := hP0.self
  have hAz := hP0.A
  have hS : va_S (zIn (wldW ad cy σ ur)) s.heap s.heap [] := va_S.rf
  refine lv_iload_n M.1 M.2.1 dL_act_1038 rfl (lv_at hl 1 rfl) ?_
  refine zi_bipush M dL_act_1039 ⟨by decide, by decide⟩ ?_
  refine zi_ishr M dL_act_1041 ?_
  refine zi_push M dL_act_1042 ?_
  refine z_cR (z_runS (As := [.int (iI (shZ v 12)), .int (iI 3)]) (rest := []) M (c_L_low l D cy z0 (shZ v 12) 3 (by omega)) hE hS hAz trivial zk_cd_L_low zk_in_RL zk_st_L_low zk_ml_RL_105 rfl rfl zd_L_low ⟨by decide, by decide⟩ rfl hl.1 rfl (Nat.le_of_ble_eq_true rfl) dL_act_1043 ⟨by decide, by decide⟩) ?_
  have hx_1 := loZ_rg2 ((shZ v 12)) (3) (by omega)
  refine zi_if_ne (tgt := 1058) M dL_act_1046 (by decide) (by omega) (fun c_2 => ?_) (fun c_2 => ?_)
  ·
    refine lv_aload_n M.1 M.2.1 dL_act_1058 rfl (lv_at hl 0 rfl) ?_
    refine lv_iload_n M.1 M.2.1 dL_act_1059 rfl (lv_at hl 2 rfl) ?_
    refine zi_if_eq (tgt := 1068) M dL_act_1060 (by decide) ⟨by decide, by decide⟩ (fun q => absurd q (by decide)) (fun _ => ?_)
    refine lv_iload M.1 M.2.1 dL_act_1063 (lv_at hl 7 rfl) ?_
    refine zi_goto (tgt := 1076) M dL_act_1065 (by decide) ?_
    refine z_cW (zx_runH (As := [.ref (ad 0), .int (iI mu)]) (rest := []) M (c_L_count l hst D cy z0 ad (s_fm σ) (s_fr σ) (s_sn σ) (s_bn σ) (s_cm σ) (s_em σ) (s_ep σ) (s_pl σ) (s_pw σ) (s_an σ) (s_hd σ) (s_fq σ) (s_bp σ) (s_bw σ) (s_ban σ) (s_bhd σ) (s_bo σ) (s_c1 σ) (s_c2 σ) (s_c3 σ) (s_c4 σ) (s_c5 σ) (s_e1 σ) (s_e2 σ) (s_e3 σ) (s_e4 σ) (s_e5 σ) mu (by omega)) hE hN hS hAz (z_cut hP hD hAz [0, 19, 20, 21, 22, 23, 24, 25, 26, 27, 28, 29, 30, 31, 32, 33, 34, 35, 36, 37, 38, 39, 40, 41, 42] rfl (by decide +kernel)) zk_cw_L_count zk_in_RL zk_st_L_count zk_ml_RL_172 rfl rfl zd_L_count ⟨by decide, by decide⟩ rfl hl.1 rfl (Nat.le_of_ble_eq_true rfl) dL_act_1076 ⟨by decide, by decide⟩) hP hD hS [0, 19, 20, 21, 22, 23, 24, 25, 26, 27, 28, 29, 30, 31, 32, 33, 34, 35, 36, 37, 38, 39, 40, 41, 42] rfl (fun _ => rfl) (fun r_3 u_3 H locs hp_3 hP hD hS => ?_)
    have hP : va_P D vwCl ((rooW ad 0 cy (s_fm σ) (s_fr σ)) ++ ((airW ad 1 cy (s_h σ) (s_su σ) (s_st σ) (s_sh σ) (s_fl σ) (s_cS σ) (s_cH σ) (dnD (s_h σ) (s_fl σ)) (dnE (s_h σ) (s_cS σ)) (dnF (s_h σ) (s_su σ) (s_st σ))) ++ ((airW ad 8 cy (s_h σ) (s_su σ) 0 0 0 (fun _ => 0) (fun _ => 0) (dnD (s_h σ) 0) (dnE (s_h σ) (fun _ => 0)) (dnF (s_h σ) (s_su σ) 0)) ++ ((grdW ad 15 cy (s_sea σ) (s_noi σ)) ++ ((rayW ad 18 cy (ur 0) (ur 1) (ur 2) (ur 3) (ur 4) (ur 5) (ur 6) (ur 7)) ++ ((sndW ad 19 cy 12 (s_sn σ) (s_pl σ) (s_pw σ) (s_an σ) (s_hd σ) (s_fq σ)) ++ ((sndW ad 25 cy 6 (s_bn σ) (s_bp σ) (s_bw σ) (s_ban σ) (s_bhd σ) (s_bo σ)) ++ ((conW ad 31 cy (s_cm σ) (s_c1 σ) (s_c2 σ) (s_c3 σ) (s_c4 σ) (s_c5 σ)) ++ (entW ad 37 cy (s_em σ) (s_ep σ) (s_e1 σ) (s_e2 σ) (s_e3 σ) (s_e4 σ) (s_e5 σ)))))))))) H := hP
    have hD : va_D (zIn (wldW ad cy σ ur)) ((rooW ad 0 cy (s_fm σ) (s_fr σ)) ++ ((airW ad 1 cy (s_h σ) (s_su σ) (s_st σ) (s_sh σ) (s_fl σ) (s_cS σ) (s_cH σ) (dnD (s_h σ) (s_fl σ)) (dnE (s_h σ) (s_cS σ)) (dnF (s_h σ) (s_su σ) (s_st σ))) ++ ((airW ad 8 cy (s_h σ) (s_su σ) 0 0 0 (fun _ => 0) (fun _ => 0) (dnD (s_h σ) 0) (dnE (s_h σ) (fun _ => 0)) (dnF (s_h σ) (s_su σ) 0)) ++ ((grdW ad 15 cy (s_sea σ) (s_noi σ)) ++ ((rayW ad 18 cy (ur 0) (ur 1) (ur 2) (ur 3) (ur 4) (ur 5) (ur 6) (ur 7)) ++ ((sndW ad 19 cy 12 (s_sn σ) (s_pl σ) (s_pw σ) (s_an σ) (s_hd σ) (s_fq σ)) ++ ((sndW ad 25 cy 6 (s_bn σ) (s_bp σ) (s_bw σ) (s_ban σ) (s_bhd σ) (s_bo σ)) ++ ((conW ad 31 cy (s_cm σ) (s_c1 σ) (s_c2 σ) (s_c3 σ) (s_c4 σ) (s_c5 σ)) ++ (entW ad 37 cy (s_em σ) (s_ep σ) (s_e1 σ) (s_e2 σ) (s_e3 σ) (s_e4 σ) (s_e5 σ)))))))))) := hD
    obtain ⟨rfl, hq_3⟩ := hp_3
    obtain ⟨a_3, b_3, g_3⟩ := u_3
    rcases hq_3 with ⟨ha, hN9, hV9⟩ | ⟨ha, hB9, hV9⟩
    ·
      have ha : a_3 = 0 := ha
      subst ha
      have hP : va_P D vwCl (wldW ad cy σ ur) H := hP
      exact zw_i M hr hlk ((b_3 : Int), σ, ur) hP hS ⟨rfl, (by rw [if_neg c_2]; exact Or.inl ⟨hN9, hV9, rfl⟩)⟩ (by decide) (by decide) dL_act_1079
    ·
      have ha : a_3 = 1 := ha
      subst ha
      have hP : va_P D vwCl (wldW ad cy σ ur) H := hP
      exact zw_i M hr hlk ((b_3 : Int), σ, ur) hP hS ⟨rfl, (by rw [if_neg c_2]; exact Or.inr ⟨hB9, hV9, rfl⟩)⟩ (by decide) (by decide) dL_act_1079
  ·
    refine lv_aload_n M.1 M.2.1 dL_act_1049 rfl (lv_at hl 0 rfl) ?_
    refine lv_iload M.1 M.2.1 dL_act_1050 (lv_at hl 10 rfl) ?_
    refine z_cR (z_runV (As := [.int (iI yi)]) (rest := []) M (c_X6_forecasts l D cy z0 ad (s_fm σ) (s_fr σ) yi (by omega)) hE hS hAz (hP.sub [0] rfl) (zRc.of (ci := 6) (q0 := 0) hE hP rfl rfl) zk_cd_X6_forecasts zk_in_RX6 zk_im_X6_forecasts zk_se_X6_forecasts zk_ml_RL_168 rfl rfl zd_X6_forecasts ⟨by decide, by decide⟩ rfl hl.1 rfl (Nat.le_of_ble_eq_true rfl) dL_act_1052 ⟨by decide, by decide⟩) ?_
    refine zi_goto (tgt := 1079) M dL_act_1055 (by decide) ?_
    have hP : va_P D vwCl (wldW ad cy σ ur) s.heap := hP
    exact zw_i M hr hlk (((if yi = 0 then (s_fm σ) else (s_fr σ)) : Int), σ, ur) hP hS ⟨rfl, (by rw [if_pos c_2]; exact ⟨rfl, rfl⟩)⟩ (by decide) (by decide) dL_act_1079

set_option maxRecDepth 100000 in
set_option maxHeartbeats 8000000 in
theorem la_1038_0 (l : Launch) (hst : l.stackTraces = false) (D : va_G) (cy : Nat → ClassId) (z0 : Nat) (ad : Nat → Nat) (σ : zSt) (ur : Nat → Int) (v pa pb xa xb mu fe fv yi : Int) (r_v : r32 v) (r_pa : r32 pa) (r_pb : r32 pb) (r_xa : r32 xa) (r_xb : r32 xb) (r_mu : r32 mu) (r_fe : r32 fe) (r_fv : r32 fv) (h_yi : 0 ≤ yi ∧ yi ≤ 1) (hI : zInv σ) (p : Program) (e : Env) (s : State) (m : MethodId) (args : Array Value) (below : List Frame) (meth : Method) (c : Code) (M : zM p s m args c cL_act RL 11) (hr : meth.sig.returnType = some .int) (hlk : meth.locks = false) (hE : zE D cy z0 s) (hN : zNc s) (hP0 : zWl D z0 (wldW ad cy σ ur) s.heap) (ls : Array Slot) (h_mu : 0 ≤ mu ∧ mu < 60) (hl : lv_has ls 11 [(0, .ref (ad 0)), (1, .int (iI v)), (2, .int (iI 0)), (3, .int (iI pa)), (4, .int (iI pb)), (5, .int (iI xa)), (6, .int (iI xb)), (7, .int (iI mu)), (8, .int (iI fe)), (9, .int (iI fv)), (10, .int (iI yi))]) : W p l e (zRm 11 6 36 211) s m args below meth c s.heap [] 0 0 (MQ below (zQ1 D (wldW ad cy σ ur) (fun (r : Int32) (u : Int × zSt × (Nat → Int)) => r = iI u.1 ∧ (if (loZ (shZ v 12) 3) = 0 then R_forecasts σ yi u.1 u.2.1 else R_count σ (loZ (shZ v 9) 5) u.1 u.2.1)) (fun (u : Int × zSt × (Nat → Int)) => wldW ad cy u.2.1 u.2.2)) args s 6 36 (zIn (wldW ad cy σ ur))) (F0 m 1038 ls []) := by
  obtain ⟨h_h, h_su, h_st, h_sh, h_fl, h_sn, h_bn, h_cm, h_em, h_ep, h_fr, g_cS, g_cH, g_sea, g_noi, g_pl, g_pw, g_an, g_hd, g_bp, g_bw, g_ban, g_bhd, g_c1, g_c2, g_c3, g_c4, g_c5, g_e1, g_e2, g_e3, g_e4, g_e5, hbo, hpr⟩ := hI
  have hP : va_P D vwCl ((rooW ad 0 cy (s_fm σ) (s_fr σ)) ++ ((airW ad 1 cy (s_h σ) (s_su σ) (s_st σ) (s_sh σ) (s_fl σ) (s_cS σ) (s_cH σ) (dnD (s_h σ) (s_fl σ)) (dnE (s_h σ) (s_cS σ)) (dnF (s_h σ) (s_su σ) (s_st σ))) ++ ((airW ad 8 cy (s_h σ) (s_su σ) 0 0 0 (fun _ => 0) (fun _ => 0) (dnD (s_h σ) 0) (dnE (s_h σ) (fun _ => 0)) (dnF (s_h σ) (s_su σ) 0)) ++ ((grdW ad 15 cy (s_sea σ) (s_noi σ)) ++ ((rayW ad 18 cy (ur 0) (ur 1) (ur 2) (ur 3) (ur 4) (ur 5) (ur 6) (ur 7)) ++ ((sndW ad 19 cy 12 (s_sn σ) (s_pl σ) (s_pw σ) (s_an σ) (s_hd σ) (s_fq σ)) ++ ((sndW ad 25 cy 6 (s_bn σ) (s_bp σ) (s_bw σ) (s_ban σ) (s_bhd σ) (s_bo σ)) ++ ((conW ad 31 cy (s_cm σ) (s_c1 σ) (s_c2 σ) (s_c3 σ) (s_c4 σ) (s_c5 σ)) ++ (entW ad 37 cy (s_em σ) (s_ep σ) (s_e1 σ) (s_e2 σ) (s_e3 σ) (s_e4 σ) (s_e5 σ)))))))))) s.heap := hP0.1
  have hD : va_D (zIn (wldW ad cy σ ur)) ((rooW ad 0 cy (s_fm σ) (s_fr σ)) ++ ((airW ad 1 cy (s_h σ) (s_su σ) (s_st σ) (s_sh σ) (s_fl σ) (s_cS σ) (s_cH σ) (dnD (s_h σ) (s_fl σ)) (dnE (s_h σ) (s_cS σ)) (dnF (s_h σ) (s_su σ) (s_st σ))) ++ ((airW ad 8 cy (s_h σ) (s_su σ) 0 0 0 (fun _ => 0) (fun _ => 0) (dnD (s_h σ) 0) (dnE (s_h σ) (fun _ => 0)) (dnF (s_h σ) (s_su σ) 0)) ++ ((grdW ad 15 cy (s_sea σ) (s_noi σ)) ++ ((rayW ad 18 cy (ur 0) (ur 1) (ur 2) (ur 3) (ur 4) (ur 5) (ur 6) (ur 7)) ++ ((sndW ad 19 cy 12 (s_sn σ) (s_pl σ) (s_pw σ) (s_an σ) (s_hd σ) (s_fq σ)) ++ ((sndW ad 25 cy 6 (s_bn σ) (s_bp σ) (s_bw σ) (s_ban σ) (s_bhd σ) (s_bo σ)) ++ ((conW ad 31 cy (s_cm σ) (s_c1 σ) (s_c2 σ) (s_c3 σ) (s_c4 σ) (s_c5 σ)) ++ (entW ad 37 cy (s_em σ) (s_ep σ) (s_e1 σ) (s_e2 σ) (s_e3 σ) (s_e4 σ) (s_e5 σ)))))))))) := hP0.self
  have hAz := hP0.A
  have hS : va_S (zIn (wldW ad cy σ ur)) s.heap s.heap [] := va_S.rf
  refine lv_iload_n M.1 M.2.1 dL_act_1038 rfl (lv_at hl 1 rfl) ?_
  refine zi_bipush M dL_act_1039 ⟨by decide, by decide⟩ ?_
  refine zi_ishr M dL_act_1041 ?_
  refine zi_push M dL_act_1042 ?_
  refine z_cR (z_runS (As := [.int (iI (shZ v 12)), .int (iI 3)]) (rest := []) M (c_L_low l D cy z0 (shZ v 12) 3 (by omega)) hE hS hAz trivial zk_cd_L_low zk_in_RL zk_st_L_low zk_ml_RL_105 rfl rfl zd_L_low ⟨by decide, by decide⟩ rfl hl.1 rfl (Nat.le_of_ble_eq_true rfl) dL_act_1043 ⟨by decide, by decide⟩) ?_
  have hx_1 := loZ_rg2 ((shZ v 12)) (3) (by omega)
  refine zi_if_ne (tgt := 1058) M dL_act_1046 (by decide) (by omega) (fun c_2 => ?_) (fun c_2 => ?_)
  ·
    refine lv_aload_n M.1 M.2.1 dL_act_1058 rfl (lv_at hl 0 rfl) ?_
    refine lv_iload_n M.1 M.2.1 dL_act_1059 rfl (lv_at hl 2 rfl) ?_
    refine zi_if_eq (tgt := 1068) M dL_act_1060 (by decide) ⟨by decide, by decide⟩ (fun _ => ?_) (fun q => absurd q (by decide))
    refine lv_iload_n M.1 M.2.1 dL_act_1068 rfl (lv_at hl 1 rfl) ?_
    refine zi_bipush M dL_act_1069 ⟨by decide, by decide⟩ ?_
    refine zi_ishr M dL_act_1071 ?_
    refine zi_push M dL_act_1072 ?_
    refine z_cR (z_runS (As := [.int (iI (shZ v 9)), .int (iI 5)]) (rest := [.ref (ad 0)]) M (c_L_low l D cy z0 (shZ v 9) 5 (by omega)) hE hS hAz trivial zk_cd_L_low zk_in_RL zk_st_L_low zk_ml_RL_105 rfl rfl zd_L_low ⟨by decide, by decide⟩ rfl hl.1 rfl (Nat.le_of_ble_eq_true rfl) dL_act_1073 ⟨by decide, by decide⟩) ?_
    have hx_3 := loZ_rg2 ((shZ v 9)) (5) (by omega)
    refine z_cW (zx_runH (As := [.ref (ad 0), .int (iI (loZ (shZ v 9) 5))]) (rest := []) M (c_L_count l hst D cy z0 ad (s_fm σ) (s_fr σ) (s_sn σ) (s_bn σ) (s_cm σ) (s_em σ) (s_ep σ) (s_pl σ) (s_pw σ) (s_an σ) (s_hd σ) (s_fq σ) (s_bp σ) (s_bw σ) (s_ban σ) (s_bhd σ) (s_bo σ) (s_c1 σ) (s_c2 σ) (s_c3 σ) (s_c4 σ) (s_c5 σ) (s_e1 σ) (s_e2 σ) (s_e3 σ) (s_e4 σ) (s_e5 σ) (loZ (shZ v 9) 5) (by omega)) hE hN hS hAz (z_cut hP hD hAz [0, 19, 20, 21, 22, 23, 24, 25, 26, 27, 28, 29, 30, 31, 32, 33, 34, 35, 36, 37, 38, 39, 40, 41, 42] rfl (by decide +kernel)) zk_cw_L_count zk_in_RL zk_st_L_count zk_ml_RL_172 rfl rfl zd_L_count ⟨by decide, by decide⟩ rfl hl.1 rfl (Nat.le_of_ble_eq_true rfl) dL_act_1076 ⟨by decide, by decide⟩) hP hD hS [0, 19, 20, 21, 22, 23, 24, 25, 26, 27, 28, 29, 30, 31, 32, 33, 34, 35, 36, 37, 38, 39, 40, 41, 42] rfl (fun _ => rfl) (fun r_4 u_4 H locs hp_4 hP hD hS => ?_)
    have hP : va_P D vwCl ((rooW ad 0 cy (s_fm σ) (s_fr σ)) ++ ((airW ad 1 cy (s_h σ) (s_su σ) (s_st σ) (s_sh σ) (s_fl σ) (s_cS σ) (s_cH σ) (dnD (s_h σ) (s_fl σ)) (dnE (s_h σ) (s_cS σ)) (dnF (s_h σ) (s_su σ) (s_st σ))) ++ ((airW ad 8 cy (s_h σ) (s_su σ) 0 0 0 (fun _ => 0) (fun _ => 0) (dnD (s_h σ) 0) (dnE (s_h σ) (fun _ => 0)) (dnF (s_h σ) (s_su σ) 0)) ++ ((grdW ad 15 cy (s_sea σ) (s_noi σ)) ++ ((rayW ad 18 cy (ur 0) (ur 1) (ur 2) (ur 3) (ur 4) (ur 5) (ur 6) (ur 7)) ++ ((sndW ad 19 cy 12 (s_sn σ) (s_pl σ) (s_pw σ) (s_an σ) (s_hd σ) (s_fq σ)) ++ ((sndW ad 25 cy 6 (s_bn σ) (s_bp σ) (s_bw σ) (s_ban σ) (s_bhd σ) (s_bo σ)) ++ ((conW ad 31 cy (s_cm σ) (s_c1 σ) (s_c2 σ) (s_c3 σ) (s_c4 σ) (s_c5 σ)) ++ (entW ad 37 cy (s_em σ) (s_ep σ) (s_e1 σ) (s_e2 σ) (s_e3 σ) (s_e4 σ) (s_e5 σ)))))))))) H := hP
    have hD : va_D (zIn (wldW ad cy σ ur)) ((rooW ad 0 cy (s_fm σ) (s_fr σ)) ++ ((airW ad 1 cy (s_h σ) (s_su σ) (s_st σ) (s_sh σ) (s_fl σ) (s_cS σ) (s_cH σ) (dnD (s_h σ) (s_fl σ)) (dnE (s_h σ) (s_cS σ)) (dnF (s_h σ) (s_su σ) (s_st σ))) ++ ((airW ad 8 cy (s_h σ) (s_su σ) 0 0 0 (fun _ => 0) (fun _ => 0) (dnD (s_h σ) 0) (dnE (s_h σ) (fun _ => 0)) (dnF (s_h σ) (s_su σ) 0)) ++ ((grdW ad 15 cy (s_sea σ) (s_noi σ)) ++ ((rayW ad 18 cy (ur 0) (ur 1) (ur 2) (ur 3) (ur 4) (ur 5) (ur 6) (ur 7)) ++ ((sndW ad 19 cy 12 (s_sn σ) (s_pl σ) (s_pw σ) (s_an σ) (s_hd σ) (s_fq σ)) ++ ((sndW ad 25 cy 6 (s_bn σ) (s_bp σ) (s_bw σ) (s_ban σ) (s_bhd σ) (s_bo σ)) ++ ((conW ad 31 cy (s_cm σ) (s_c1 σ) (s_c2 σ) (s_c3 σ) (s_c4 σ) (s_c5 σ)) ++ (entW ad 37 cy (s_em σ) (s_ep σ) (s_e1 σ) (s_e2 σ) (s_e3 σ) (s_e4 σ) (s_e5 σ)))))))))) := hD
    obtain ⟨rfl, hq_4⟩ := hp_4
    obtain ⟨a_4, b_4, g_4⟩ := u_4
    rcases hq_4 with ⟨ha, hN9, hV9⟩ | ⟨ha, hB9, hV9⟩
    ·
      have ha : a_4 = 0 := ha
      subst ha
      have hP : va_P D vwCl (wldW ad cy σ ur) H := hP
      exact zw_i M hr hlk ((b_4 : Int), σ, ur) hP hS ⟨rfl, (by rw [if_neg c_2]; exact Or.inl ⟨hN9, hV9, rfl⟩)⟩ (by decide) (by decide) dL_act_1079
    ·
      have ha : a_4 = 1 := ha
      subst ha
      have hP : va_P D vwCl (wldW ad cy σ ur) H := hP
      exact zw_i M hr hlk ((b_4 : Int), σ, ur) hP hS ⟨rfl, (by rw [if_neg c_2]; exact Or.inr ⟨hB9, hV9, rfl⟩)⟩ (by decide) (by decide) dL_act_1079
  ·
    refine lv_aload_n M.1 M.2.1 dL_act_1049 rfl (lv_at hl 0 rfl) ?_
    refine lv_iload M.1 M.2.1 dL_act_1050 (lv_at hl 10 rfl) ?_
    refine z_cR (z_runV (As := [.int (iI yi)]) (rest := []) M (c_X6_forecasts l D cy z0 ad (s_fm σ) (s_fr σ) yi (by omega)) hE hS hAz (hP.sub [0] rfl) (zRc.of (ci := 6) (q0 := 0) hE hP rfl rfl) zk_cd_X6_forecasts zk_in_RX6 zk_im_X6_forecasts zk_se_X6_forecasts zk_ml_RL_168 rfl rfl zd_X6_forecasts ⟨by decide, by decide⟩ rfl hl.1 rfl (Nat.le_of_ble_eq_true rfl) dL_act_1052 ⟨by decide, by decide⟩) ?_
    refine zi_goto (tgt := 1079) M dL_act_1055 (by decide) ?_
    have hP : va_P D vwCl (wldW ad cy σ ur) s.heap := hP
    exact zw_i M hr hlk (((if yi = 0 then (s_fm σ) else (s_fr σ)) : Int), σ, ur) hP hS ⟨rfl, (by rw [if_pos c_2]; exact ⟨rfl, rfl⟩)⟩ (by decide) (by decide) dL_act_1079
