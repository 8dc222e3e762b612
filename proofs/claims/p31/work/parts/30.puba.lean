/-! contracts: what everybody may call -/
set_option maxRecDepth 100000 in
set_option maxHeartbeats 4000000 in
theorem c_X6_sun (l : Launch) (hst : l.stackTraces = false) (D : va_G) (cy : Nat → ClassId) (z0 : Nat) (ad : Nat → Nat) (fm fr h su st sh fl kh ksu kst ksh kfl : Int) (cS cH dD dE dF kcS kcH kdD kdE kdF : Int → Int) (v : Int) (r_v : r32 v) (h_h : 0 ≤ h ∧ h ≤ 5000) (h_su : 0 ≤ su ∧ su ≤ 100) (h_st : 0 ≤ st ∧ st ≤ 60) (h_sh : 0 ≤ sh ∧ sh ≤ 72) (h_fl : 0 ≤ fl ∧ fl ≤ 80) (h_cS : zrg 48 0 100 cS) (h_cH : zrg 48 0 24 cH) (h_kh : 0 ≤ kh ∧ kh ≤ 5000) (h_ksu : 0 ≤ ksu ∧ ksu ≤ 100) (h_kst : 0 ≤ kst ∧ kst ≤ 60) (h_ksh : 0 ≤ ksh ∧ ksh ≤ 72) (h_kfl : 0 ≤ kfl ∧ kfl ≤ 80) (h_kcS : zrg 48 0 100 kcS) (h_kcH : zrg 48 0 24 kcH) : vx_Met l yX6_sun [.code yX6_sun cX6_sun 3 (some .int)] (zRm 7 1 6 112) (zPc [.ref (ad 0), .int (iI v)] D cy z0 (zWl D z0 ((rooW ad 0 cy fm fr) ++ ((airW ad 1 cy h su st sh fl cS cH dD dE dF) ++ (airW ad 8 cy kh ksu kst ksh kfl kcS kcH kdD kdE kdF))))) (zQ1 D ((rooW ad 0 cy fm fr) ++ ((airW ad 1 cy h su st sh fl cS cH dD dE dF) ++ (airW ad 8 cy kh ksu kst ksh kfl kcS kcH kdD kdE kdF))) (fun (r : Int32) (_ : Unit) => ((0 ≤ v ∧ v ≤ 100)) ∧ r = iI su) (fun (_ : Unit) => ((rooW ad 0 cy fm fr) ++ ((airW ad 1 cy h v st sh fl cS cH (dnD h fl) (dnE h cS) (dnF h v st)) ++ (airW ad 8 cy kh v kst ksh kfl kcS kcH (dnD kh kfl) (dnE kh kcS) (dnF kh v kst)))))) (zXC (fun E => (E = eIA ∧ (¬ (0 ≤ v ∧ v ≤ 100))))) 1 6 (zIn ((rooW ad 0 cy fm fr) ++ ((airW ad 1 cy h su st sh fl cS cH dD dE dF) ++ (airW ad 8 cy kh ksu kst ksh kfl kcS kcH kdD kdE kdF)))) := by
  refine z_ofX (by decide) (Nat.le_of_ble_eq_true rfl) ?_
  intro p e s m args below meth c M hr hlk ht hargs hP0 hE ls hl
  have hP : va_P D vwCl ((rooW ad 0 cy fm fr) ++ ((airW ad 1 cy h su st sh fl cS cH dD dE dF) ++ (airW ad 8 cy kh ksu kst ksh kfl kcS kcH kdD kdE kdF))) s.heap := hP0.1
  have hD : va_D (zIn ((rooW ad 0 cy fm fr) ++ ((airW ad 1 cy h su st sh fl cS cH dD dE dF) ++ (airW ad 8 cy kh ksu kst ksh kfl kcS kcH kdD kdE kdF)))) ((rooW ad 0 cy fm fr) ++ ((airW ad 1 cy h su st sh fl cS cH dD dE dF) ++ (airW ad 8 cy kh ksu kst ksh kfl kcS kcH kdD kdE kdF))) := hP0.self
  have hAz := hP0.A
  have hS : va_S (zIn ((rooW ad 0 cy fm fr) ++ ((airW ad 1 cy h su st sh fl cS cH dD dE dF) ++ (airW ad 8 cy kh ksu kst ksh kfl kcS kcH kdD kdE kdF)))) s.heap s.heap [] := va_S.rf
  have hl : lv_has ls 3 [(0, .ref (ad 0)), (1, .int (iI v))] := hl
  refine lv_iload_n M.1 M.2.1 dX6_sun_0 rfl (lv_at hl 1 rfl) ?_
  refine zi_push M dX6_sun_1 ?_
  refine zi_bipush M dX6_sun_2 ⟨by decide, by decide⟩ ?_
  refine zx_need (zx_runS (As := [.int (iI v), .int (iI 0), .int (iI 100)]) (rest := []) M (c_X6_needRange l hst D cy z0 v 0 100 (by omega) (by omega) (by omega)) hE hS hAz trivial zk_cd_X6_needRange zk_in_RX6 zk_st_X6_needRange zk_ml_RX6_59 rfl rfl zd_X6_needRange ⟨by decide, by decide⟩ rfl hl.1 rfl (Nat.le_of_ble_eq_true rfl) dX6_sun_4 ⟨by decide, by decide⟩) ht hlk (by decide) (by decide) (fun E t hA9 hC hz hq => ⟨by obtain ⟨rfl, h9⟩ := hC; exact ⟨rfl, by omega⟩, hz, hq⟩) (fun hn_1 => ?_)
  refine lv_aload_n M.1 M.2.1 dX6_sun_7 rfl (lv_at hl 0 rfl) ?_
  refine zi_get (ci := 6) (v := .ref (ad 1)) M hE hP 0 rfl rfl zu_X6 0 (by decide) zk_fl_RX6_12 rfl rfl dX6_sun_8 ?_
  refine zi_getN (ci := 0) (v := .int (iI su)) M hE hP 1 rfl rfl zu_X0 1 (by decide) zk_fn_RX6_63 rfl rfl dX6_sun_11 ?_
  refine lv_istore_n (lv' := [(2, .int (iI su)), (0, .ref (ad 0)), (1, .int (iI v))]) M.1 M.2.1 dX6_sun_14 rfl hl (by decide) rfl (fun ls hl => ?_)
  refine lv_aload_n M.1 M.2.1 dX6_sun_15 rfl (lv_at hl 1 rfl) ?_
  refine zi_get (ci := 6) (v := .ref (ad 1)) M hE hP 0 rfl rfl zu_X6 0 (by decide) zk_fl_RX6_12 rfl rfl dX6_sun_16 ?_
  refine lv_iload_n M.1 M.2.1 dX6_sun_19 rfl (lv_at hl 2 rfl) ?_
  refine z_cV (z_runV (As := [.int (iI v)]) (rest := []) M (c_X0_shineFrom l D cy z0 ad 1 h su st sh fl cS cH dD dE dF v h_h h_st h_fl h_cS (by omega)) hE hS hAz (z_cut hP hD hAz [1, 2, 3, 4, 5, 6, 7] rfl (by decide +kernel)) (zRc.of (ci := 0) (q0 := 1) hE hP rfl rfl) zk_cd_X0_shineFrom zk_in_RX0 zk_im_X0_shineFrom zk_se_X0_shineFrom zk_ml_RX6_67 rfl rfl zd_X0_shineFrom ⟨by decide, by decide⟩ rfl hl.1 rfl (Nat.le_of_ble_eq_true rfl) dX6_sun_20 ⟨by decide, by decide⟩) hP hD hS [1, 2, 3, 4, 5, 6, 7] rfl (fun _ => rfl) (fun u_2 H locs hp_2 hP hD hS => ?_)
  have hP : va_P D vwCl ((rooW ad 0 cy fm fr) ++ ((airW ad 1 cy h v st sh fl cS cH (dnD h fl) (dnE h cS) (dnF h v st)) ++ (airW ad 8 cy kh ksu kst ksh kfl kcS kcH kdD kdE kdF))) H := hP
  have hD : va_D (zIn ((rooW ad 0 cy fm fr) ++ ((airW ad 1 cy h su st sh fl cS cH dD dE dF) ++ (airW ad 8 cy kh ksu kst ksh kfl kcS kcH kdD kdE kdF)))) ((rooW ad 0 cy fm fr) ++ ((airW ad 1 cy h v st sh fl cS cH (dnD h fl) (dnE h cS) (dnF h v st)) ++ (airW ad 8 cy kh ksu kst ksh kfl kcS kcH kdD kdE kdF))) := hD
  refine lv_aload_n M.1 M.2.1 dX6_sun_23 rfl (lv_at hl 1 rfl) ?_
  refine zi_get (ci := 6) (v := .ref (ad 8)) M hE hP 0 rfl rfl zu_X6 1 (by decide) zk_fl_RX6_16 rfl rfl dX6_sun_24 ?_
  refine lv_iload_n M.1 M.2.1 dX6_sun_27 rfl (lv_at hl 2 rfl) ?_
  refine z_cV (z_runV (As := [.int (iI v)]) (rest := []) M (c_X0_shineFrom l D cy z0 ad 8 kh ksu kst ksh kfl kcS kcH kdD kdE kdF v h_kh h_kst h_kfl h_kcS (by omega)) hE hS hAz (z_cut hP hD hAz [8, 9, 10, 11, 12, 13, 14] rfl (by decide +kernel)) (zRc.of (ci := 0) (q0 := 8) hE hP rfl rfl) zk_cd_X0_shineFrom zk_in_RX0 zk_im_X0_shineFrom zk_se_X0_shineFrom zk_ml_RX6_67 rfl rfl zd_X0_shineFrom ⟨by decide, by decide⟩ rfl hl.1 rfl (Nat.le_of_ble_eq_true rfl) dX6_sun_28 ⟨by decide, by decide⟩) hP hD hS [8, 9, 10, 11, 12, 13, 14] rfl (fun _ => rfl) (fun u_3 H locs hp_3 hP hD hS => ?_)
  have hP : va_P D vwCl ((rooW ad 0 cy fm fr) ++ ((airW ad 1 cy h v st sh fl cS cH (dnD h fl) (dnE h cS) (dnF h v st)) ++ (airW ad 8 cy kh v kst ksh kfl kcS kcH (dnD kh kfl) (dnE kh kcS) (dnF kh v kst)))) H := hP
  have hD : va_D (zIn ((rooW ad 0 cy fm fr) ++ ((airW ad 1 cy h su st sh fl cS cH dD dE dF) ++ (airW ad 8 cy kh ksu kst ksh kfl kcS kcH kdD kdE kdF)))) ((rooW ad 0 cy fm fr) ++ ((airW ad 1 cy h v st sh fl cS cH (dnD h fl) (dnE h cS) (dnF h v st)) ++ (airW ad 8 cy kh v kst ksh kfl kcS kcH (dnD kh kfl) (dnE kh kcS) (dnF kh v kst)))) := hD
  refine lv_iload_n M.1 M.2.1 dX6_sun_31 rfl (lv_at hl 0 rfl) ?_
  have hP : va_P D vwCl ((rooW ad 0 cy fm fr) ++ ((airW ad 1 cy h v st sh fl cS cH (dnD h fl) (dnE h cS) (dnF h v st)) ++ (airW ad 8 cy kh v kst ksh kfl kcS kcH (dnD kh kfl) (dnE kh kcS) (dnF kh v kst)))) H := hP
  exact vx_ret (zw_i M hr hlk () hP hS (by exact ⟨by omega, congrArg iI (show (su : Int) = su by rfl)⟩) (by decide) (by decide) dX6_sun_32)

set_option maxRecDepth 100000 in
set_option maxHeartbeats 4000000 in
theorem c_X6_storm (l : Launch) (hst : l.stackTraces = false) (D : va_G) (cy : Nat → ClassId) (z0 : Nat) (ad : Nat → Nat) (fm fr h su st sh fl : Int) (cS cH dD dE dF : Int → Int) (v : Int) (k : Int) (r_v : r32 v) (r_k : r32 k) (h_h : 0 ≤ h ∧ h ≤ 5000) (h_su : 0 ≤ su ∧ su ≤ 100) (h_st : 0 ≤ st ∧ st ≤ 60) (h_sh : 0 ≤ sh ∧ sh ≤ 72) (h_fl : 0 ≤ fl ∧ fl ≤ 80) (h_cS : zrg 48 0 100 cS) (h_cH : zrg 48 0 24 cH) : vx_Met l yX6_storm [.code yX6_storm cX6_storm 3 none] (zRm 7 2 12 112) (zPc [.ref (ad 0), .int (iI v), .int (iI k)] D cy z0 (zWl D z0 ((rooW ad 0 cy fm fr) ++ (airW ad 1 cy h su st sh fl cS cH dD dE dF)))) (zQ0 D ((rooW ad 0 cy fm fr) ++ (airW ad 1 cy h su st sh fl cS cH dD dE dF)) (fun (_ : Unit) => (((1 ≤ v ∧ v ≤ 60) ∧ (1 ≤ k ∧ k ≤ 72)))) (fun (_ : Unit) => ((rooW ad 0 cy fm fr) ++ (airW ad 1 cy h su v k fl cS cH (dnD h fl) (dnE h cS) (dnF h su v))))) (zXC (fun E => (E = eIA ∧ (¬ ((1 ≤ v ∧ v ≤ 60) ∧ (1 ≤ k ∧ k ≤ 72)))))) 2 12 (zIn ((rooW ad 0 cy fm fr) ++ (airW ad 1 cy h su st sh fl cS cH dD dE dF))) := by
  refine z_ofX (by decide) (Nat.le_of_ble_eq_true rfl) ?_
  intro p e s m args below meth c M hr hlk ht hargs hP0 hE ls hl
  have hP : va_P D vwCl ((rooW ad 0 cy fm fr) ++ (airW ad 1 cy h su st sh fl cS cH dD dE dF)) s.heap := hP0.1
  have hD : va_D (zIn ((rooW ad 0 cy fm fr) ++ (airW ad 1 cy h su st sh fl cS cH dD dE dF))) ((rooW ad 0 cy fm fr) ++ (airW ad 1 cy h su st sh fl cS cH dD dE dF)) := hP0.self
  have hAz := hP0.A
  have hS : va_S (zIn ((rooW ad 0 cy fm fr) ++ (airW ad 1 cy h su st sh fl cS cH dD dE dF))) s.heap s.heap [] := va_S.rf
  have hl : lv_has ls 3 [(0, .ref (ad 0)), (1, .int (iI v)), (2, .int (iI k))] := hl
  refine lv_iload_n M.1 M.2.1 dX6_storm_0 rfl (lv_at hl 1 rfl) ?_
  refine zi_push M dX6_storm_1 ?_
  refine zi_bipush M dX6_storm_2 ⟨by decide, by decide⟩ ?_
  refine zx_need (zx_runS (As := [.int (iI v), .int (iI 1), .int (iI 60)]) (rest := []) M (c_X6_needRange l hst D cy z0 v 1 60 (by omega) (by omega) (by omega)) hE hS hAz trivial zk_cd_X6_needRange zk_in_RX6 zk_st_X6_needRange zk_ml_RX6_59 rfl rfl zd_X6_needRange ⟨by decide, by decide⟩ rfl hl.1 rfl (Nat.le_of_ble_eq_true rfl) dX6_storm_4 ⟨by decide, by decide⟩) ht hlk (by decide) (by decide) (fun E t hA9 hC hz hq => ⟨by obtain ⟨rfl, h9⟩ := hC; exact ⟨rfl, by omega⟩, hz, hq⟩) (fun hn_1 => ?_)
  refine lv_iload_n M.1 M.2.1 dX6_storm_7 rfl (lv_at hl 2 rfl) ?_
  refine zi_push M dX6_storm_8 ?_
  refine zi_bipush M dX6_storm_9 ⟨by decide, by decide⟩ ?_
  refine zx_need (zx_runS (As := [.int (iI k), .int (iI 1), .int (iI 72)]) (rest := []) M (c_X6_needRange l hst D cy z0 k 1 72 (by omega) (by omega) (by omega)) hE hS hAz trivial zk_cd_X6_needRange zk_in_RX6 zk_st_X6_needRange zk_ml_RX6_59 rfl rfl zd_X6_needRange ⟨by decide, by decide⟩ rfl hl.1 rfl (Nat.le_of_ble_eq_true rfl) dX6_storm_11 ⟨by decide, by decide⟩) ht hlk (by decide) (by decide) (fun E t hA9 hC hz hq => ⟨by obtain ⟨rfl, h9⟩ := hC; exact ⟨rfl, by omega⟩, hz, hq⟩) (fun hn_2 => ?_)
  refine lv_aload_n M.1 M.2.1 dX6_storm_14 rfl (lv_at hl 0 rfl) ?_
  refine zi_get (ci := 6) (v := .ref (ad 1)) M hE hP 0 rfl rfl zu_X6 0 (by decide) zk_fl_RX6_12 rfl rfl dX6_storm_15 ?_
  refine lv_iload_n M.1 M.2.1 dX6_storm_18 rfl (lv_at hl 1 rfl) ?_
  refine lv_iload_n M.1 M.2.1 dX6_storm_19 rfl (lv_at hl 2 rfl) ?_
  refine z_cV (z_runV (As := [.int (iI v), .int (iI k)]) (rest := []) M (c_X0_beginStorm l D cy z0 ad 1 h su st sh fl cS cH dD dE dF v k h_h h_su h_fl h_cS (by omega) (by omega)) hE hS hAz (z_cut hP hD hAz [1, 2, 3, 4, 5, 6, 7] rfl (by decide +kernel)) (zRc.of (ci := 0) (q0 := 1) hE hP rfl rfl) zk_cd_X0_beginStorm zk_in_RX0 zk_im_X0_beginStorm zk_se_X0_beginStorm zk_ml_RX6_70 rfl rfl zd_X0_beginStorm ⟨by decide, by decide⟩ rfl hl.1 rfl (Nat.le_of_ble_eq_true rfl) dX6_storm_20 ⟨by decide, by decide⟩) hP hD hS [1, 2, 3, 4, 5, 6, 7] rfl (fun _ => rfl) (fun u_3 H locs hp_3 hP hD hS => ?_)
  have hP : va_P D vwCl ((rooW ad 0 cy fm fr) ++ (airW ad 1 cy h su v k fl cS cH (dnD h fl) (dnE h cS) (dnF h su v))) H := hP
  have hD : va_D (zIn ((rooW ad 0 cy fm fr) ++ (airW ad 1 cy h su st sh fl cS cH dD dE dF))) ((rooW ad 0 cy fm fr) ++ (airW ad 1 cy h su v k fl cS cH (dnD h fl) (dnE h cS) (dnF h su v))) := hD
  have hP : va_P D vwCl ((rooW ad 0 cy fm fr) ++ (airW ad 1 cy h su v k fl cS cH (dnD h fl) (dnE h cS) (dnF h su v))) H := hP
  exact vx_ret (zw_v M hr hlk () hP hS (by omega) (by decide) (by decide) dX6_storm_23)

set_option maxRecDepth 100000 in
set_option maxHeartbeats 4000000 in
theorem c_X6_flare (l : Launch) (hst : l.stackTraces = false) (D : va_G) (cy : Nat → ClassId) (z0 : Nat) (ad : Nat → Nat) (fm fr h su st sh fl : Int) (cS cH dD dE dF : Int → Int) (v : Int) (r_v : r32 v) (h_h : 0 ≤ h ∧ h ≤ 5000) (h_su : 0 ≤ su ∧ su ≤ 100) (h_st : 0 ≤ st ∧ st ≤ 60) (h_sh : 0 ≤ sh ∧ sh ≤ 72) (h_fl : 0 ≤ fl ∧ fl ≤ 80) (h_cS : zrg 48 0 100 cS) (h_cH : zrg 48 0 24 cH) : vx_Met l yX6_flare [.code yX6_flare cX6_flare 3 (some .int)] (zRm 7 1 6 112) (zPc [.ref (ad 0), .int (iI v)] D cy z0 (zWl D z0 ((rooW ad 0 cy fm fr) ++ (airW ad 1 cy h su st sh fl cS cH dD dE dF)))) (zQ1 D ((rooW ad 0 cy fm fr) ++ (airW ad 1 cy h su st sh fl cS cH dD dE dF)) (fun (r : Int32) (_ : Unit) => ((1 ≤ v ∧ v ≤ 80)) ∧ r = iI fl) (fun (_ : Unit) => ((rooW ad 0 cy fm fr) ++ (airW ad 1 cy h su st sh v cS cH (dnD h v) (dnE h cS) (dnF h su st))))) (zXC (fun E => (E = eIA ∧ (¬ (1 ≤ v ∧ v ≤ 80))))) 1 6 (zIn ((rooW ad 0 cy fm fr) ++ (airW ad 1 cy h su st sh fl cS cH dD dE dF))) := by
  refine z_ofX (by decide) (Nat.le_of_ble_eq_true rfl) ?_
  intro p e s m args below meth c M hr hlk ht hargs hP0 hE ls hl
  have hP : va_P D vwCl ((rooW ad 0 cy fm fr) ++ (airW ad 1 cy h su st sh fl cS cH dD dE dF)) s.heap := hP0.1
  have hD : va_D (zIn ((rooW ad 0 cy fm fr) ++ (airW ad 1 cy h su st sh fl cS cH dD dE dF))) ((rooW ad 0 cy fm fr) ++ (airW ad 1 cy h su st sh fl cS cH dD dE dF)) := hP0.self
  have hAz := hP0.A
  have hS : va_S (zIn ((rooW ad 0 cy fm fr) ++ (airW ad 1 cy h su st sh fl cS cH dD dE dF))) s.heap s.heap [] := va_S.rf
  have hl : lv_has ls 3 [(0, .ref (ad 0)), (1, .int (iI v))] := hl
  refine lv_iload_n M.1 M.2.1 dX6_flare_0 rfl (lv_at hl 1 rfl) ?_
  refine zi_push M dX6_flare_1 ?_
  refine zi_bipush M dX6_flare_2 ⟨by decide, by decide⟩ ?_
  refine zx_need (zx_runS (As := [.int (iI v), .int (iI 1), .int (iI 80)]) (rest := []) M (c_X6_needRange l hst D cy z0 v 1 80 (by omega) (by omega) (by omega)) hE hS hAz trivial zk_cd_X6_needRange zk_in_RX6 zk_st_X6_needRange zk_ml_RX6_59 rfl rfl zd_X6_needRange ⟨by decide, by decide⟩ rfl hl.1 rfl (Nat.le_of_ble_eq_true rfl) dX6_flare_4 ⟨by decide, by decide⟩) ht hlk (by decide) (by decide) (fun E t hA9 hC hz hq => ⟨by obtain ⟨rfl, h9⟩ := hC; exact ⟨rfl, by omega⟩, hz, hq⟩) (fun hn_1 => ?_)
  refine lv_aload_n M.1 M.2.1 dX6_flare_7 rfl (lv_at hl 0 rfl) ?_
  refine zi_get (ci := 6) (v := .ref (ad 1)) M hE hP 0 rfl rfl zu_X6 0 (by decide) zk_fl_RX6_12 rfl rfl dX6_flare_8 ?_
  refine zi_getN (ci := 0) (v := .int (iI fl)) M hE hP 1 rfl rfl zu_X0 4 (by decide) zk_fn_RX6_74 rfl rfl dX6_flare_11 ?_
  refine lv_istore_n (lv' := [(2, .int (iI fl)), (0, .ref (ad 0)), (1, .int (iI v))]) M.1 M.2.1 dX6_flare_14 rfl hl (by decide) rfl (fun ls hl => ?_)
  refine lv_aload_n M.1 M.2.1 dX6_flare_15 rfl (lv_at hl 1 rfl) ?_
  refine zi_get (ci := 6) (v := .ref (ad 1)) M hE hP 0 rfl rfl zu_X6 0 (by decide) zk_fl_RX6_12 rfl rfl dX6_flare_16 ?_
  refine lv_iload_n M.1 M.2.1 dX6_flare_19 rfl (lv_at hl 2 rfl) ?_
  refine z_cV (z_runV (As := [.int (iI v)]) (rest := []) M (c_X0_burst l D cy z0 ad 1 h su st sh fl cS cH dD dE dF v h_h h_su h_st h_cS (by omega)) hE hS hAz (z_cut hP hD hAz [1, 2, 3, 4, 5, 6, 7] rfl (by decide +kernel)) (zRc.of (ci := 0) (q0 := 1) hE hP rfl rfl) zk_cd_X0_burst zk_in_RX0 zk_im_X0_burst zk_se_X0_burst zk_ml_RX6_77 rfl rfl zd_X0_burst ⟨by decide, by decide⟩ rfl hl.1 rfl (Nat.le_of_ble_eq_true rfl) dX6_flare_20 ⟨by decide, by decide⟩) hP hD hS [1, 2, 3, 4, 5, 6, 7] rfl (fun _ => rfl) (fun u_2 H locs hp_2 hP hD hS => ?_)
  have hP : va_P D vwCl ((rooW ad 0 cy fm fr) ++ (airW ad 1 cy h su st sh v cS cH (dnD h v) (dnE h cS) (dnF h su st))) H := hP
  have hD : va_D (zIn ((rooW ad 0 cy fm fr) ++ (airW ad 1 cy h su st sh fl cS cH dD dE dF))) ((rooW ad 0 cy fm fr) ++ (airW ad 1 cy h su st sh v cS cH (dnD h v) (dnE h cS) (dnF h su st))) := hD
  refine lv_iload_n M.1 M.2.1 dX6_flare_23 rfl (lv_at hl 0 rfl) ?_
  have hP : va_P D vwCl ((rooW ad 0 cy fm fr) ++ (airW ad 1 cy h su st sh v cS cH (dnD h v) (dnE h cS) (dnF h su st))) H := hP
  exact vx_ret (zw_i M hr hlk () hP hS (by exact ⟨by omega, congrArg iI (show (fl : Int) = fl by rfl)⟩) (by decide) (by decide) dX6_flare_24)

set_option maxRecDepth 100000 in
set_option maxHeartbeats 4000000 in
theorem c_X6_cloud (l : Launch) (hst : l.stackTraces = false) (D : va_G) (cy : Nat → ClassId) (z0 : Nat) (ad : Nat → Nat) (fm fr h su st sh fl : Int) (cS cH dD dE dF : Int → Int) (q : Int) (v : Int) (k : Int) (r_q : r32 q) (r_v : r32 v) (r_k : r32 k) (h_h : 0 ≤ h ∧ h ≤ 5000) (h_su : 0 ≤ su ∧ su ≤ 100) (h_st : 0 ≤ st ∧ st ≤ 60) (h_sh : 0 ≤ sh ∧ sh ≤ 72) (h_fl : 0 ≤ fl ∧ fl ≤ 80) (h_cS : zrg 48 0 100 cS) (h_cH : zrg 48 0 24 cH) : vx_Met l yX6_cloud [.code yX6_cloud cX6_cloud 4 none] (zRm 7 3 18 112) (zPc [.ref (ad 0), .int (iI q), .int (iI v), .int (iI k)] D cy z0 (zWl D z0 ((rooW ad 0 cy fm fr) ++ (airW ad 1 cy h su st sh fl cS cH dD dE dF)))) (zQ0 D ((rooW ad 0 cy fm fr) ++ (airW ad 1 cy h su st sh fl cS cH dD dE dF)) (fun (_ : Unit) => ((0 ≤ q ∧ q < 48) ∧ ((1 ≤ v ∧ v ≤ 100) ∧ (1 ≤ k ∧ k ≤ 24)))) (fun (_ : Unit) => ((rooW ad 0 cy fm fr) ++ (airW ad 1 cy h su st sh fl (zu cS q v) (zu cH q k) (dnD h fl) (dnE h (zu cS q v)) (dnF h su st))))) (zXC (fun E => (E = eIB ∧ (¬ (0 ≤ q ∧ q < 48))) ∨ (E = eIA ∧ ((0 ≤ q ∧ q < 48) ∧ ¬ ((1 ≤ v ∧ v ≤ 100) ∧ (1 ≤ k ∧ k ≤ 24)))))) 3 18 (zIn ((rooW ad 0 cy fm fr) ++ (airW ad 1 cy h su st sh fl cS cH dD dE dF))) := by
  refine z_ofX (by decide) (Nat.le_of_ble_eq_true rfl) ?_
  intro p e s m args below meth c M hr hlk ht hargs hP0 hE ls hl
  have hP : va_P D vwCl ((rooW ad 0 cy fm fr) ++ (airW ad 1 cy h su st sh fl cS cH dD dE dF)) s.heap := hP0.1
  have hD : va_D (zIn ((rooW ad 0 cy fm fr) ++ (airW ad 1 cy h su st sh fl cS cH dD dE dF))) ((rooW ad 0 cy fm fr) ++ (airW ad 1 cy h su st sh fl cS cH dD dE dF)) := hP0.self
  have hAz := hP0.A
  have hS : va_S (zIn ((rooW ad 0 cy fm fr) ++ (airW ad 1 cy h su st sh fl cS cH dD dE dF))) s.heap s.heap [] := va_S.rf
  have hl : lv_has ls 4 [(0, .ref (ad 0)), (1, .int (iI q)), (2, .int (iI v)), (3, .int (iI k))] := hl
  refine lv_iload_n M.1 M.2.1 dX6_cloud_0 rfl (lv_at hl 1 rfl) ?_
  refine zx_need (zx_runS (As := [.int (iI q)]) (rest := []) M (c_X6_needPlace l hst D cy z0 q (by omega)) hE hS hAz trivial zk_cd_X6_needPlace zk_in_RX6 zk_st_X6_needPlace zk_ml_RX6_80 rfl rfl zd_X6_needPlace ⟨by decide, by decide⟩ rfl hl.1 rfl (Nat.le_of_ble_eq_true rfl) dX6_cloud_1 ⟨by decide, by decide⟩) ht hlk (by decide) (by decide) (fun E t hA9 hC hz hq => ⟨by obtain ⟨rfl, h9⟩ := hC; exact Or.inl (⟨rfl, by omega⟩), hz, hq⟩) (fun hn_1 => ?_)
  refine lv_iload_n M.1 M.2.1 dX6_cloud_4 rfl (lv_at hl 2 rfl) ?_
  refine zi_push M dX6_cloud_5 ?_
  refine zi_bipush M dX6_cloud_6 ⟨by decide, by decide⟩ ?_
  refine zx_need (zx_runS (As := [.int (iI v), .int (iI 1), .int (iI 100)]) (rest := []) M (c_X6_needRange l hst D cy z0 v 1 100 (by omega) (by omega) (by omega)) hE hS hAz trivial zk_cd_X6_needRange zk_in_RX6 zk_st_X6_needRange zk_ml_RX6_59 rfl rfl zd_X6_needRange ⟨by decide, by decide⟩ rfl hl.1 rfl (Nat.le_of_ble_eq_true rfl) dX6_cloud_8 ⟨by decide, by decide⟩) ht hlk (by decide) (by decide) (fun E t hA9 hC hz hq => ⟨by obtain ⟨rfl, h9⟩ := hC; exact Or.inr (⟨rfl, by omega⟩), hz, hq⟩) (fun hn_2 => ?_)
  refine lv_iload_n M.1 M.2.1 dX6_cloud_11 rfl (lv_at hl 3 rfl) ?_
  refine zi_push M dX6_cloud_12 ?_
  refine zi_bipush M dX6_cloud_13 ⟨by decide, by decide⟩ ?_
  refine zx_need (zx_runS (As := [.int (iI k), .int (iI 1), .int (iI 24)]) (rest := []) M (c_X6_needRange l hst D cy z0 k 1 24 (by omega) (by omega) (by omega)) hE hS hAz trivial zk_cd_X6_needRange zk_in_RX6 zk_st_X6_needRange zk_ml_RX6_59 rfl rfl zd_X6_needRange ⟨by decide, by decide⟩ rfl hl.1 rfl (Nat.le_of_ble_eq_true rfl) dX6_cloud_15 ⟨by decide, by decide⟩) ht hlk (by decide) (by decide) (fun E t hA9 hC hz hq => ⟨by obtain ⟨rfl, h9⟩ := hC; exact Or.inr (⟨rfl, by omega⟩), hz, hq⟩) (fun hn_3 => ?_)
  refine lv_aload_n M.1 M.2.1 dX6_cloud_18 rfl (lv_at hl 0 rfl) ?_
  refine zi_get (ci := 6) (v := .ref (ad 1)) M hE hP 0 rfl rfl zu_X6 0 (by decide) zk_fl_RX6_12 rfl rfl dX6_cloud_19 ?_
  refine lv_iload_n M.1 M.2.1 dX6_cloud_22 rfl (lv_at hl 1 rfl) ?_
  refine lv_iload_n M.1 M.2.1 dX6_cloud_23 rfl (lv_at hl 2 rfl) ?_
  refine lv_iload_n M.1 M.2.1 dX6_cloud_24 rfl (lv_at hl 3 rfl) ?_
  refine z_cV (z_runV (As := [.int (iI q), .int (iI v), .int (iI k)]) (rest := []) M (c_X0_coverPlace l D cy z0 ad 1 h su st sh fl cS cH dD dE dF q v k h_h h_su h_st h_fl h_cS (by omega) (by omega) (by omega)) hE hS hAz (z_cut hP hD hAz [1, 2, 3, 4, 5, 6, 7] rfl (by decide +kernel)) (zRc.of (ci := 0) (q0 := 1) hE hP rfl rfl) zk_cd_X0_coverPlace zk_in_RX0 zk_im_X0_coverPlace zk_se_X0_coverPlace zk_ml_RX6_83 rfl rfl zd_X0_coverPlace ⟨by decide, by decide⟩ rfl hl.1 rfl (Nat.le_of_ble_eq_true rfl) dX6_cloud_25 ⟨by decide, by decide⟩) hP hD hS [1, 2, 3, 4, 5, 6, 7] rfl (fun _ => rfl) (fun u_4 H locs hp_4 hP hD hS => ?_)
  have hP : va_P D vwCl ((rooW ad 0 cy fm fr) ++ (airW ad 1 cy h su st sh fl (zu cS q v) (zu cH q k) (dnD h fl) (dnE h (zu cS q v)) (dnF h su st))) H := hP
  have hD : va_D (zIn ((rooW ad 0 cy fm fr) ++ (airW ad 1 cy h su st sh fl cS cH dD dE dF))) ((rooW ad 0 cy fm fr) ++ (airW ad 1 cy h su st sh fl (zu cS q v) (zu cH q k) (dnD h fl) (dnE h (zu cS q v)) (dnF h su st))) := hD
  have hP : va_P D vwCl ((rooW ad 0 cy fm fr) ++ (airW ad 1 cy h su st sh fl (zu cS q v) (zu cH q k) (dnD h fl) (dnE h (zu cS q v)) (dnF h su st))) H := hP
  exact vx_ret (zw_v M hr hlk () hP hS (by omega) (by decide) (by decide) dX6_cloud_28)

set_option maxRecDepth 100000 in
set_option maxHeartbeats 4000000 in
theorem c_X6_sea (l : Launch) (hst : l.stackTraces = false) (D : va_G) (cy : Nat → ClassId) (z0 : Nat) (ad : Nat → Nat) (fm fr : Int) (sea noi : Int → Int) (q : Int) (z : Int) (r_q : r32 q) (hz : 0 ≤ z ∧ z ≤ 1) (g_sea : zrg 48 0 1 sea) (g_noi : zrg 48 0 40 noi) : vx_Met l yX6_sea [.code yX6_sea cX6_sea 4 (some .boolean)] (zRm 7 1 6 110) (zPc [.ref (ad 0), .int (iI q), .int (iI z)] D cy z0 (zWl D z0 ((rooW ad 0 cy fm fr) ++ (grdW ad 15 cy sea noi)))) (zQ1 D ((rooW ad 0 cy fm fr) ++ (grdW ad 15 cy sea noi)) (fun (r : Int32) (_ : Unit) => ((0 ≤ q ∧ q < 48)) ∧ r = iI (sea q)) (fun (_ : Unit) => ((rooW ad 0 cy fm fr) ++ (grdW ad 15 cy (zu sea q z) noi)))) (zXC (fun E => (E = eIB ∧ (¬ (0 ≤ q ∧ q < 48))))) 1 6 (zIn ((rooW ad 0 cy fm fr) ++ (grdW ad 15 cy sea noi))) := by
  refine z_ofX (by decide) (Nat.le_of_ble_eq_true rfl) ?_
  intro p e s m args below meth c M hr hlk ht hargs hP0 hE ls hl
  have hP : va_P D vwCl ((rooW ad 0 cy fm fr) ++ (grdW ad 15 cy sea noi)) s.heap := hP0.1
  have hD : va_D (zIn ((rooW ad 0 cy fm fr) ++ (grdW ad 15 cy sea noi))) ((rooW ad 0 cy fm fr) ++ (grdW ad 15 cy sea noi)) := hP0.self
  have hAz := hP0.A
  have hS : va_S (zIn ((rooW ad 0 cy fm fr) ++ (grdW ad 15 cy sea noi))) s.heap s.heap [] := va_S.rf
  have hl : lv_has ls 4 [(0, .ref (ad 0)), (1, .int (iI q)), (2, .int (iI z))] := hl
  refine lv_iload_n M.1 M.2.1 dX6_sea_0 rfl (lv_at hl 1 rfl) ?_
  refine zx_need (zx_runS (As := [.int (iI q)]) (rest := []) M (c_X6_needPlace l hst D cy z0 q (by omega)) hE hS hAz trivial zk_cd_X6_needPlace zk_in_RX6 zk_st_X6_needPlace zk_ml_RX6_80 rfl rfl zd_X6_needPlace ⟨by decide, by decide⟩ rfl hl.1 rfl (Nat.le_of_ble_eq_true rfl) dX6_sea_1 ⟨by decide, by decide⟩) ht hlk (by decide) (by decide) (fun E t hA9 hC hz hq => ⟨by obtain ⟨rfl, h9⟩ := hC; exact ⟨rfl, by omega⟩, hz, hq⟩) (fun hn_1 => ?_)
  refine lv_aload_n M.1 M.2.1 dX6_sea_4 rfl (lv_at hl 0 rfl) ?_
  refine zi_get (ci := 6) (v := .ref (ad 15)) M hE hP 0 rfl rfl zu_X6 2 (by decide) zk_fl_RX6_22 rfl rfl dX6_sea_5 ?_
  refine zi_getN (ci := 3) (v := .ref (ad (15 + 1))) M hE hP 1 rfl rfl zu_X3 0 (by decide) zk_fn_RX6_86 rfl rfl dX6_sea_8 ?_
  refine lv_iload_n M.1 M.2.1 dX6_sea_11 rfl (lv_at hl 1 rfl) ?_
  refine zi_zald M hE hP 2 (n := 48) (g := sea) rfl (Nat.le_of_ble_eq_true rfl) (by omega) (by omega) dX6_sea_12 ?_
  have hr_2 := g_sea q (by omega) (by omega)
  refine lv_istore_n (lv' := [(3, .int (iI (sea q))), (0, .ref (ad 0)), (1, .int (iI q)), (2, .int (iI z))]) M.1 M.2.1 dX6_sea_13 rfl hl (by decide) rfl (fun ls hl => ?_)
  refine lv_aload_n M.1 M.2.1 dX6_sea_14 rfl (lv_at hl 1 rfl) ?_
  refine zi_get (ci := 6) (v := .ref (ad 15)) M hE hP 0 rfl rfl zu_X6 2 (by decide) zk_fl_RX6_22 rfl rfl dX6_sea_15 ?_
  refine zi_getN (ci := 3) (v := .ref (ad (15 + 1))) M hE hP 1 rfl rfl zu_X3 0 (by decide) zk_fn_RX6_86 rfl rfl dX6_sea_18 ?_
  refine lv_iload_n M.1 M.2.1 dX6_sea_21 rfl (lv_at hl 2 rfl) ?_
  refine lv_iload_n M.1 M.2.1 dX6_sea_22 rfl (lv_at hl 3 rfl) ?_
  refine zi_zast (ws' := ((rooW ad 0 cy fm fr) ++ (grdW ad 15 cy (zu sea q z) noi))) M hE hP hD hS 2 (n := 48) (g := sea) rfl (Nat.le_of_ble_eq_true rfl) (by omega) (by omega) (by omega) rfl dX6_sea_23 (fun H locs hP hD hS => ?_)
  refine lv_iload_n M.1 M.2.1 dX6_sea_24 rfl (lv_at hl 0 rfl) ?_
  have hP : va_P D vwCl ((rooW ad 0 cy fm fr) ++ (grdW ad 15 cy (zu sea q z) noi)) H := hP
  exact vx_ret (zw_z M hr hlk (v := (sea q)) ((by omega)) () hP hS (by exact ⟨by omega, congrArg iI (show ((sea q) : Int) = sea q by rfl)⟩) (by decide) (by decide) dX6_sea_25)

set_option maxRecDepth 100000 in
set_option maxHeartbeats 4000000 in
theorem c_X6_noise (l : Launch) (hst : l.stackTraces = false) (D : va_G) (cy : Nat → ClassId) (z0 : Nat) (ad : Nat → Nat) (fm fr : Int) (sea noi : Int → Int) (q : Int) (v : Int) (r_q : r32 q) (r_v : r32 v) (g_sea : zrg 48 0 1 sea) (g_noi : zrg 48 0 40 noi) : vx_Met l yX6_noise [.code yX6_noise cX6_noise 4 (some .int)] (zRm 7 2 12 112) (zPc [.ref (ad 0), .int (iI q), .int (iI v)] D cy z0 (zWl D z0 ((rooW ad 0 cy fm fr) ++ (grdW ad 15 cy sea noi)))) (zQ1 D ((rooW ad 0 cy fm fr) ++ (grdW ad 15 cy sea noi)) (fun (r : Int32) (_ : Unit) => ((0 ≤ q ∧ q < 48) ∧ (0 ≤ v ∧ v ≤ 40)) ∧ r = iI (noi q)) (fun (_ : Unit) => ((rooW ad 0 cy fm fr) ++ (grdW ad 15 cy sea (zu noi q v))))) (zXC (fun E => (E = eIB ∧ (¬ (0 ≤ q ∧ q < 48))) ∨ (E = eIA ∧ ((0 ≤ q ∧ q < 48) ∧ ¬ (0 ≤ v ∧ v ≤ 40))))) 2 12 (zIn ((rooW ad 0 cy fm fr) ++ (grdW ad 15 cy sea noi))) := by
  refine z_ofX (by decide) (Nat.le_of_ble_eq_true rfl) ?_
  intro p e s m args below meth c M hr hlk ht hargs hP0 hE ls hl
  have hP : va_P D vwCl ((rooW ad 0 cy fm fr) ++ (grdW ad 15 cy sea noi)) s.heap := hP0.1
  have hD : va_D (zIn ((rooW ad 0 cy fm fr) ++ (grdW ad 15 cy sea noi))) ((rooW ad 0 cy fm fr) ++ (grdW ad 15 cy sea noi)) := hP0.self
  have hAz := hP0.A
  have hS : va_S (zIn ((rooW ad 0 cy fm fr) ++ (grdW ad 15 cy sea noi))) s.heap s.heap [] := va_S.rf
  have hl : lv_has ls 4 [(0, .ref (ad 0)), (1, .int (iI q)), (2, .int (iI v))] := hl
  refine lv_iload_n M.1 M.2.1 dX6_noise_0 rfl (lv_at hl 1 rfl) ?_
  refine zx_need (zx_runS (As := [.int (iI q)]) (rest := []) M (c_X6_needPlace l hst D cy z0 q (by omega)) hE hS hAz trivial zk_cd_X6_needPlace zk_in_RX6 zk_st_X6_needPlace zk_ml_RX6_80 rfl rfl zd_X6_needPlace ⟨by decide, by decide⟩ rfl hl.1 rfl (Nat.le_of_ble_eq_true rfl) dX6_noise_1 ⟨by decide, by decide⟩) ht hlk (by decide) (by decide) (fun E t hA9 hC hz hq => ⟨by obtain ⟨rfl, h9⟩ := hC; exact Or.inl (⟨rfl, by omega⟩), hz, hq⟩) (fun hn_1 => ?_)
  refine lv_iload_n M.1 M.2.1 dX6_noise_4 rfl (lv_at hl 2 rfl) ?_
  refine zi_push M dX6_noise_5 ?_
  refine zi_bipush M dX6_noise_6 ⟨by decide, by decide⟩ ?_
  refine zx_need (zx_runS (As := [.int (iI v), .int (iI 0), .int (iI 40)]) (rest := []) M (c_X6_needRange l hst D cy z0 v 0 40 (by omega) (by omega) (by omega)) hE hS hAz trivial zk_cd_X6_needRange zk_in_RX6 zk_st_X6_needRange zk_ml_RX6_59 rfl rfl zd_X6_needRange ⟨by decide, by decide⟩ rfl hl.1 rfl (Nat.le_of_ble_eq_true rfl) dX6_noise_8 ⟨by decide, by decide⟩) ht hlk (by decide) (by decide) (fun E t hA9 hC hz hq => ⟨by obtain ⟨rfl, h9⟩ := hC; exact Or.inr (⟨rfl, by omega⟩), hz, hq⟩) (fun hn_2 => ?_)
  refine lv_aload_n M.1 M.2.1 dX6_noise_11 rfl (lv_at hl 0 rfl) ?_
  refine zi_get (ci := 6) (v := .ref (ad 15)) M hE hP 0 rfl rfl zu_X6 2 (by decide) zk_fl_RX6_22 rfl rfl dX6_noise_12 ?_
  refine zi_getN (ci := 3) (v := .ref (ad (15 + 2))) M hE hP 1 rfl rfl zu_X3 1 (by decide) zk_fn_RX6_90 rfl rfl dX6_noise_15 ?_
  refine lv_iload_n M.1 M.2.1 dX6_noise_18 rfl (lv_at hl 1 rfl) ?_
  refine zi_iald M hE hP 3 (n := 48) (g := noi) rfl (Nat.le_of_ble_eq_true rfl) (by omega) (by omega) dX6_noise_19 ?_
  have hr_3 := g_noi q (by omega) (by omega)
  refine lv_istore_n (lv' := [(3, .int (iI (noi q))), (0, .ref (ad 0)), (1, .int (iI q)), (2, .int (iI v))]) M.1 M.2.1 dX6_noise_20 rfl hl (by decide) rfl (fun ls hl => ?_)
  refine lv_aload_n M.1 M.2.1 dX6_noise_21 rfl (lv_at hl 1 rfl) ?_
  refine zi_get (ci := 6) (v := .ref (ad 15)) M hE hP 0 rfl rfl zu_X6 2 (by decide) zk_fl_RX6_22 rfl rfl dX6_noise_22 ?_
  refine zi_getN (ci := 3) (v := .ref (ad (15 + 2))) M hE hP 1 rfl rfl zu_X3 1 (by decide) zk_fn_RX6_90 rfl rfl dX6_noise_25 ?_
  refine lv_iload_n M.1 M.2.1 dX6_noise_28 rfl (lv_at hl 2 rfl) ?_
  refine lv_iload_n M.1 M.2.1 dX6_noise_29 rfl (lv_at hl 3 rfl) ?_
  refine zi_iast (ws' := ((rooW ad 0 cy fm fr) ++ (grdW ad 15 cy sea (zu noi q v)))) M hE hP hD hS 3 (n := 48) (g := noi) rfl (Nat.le_of_ble_eq_true rfl) (by omega) (by omega) rfl dX6_noise_30 (fun H locs hP hD hS => ?_)
  refine lv_iload_n M.1 M.2.1 dX6_noise_31 rfl (lv_at hl 0 rfl) ?_
  have hP : va_P D vwCl ((rooW ad 0 cy fm fr) ++ (grdW ad 15 cy sea (zu noi q v))) H := hP
  exact vx_ret (zw_i M hr hlk () hP hS (by exact ⟨by omega, congrArg iI (show ((noi q) : Int) = noi q by rfl)⟩) (by decide) (by decide) dX6_noise_32)

set_option maxRecDepth 100000 in
set_option maxHeartbeats 4000000 in
theorem c_X6_pass (l : Launch) (hst : l.stackTraces = false) (D : va_G) (cy : Nat → ClassId) (z0 : Nat) (ad : Nat → Nat) (fm fr h su st sh fl kh ksu kst ksh kfl : Int) (cS cH dD dE dF kcS kcH kdD kdE kdF : Int → Int) (k : Int) (r_k : r32 k) (h_h : 0 ≤ h ∧ h ≤ 5000) (h_su : 0 ≤ su ∧ su ≤ 100) (h_st : 0 ≤ st ∧ st ≤ 60) (h_sh : 0 ≤ sh ∧ sh ≤ 72) (h_fl : 0 ≤ fl ∧ fl ≤ 80) (h_cS : zrg 48 0 100 cS) (h_cH : zrg 48 0 24 cH) (h_kh : 0 ≤ kh ∧ kh ≤ 5000) (h_ksu : 0 ≤ ksu ∧ ksu ≤ 100) (h_kst : 0 ≤ kst ∧ kst ≤ 60) (h_ksh : 0 ≤ ksh ∧ ksh ≤ 72) (h_kfl : 0 ≤ kfl ∧ kfl ≤ 80) (h_kcS : zrg 48 0 100 kcS) (h_kcH : zrg 48 0 24 kcH) (hkh : kh = h) : vx_Met l yX6_pass [.code yX6_pass cX6_pass 2 (some .int)] (zRm 7 2 12 112) (zPc [.ref (ad 0), .int (iI k)] D cy z0 (zWl D z0 ((rooW ad 0 cy fm fr) ++ ((airW ad 1 cy h su st sh fl cS cH dD dE dF) ++ (airW ad 8 cy kh ksu kst ksh kfl kcS kcH kdD kdE kdF))))) (zQ1 D ((rooW ad 0 cy fm fr) ++ ((airW ad 1 cy h su st sh fl cS cH dD dE dF) ++ (airW ad 8 cy kh ksu kst ksh kfl kcS kcH kdD kdE kdF))) (fun (r : Int32) (_ : Unit) => ((1 ≤ k ∧ k ≤ 48) ∧ (h + k ≤ 5000)) ∧ r = iI (h + k)) (fun (_ : Unit) => ((rooW ad 0 cy fm fr) ++ ((airW ad 1 cy (h + k) su (stK k st sh) (max 0 (sh - k)) (flK k.toNat fl) (cSK k cS cH) (cHK k cH) (dnD (h + k) (flK k.toNat fl)) (dnE (h + k) (cSK k cS cH)) (dnF (h + k) su (stK k st sh))) ++ (airW ad 8 cy (kh + k) ksu (stK k kst ksh) (max 0 (ksh - k)) (flK k.toNat kfl) (cSK k kcS kcH) (cHK k kcH) (dnD (kh + k) (flK k.toNat kfl)) (dnE (kh + k) (cSK k kcS kcH)) (dnF (kh + k) ksu (stK k kst ksh))))))) (zXC (fun E => (E = eIA ∧ (¬ (1 ≤ k ∧ k ≤ 48))) ∨ (E = eIS ∧ ((1 ≤ k ∧ k ≤ 48) ∧ ¬ (h + k ≤ 5000))))) 2 12 (zIn ((rooW ad 0 cy fm fr) ++ ((airW ad 1 cy h su st sh fl cS cH dD dE dF) ++ (airW ad 8 cy kh ksu kst ksh kfl kcS kcH kdD kdE kdF)))) := by
  refine z_ofX (by decide) (Nat.le_of_ble_eq_true rfl) ?_
  intro p e s m args below meth c M hr hlk ht hargs hP0 hE ls hl
  have hP : va_P D vwCl ((rooW ad 0 cy fm fr) ++ ((airW ad 1 cy h su st sh fl cS cH dD dE dF) ++ (airW ad 8 cy kh ksu kst ksh kfl kcS kcH kdD kdE kdF))) s.heap := hP0.1
  have hD : va_D (zIn ((rooW ad 0 cy fm fr) ++ ((airW ad 1 cy h su st sh fl cS cH dD dE dF) ++ (airW ad 8 cy kh ksu kst ksh kfl kcS kcH kdD kdE kdF)))) ((rooW ad 0 cy fm fr) ++ ((airW ad 1 cy h su st sh fl cS cH dD dE dF) ++ (airW ad 8 cy kh ksu kst ksh kfl kcS kcH kdD kdE kdF))) := hP0.self
  have hAz := hP0.A
  have hS : va_S (zIn ((rooW ad 0 cy fm fr) ++ ((airW ad 1 cy h su st sh fl cS cH dD dE dF) ++ (airW ad 8 cy kh ksu kst ksh kfl kcS kcH kdD kdE kdF)))) s.heap s.heap [] := va_S.rf
  have hl : lv_has ls 2 [(0, .ref (ad 0)), (1, .int (iI k))] := hl
  refine lv_iload_n M.1 M.2.1 dX6_pass_0 rfl (lv_at hl 1 rfl) ?_
  refine zi_push M dX6_pass_1 ?_
  refine zi_bipush M dX6_pass_2 ⟨by decide, by decide⟩ ?_
  refine zx_need (zx_runS (As := [.int (iI k), .int (iI 1), .int (iI 48)]) (rest := []) M (c_X6_needRange l hst D cy z0 k 1 48 (by omega) (by omega) (by omega)) hE hS hAz trivial zk_cd_X6_needRange zk_in_RX6 zk_st_X6_needRange zk_ml_RX6_59 rfl rfl zd_X6_needRange ⟨by decide, by decide⟩ rfl hl.1 rfl (Nat.le_of_ble_eq_true rfl) dX6_pass_4 ⟨by decide, by decide⟩) ht hlk (by decide) (by decide) (fun E t hA9 hC hz hq => ⟨by obtain ⟨rfl, h9⟩ := hC; exact Or.inl (⟨rfl, by omega⟩), hz, hq⟩) (fun hn_1 => ?_)
  refine lv_aload_n M.1 M.2.1 dX6_pass_7 rfl (lv_at hl 0 rfl) ?_
  refine zi_get (ci := 6) (v := .ref (ad 1)) M hE hP 0 rfl rfl zu_X6 0 (by decide) zk_fl_RX6_12 rfl rfl dX6_pass_8 ?_
  refine zi_getN (ci := 0) (v := .int (iI h)) M hE hP 1 rfl rfl zu_X0 0 (by decide) zk_fn_RX6_94 rfl rfl dX6_pass_11 ?_
  refine lv_iload_n M.1 M.2.1 dX6_pass_14 rfl (lv_at hl 1 rfl) ?_
  refine zi_iadd M dX6_pass_15 ?_
  refine zi_sipush M dX6_pass_16 ⟨by decide, by decide⟩ ?_
  refine zi_icmp_le (tgt := 32) M dX6_pass_19 (by decide) (by omega) ⟨by decide, by decide⟩ (fun c_2 => ?_) (fun c_2 => ?_)
  ·
    refine lv_aload_n M.1 M.2.1 dX6_pass_32 rfl (lv_at hl 0 rfl) ?_
    refine zi_get (ci := 6) (v := .ref (ad 1)) M hE hP 0 rfl rfl zu_X6 0 (by decide) zk_fl_RX6_12 rfl rfl dX6_pass_33 ?_
    refine lv_iload_n M.1 M.2.1 dX6_pass_36 rfl (lv_at hl 1 rfl) ?_
    refine z_cV (z_runV (As := [.int (iI k)]) (rest := []) M (c_X0_letGoBy l D cy z0 ad 1 h su st sh fl cS cH dD dE dF k h_h h_su h_st h_fl h_sh h_cS h_cH (by omega) (by omega)) hE hS hAz (z_cut hP hD hAz [1, 2, 3, 4, 5, 6, 7] rfl (by decide +kernel)) (zRc.of (ci := 0) (q0 := 1) hE hP rfl rfl) zk_cd_X0_letGoBy zk_in_RX0 zk_im_X0_letGoBy zk_se_X0_letGoBy zk_ml_RX6_104 rfl rfl zd_X0_letGoBy ⟨by decide, by decide⟩ rfl hl.1 rfl (Nat.le_of_ble_eq_true rfl) dX6_pass_37 ⟨by decide, by decide⟩) hP hD hS [1, 2, 3, 4, 5, 6, 7] rfl (fun _ => rfl) (fun u_3 H locs hp_3 hP hD hS => ?_)
    have hP : va_P D vwCl ((rooW ad 0 cy fm fr) ++ ((airW ad 1 cy (h + k) su (stK k st sh) (max 0 (sh - k)) (flK k.toNat fl) (cSK k cS cH) (cHK k cH) (dnD (h + k) (flK k.toNat fl)) (dnE (h + k) (cSK k cS cH)) (dnF (h + k) su (stK k st sh))) ++ (airW ad 8 cy kh ksu kst ksh kfl kcS kcH kdD kdE kdF))) H := hP
    have hD : va_D (zIn ((rooW ad 0 cy fm fr) ++ ((airW ad 1 cy h su st sh fl cS cH dD dE dF) ++ (airW ad 8 cy kh ksu kst ksh kfl kcS kcH kdD kdE kdF)))) ((rooW ad 0 cy fm fr) ++ ((airW ad 1 cy (h + k) su (stK k st sh) (max 0 (sh - k)) (flK k.toNat fl) (cSK k cS cH) (cHK k cH) (dnD (h + k) (flK k.toNat fl)) (dnE (h + k) (cSK k cS cH)) (dnF (h + k) su (stK k st sh))) ++ (airW ad 8 cy kh ksu kst ksh kfl kcS kcH kdD kdE kdF))) := hD
    refine lv_aload_n M.1 M.2.1 dX6_pass_40 rfl (lv_at hl 0 rfl) ?_
    refine zi_get (ci := 6) (v := .ref (ad 8)) M hE hP 0 rfl rfl zu_X6 1 (by decide) zk_fl_RX6_16 rfl rfl dX6_pass_41 ?_
    refine lv_iload_n M.1 M.2.1 dX6_pass_44 rfl (lv_at hl 1 rfl) ?_
    refine z_cV (z_runV (As := [.int (iI k)]) (rest := []) M (c_X0_letGoBy l D cy z0 ad 8 kh ksu kst ksh kfl kcS kcH kdD kdE kdF k h_kh h_ksu h_kst h_kfl h_ksh h_kcS h_kcH (by omega) (by omega)) hE hS hAz (z_cut hP hD hAz [8, 9, 10, 11, 12, 13, 14] rfl (by decide +kernel)) (zRc.of (ci := 0) (q0 := 8) hE hP rfl rfl) zk_cd_X0_letGoBy zk_in_RX0 zk_im_X0_letGoBy zk_se_X0_letGoBy zk_ml_RX6_104 rfl rfl zd_X0_letGoBy ⟨by decide, by decide⟩ rfl hl.1 rfl (Nat.le_of_ble_eq_true rfl) dX6_pass_45 ⟨by decide, by decide⟩) hP hD hS [8, 9, 10, 11, 12, 13, 14] rfl (fun _ => rfl) (fun u_4 H locs hp_4 hP hD hS => ?_)
    have hP : va_P D vwCl ((rooW ad 0 cy fm fr) ++ ((airW ad 1 cy (h + k) su (stK k st sh) (max 0 (sh - k)) (flK k.toNat fl) (cSK k cS cH) (cHK k cH) (dnD (h + k) (flK k.toNat fl)) (dnE (h + k) (cSK k cS cH)) (dnF (h + k) su (stK k st sh))) ++ (airW ad 8 cy (kh + k) ksu (stK k kst ksh) (max 0 (ksh - k)) (flK k.toNat kfl) (cSK k kcS kcH) (cHK k kcH) (dnD (kh + k) (flK k.toNat kfl)) (dnE (kh + k) (cSK k kcS kcH)) (dnF (kh + k) ksu (stK k kst ksh))))) H := hP
    have hD : va_D (zIn ((rooW ad 0 cy fm fr) ++ ((airW ad 1 cy h su st sh fl cS cH dD dE dF) ++ (airW ad 8 cy kh ksu kst ksh kfl kcS kcH kdD kdE kdF)))) ((rooW ad 0 cy fm fr) ++ ((airW ad 1 cy (h + k) su (stK k st sh) (max 0 (sh - k)) (flK k.toNat fl) (cSK k cS cH) (cHK k cH) (dnD (h + k) (flK k.toNat fl)) (dnE (h + k) (cSK k cS cH)) (dnF (h + k) su (stK k st sh))) ++ (airW ad 8 cy (kh + k) ksu (stK k kst ksh) (max 0 (ksh - k)) (flK k.toNat kfl) (cSK k kcS kcH) (cHK k kcH) (dnD (kh + k) (flK k.toNat kfl)) (dnE (kh + k) (cSK k kcS kcH)) (dnF (kh + k) ksu (stK k kst ksh))))) := hD
    refine lv_aload_n M.1 M.2.1 dX6_pass_48 rfl (lv_at hl 0 rfl) ?_
    refine zi_get (ci := 6) (v := .ref (ad 1)) M hE hP 0 rfl rfl zu_X6 0 (by decide) zk_fl_RX6_12 rfl rfl dX6_pass_49 ?_
    refine zi_getN (ci := 0) (v := .int (iI (h + k))) M hE hP 1 rfl rfl zu_X0 0 (by decide) zk_fn_RX6_94 rfl rfl dX6_pass_52 ?_
    have hP : va_P D vwCl ((rooW ad 0 cy fm fr) ++ ((airW ad 1 cy (h + k) su (stK k st sh) (max 0 (sh - k)) (flK k.toNat fl) (cSK k cS cH) (cHK k cH) (dnD (h + k) (flK k.toNat fl)) (dnE (h + k) (cSK k cS cH)) (dnF (h + k) su (stK k st sh))) ++ (airW ad 8 cy (kh + k) ksu (stK k kst ksh) (max 0 (ksh - k)) (flK k.toNat kfl) (cSK k kcS kcH) (cHK k kcH) (dnD (kh + k) (flK k.toNat kfl)) (dnE (kh + k) (cSK k kcS kcH)) (dnF (kh + k) ksu (stK k kst ksh))))) H := hP
    exact vx_ret (zw_i M hr hlk () hP hS (by exact ⟨by omega, congrArg iI (show ((h + k) : Int) = h + k by rfl)⟩) (by decide) (by decide) dX6_pass_55)
  ·
    exact zx_throw M hst hE hS hAz (cls := eIS) (ik := 97) (is := 99) (ic := 101) (by decide +kernel) zk_cl_RX6_97 zk_in_java_lang_IllegalStateException (by unfold zTi; decide) zat_101 zgd_101 hl.1 dX6_pass_22 dX6_pass_25 dX6_pass_26 dX6_pass_28 dX6_pass_31 ht (by decide) (by decide) (by decide) (by decide) hlk (fun t hA9 hz hq => ⟨Or.inr (⟨rfl, by omega⟩), hz, hq⟩) (fun _ h => nomatch h) (by decide) (by decide)
