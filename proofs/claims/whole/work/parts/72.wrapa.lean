/-! contracts: the law's own methods -/
set_option maxRecDepth 100000 in
set_option maxHeartbeats 8000000 in
theorem c_L_sun (l : Launch) (hst : l.stackTraces = false) (D : va_G) (cy : Nat → ClassId) (z0 : Nat) (ad od : Nat → Nat) (fm fr h su st sh fl kh ksu kst ksh kfl o : Int) (cS cH dD dE dF kcS kcH kdD kdE kdF : Int → Int) (v : Int) (r_v : r32 v) (h_h : 0 ≤ h ∧ h ≤ 5000) (h_su : 0 ≤ su ∧ su ≤ 100) (h_st : 0 ≤ st ∧ st ≤ 60) (h_sh : 0 ≤ sh ∧ sh ≤ 72) (h_fl : 0 ≤ fl ∧ fl ≤ 80) (h_cS : zrg 48 0 100 cS) (h_cH : zrg 48 0 24 cH) (h_kh : 0 ≤ kh ∧ kh ≤ 5000) (h_ksu : 0 ≤ ksu ∧ ksu ≤ 100) (h_kst : 0 ≤ kst ∧ kst ≤ 60) (h_ksh : 0 ≤ ksh ∧ ksh ≤ 72) (h_kfl : 0 ≤ kfl ∧ kfl ≤ 80) (h_kcS : zrg 48 0 100 kcS) (h_kcH : zrg 48 0 24 kcH) : vx_Met l yL_sun [.codeWith yL_sun cL_sun 4 (some .int) [(0, 9, 12, 13)]] (zRm 8 1 6 134) (zPcN [.ref (ad 0), .int (iI v), .ref (od 0)] D cy z0 (zWl D z0 ((rooW ad 0 cy fm fr) ++ ((airW ad 1 cy h su st sh fl cS cH dD dE dF) ++ ((airW ad 8 cy kh ksu kst ksh kfl kcS kcH kdD kdE kdF) ++ (outW od 0 cy o)))))) (zQ1 D ((rooW ad 0 cy fm fr) ++ ((airW ad 1 cy h su st sh fl cS cH dD dE dF) ++ ((airW ad 8 cy kh ksu kst ksh kfl kcS kcH kdD kdE kdF) ++ (outW od 0 cy o)))) (fun (r : Int32) (u : Int × Int × (Nat → Int)) => (u.1 = 0 ∧ r = iI 0 ∧ ((0 ≤ v ∧ v ≤ 100)) ∧ u.2.1 = su) ∨ (u.1 = 1 ∧ r = iI 1 ∧ (¬ (0 ≤ v ∧ v ≤ 100)) ∧ u.2.1 = o)) (fun (u : Int × Int × (Nat → Int)) => ((rooW ad 0 cy fm fr) ++ ((airW ad 1 cy h (if u.1 = 0 then v else su) st sh fl cS cH (if u.1 = 0 then (dnD h fl) else dD) (if u.1 = 0 then (dnE h cS) else dE) (if u.1 = 0 then (dnF h v st) else dF)) ++ ((airW ad 8 cy kh (if u.1 = 0 then v else ksu) kst ksh kfl kcS kcH (if u.1 = 0 then (dnD kh kfl) else kdD) (if u.1 = 0 then (dnE kh kcS) else kdE) (if u.1 = 0 then (dnF kh v kst) else kdF)) ++ (outW od 0 cy u.2.1)))))) (fun _ _ _ => False) 1 6 (zIn ((rooW ad 0 cy fm fr) ++ ((airW ad 1 cy h su st sh fl cS cH dD dE dF) ++ ((airW ad 8 cy kh ksu kst ksh kfl kcS kcH kdD kdE kdF) ++ (outW od 0 cy o))))) := by
  refine z_ofH (by decide) (Nat.le_of_ble_eq_true rfl) ?_
  intro p e s m args below meth c M hr hlk ht hargs hP0 hE hN ls hl
  have hP : va_P D vwCl ((rooW ad 0 cy fm fr) ++ ((airW ad 1 cy h su st sh fl cS cH dD dE dF) ++ ((airW ad 8 cy kh ksu kst ksh kfl kcS kcH kdD kdE kdF) ++ (outW od 0 cy o)))) s.heap := hP0.1
  have hD : va_D (zIn ((rooW ad 0 cy fm fr) ++ ((airW ad 1 cy h su st sh fl cS cH dD dE dF) ++ ((airW ad 8 cy kh ksu kst ksh kfl kcS kcH kdD kdE kdF) ++ (outW od 0 cy o))))) ((rooW ad 0 cy fm fr) ++ ((airW ad 1 cy h su st sh fl cS cH dD dE dF) ++ ((airW ad 8 cy kh ksu kst ksh kfl kcS kcH kdD kdE kdF) ++ (outW od 0 cy o)))) := hP0.self
  have hAz := hP0.A
  have hS : va_S (zIn ((rooW ad 0 cy fm fr) ++ ((airW ad 1 cy h su st sh fl cS cH dD dE dF) ++ ((airW ad 8 cy kh ksu kst ksh kfl kcS kcH kdD kdE kdF) ++ (outW od 0 cy o))))) s.heap s.heap [] := va_S.rf
  have hl : lv_has ls 4 [(0, .ref (ad 0)), (1, .int (iI v)), (2, .ref (od 0))] := hl
  refine lv_aload_n M.1 M.2.1 dL_sun_0 rfl (lv_at hl 2 rfl) ?_
  refine zi_push M dL_sun_1 ?_
  refine lv_aload_n M.1 M.2.1 dL_sun_2 rfl (lv_at hl 0 rfl) ?_
  refine lv_iload_n M.1 M.2.1 dL_sun_3 rfl (lv_at hl 1 rfl) ?_
  refine z_tW (zx_runV (As := [.int (iI v)]) (rest := [.int (iI 0), .ref (od 0)]) M (c_X6_sun l hst D cy z0 ad fm fr h su st sh fl kh ksu kst ksh kfl cS cH dD dE dF kcS kcH kdD kdE kdF v r_v h_h h_su h_st h_sh h_fl h_cS h_cH h_kh h_ksu h_kst h_ksh h_kfl h_kcS h_kcH) hE hS hAz (z_cut hP hD hAz [0, 1, 2, 3, 4, 5, 6, 7, 8, 9, 10, 11, 12, 13, 14] rfl (by decide +kernel)) (zRc.of (ci := 6) (q0 := 0) hE hP rfl rfl) zk_cd_X6_sun zk_in_RX6 zk_im_X6_sun zk_se_X6_sun zk_ml_RL_7 rfl rfl zd_X6_sun ⟨by decide, by decide⟩ rfl hl.1 rfl (Nat.le_of_ble_eq_true rfl) dL_sun_4 ⟨by decide, by decide⟩) hP hD hS [0, 1, 2, 3, 4, 5, 6, 7, 8, 9, 10, 11, 12, 13, 14] rfl (fun _ => rfl) (fun r1 u1 H locs hp hP hD hS => ?_) (fun Ex qx ce H locs hC hP hS hce hcv hcl => ?_)
  ·
    have hP : va_P D vwCl ((rooW ad 0 cy fm fr) ++ ((airW ad 1 cy h v st sh fl cS cH (dnD h fl) (dnE h cS) (dnF h v st)) ++ ((airW ad 8 cy kh v kst ksh kfl kcS kcH (dnD kh kfl) (dnE kh kcS) (dnF kh v kst)) ++ (outW od 0 cy o)))) H := hP
    have hD : va_D (zIn ((rooW ad 0 cy fm fr) ++ ((airW ad 1 cy h su st sh fl cS cH dD dE dF) ++ ((airW ad 8 cy kh ksu kst ksh kfl kcS kcH kdD kdE kdF) ++ (outW od 0 cy o))))) ((rooW ad 0 cy fm fr) ++ ((airW ad 1 cy h v st sh fl cS cH (dnD h fl) (dnE h cS) (dnF h v st)) ++ ((airW ad 8 cy kh v kst ksh kfl kcS kcH (dnD kh kfl) (dnE kh kcS) (dnF kh v kst)) ++ (outW od 0 cy o)))) := hD
    obtain ⟨hN1, rfl⟩ := hp
    refine zi_i2l M dL_sun_7 ?_
    refine zi_last (ws' := ((rooW ad 0 cy fm fr) ++ ((airW ad 1 cy h v st sh fl cS cH (dnD h fl) (dnE h cS) (dnF h v st)) ++ ((airW ad 8 cy kh v kst ksh kfl kcS kcH (dnD kh kfl) (dnE kh kcS) (dnF kh v kst)) ++ (outW od 0 cy su))))) M hE hP hD hS 15 rfl rfl dL_sun_8 (fun H locs hP hD hS => ?_)
    refine zi_goto (tgt := 15) M dL_sun_9 (by decide) ?_
    refine zi_push M dL_sun_15 ?_
    have hP : va_P D vwCl ((rooW ad 0 cy fm fr) ++ ((airW ad 1 cy h (if ((0 : Int), (su : Int), (fun (_ : Nat) => (0 : Int))).1 = 0 then v else su) st sh fl cS cH (if ((0 : Int), (su : Int), (fun (_ : Nat) => (0 : Int))).1 = 0 then (dnD h fl) else dD) (if ((0 : Int), (su : Int), (fun (_ : Nat) => (0 : Int))).1 = 0 then (dnE h cS) else dE) (if ((0 : Int), (su : Int), (fun (_ : Nat) => (0 : Int))).1 = 0 then (dnF h v st) else dF)) ++ ((airW ad 8 cy kh (if ((0 : Int), (su : Int), (fun (_ : Nat) => (0 : Int))).1 = 0 then v else ksu) kst ksh kfl kcS kcH (if ((0 : Int), (su : Int), (fun (_ : Nat) => (0 : Int))).1 = 0 then (dnD kh kfl) else kdD) (if ((0 : Int), (su : Int), (fun (_ : Nat) => (0 : Int))).1 = 0 then (dnE kh kcS) else kdE) (if ((0 : Int), (su : Int), (fun (_ : Nat) => (0 : Int))).1 = 0 then (dnF kh v kst) else kdF)) ++ (outW od 0 cy ((0 : Int), (su : Int), (fun (_ : Nat) => (0 : Int))).2.1)))) H := hP
    exact vx_ret (zw_i M hr hlk ((0 : Int), (su : Int), (fun (_ : Nat) => (0 : Int))) hP hS (Or.inl ⟨rfl, rfl, hN1, rfl⟩) (by decide) (by decide) dL_sun_16)
  ·
    obtain ⟨rfl, hC1⟩ := hC
    refine vx_catch (own := RL) (name := eIA) (E := eIA) M.2.2.2.1 [] ⟨0, 9, 12, 13⟩ [] (ht.trans rfl) (fun z hz => nomatch hz) (by decide) (by decide) (M.w zk_cl_RL_13) (M.w zk_ca_297) hce hcv hcl ?_
    refine lv_astore_n (lv' := [(3, .ref qx), (0, .ref (ad 0)), (1, .int (iI v)), (2, .ref (od 0))]) M.1 M.2.1 dL_sun_12 rfl hl (by decide) rfl (fun ls hl => ?_)
    refine zi_push M dL_sun_13 ?_
    have hP : va_P D vwCl ((rooW ad 0 cy fm fr) ++ ((airW ad 1 cy h (if ((1 : Int), (o : Int), (fun (_ : Nat) => (0 : Int))).1 = 0 then v else su) st sh fl cS cH (if ((1 : Int), (o : Int), (fun (_ : Nat) => (0 : Int))).1 = 0 then (dnD h fl) else dD) (if ((1 : Int), (o : Int), (fun (_ : Nat) => (0 : Int))).1 = 0 then (dnE h cS) else dE) (if ((1 : Int), (o : Int), (fun (_ : Nat) => (0 : Int))).1 = 0 then (dnF h v st) else dF)) ++ ((airW ad 8 cy kh (if ((1 : Int), (o : Int), (fun (_ : Nat) => (0 : Int))).1 = 0 then v else ksu) kst ksh kfl kcS kcH (if ((1 : Int), (o : Int), (fun (_ : Nat) => (0 : Int))).1 = 0 then (dnD kh kfl) else kdD) (if ((1 : Int), (o : Int), (fun (_ : Nat) => (0 : Int))).1 = 0 then (dnE kh kcS) else kdE) (if ((1 : Int), (o : Int), (fun (_ : Nat) => (0 : Int))).1 = 0 then (dnF kh v kst) else kdF)) ++ (outW od 0 cy ((1 : Int), (o : Int), (fun (_ : Nat) => (0 : Int))).2.1)))) H := hP
    exact vx_ret (zw_i M hr hlk ((1 : Int), (o : Int), (fun (_ : Nat) => (0 : Int))) hP hS (Or.inr (⟨rfl, rfl, hC1, rfl⟩)) (by decide) (by decide) dL_sun_14)

set_option maxRecDepth 100000 in
set_option maxHeartbeats 8000000 in
theorem c_L_storm (l : Launch) (hst : l.stackTraces = false) (D : va_G) (cy : Nat → ClassId) (z0 : Nat) (ad : Nat → Nat) (fm fr h su st sh fl : Int) (cS cH dD dE dF : Int → Int) (v : Int) (k : Int) (r_v : r32 v) (r_k : r32 k) (h_h : 0 ≤ h ∧ h ≤ 5000) (h_su : 0 ≤ su ∧ su ≤ 100) (h_st : 0 ≤ st ∧ st ≤ 60) (h_sh : 0 ≤ sh ∧ sh ≤ 72) (h_fl : 0 ≤ fl ∧ fl ≤ 80) (h_cS : zrg 48 0 100 cS) (h_cH : zrg 48 0 24 cH) : vx_Met l yL_storm [.codeWith yL_storm cL_storm 4 (some .int) [(0, 6, 9, 13)]] (zRm 8 2 12 134) (zPcN [.ref (ad 0), .int (iI v), .int (iI k)] D cy z0 (zWl D z0 ((rooW ad 0 cy fm fr) ++ (airW ad 1 cy h su st sh fl cS cH dD dE dF)))) (zQ1 D ((rooW ad 0 cy fm fr) ++ (airW ad 1 cy h su st sh fl cS cH dD dE dF)) (fun (r : Int32) (u : Int × Int × (Nat → Int)) => (u.1 = 0 ∧ r = iI 0 ∧ (((1 ≤ v ∧ v ≤ 60) ∧ (1 ≤ k ∧ k ≤ 72)))) ∨ (u.1 = 1 ∧ r = iI 1 ∧ (¬ ((1 ≤ v ∧ v ≤ 60) ∧ (1 ≤ k ∧ k ≤ 72))))) (fun (u : Int × Int × (Nat → Int)) => ((rooW ad 0 cy fm fr) ++ (airW ad 1 cy h su (if u.1 = 0 then v else st) (if u.1 = 0 then k else sh) fl cS cH (if u.1 = 0 then (dnD h fl) else dD) (if u.1 = 0 then (dnE h cS) else dE) (if u.1 = 0 then (dnF h su v) else dF))))) (fun _ _ _ => False) 2 12 (zIn ((rooW ad 0 cy fm fr) ++ (airW ad 1 cy h su st sh fl cS cH dD dE dF))) := by
  refine z_ofH (by decide) (Nat.le_of_ble_eq_true rfl) ?_
  intro p e s m args below meth c M hr hlk ht hargs hP0 hE hN ls hl
  have hP : va_P D vwCl ((rooW ad 0 cy fm fr) ++ (airW ad 1 cy h su st sh fl cS cH dD dE dF)) s.heap := hP0.1
  have hD : va_D (zIn ((rooW ad 0 cy fm fr) ++ (airW ad 1 cy h su st sh fl cS cH dD dE dF))) ((rooW ad 0 cy fm fr) ++ (airW ad 1 cy h su st sh fl cS cH dD dE dF)) := hP0.self
  have hAz := hP0.A
  have hS : va_S (zIn ((rooW ad 0 cy fm fr) ++ (airW ad 1 cy h su st sh fl cS cH dD dE dF))) s.heap s.heap [] := va_S.rf
  have hl : lv_has ls 4 [(0, .ref (ad 0)), (1, .int (iI v)), (2, .int (iI k))] := hl
  refine lv_aload_n M.1 M.2.1 dL_storm_0 rfl (lv_at hl 0 rfl) ?_
  refine lv_iload_n M.1 M.2.1 dL_storm_1 rfl (lv_at hl 1 rfl) ?_
  refine lv_iload_n M.1 M.2.1 dL_storm_2 rfl (lv_at hl 2 rfl) ?_
  refine z_tV (zx_runV (As := [.int (iI v), .int (iI k)]) (rest := []) M (c_X6_storm l hst D cy z0 ad fm fr h su st sh fl cS cH dD dE dF v k r_v r_k h_h h_su h_st h_sh h_fl h_cS h_cH) hE hS hAz (z_cut hP hD hAz [0, 1, 2, 3, 4, 5, 6, 7] rfl (by decide +kernel)) (zRc.of (ci := 6) (q0 := 0) hE hP rfl rfl) zk_cd_X6_storm zk_in_RX6 zk_im_X6_storm zk_se_X6_storm zk_ml_RL_15 rfl rfl zd_X6_storm ⟨by decide, by decide⟩ rfl hl.1 rfl (Nat.le_of_ble_eq_true rfl) dL_storm_3 ⟨by decide, by decide⟩) hP hD hS [0, 1, 2, 3, 4, 5, 6, 7] rfl (fun _ => rfl) (fun u1 H locs hp hP hD hS => ?_) (fun Ex qx ce H locs hC hP hS hce hcv hcl => ?_)
  ·
    have hP : va_P D vwCl ((rooW ad 0 cy fm fr) ++ (airW ad 1 cy h su v k fl cS cH (dnD h fl) (dnE h cS) (dnF h su v))) H := hP
    have hD : va_D (zIn ((rooW ad 0 cy fm fr) ++ (airW ad 1 cy h su st sh fl cS cH dD dE dF))) ((rooW ad 0 cy fm fr) ++ (airW ad 1 cy h su v k fl cS cH (dnD h fl) (dnE h cS) (dnF h su v))) := hD
    have hp : ((1 ≤ v ∧ v ≤ 60) ∧ (1 ≤ k ∧ k ≤ 72)) := hp
    have hN1 := hp
    refine zi_goto (tgt := 12) M dL_storm_6 (by decide) ?_
    refine zi_push M dL_storm_12 ?_
    have hP : va_P D vwCl ((rooW ad 0 cy fm fr) ++ (airW ad 1 cy h su (if ((0 : Int), (0 : Int), (fun (_ : Nat) => (0 : Int))).1 = 0 then v else st) (if ((0 : Int), (0 : Int), (fun (_ : Nat) => (0 : Int))).1 = 0 then k else sh) fl cS cH (if ((0 : Int), (0 : Int), (fun (_ : Nat) => (0 : Int))).1 = 0 then (dnD h fl) else dD) (if ((0 : Int), (0 : Int), (fun (_ : Nat) => (0 : Int))).1 = 0 then (dnE h cS) else dE) (if ((0 : Int), (0 : Int), (fun (_ : Nat) => (0 : Int))).1 = 0 then (dnF h su v) else dF))) H := hP
    exact vx_ret (zw_i M hr hlk ((0 : Int), (0 : Int), (fun (_ : Nat) => (0 : Int))) hP hS (Or.inl ⟨rfl, rfl, hN1⟩) (by decide) (by decide) dL_storm_13)
  ·
    obtain ⟨rfl, hC1⟩ := hC
    refine vx_catch (own := RL) (name := eIA) (E := eIA) M.2.2.2.1 [] ⟨0, 6, 9, 13⟩ [] (ht.trans rfl) (fun z hz => nomatch hz) (by decide) (by decide) (M.w zk_cl_RL_13) (M.w zk_ca_297) hce hcv hcl ?_
    refine lv_astore_n (lv' := [(3, .ref qx), (0, .ref (ad 0)), (1, .int (iI v)), (2, .int (iI k))]) M.1 M.2.1 dL_storm_9 rfl hl (by decide) rfl (fun ls hl => ?_)
    refine zi_push M dL_storm_10 ?_
    have hP : va_P D vwCl ((rooW ad 0 cy fm fr) ++ (airW ad 1 cy h su (if ((1 : Int), (0 : Int), (fun (_ : Nat) => (0 : Int))).1 = 0 then v else st) (if ((1 : Int), (0 : Int), (fun (_ : Nat) => (0 : Int))).1 = 0 then k else sh) fl cS cH (if ((1 : Int), (0 : Int), (fun (_ : Nat) => (0 : Int))).1 = 0 then (dnD h fl) else dD) (if ((1 : Int), (0 : Int), (fun (_ : Nat) => (0 : Int))).1 = 0 then (dnE h cS) else dE) (if ((1 : Int), (0 : Int), (fun (_ : Nat) => (0 : Int))).1 = 0 then (dnF h su v) else dF))) H := hP
    exact vx_ret (zw_i M hr hlk ((1 : Int), (0 : Int), (fun (_ : Nat) => (0 : Int))) hP hS (Or.inr (⟨rfl, rfl, hC1⟩)) (by decide) (by decide) dL_storm_11)

set_option maxRecDepth 100000 in
set_option maxHeartbeats 8000000 in
theorem c_L_flare (l : Launch) (hst : l.stackTraces = false) (D : va_G) (cy : Nat → ClassId) (z0 : Nat) (ad od : Nat → Nat) (fm fr h su st sh fl o : Int) (cS cH dD dE dF : Int → Int) (v : Int) (r_v : r32 v) (h_h : 0 ≤ h ∧ h ≤ 5000) (h_su : 0 ≤ su ∧ su ≤ 100) (h_st : 0 ≤ st ∧ st ≤ 60) (h_sh : 0 ≤ sh ∧ sh ≤ 72) (h_fl : 0 ≤ fl ∧ fl ≤ 80) (h_cS : zrg 48 0 100 cS) (h_cH : zrg 48 0 24 cH) : vx_Met l yL_flare [.codeWith yL_flare cL_flare 4 (some .int) [(0, 9, 12, 13)]] (zRm 8 1 6 134) (zPcN [.ref (ad 0), .int (iI v), .ref (od 0)] D cy z0 (zWl D z0 ((rooW ad 0 cy fm fr) ++ ((airW ad 1 cy h su st sh fl cS cH dD dE dF) ++ (outW od 0 cy o))))) (zQ1 D ((rooW ad 0 cy fm fr) ++ ((airW ad 1 cy h su st sh fl cS cH dD dE dF) ++ (outW od 0 cy o))) (fun (r : Int32) (u : Int × Int × (Nat → Int)) => (u.1 = 0 ∧ r = iI 0 ∧ ((1 ≤ v ∧ v ≤ 80)) ∧ u.2.1 = fl) ∨ (u.1 = 1 ∧ r = iI 1 ∧ (¬ (1 ≤ v ∧ v ≤ 80)) ∧ u.2.1 = o)) (fun (u : Int × Int × (Nat → Int)) => ((rooW ad 0 cy fm fr) ++ ((airW ad 1 cy h su st sh (if u.1 = 0 then v else fl) cS cH (if u.1 = 0 then (dnD h v) else dD) (if u.1 = 0 then (dnE h cS) else dE) (if u.1 = 0 then (dnF h su st) else dF)) ++ (outW od 0 cy u.2.1))))) (fun _ _ _ => False) 1 6 (zIn ((rooW ad 0 cy fm fr) ++ ((airW ad 1 cy h su st sh fl cS cH dD dE dF) ++ (outW od 0 cy o)))) := by
  refine z_ofH (by decide) (Nat.le_of_ble_eq_true rfl) ?_
  intro p e s m args below meth c M hr hlk ht hargs hP0 hE hN ls hl
  have hP : va_P D vwCl ((rooW ad 0 cy fm fr) ++ ((airW ad 1 cy h su st sh fl cS cH dD dE dF) ++ (outW od 0 cy o))) s.heap := hP0.1
  have hD : va_D (zIn ((rooW ad 0 cy fm fr) ++ ((airW ad 1 cy h su st sh fl cS cH dD dE dF) ++ (outW od 0 cy o)))) ((rooW ad 0 cy fm fr) ++ ((airW ad 1 cy h su st sh fl cS cH dD dE dF) ++ (outW od 0 cy o))) := hP0.self
  have hAz := hP0.A
  have hS : va_S (zIn ((rooW ad 0 cy fm fr) ++ ((airW ad 1 cy h su st sh fl cS cH dD dE dF) ++ (outW od 0 cy o)))) s.heap s.heap [] := va_S.rf
  have hl : lv_has ls 4 [(0, .ref (ad 0)), (1, .int (iI v)), (2, .ref (od 0))] := hl
  refine lv_aload_n M.1 M.2.1 dL_flare_0 rfl (lv_at hl 2 rfl) ?_
  refine zi_push M dL_flare_1 ?_
  refine lv_aload_n M.1 M.2.1 dL_flare_2 rfl (lv_at hl 0 rfl) ?_
  refine lv_iload_n M.1 M.2.1 dL_flare_3 rfl (lv_at hl 1 rfl) ?_
  refine z_tW (zx_runV (As := [.int (iI v)]) (rest := [.int (iI 0), .ref (od 0)]) M (c_X6_flare l hst D cy z0 ad fm fr h su st sh fl cS cH dD dE dF v r_v h_h h_su h_st h_sh h_fl h_cS h_cH) hE hS hAz (z_cut hP hD hAz [0, 1, 2, 3, 4, 5, 6, 7] rfl (by decide +kernel)) (zRc.of (ci := 6) (q0 := 0) hE hP rfl rfl) zk_cd_X6_flare zk_in_RX6 zk_im_X6_flare zk_se_X6_flare zk_ml_RL_19 rfl rfl zd_X6_flare ⟨by decide, by decide⟩ rfl hl.1 rfl (Nat.le_of_ble_eq_true rfl) dL_flare_4 ⟨by decide, by decide⟩) hP hD hS [0, 1, 2, 3, 4, 5, 6, 7] rfl (fun _ => rfl) (fun r1 u1 H locs hp hP hD hS => ?_) (fun Ex qx ce H locs hC hP hS hce hcv hcl => ?_)
  ·
    have hP : va_P D vwCl ((rooW ad 0 cy fm fr) ++ ((airW ad 1 cy h su st sh v cS cH (dnD h v) (dnE h cS) (dnF h su st)) ++ (outW od 0 cy o))) H := hP
    have hD : va_D (zIn ((rooW ad 0 cy fm fr) ++ ((airW ad 1 cy h su st sh fl cS cH dD dE dF) ++ (outW od 0 cy o)))) ((rooW ad 0 cy fm fr) ++ ((airW ad 1 cy h su st sh v cS cH (dnD h v) (dnE h cS) (dnF h su st)) ++ (outW od 0 cy o))) := hD
    obtain ⟨hN1, rfl⟩ := hp
    refine zi_i2l M dL_flare_7 ?_
    refine zi_last (ws' := ((rooW ad 0 cy fm fr) ++ ((airW ad 1 cy h su st sh v cS cH (dnD h v) (dnE h cS) (dnF h su st)) ++ (outW od 0 cy fl)))) M hE hP hD hS 8 rfl rfl dL_flare_8 (fun H locs hP hD hS => ?_)
    refine zi_goto (tgt := 15) M dL_flare_9 (by decide) ?_
    refine zi_push M dL_flare_15 ?_
    have hP : va_P D vwCl ((rooW ad 0 cy fm fr) ++ ((airW ad 1 cy h su st sh (if ((0 : Int), (fl : Int), (fun (_ : Nat) => (0 : Int))).1 = 0 then v else fl) cS cH (if ((0 : Int), (fl : Int), (fun (_ : Nat) => (0 : Int))).1 = 0 then (dnD h v) else dD) (if ((0 : Int), (fl : Int), (fun (_ : Nat) => (0 : Int))).1 = 0 then (dnE h cS) else dE) (if ((0 : Int), (fl : Int), (fun (_ : Nat) => (0 : Int))).1 = 0 then (dnF h su st) else dF)) ++ (outW od 0 cy ((0 : Int), (fl : Int), (fun (_ : Nat) => (0 : Int))).2.1))) H := hP
    exact vx_ret (zw_i M hr hlk ((0 : Int), (fl : Int), (fun (_ : Nat) => (0 : Int))) hP hS (Or.inl ⟨rfl, rfl, hN1, rfl⟩) (by decide) (by decide) dL_flare_16)
  ·
    obtain ⟨rfl, hC1⟩ := hC
    refine vx_catch (own := RL) (name := eIA) (E := eIA) M.2.2.2.1 [] ⟨0, 9, 12, 13⟩ [] (ht.trans rfl) (fun z hz => nomatch hz) (by decide) (by decide) (M.w zk_cl_RL_13) (M.w zk_ca_297) hce hcv hcl ?_
    refine lv_astore_n (lv' := [(3, .ref qx), (0, .ref (ad 0)), (1, .int (iI v)), (2, .ref (od 0))]) M.1 M.2.1 dL_flare_12 rfl hl (by decide) rfl (fun ls hl => ?_)
    refine zi_push M dL_flare_13 ?_
    have hP : va_P D vwCl ((rooW ad 0 cy fm fr) ++ ((airW ad 1 cy h su st sh (if ((1 : Int), (o : Int), (fun (_ : Nat) => (0 : Int))).1 = 0 then v else fl) cS cH (if ((1 : Int), (o : Int), (fun (_ : Nat) => (0 : Int))).1 = 0 then (dnD h v) else dD) (if ((1 : Int), (o : Int), (fun (_ : Nat) => (0 : Int))).1 = 0 then (dnE h cS) else dE) (if ((1 : Int), (o : Int), (fun (_ : Nat) => (0 : Int))).1 = 0 then (dnF h su st) else dF)) ++ (outW od 0 cy ((1 : Int), (o : Int), (fun (_ : Nat) => (0 : Int))).2.1))) H := hP
    exact vx_ret (zw_i M hr hlk ((1 : Int), (o : Int), (fun (_ : Nat) => (0 : Int))) hP hS (Or.inr (⟨rfl, rfl, hC1, rfl⟩)) (by decide) (by decide) dL_flare_14)

set_option maxRecDepth 100000 in
set_option maxHeartbeats 8000000 in
theorem c_L_cloud (l : Launch) (hst : l.stackTraces = false) (D : va_G) (cy : Nat → ClassId) (z0 : Nat) (ad : Nat → Nat) (fm fr h su st sh fl : Int) (cS cH dD dE dF : Int → Int) (q : Int) (v : Int) (k : Int) (r_q : r32 q) (r_v : r32 v) (r_k : r32 k) (h_h : 0 ≤ h ∧ h ≤ 5000) (h_su : 0 ≤ su ∧ su ≤ 100) (h_st : 0 ≤ st ∧ st ≤ 60) (h_sh : 0 ≤ sh ∧ sh ≤ 72) (h_fl : 0 ≤ fl ∧ fl ≤ 80) (h_cS : zrg 48 0 100 cS) (h_cH : zrg 48 0 24 cH) : vx_Met l yL_cloud [.codeWith yL_cloud cL_cloud 5 (some .int) [(0, 7, 10, 26), (0, 7, 14, 13)]] (zRm 8 3 18 135) (zPcN [.ref (ad 0), .int (iI q), .int (iI v), .int (iI k)] D cy z0 (zWl D z0 ((rooW ad 0 cy fm fr) ++ (airW ad 1 cy h su st sh fl cS cH dD dE dF)))) (zQ1 D ((rooW ad 0 cy fm fr) ++ (airW ad 1 cy h su st sh fl cS cH dD dE dF)) (fun (r : Int32) (u : Int × Int × (Nat → Int)) => (u.1 = 0 ∧ r = iI 0 ∧ ((0 ≤ q ∧ q < 48) ∧ ((1 ≤ v ∧ v ≤ 100) ∧ (1 ≤ k ∧ k ≤ 24)))) ∨ (u.1 = 1 ∧ r = iI 1 ∧ (¬ (0 ≤ q ∧ q < 48))) ∨ (u.1 = 2 ∧ r = iI 2 ∧ ((0 ≤ q ∧ q < 48) ∧ ¬ ((1 ≤ v ∧ v ≤ 100) ∧ (1 ≤ k ∧ k ≤ 24))))) (fun (u : Int × Int × (Nat → Int)) => ((rooW ad 0 cy fm fr) ++ (airW ad 1 cy h su st sh fl (if u.1 = 0 then (zu cS q v) else cS) (if u.1 = 0 then (zu cH q k) else cH) (if u.1 = 0 then (dnD h fl) else dD) (if u.1 = 0 then (dnE h (zu cS q v)) else dE) (if u.1 = 0 then (dnF h su st) else dF))))) (fun _ _ _ => False) 3 18 (zIn ((rooW ad 0 cy fm fr) ++ (airW ad 1 cy h su st sh fl cS cH dD dE dF))) := by
  refine z_ofH (by decide) (Nat.le_of_ble_eq_true rfl) ?_
  intro p e s m args below meth c M hr hlk ht hargs hP0 hE hN ls hl
  have hP : va_P D vwCl ((rooW ad 0 cy fm fr) ++ (airW ad 1 cy h su st sh fl cS cH dD dE dF)) s.heap := hP0.1
  have hD : va_D (zIn ((rooW ad 0 cy fm fr) ++ (airW ad 1 cy h su st sh fl cS cH dD dE dF))) ((rooW ad 0 cy fm fr) ++ (airW ad 1 cy h su st sh fl cS cH dD dE dF)) := hP0.self
  have hAz := hP0.A
  have hS : va_S (zIn ((rooW ad 0 cy fm fr) ++ (airW ad 1 cy h su st sh fl cS cH dD dE dF))) s.heap s.heap [] := va_S.rf
  have hl : lv_has ls 5 [(0, .ref (ad 0)), (1, .int (iI q)), (2, .int (iI v)), (3, .int (iI k))] := hl
  refine lv_aload_n M.1 M.2.1 dL_cloud_0 rfl (lv_at hl 0 rfl) ?_
  refine lv_iload_n M.1 M.2.1 dL_cloud_1 rfl (lv_at hl 1 rfl) ?_
  refine lv_iload_n M.1 M.2.1 dL_cloud_2 rfl (lv_at hl 2 rfl) ?_
  refine lv_iload_n M.1 M.2.1 dL_cloud_3 rfl (lv_at hl 3 rfl) ?_
  refine z_tV (zx_runV (As := [.int (iI q), .int (iI v), .int (iI k)]) (rest := []) M (c_X6_cloud l hst D cy z0 ad fm fr h su st sh fl cS cH dD dE dF q v k r_q r_v r_k h_h h_su h_st h_sh h_fl h_cS h_cH) hE hS hAz (z_cut hP hD hAz [0, 1, 2, 3, 4, 5, 6, 7] rfl (by decide +kernel)) (zRc.of (ci := 6) (q0 := 0) hE hP rfl rfl) zk_cd_X6_cloud zk_in_RX6 zk_im_X6_cloud zk_se_X6_cloud zk_ml_RL_22 rfl rfl zd_X6_cloud ⟨by decide, by decide⟩ rfl hl.1 rfl (Nat.le_of_ble_eq_true rfl) dL_cloud_4 ⟨by decide, by decide⟩) hP hD hS [0, 1, 2, 3, 4, 5, 6, 7] rfl (fun _ => rfl) (fun u1 H locs hp hP hD hS => ?_) (fun Ex qx ce H locs hC hP hS hce hcv hcl => ?_)
  ·
    have hP : va_P D vwCl ((rooW ad 0 cy fm fr) ++ (airW ad 1 cy h su st sh fl (zu cS q v) (zu cH q k) (dnD h fl) (dnE h (zu cS q v)) (dnF h su st))) H := hP
    have hD : va_D (zIn ((rooW ad 0 cy fm fr) ++ (airW ad 1 cy h su st sh fl cS cH dD dE dF))) ((rooW ad 0 cy fm fr) ++ (airW ad 1 cy h su st sh fl (zu cS q v) (zu cH q k) (dnD h fl) (dnE h (zu cS q v)) (dnF h su st))) := hD
    have hp : (0 ≤ q ∧ q < 48) ∧ ((1 ≤ v ∧ v ≤ 100) ∧ (1 ≤ k ∧ k ≤ 24)) := hp
    have hN1 := hp
    refine zi_goto (tgt := 18) M dL_cloud_7 (by decide) ?_
    refine zi_push M dL_cloud_18 ?_
    have hP : va_P D vwCl ((rooW ad 0 cy fm fr) ++ (airW ad 1 cy h su st sh fl (if ((0 : Int), (0 : Int), (fun (_ : Nat) => (0 : Int))).1 = 0 then (zu cS q v) else cS) (if ((0 : Int), (0 : Int), (fun (_ : Nat) => (0 : Int))).1 = 0 then (zu cH q k) else cH) (if ((0 : Int), (0 : Int), (fun (_ : Nat) => (0 : Int))).1 = 0 then (dnD h fl) else dD) (if ((0 : Int), (0 : Int), (fun (_ : Nat) => (0 : Int))).1 = 0 then (dnE h (zu cS q v)) else dE) (if ((0 : Int), (0 : Int), (fun (_ : Nat) => (0 : Int))).1 = 0 then (dnF h su st) else dF))) H := hP
    exact vx_ret (zw_i M hr hlk ((0 : Int), (0 : Int), (fun (_ : Nat) => (0 : Int))) hP hS (Or.inl ⟨rfl, rfl, hN1⟩) (by decide) (by decide) dL_cloud_19)
  ·
    rcases hC with ⟨rfl, hC1⟩ | ⟨rfl, hC1⟩
    ·
      refine vx_catch (own := RL) (name := eIB) (E := eIB) M.2.2.2.1 [] ⟨0, 7, 10, 26⟩ [⟨0, 7, 14, 13⟩] (ht.trans rfl) (fun z hz => nomatch hz) (by decide) (by decide) (M.w zk_cl_RL_26) (M.w zk_ca_402) hce hcv hcl ?_
      refine lv_astore (lv' := [(4, .ref qx), (0, .ref (ad 0)), (1, .int (iI q)), (2, .int (iI v)), (3, .int (iI k))]) M.1 M.2.1 dL_cloud_10 hl (by decide) rfl (fun ls hl => ?_)
      refine zi_push M dL_cloud_12 ?_
      have hP : va_P D vwCl ((rooW ad 0 cy fm fr) ++ (airW ad 1 cy h su st sh fl (if ((1 : Int), (0 : Int), (fun (_ : Nat) => (0 : Int))).1 = 0 then (zu cS q v) else cS) (if ((1 : Int), (0 : Int), (fun (_ : Nat) => (0 : Int))).1 = 0 then (zu cH q k) else cH) (if ((1 : Int), (0 : Int), (fun (_ : Nat) => (0 : Int))).1 = 0 then (dnD h fl) else dD) (if ((1 : Int), (0 : Int), (fun (_ : Nat) => (0 : Int))).1 = 0 then (dnE h (zu cS q v)) else dE) (if ((1 : Int), (0 : Int), (fun (_ : Nat) => (0 : Int))).1 = 0 then (dnF h su st) else dF))) H := hP
      exact vx_ret (zw_i M hr hlk ((1 : Int), (0 : Int), (fun (_ : Nat) => (0 : Int))) hP hS (Or.inr (Or.inl ⟨rfl, rfl, hC1⟩)) (by decide) (by decide) dL_cloud_13)
    ·
      refine vx_catch (own := RL) (name := eIA) (E := eIA) M.2.2.2.1 [⟨0, 7, 10, 26⟩] ⟨0, 7, 14, 13⟩ [] (ht.trans rfl) (fun z hz => by rw [List.mem_singleton.mp hz]; exact Or.inr ⟨by decide, _, M.w zk_cl_RL_26, hN.1⟩) (by decide) (by decide) (M.w zk_cl_RL_13) (M.w zk_ca_297) hce hcv hcl ?_
      refine lv_astore (lv' := [(4, .ref qx), (0, .ref (ad 0)), (1, .int (iI q)), (2, .int (iI v)), (3, .int (iI k))]) M.1 M.2.1 dL_cloud_14 hl (by decide) rfl (fun ls hl => ?_)
      refine zi_push M dL_cloud_16 ?_
      have hP : va_P D vwCl ((rooW ad 0 cy fm fr) ++ (airW ad 1 cy h su st sh fl (if ((2 : Int), (0 : Int), (fun (_ : Nat) => (0 : Int))).1 = 0 then (zu cS q v) else cS) (if ((2 : Int), (0 : Int), (fun (_ : Nat) => (0 : Int))).1 = 0 then (zu cH q k) else cH) (if ((2 : Int), (0 : Int), (fun (_ : Nat) => (0 : Int))).1 = 0 then (dnD h fl) else dD) (if ((2 : Int), (0 : Int), (fun (_ : Nat) => (0 : Int))).1 = 0 then (dnE h (zu cS q v)) else dE) (if ((2 : Int), (0 : Int), (fun (_ : Nat) => (0 : Int))).1 = 0 then (dnF h su st) else dF))) H := hP
      exact vx_ret (zw_i M hr hlk ((2 : Int), (0 : Int), (fun (_ : Nat) => (0 : Int))) hP hS (Or.inr (Or.inr (⟨rfl, rfl, hC1⟩))) (by decide) (by decide) dL_cloud_17)

set_option maxRecDepth 100000 in
set_option maxHeartbeats 8000000 in
theorem c_L_sea (l : Launch) (hst : l.stackTraces = false) (D : va_G) (cy : Nat → ClassId) (z0 : Nat) (ad od : Nat → Nat) (fm fr o : Int) (sea noi : Int → Int) (q : Int) (z : Int) (r_q : r32 q) (hz : 0 ≤ z ∧ z ≤ 1) (g_sea : zrg 48 0 1 sea) (g_noi : zrg 48 0 40 noi) : vx_Met l yL_sea [.codeWith yL_sea cL_sea 5 (some .int) [(0, 17, 20, 26)]] (zRm 8 1 6 133) (zPcN [.ref (ad 0), .int (iI q), .int (iI z), .ref (od 0)] D cy z0 (zWl D z0 ((rooW ad 0 cy fm fr) ++ ((grdW ad 15 cy sea noi) ++ (outW od 0 cy o))))) (zQ1 D ((rooW ad 0 cy fm fr) ++ ((grdW ad 15 cy sea noi) ++ (outW od 0 cy o))) (fun (r : Int32) (u : Int × Int × (Nat → Int)) => (u.1 = 0 ∧ r = iI 0 ∧ ((0 ≤ q ∧ q < 48)) ∧ u.2.1 = (sea q)) ∨ (u.1 = 1 ∧ r = iI 1 ∧ (¬ (0 ≤ q ∧ q < 48)) ∧ u.2.1 = o)) (fun (u : Int × Int × (Nat → Int)) => ((rooW ad 0 cy fm fr) ++ ((grdW ad 15 cy (if u.1 = 0 then (zu sea q z) else sea) noi) ++ (outW od 0 cy u.2.1))))) (fun _ _ _ => False) 1 6 (zIn ((rooW ad 0 cy fm fr) ++ ((grdW ad 15 cy sea noi) ++ (outW od 0 cy o)))) := by
  refine z_ofH (by decide) (Nat.le_of_ble_eq_true rfl) ?_
  intro p e s m args below meth c M hr hlk ht hargs hP0 hE hN ls hl
  have hP : va_P D vwCl ((rooW ad 0 cy fm fr) ++ ((grdW ad 15 cy sea noi) ++ (outW od 0 cy o))) s.heap := hP0.1
  have hD : va_D (zIn ((rooW ad 0 cy fm fr) ++ ((grdW ad 15 cy sea noi) ++ (outW od 0 cy o)))) ((rooW ad 0 cy fm fr) ++ ((grdW ad 15 cy sea noi) ++ (outW od 0 cy o))) := hP0.self
  have hAz := hP0.A
  have hS : va_S (zIn ((rooW ad 0 cy fm fr) ++ ((grdW ad 15 cy sea noi) ++ (outW od 0 cy o)))) s.heap s.heap [] := va_S.rf
  have hl : lv_has ls 5 [(0, .ref (ad 0)), (1, .int (iI q)), (2, .int (iI z)), (3, .ref (od 0))] := hl
  refine lv_aload_n M.1 M.2.1 dL_sea_0 rfl (lv_at hl 3 rfl) ?_
  refine zi_push M dL_sea_1 ?_
  refine lv_aload_n M.1 M.2.1 dL_sea_2 rfl (lv_at hl 0 rfl) ?_
  refine lv_iload_n M.1 M.2.1 dL_sea_3 rfl (lv_at hl 1 rfl) ?_
  refine lv_iload_n M.1 M.2.1 dL_sea_4 rfl (lv_at hl 2 rfl) ?_
  refine z_tW (zx_runV (As := [.int (iI q), .int (iI z)]) (rest := [.int (iI 0), .ref (od 0)]) M (c_X6_sea l hst D cy z0 ad fm fr sea noi q z r_q hz g_sea g_noi) hE hS hAz (z_cut hP hD hAz [0, 1, 2, 3] rfl (by decide +kernel)) (zRc.of (ci := 6) (q0 := 0) hE hP rfl rfl) zk_cd_X6_sea zk_in_RX6 zk_im_X6_sea zk_se_X6_sea zk_ml_RL_28 rfl rfl zd_X6_sea ⟨by decide, by decide⟩ rfl hl.1 rfl (Nat.le_of_ble_eq_true rfl) dL_sea_5 ⟨by decide, by decide⟩) hP hD hS [0, 1, 2, 3] rfl (fun _ => rfl) (fun r1 u1 H locs hp hP hD hS => ?_) (fun Ex qx ce H locs hC hP hS hce hcv hcl => ?_)
  ·
    have hP : va_P D vwCl ((rooW ad 0 cy fm fr) ++ ((grdW ad 15 cy (zu sea q z) noi) ++ (outW od 0 cy o))) H := hP
    have hD : va_D (zIn ((rooW ad 0 cy fm fr) ++ ((grdW ad 15 cy sea noi) ++ (outW od 0 cy o)))) ((rooW ad 0 cy fm fr) ++ ((grdW ad 15 cy (zu sea q z) noi) ++ (outW od 0 cy o))) := hD
    obtain ⟨hN1, rfl⟩ := hp
    have hv01 : (sea q) = 0 ∨ (sea q) = 1 := (by have := g_sea q (by omega) (by omega); omega)
    refine zi_if_eq (tgt := 15) M dL_sea_8 (by decide) (by omega) (fun hcz => ?_) (fun hcz => ?_)
    ·
      refine lv_lconst M.1 M.2.1 dL_sea_15 rfl (zi_lpush M (n := (sea q)) (by rw [hcz]; rfl) ?_)
      refine zi_last (ws' := ((rooW ad 0 cy fm fr) ++ ((grdW ad 15 cy (zu sea q z) noi) ++ (outW od 0 cy (sea q))))) M hE hP hD hS 4 rfl rfl dL_sea_16 (fun H locs hP hD hS => ?_)
      refine zi_goto (tgt := 24) M dL_sea_17 (by decide) ?_
      refine zi_push M dL_sea_24 ?_
      have hP : va_P D vwCl ((rooW ad 0 cy fm fr) ++ ((grdW ad 15 cy (if ((0 : Int), ((sea q) : Int), (fun (_ : Nat) => (0 : Int))).1 = 0 then (zu sea q z) else sea) noi) ++ (outW od 0 cy ((0 : Int), ((sea q) : Int), (fun (_ : Nat) => (0 : Int))).2.1))) H := hP
      exact vx_ret (zw_i M hr hlk ((0 : Int), ((sea q) : Int), (fun (_ : Nat) => (0 : Int))) hP hS (Or.inl ⟨rfl, rfl, hN1, rfl⟩) (by decide) (by decide) dL_sea_25)
    ·
      refine lv_lconst M.1 M.2.1 dL_sea_11 rfl (zi_lpush M (n := (sea q)) (by rw [show (sea q) = 1 from by omega]; rfl) ?_)
      refine zi_goto (tgt := 16) M dL_sea_12 (by decide) ?_
      refine zi_last (ws' := ((rooW ad 0 cy fm fr) ++ ((grdW ad 15 cy (zu sea q z) noi) ++ (outW od 0 cy (sea q))))) M hE hP hD hS 4 rfl rfl dL_sea_16 (fun H locs hP hD hS => ?_)
      refine zi_goto (tgt := 24) M dL_sea_17 (by decide) ?_
      refine zi_push M dL_sea_24 ?_
      have hP : va_P D vwCl ((rooW ad 0 cy fm fr) ++ ((grdW ad 15 cy (if ((0 : Int), ((sea q) : Int), (fun (_ : Nat) => (0 : Int))).1 = 0 then (zu sea q z) else sea) noi) ++ (outW od 0 cy ((0 : Int), ((sea q) : Int), (fun (_ : Nat) => (0 : Int))).2.1))) H := hP
      exact vx_ret (zw_i M hr hlk ((0 : Int), ((sea q) : Int), (fun (_ : Nat) => (0 : Int))) hP hS (Or.inl ⟨rfl, rfl, hN1, rfl⟩) (by decide) (by decide) dL_sea_25)
  ·
    obtain ⟨rfl, hC1⟩ := hC
    refine vx_catch (own := RL) (name := eIB) (E := eIB) M.2.2.2.1 [] ⟨0, 17, 20, 26⟩ [] (ht.trans rfl) (fun z hz => nomatch hz) (by decide) (by decide) (M.w zk_cl_RL_26) (M.w zk_ca_402) hce hcv hcl ?_
    refine lv_astore (lv' := [(4, .ref qx), (0, .ref (ad 0)), (1, .int (iI q)), (2, .int (iI z)), (3, .ref (od 0))]) M.1 M.2.1 dL_sea_20 hl (by decide) rfl (fun ls hl => ?_)
    refine zi_push M dL_sea_22 ?_
    have hP : va_P D vwCl ((rooW ad 0 cy fm fr) ++ ((grdW ad 15 cy (if ((1 : Int), (o : Int), (fun (_ : Nat) => (0 : Int))).1 = 0 then (zu sea q z) else sea) noi) ++ (outW od 0 cy ((1 : Int), (o : Int), (fun (_ : Nat) => (0 : Int))).2.1))) H := hP
    exact vx_ret (zw_i M hr hlk ((1 : Int), (o : Int), (fun (_ : Nat) => (0 : Int))) hP hS (Or.inr (⟨rfl, rfl, hC1, rfl⟩)) (by decide) (by decide) dL_sea_23)

set_option maxRecDepth 100000 in
set_option maxHeartbeats 8000000 in
theorem c_L_noise (l : Launch) (hst : l.stackTraces = false) (D : va_G) (cy : Nat → ClassId) (z0 : Nat) (ad od : Nat → Nat) (fm fr o : Int) (sea noi : Int → Int) (q : Int) (v : Int) (r_q : r32 q) (r_v : r32 v) (g_sea : zrg 48 0 1 sea) (g_noi : zrg 48 0 40 noi) : vx_Met l yL_noise [.codeWith yL_noise cL_noise 5 (some .int) [(0, 10, 13, 26), (0, 10, 17, 13)]] (zRm 8 2 12 135) (zPcN [.ref (ad 0), .int (iI q), .int (iI v), .ref (od 0)] D cy z0 (zWl D z0 ((rooW ad 0 cy fm fr) ++ ((grdW ad 15 cy sea noi) ++ (outW od 0 cy o))))) (zQ1 D ((rooW ad 0 cy fm fr) ++ ((grdW ad 15 cy sea noi) ++ (outW od 0 cy o))) (fun (r : Int32) (u : Int × Int × (Nat → Int)) => (u.1 = 0 ∧ r = iI 0 ∧ ((0 ≤ q ∧ q < 48) ∧ (0 ≤ v ∧ v ≤ 40)) ∧ u.2.1 = (noi q)) ∨ (u.1 = 1 ∧ r = iI 1 ∧ (¬ (0 ≤ q ∧ q < 48)) ∧ u.2.1 = o) ∨ (u.1 = 2 ∧ r = iI 2 ∧ ((0 ≤ q ∧ q < 48) ∧ ¬ (0 ≤ v ∧ v ≤ 40)) ∧ u.2.1 = o)) (fun (u : Int × Int × (Nat → Int)) => ((rooW ad 0 cy fm fr) ++ ((grdW ad 15 cy sea (if u.1 = 0 then (zu noi q v) else noi)) ++ (outW od 0 cy u.2.1))))) (fun _ _ _ => False) 2 12 (zIn ((rooW ad 0 cy fm fr) ++ ((grdW ad 15 cy sea noi) ++ (outW od 0 cy o)))) := by
  refine z_ofH (by decide) (Nat.le_of_ble_eq_true rfl) ?_
  intro p e s m args below meth c M hr hlk ht hargs hP0 hE hN ls hl
  have hP : va_P D vwCl ((rooW ad 0 cy fm fr) ++ ((grdW ad 15 cy sea noi) ++ (outW od 0 cy o))) s.heap := hP0.1
  have hD : va_D (zIn ((rooW ad 0 cy fm fr) ++ ((grdW ad 15 cy sea noi) ++ (outW od 0 cy o)))) ((rooW ad 0 cy fm fr) ++ ((grdW ad 15 cy sea noi) ++ (outW od 0 cy o))) := hP0.self
  have hAz := hP0.A
  have hS : va_S (zIn ((rooW ad 0 cy fm fr) ++ ((grdW ad 15 cy sea noi) ++ (outW od 0 cy o)))) s.heap s.heap [] := va_S.rf
  have hl : lv_has ls 5 [(0, .ref (ad 0)), (1, .int (iI q)), (2, .int (iI v)), (3, .ref (od 0))] := hl
  refine lv_aload_n M.1 M.2.1 dL_noise_0 rfl (lv_at hl 3 rfl) ?_
  refine zi_push M dL_noise_1 ?_
  refine lv_aload_n M.1 M.2.1 dL_noise_2 rfl (lv_at hl 0 rfl) ?_
  refine lv_iload_n M.1 M.2.1 dL_noise_3 rfl (lv_at hl 1 rfl) ?_
  refine lv_iload_n M.1 M.2.1 dL_noise_4 rfl (lv_at hl 2 rfl) ?_
  refine z_tW (zx_runV (As := [.int (iI q), .int (iI v)]) (rest := [.int (iI 0), .ref (od 0)]) M (c_X6_noise l hst D cy z0 ad fm fr sea noi q v r_q r_v g_sea g_noi) hE hS hAz (z_cut hP hD hAz [0, 1, 2, 3] rfl (by decide +kernel)) (zRc.of (ci := 6) (q0 := 0) hE hP rfl rfl) zk_cd_X6_noise zk_in_RX6 zk_im_X6_noise zk_se_X6_noise zk_ml_RL_32 rfl rfl zd_X6_noise ⟨by decide, by decide⟩ rfl hl.1 rfl (Nat.le_of_ble_eq_true rfl) dL_noise_5 ⟨by decide, by decide⟩) hP hD hS [0, 1, 2, 3] rfl (fun _ => rfl) (fun r1 u1 H locs hp hP hD hS => ?_) (fun Ex qx ce H locs hC hP hS hce hcv hcl => ?_)
  ·
    have hP : va_P D vwCl ((rooW ad 0 cy fm fr) ++ ((grdW ad 15 cy sea (zu noi q v)) ++ (outW od 0 cy o))) H := hP
    have hD : va_D (zIn ((rooW ad 0 cy fm fr) ++ ((grdW ad 15 cy sea noi) ++ (outW od 0 cy o)))) ((rooW ad 0 cy fm fr) ++ ((grdW ad 15 cy sea (zu noi q v)) ++ (outW od 0 cy o))) := hD
    obtain ⟨hN1, rfl⟩ := hp
    refine zi_i2l M dL_noise_8 ?_
    refine zi_last (ws' := ((rooW ad 0 cy fm fr) ++ ((grdW ad 15 cy sea (zu noi q v)) ++ (outW od 0 cy (noi q))))) M hE hP hD hS 4 rfl rfl dL_noise_9 (fun H locs hP hD hS => ?_)
    refine zi_goto (tgt := 21) M dL_noise_10 (by decide) ?_
    refine zi_push M dL_noise_21 ?_
    have hP : va_P D vwCl ((rooW ad 0 cy fm fr) ++ ((grdW ad 15 cy sea (if ((0 : Int), ((noi q) : Int), (fun (_ : Nat) => (0 : Int))).1 = 0 then (zu noi q v) else noi)) ++ (outW od 0 cy ((0 : Int), ((noi q) : Int), (fun (_ : Nat) => (0 : Int))).2.1))) H := hP
    exact vx_ret (zw_i M hr hlk ((0 : Int), ((noi q) : Int), (fun (_ : Nat) => (0 : Int))) hP hS (Or.inl ⟨rfl, rfl, hN1, rfl⟩) (by decide) (by decide) dL_noise_22)
  ·
    rcases hC with ⟨rfl, hC1⟩ | ⟨rfl, hC1⟩
    ·
      refine vx_catch (own := RL) (name := eIB) (E := eIB) M.2.2.2.1 [] ⟨0, 10, 13, 26⟩ [⟨0, 10, 17, 13⟩] (ht.trans rfl) (fun z hz => nomatch hz) (by decide) (by decide) (M.w zk_cl_RL_26) (M.w zk_ca_402) hce hcv hcl ?_
      refine lv_astore (lv' := [(4, .ref qx), (0, .ref (ad 0)), (1, .int (iI q)), (2, .int (iI v)), (3, .ref (od 0))]) M.1 M.2.1 dL_noise_13 hl (by decide) rfl (fun ls hl => ?_)
      refine zi_push M dL_noise_15 ?_
      have hP : va_P D vwCl ((rooW ad 0 cy fm fr) ++ ((grdW ad 15 cy sea (if ((1 : Int), (o : Int), (fun (_ : Nat) => (0 : Int))).1 = 0 then (zu noi q v) else noi)) ++ (outW od 0 cy ((1 : Int), (o : Int), (fun (_ : Nat) => (0 : Int))).2.1))) H := hP
      exact vx_ret (zw_i M hr hlk ((1 : Int), (o : Int), (fun (_ : Nat) => (0 : Int))) hP hS (Or.inr (Or.inl ⟨rfl, rfl, hC1, rfl⟩)) (by decide) (by decide) dL_noise_16)
    ·
      refine vx_catch (own := RL) (name := eIA) (E := eIA) M.2.2.2.1 [⟨0, 10, 13, 26⟩] ⟨0, 10, 17, 13⟩ [] (ht.trans rfl) (fun z hz => by rw [List.mem_singleton.mp hz]; exact Or.inr ⟨by decide, _, M.w zk_cl_RL_26, hN.1⟩) (by decide) (by decide) (M.w zk_cl_RL_13) (M.w zk_ca_297) hce hcv hcl ?_
      refine lv_astore (lv' := [(4, .ref qx), (0, .ref (ad 0)), (1, .int (iI q)), (2, .int (iI v)), (3, .ref (od 0))]) M.1 M.2.1 dL_noise_17 hl (by decide) rfl (fun ls hl => ?_)
      refine zi_push M dL_noise_19 ?_
      have hP : va_P D vwCl ((rooW ad 0 cy fm fr) ++ ((grdW ad 15 cy sea (if ((2 : Int), (o : Int), (fun (_ : Nat) => (0 : Int))).1 = 0 then (zu noi q v) else noi)) ++ (outW od 0 cy ((2 : Int), (o : Int), (fun (_ : Nat) => (0 : Int))).2.1))) H := hP
      exact vx_ret (zw_i M hr hlk ((2 : Int), (o : Int), (fun (_ : Nat) => (0 : Int))) hP hS (Or.inr (Or.inr (⟨rfl, rfl, hC1, rfl⟩))) (by decide) (by decide) dL_noise_20)

set_option maxRecDepth 100000 in
set_option maxHeartbeats 8000000 in
theorem c_L_pass (l : Launch) (hst : l.stackTraces = false) (D : va_G) (cy : Nat → ClassId) (z0 : Nat) (ad od : Nat → Nat) (fm fr h su st sh fl kh ksu kst ksh kfl o : Int) (cS cH dD dE dF kcS kcH kdD kdE kdF : Int → Int) (k : Int) (r_k : r32 k) (h_h : 0 ≤ h ∧ h ≤ 5000) (h_su : 0 ≤ su ∧ su ≤ 100) (h_st : 0 ≤ st ∧ st ≤ 60) (h_sh : 0 ≤ sh ∧ sh ≤ 72) (h_fl : 0 ≤ fl ∧ fl ≤ 80) (h_cS : zrg 48 0 100 cS) (h_cH : zrg 48 0 24 cH) (h_kh : 0 ≤ kh ∧ kh ≤ 5000) (h_ksu : 0 ≤ ksu ∧ ksu ≤ 100) (h_kst : 0 ≤ kst ∧ kst ≤ 60) (h_ksh : 0 ≤ ksh ∧ ksh ≤ 72) (h_kfl : 0 ≤ kfl ∧ kfl ≤ 80) (h_kcS : zrg 48 0 100 kcS) (h_kcH : zrg 48 0 24 kcH) (hkh : kh = h) : vx_Met l yL_pass [.codeWith yL_pass cL_pass 4 (some .int) [(0, 9, 12, 13), (0, 9, 15, 39)]] (zRm 8 2 12 133) (zPcN [.ref (ad 0), .int (iI k), .ref (od 0)] D cy z0 (zWl D z0 ((rooW ad 0 cy fm fr) ++ ((airW ad 1 cy h su st sh fl cS cH dD dE dF) ++ ((airW ad 8 cy kh ksu kst ksh kfl kcS kcH kdD kdE kdF) ++ (outW od 0 cy o)))))) (zQ1 D ((rooW ad 0 cy fm fr) ++ ((airW ad 1 cy h su st sh fl cS cH dD dE dF) ++ ((airW ad 8 cy kh ksu kst ksh kfl kcS kcH kdD kdE kdF) ++ (outW od 0 cy o)))) (fun (r : Int32) (u : Int × Int × (Nat → Int)) => (u.1 = 0 ∧ r = iI 0 ∧ ((1 ≤ k ∧ k ≤ 48) ∧ (h + k ≤ 5000)) ∧ u.2.1 = (h + k)) ∨ (u.1 = 1 ∧ r = iI 1 ∧ (¬ (1 ≤ k ∧ k ≤ 48)) ∧ u.2.1 = o) ∨ (u.1 = 2 ∧ r = iI 2 ∧ ((1 ≤ k ∧ k ≤ 48) ∧ ¬ (h + k ≤ 5000)) ∧ u.2.1 = o)) (fun (u : Int × Int × (Nat → Int)) => ((rooW ad 0 cy fm fr) ++ ((airW ad 1 cy (if u.1 = 0 then (h + k) else h) su (if u.1 = 0 then (stK k st sh) else st) (if u.1 = 0 then (max 0 (sh - k)) else sh) (if u.1 = 0 then (flK k.toNat fl) else fl) (if u.1 = 0 then (cSK k cS cH) else cS) (if u.1 = 0 then (cHK k cH) else cH) (if u.1 = 0 then (dnD (h + k) (flK k.toNat fl)) else dD) (if u.1 = 0 then (dnE (h + k) (cSK k cS cH)) else dE) (if u.1 = 0 then (dnF (h + k) su (stK k st sh)) else dF)) ++ ((airW ad 8 cy (if u.1 = 0 then (kh + k) else kh) ksu (if u.1 = 0 then (stK k kst ksh) else kst) (if u.1 = 0 then (max 0 (ksh - k)) else ksh) (if u.1 = 0 then (flK k.toNat kfl) else kfl) (if u.1 = 0 then (cSK k kcS kcH) else kcS) (if u.1 = 0 then (cHK k kcH) else kcH) (if u.1 = 0 then (dnD (kh + k) (flK k.toNat kfl)) else kdD) (if u.1 = 0 then (dnE (kh + k) (cSK k kcS kcH)) else kdE) (if u.1 = 0 then (dnF (kh + k) ksu (stK k kst ksh)) else kdF)) ++ (outW od 0 cy u.2.1)))))) (fun _ _ _ => False) 2 12 (zIn ((rooW ad 0 cy fm fr) ++ ((airW ad 1 cy h su st sh fl cS cH dD dE dF) ++ ((airW ad 8 cy kh ksu kst ksh kfl kcS kcH kdD kdE kdF) ++ (outW od 0 cy o))))) := by
  refine z_ofH (by decide) (Nat.le_of_ble_eq_true rfl) ?_
  intro p e s m args below meth c M hr hlk ht hargs hP0 hE hN ls hl
  have hP : va_P D vwCl ((rooW ad 0 cy fm fr) ++ ((airW ad 1 cy h su st sh fl cS cH dD dE dF) ++ ((airW ad 8 cy kh ksu kst ksh kfl kcS kcH kdD kdE kdF) ++ (outW od 0 cy o)))) s.heap := hP0.1
  have hD : va_D (zIn ((rooW ad 0 cy fm fr) ++ ((airW ad 1 cy h su st sh fl cS cH dD dE dF) ++ ((airW ad 8 cy kh ksu kst ksh kfl kcS kcH kdD kdE kdF) ++ (outW od 0 cy o))))) ((rooW ad 0 cy fm fr) ++ ((airW ad 1 cy h su st sh fl cS cH dD dE dF) ++ ((airW ad 8 cy kh ksu kst ksh kfl kcS kcH kdD kdE kdF) ++ (outW od 0 cy o)))) := hP0.self
  have hAz := hP0.A
  have hS : va_S (zIn ((rooW ad 0 cy fm fr) ++ ((airW ad 1 cy h su st sh fl cS cH dD dE dF) ++ ((airW ad 8 cy kh ksu kst ksh kfl kcS kcH kdD kdE kdF) ++ (outW od 0 cy o))))) s.heap s.heap [] := va_S.rf
  have hl : lv_has ls 4 [(0, .ref (ad 0)), (1, .int (iI k)), (2, .ref (od 0))] := hl
  refine lv_aload_n M.1 M.2.1 dL_pass_0 rfl (lv_at hl 2 rfl) ?_
  refine zi_push M dL_pass_1 ?_
  refine lv_aload_n M.1 M.2.1 dL_pass_2 rfl (lv_at hl 0 rfl) ?_
  refine lv_iload_n M.1 M.2.1 dL_pass_3 rfl (lv_at hl 1 rfl) ?_
  refine z_tW (zx_runV (As := [.int (iI k)]) (rest := [.int (iI 0), .ref (od 0)]) M (c_X6_pass l hst D cy z0 ad fm fr h su st sh fl kh ksu kst ksh kfl cS cH dD dE dF kcS kcH kdD kdE kdF k r_k h_h h_su h_st h_sh h_fl h_cS h_cH h_kh h_ksu h_kst h_ksh h_kfl h_kcS h_kcH hkh) hE hS hAz (z_cut hP hD hAz [0, 1, 2, 3, 4, 5, 6, 7, 8, 9, 10, 11, 12, 13, 14] rfl (by decide +kernel)) (zRc.of (ci := 6) (q0 := 0) hE hP rfl rfl) zk_cd_X6_pass zk_in_RX6 zk_im_X6_pass zk_se_X6_pass zk_ml_RL_36 rfl rfl zd_X6_pass ⟨by decide, by decide⟩ rfl hl.1 rfl (Nat.le_of_ble_eq_true rfl) dL_pass_4 ⟨by decide, by decide⟩) hP hD hS [0, 1, 2, 3, 4, 5, 6, 7, 8, 9, 10, 11, 12, 13, 14] rfl (fun _ => rfl) (fun r1 u1 H locs hp hP hD hS => ?_) (fun Ex qx ce H locs hC hP hS hce hcv hcl => ?_)
  ·
    have hP : va_P D vwCl ((rooW ad 0 cy fm fr) ++ ((airW ad 1 cy (h + k) su (stK k st sh) (max 0 (sh - k)) (flK k.toNat fl) (cSK k cS cH) (cHK k cH) (dnD (h + k) (flK k.toNat fl)) (dnE (h + k) (cSK k cS cH)) (dnF (h + k) su (stK k st sh))) ++ ((airW ad 8 cy (kh + k) ksu (stK k kst ksh) (max 0 (ksh - k)) (flK k.toNat kfl) (cSK k kcS kcH) (cHK k kcH) (dnD (kh + k) (flK k.toNat kfl)) (dnE (kh + k) (cSK k kcS kcH)) (dnF (kh + k) ksu (stK k kst ksh))) ++ (outW od 0 cy o)))) H := hP
    have hD : va_D (zIn ((rooW ad 0 cy fm fr) ++ ((airW ad 1 cy h su st sh fl cS cH dD dE dF) ++ ((airW ad 8 cy kh ksu kst ksh kfl kcS kcH kdD kdE kdF) ++ (outW od 0 cy o))))) ((rooW ad 0 cy fm fr) ++ ((airW ad 1 cy (h + k) su (stK k st sh) (max 0 (sh - k)) (flK k.toNat fl) (cSK k cS cH) (cHK k cH) (dnD (h + k) (flK k.toNat fl)) (dnE (h + k) (cSK k cS cH)) (dnF (h + k) su (stK k st sh))) ++ ((airW ad 8 cy (kh + k) ksu (stK k kst ksh) (max 0 (ksh - k)) (flK k.toNat kfl) (cSK k kcS kcH) (cHK k kcH) (dnD (kh + k) (flK k.toNat kfl)) (dnE (kh + k) (cSK k kcS kcH)) (dnF (kh + k) ksu (stK k kst ksh))) ++ (outW od 0 cy o)))) := hD
    obtain ⟨hN1, rfl⟩ := hp
    refine zi_i2l M dL_pass_7 ?_
    refine zi_last (ws' := ((rooW ad 0 cy fm fr) ++ ((airW ad 1 cy (h + k) su (stK k st sh) (max 0 (sh - k)) (flK k.toNat fl) (cSK k cS cH) (cHK k cH) (dnD (h + k) (flK k.toNat fl)) (dnE (h + k) (cSK k cS cH)) (dnF (h + k) su (stK k st sh))) ++ ((airW ad 8 cy (kh + k) ksu (stK k kst ksh) (max 0 (ksh - k)) (flK k.toNat kfl) (cSK k kcS kcH) (cHK k kcH) (dnD (kh + k) (flK k.toNat kfl)) (dnE (kh + k) (cSK k kcS kcH)) (dnF (kh + k) ksu (stK k kst ksh))) ++ (outW od 0 cy (h + k)))))) M hE hP hD hS 15 rfl rfl dL_pass_8 (fun H locs hP hD hS => ?_)
    refine zi_goto (tgt := 18) M dL_pass_9 (by decide) ?_
    refine zi_push M dL_pass_18 ?_
    have hP : va_P D vwCl ((rooW ad 0 cy fm fr) ++ ((airW ad 1 cy (if ((0 : Int), ((h + k) : Int), (fun (_ : Nat) => (0 : Int))).1 = 0 then (h + k) else h) su (if ((0 : Int), ((h + k) : Int), (fun (_ : Nat) => (0 : Int))).1 = 0 then (stK k st sh) else st) (if ((0 : Int), ((h + k) : Int), (fun (_ : Nat) => (0 : Int))).1 = 0 then (max 0 (sh - k)) else sh) (if ((0 : Int), ((h + k) : Int), (fun (_ : Nat) => (0 : Int))).1 = 0 then (flK k.toNat fl) else fl) (if ((0 : Int), ((h + k) : Int), (fun (_ : Nat) => (0 : Int))).1 = 0 then (cSK k cS cH) else cS) (if ((0 : Int), ((h + k) : Int), (fun (_ : Nat) => (0 : Int))).1 = 0 then (cHK k cH) else cH) (if ((0 : Int), ((h + k) : Int), (fun (_ : Nat) => (0 : Int))).1 = 0 then (dnD (h + k) (flK k.toNat fl)) else dD) (if ((0 : Int), ((h + k) : Int), (fun (_ : Nat) => (0 : Int))).1 = 0 then (dnE (h + k) (cSK k cS cH)) else dE) (if ((0 : Int), ((h + k) : Int), (fun (_ : Nat) => (0 : Int))).1 = 0 then (dnF (h + k) su (stK k st sh)) else dF)) ++ ((airW ad 8 cy (if ((0 : Int), ((h + k) : Int), (fun (_ : Nat) => (0 : Int))).1 = 0 then (kh + k) else kh) ksu (if ((0 : Int), ((h + k) : Int), (fun (_ : Nat) => (0 : Int))).1 = 0 then (stK k kst ksh) else kst) (if ((0 : Int), ((h + k) : Int), (fun (_ : Nat) => (0 : Int))).1 = 0 then (max 0 (ksh - k)) else ksh) (if ((0 : Int), ((h + k) : Int), (fun (_ : Nat) => (0 : Int))).1 = 0 then (flK k.toNat kfl) else kfl) (if ((0 : Int), ((h + k) : Int), (fun (_ : Nat) => (0 : Int))).1 = 0 then (cSK k kcS kcH) else kcS) (if ((0 : Int), ((h + k) : Int), (fun (_ : Nat) => (0 : Int))).1 = 0 then (cHK k kcH) else kcH) (if ((0 : Int), ((h + k) : Int), (fun (_ : Nat) => (0 : Int))).1 = 0 then (dnD (kh + k) (flK k.toNat kfl)) else kdD) (if ((0 : Int), ((h + k) : Int), (fun (_ : Nat) => (0 : Int))).1 = 0 then (dnE (kh + k) (cSK k kcS kcH)) else kdE) (if ((0 : Int), ((h + k) : Int), (fun (_ : Nat) => (0 : Int))).1 = 0 then (dnF (kh + k) ksu (stK k kst ksh)) else kdF)) ++ (outW od 0 cy ((0 : Int), ((h + k) : Int), (fun (_ : Nat) => (0 : Int))).2.1)))) H := hP
    exact vx_ret (zw_i M hr hlk ((0 : Int), ((h + k) : Int), (fun (_ : Nat) => (0 : Int))) hP hS (Or.inl ⟨rfl, rfl, hN1, rfl⟩) (by decide) (by decide) dL_pass_19)
  ·
    rcases hC with ⟨rfl, hC1⟩ | ⟨rfl, hC1⟩
    ·
      refine vx_catch (own := RL) (name := eIA) (E := eIA) M.2.2.2.1 [] ⟨0, 9, 12, 13⟩ [⟨0, 9, 15, 39⟩] (ht.trans rfl) (fun z hz => nomatch hz) (by decide) (by decide) (M.w zk_cl_RL_13) (M.w zk_ca_297) hce hcv hcl ?_
      refine lv_astore_n (lv' := [(3, .ref qx), (0, .ref (ad 0)), (1, .int (iI k)), (2, .ref (od 0))]) M.1 M.2.1 dL_pass_12 rfl hl (by decide) rfl (fun ls hl => ?_)
      refine zi_push M dL_pass_13 ?_
      have hP : va_P D vwCl ((rooW ad 0 cy fm fr) ++ ((airW ad 1 cy (if ((1 : Int), (o : Int), (fun (_ : Nat) => (0 : Int))).1 = 0 then (h + k) else h) su (if ((1 : Int), (o : Int), (fun (_ : Nat) => (0 : Int))).1 = 0 then (stK k st sh) else st) (if ((1 : Int), (o : Int), (fun (_ : Nat) => (0 : Int))).1 = 0 then (max 0 (sh - k)) else sh) (if ((1 : Int), (o : Int), (fun (_ : Nat) => (0 : Int))).1 = 0 then (flK k.toNat fl) else fl) (if ((1 : Int), (o : Int), (fun (_ : Nat) => (0 : Int))).1 = 0 then (cSK k cS cH) else cS) (if ((1 : Int), (o : Int), (fun (_ : Nat) => (0 : Int))).1 = 0 then (cHK k cH) else cH) (if ((1 : Int), (o : Int), (fun (_ : Nat) => (0 : Int))).1 = 0 then (dnD (h + k) (flK k.toNat fl)) else dD) (if ((1 : Int), (o : Int), (fun (_ : Nat) => (0 : Int))).1 = 0 then (dnE (h + k) (cSK k cS cH)) else dE) (if ((1 : Int), (o : Int), (fun (_ : Nat) => (0 : Int))).1 = 0 then (dnF (h + k) su (stK k st sh)) else dF)) ++ ((airW ad 8 cy (if ((1 : Int), (o : Int), (fun (_ : Nat) => (0 : Int))).1 = 0 then (kh + k) else kh) ksu (if ((1 : Int), (o : Int), (fun (_ : Nat) => (0 : Int))).1 = 0 then (stK k kst ksh) else kst) (if ((1 : Int), (o : Int), (fun (_ : Nat) => (0 : Int))).1 = 0 then (max 0 (ksh - k)) else ksh) (if ((1 : Int), (o : Int), (fun (_ : Nat) => (0 : Int))).1 = 0 then (flK k.toNat kfl) else kfl) (if ((1 : Int), (o : Int), (fun (_ : Nat) => (0 : Int))).1 = 0 then (cSK k kcS kcH) else kcS) (if ((1 : Int), (o : Int), (fun (_ : Nat) => (0 : Int))).1 = 0 then (cHK k kcH) else kcH) (if ((1 : Int), (o : Int), (fun (_ : Nat) => (0 : Int))).1 = 0 then (dnD (kh + k) (flK k.toNat kfl)) else kdD) (if ((1 : Int), (o : Int), (fun (_ : Nat) => (0 : Int))).1 = 0 then (dnE (kh + k) (cSK k kcS kcH)) else kdE) (if ((1 : Int), (o : Int), (fun (_ : Nat) => (0 : Int))).1 = 0 then (dnF (kh + k) ksu (stK k kst ksh)) else kdF)) ++ (outW od 0 cy ((1 : Int), (o : Int), (fun (_ : Nat) => (0 : Int))).2.1)))) H := hP
      exact vx_ret (zw_i M hr hlk ((1 : Int), (o : Int), (fun (_ : Nat) => (0 : Int))) hP hS (Or.inr (Or.inl ⟨rfl, rfl, hC1, rfl⟩)) (by decide) (by decide) dL_pass_14)
    ·
      refine vx_catch (own := RL) (name := eIS) (E := eIS) M.2.2.2.1 [⟨0, 9, 12, 13⟩] ⟨0, 9, 15, 39⟩ [] (ht.trans rfl) (fun z hz => by rw [List.mem_singleton.mp hz]; exact Or.inr ⟨by decide, _, M.w zk_cl_RL_13, hN.2.2⟩) (by decide) (by decide) (M.w zk_cl_RL_39) (M.w zk_ca_444) hce hcv hcl ?_
      refine lv_astore_n (lv' := [(3, .ref qx), (0, .ref (ad 0)), (1, .int (iI k)), (2, .ref (od 0))]) M.1 M.2.1 dL_pass_15 rfl hl (by decide) rfl (fun ls hl => ?_)
      refine zi_push M dL_pass_16 ?_
      have hP : va_P D vwCl ((rooW ad 0 cy fm fr) ++ ((airW ad 1 cy (if ((2 : Int), (o : Int), (fun (_ : Nat) => (0 : Int))).1 = 0 then (h + k) else h) su (if ((2 : Int), (o : Int), (fun (_ : Nat) => (0 : Int))).1 = 0 then (stK k st sh) else st) (if ((2 : Int), (o : Int), (fun (_ : Nat) => (0 : Int))).1 = 0 then (max 0 (sh - k)) else sh) (if ((2 : Int), (o : Int), (fun (_ : Nat) => (0 : Int))).1 = 0 then (flK k.toNat fl) else fl) (if ((2 : Int), (o : Int), (fun (_ : Nat) => (0 : Int))).1 = 0 then (cSK k cS cH) else cS) (if ((2 : Int), (o : Int), (fun (_ : Nat) => (0 : Int))).1 = 0 then (cHK k cH) else cH) (if ((2 : Int), (o : Int), (fun (_ : Nat) => (0 : Int))).1 = 0 then (dnD (h + k) (flK k.toNat fl)) else dD) (if ((2 : Int), (o : Int), (fun (_ : Nat) => (0 : Int))).1 = 0 then (dnE (h + k) (cSK k cS cH)) else dE) (if ((2 : Int), (o : Int), (fun (_ : Nat) => (0 : Int))).1 = 0 then (dnF (h + k) su (stK k st sh)) else dF)) ++ ((airW ad 8 cy (if ((2 : Int), (o : Int), (fun (_ : Nat) => (0 : Int))).1 = 0 then (kh + k) else kh) ksu (if ((2 : Int), (o : Int), (fun (_ : Nat) => (0 : Int))).1 = 0 then (stK k kst ksh) else kst) (if ((2 : Int), (o : Int), (fun (_ : Nat) => (0 : Int))).1 = 0 then (max 0 (ksh - k)) else ksh) (if ((2 : Int), (o : Int), (fun (_ : Nat) => (0 : Int))).1 = 0 then (flK k.toNat kfl) else kfl) (if ((2 : Int), (o : Int), (fun (_ : Nat) => (0 : Int))).1 = 0 then (cSK k kcS kcH) else kcS) (if ((2 : Int), (o : Int), (fun (_ : Nat) => (0 : Int))).1 = 0 then (cHK k kcH) else kcH) (if ((2 : Int), (o : Int), (fun (_ : Nat) => (0 : Int))).1 = 0 then (dnD (kh + k) (flK k.toNat kfl)) else kdD) (if ((2 : Int), (o : Int), (fun (_ : Nat) => (0 : Int))).1 = 0 then (dnE (kh + k) (cSK k kcS kcH)) else kdE) (if ((2 : Int), (o : Int), (fun (_ : Nat) => (0 : Int))).1 = 0 then (dnF (kh + k) ksu (stK k kst ksh)) else kdF)) ++ (outW od 0 cy ((2 : Int), (o : Int), (fun (_ : Nat) => (0 : Int))).2.1)))) H := hP
      exact vx_ret (zw_i M hr hlk ((2 : Int), (o : Int), (fun (_ : Nat) => (0 : Int))) hP hS (Or.inr (Or.inr (⟨rfl, rfl, hC1, rfl⟩))) (by decide) (by decide) dL_pass_17)

set_option maxRecDepth 100000 in
set_option maxHeartbeats 8000000 in
theorem c_L_station (l : Launch) (hst : l.stackTraces = false) (D : va_G) (cy : Nat → ClassId) (z0 : Nat) (ad od : Nat → Nat) (fm fr sm o : Int) (pl pw an hd fq : Int → Int) (q : Int) (v : Int) (a : Int) (d : Int) (r_q : r32 q) (r_v : r32 v) (r_a : r32 a) (r_d : r32 d) (hsm : 0 ≤ sm ∧ sm ≤ 12) : vx_Met l yL_station [.codeWith yL_station cL_station 7 (some .int) [(0, 14, 17, 26), (0, 14, 21, 13), (0, 14, 25, 39)]] (zRm 8 5 30 136) (zPcN [.ref (ad 0), .int (iI q), .int (iI v), .int (iI a), .int (iI d), .ref (od 0)] D cy z0 (zWl D z0 ((rooW ad 0 cy fm fr) ++ ((sndW ad 19 cy 12 sm pl pw an hd fq) ++ (outW od 0 cy o))))) (zQ1 D ((rooW ad 0 cy fm fr) ++ ((sndW ad 19 cy 12 sm pl pw an hd fq) ++ (outW od 0 cy o))) (fun (r : Int32) (u : Int × Int × (Nat → Int)) => (u.1 = 0 ∧ r = iI 0 ∧ ((0 ≤ q ∧ q < 48) ∧ ((1 ≤ v ∧ v ≤ 80) ∧ (0 ≤ a ∧ a ≤ 2) ∧ (0 ≤ d ∧ d ≤ 2)) ∧ (sm < 12)) ∧ u.2.1 = sm) ∨ (u.1 = 1 ∧ r = iI 1 ∧ (¬ (0 ≤ q ∧ q < 48)) ∧ u.2.1 = o) ∨ (u.1 = 2 ∧ r = iI 2 ∧ ((0 ≤ q ∧ q < 48) ∧ ¬ ((1 ≤ v ∧ v ≤ 80) ∧ (0 ≤ a ∧ a ≤ 2) ∧ (0 ≤ d ∧ d ≤ 2))) ∧ u.2.1 = o) ∨ (u.1 = 3 ∧ r = iI 3 ∧ ((0 ≤ q ∧ q < 48) ∧ ((1 ≤ v ∧ v ≤ 80) ∧ (0 ≤ a ∧ a ≤ 2) ∧ (0 ≤ d ∧ d ≤ 2)) ∧ ¬ (sm < 12)) ∧ u.2.1 = o)) (fun (u : Int × Int × (Nat → Int)) => ((rooW ad 0 cy fm fr) ++ ((sndW ad 19 cy 12 (if u.1 = 0 then (sm + 1) else sm) (if u.1 = 0 then (zu pl sm q) else pl) (if u.1 = 0 then (zu pw sm v) else pw) (if u.1 = 0 then (zu an sm a) else an) (if u.1 = 0 then (zu hd sm d) else hd) (if u.1 = 0 then (zu fq sm (-1)) else fq)) ++ (outW od 0 cy u.2.1))))) (fun _ _ _ => False) 5 30 (zIn ((rooW ad 0 cy fm fr) ++ ((sndW ad 19 cy 12 sm pl pw an hd fq) ++ (outW od 0 cy o)))) := by
  refine z_ofH (by decide) (Nat.le_of_ble_eq_true rfl) ?_
  intro p e s m args below meth c M hr hlk ht hargs hP0 hE hN ls hl
  have hP : va_P D vwCl ((rooW ad 0 cy fm fr) ++ ((sndW ad 19 cy 12 sm pl pw an hd fq) ++ (outW od 0 cy o))) s.heap := hP0.1
  have hD : va_D (zIn ((rooW ad 0 cy fm fr) ++ ((sndW ad 19 cy 12 sm pl pw an hd fq) ++ (outW od 0 cy o)))) ((rooW ad 0 cy fm fr) ++ ((sndW ad 19 cy 12 sm pl pw an hd fq) ++ (outW od 0 cy o))) := hP0.self
  have hAz := hP0.A
  have hS : va_S (zIn ((rooW ad 0 cy fm fr) ++ ((sndW ad 19 cy 12 sm pl pw an hd fq) ++ (outW od 0 cy o)))) s.heap s.heap [] := va_S.rf
  have hl : lv_has ls 7 [(0, .ref (ad 0)), (1, .int (iI q)), (2, .int (iI v)), (3, .int (iI a)), (4, .int (iI d)), (5, .ref (od 0))] := hl
  refine lv_aload M.1 M.2.1 dL_station_0 (lv_at hl 5 rfl) ?_
  refine zi_push M dL_station_2 ?_
  refine lv_aload_n M.1 M.2.1 dL_station_3 rfl (lv_at hl 0 rfl) ?_
  refine lv_iload_n M.1 M.2.1 dL_station_4 rfl (lv_at hl 1 rfl) ?_
  refine lv_iload_n M.1 M.2.1 dL_station_5 rfl (lv_at hl 2 rfl) ?_
  refine lv_iload_n M.1 M.2.1 dL_station_6 rfl (lv_at hl 3 rfl) ?_
  refine lv_iload M.1 M.2.1 dL_station_7 (lv_at hl 4 rfl) ?_
  refine z_tW (zx_runV (As := [.int (iI q), .int (iI v), .int (iI a), .int (iI d)]) (rest := [.int (iI 0), .ref (od 0)]) M (c_X6_station l hst D cy z0 ad fm fr sm pl pw an hd fq q v a d r_q r_v r_a r_d hsm) hE hS hAz (z_cut hP hD hAz [0, 1, 2, 3, 4, 5, 6] rfl (by decide +kernel)) (zRc.of (ci := 6) (q0 := 0) hE hP rfl rfl) zk_cd_X6_station zk_in_RX6 zk_im_X6_station zk_se_X6_station zk_ml_RL_41 rfl rfl zd_X6_station ⟨by decide, by decide⟩ rfl hl.1 rfl (Nat.le_of_ble_eq_true rfl) dL_station_9 ⟨by decide, by decide⟩) hP hD hS [0, 1, 2, 3, 4, 5, 6] rfl (fun _ => rfl) (fun r1 u1 H locs hp hP hD hS => ?_) (fun Ex qx ce H locs hC hP hS hce hcv hcl => ?_)
  ·
    have hP : va_P D vwCl ((rooW ad 0 cy fm fr) ++ ((sndW ad 19 cy 12 (sm + 1) (zu pl sm q) (zu pw sm v) (zu an sm a) (zu hd sm d) (zu fq sm (-1))) ++ (outW od 0 cy o))) H := hP
    have hD : va_D (zIn ((rooW ad 0 cy fm fr) ++ ((sndW ad 19 cy 12 sm pl pw an hd fq) ++ (outW od 0 cy o)))) ((rooW ad 0 cy fm fr) ++ ((sndW ad 19 cy 12 (sm + 1) (zu pl sm q) (zu pw sm v) (zu an sm a) (zu hd sm d) (zu fq sm (-1))) ++ (outW od 0 cy o))) := hD
    obtain ⟨hN1, rfl⟩ := hp
    refine zi_i2l M dL_station_12 ?_
    refine zi_last (ws' := ((rooW ad 0 cy fm fr) ++ ((sndW ad 19 cy 12 (sm + 1) (zu pl sm q) (zu pw sm v) (zu an sm a) (zu hd sm d) (zu fq sm (-1))) ++ (outW od 0 cy sm)))) M hE hP hD hS 7 rfl rfl dL_station_13 (fun H locs hP hD hS => ?_)
    refine zi_goto (tgt := 29) M dL_station_14 (by decide) ?_
    refine zi_push M dL_station_29 ?_
    have hP : va_P D vwCl ((rooW ad 0 cy fm fr) ++ ((sndW ad 19 cy 12 (if ((0 : Int), (sm : Int), (fun (_ : Nat) => (0 : Int))).1 = 0 then (sm + 1) else sm) (if ((0 : Int), (sm : Int), (fun (_ : Nat) => (0 : Int))).1 = 0 then (zu pl sm q) else pl) (if ((0 : Int), (sm : Int), (fun (_ : Nat) => (0 : Int))).1 = 0 then (zu pw sm v) else pw) (if ((0 : Int), (sm : Int), (fun (_ : Nat) => (0 : Int))).1 = 0 then (zu an sm a) else an) (if ((0 : Int), (sm : Int), (fun (_ : Nat) => (0 : Int))).1 = 0 then (zu hd sm d) else hd) (if ((0 : Int), (sm : Int), (fun (_ : Nat) => (0 : Int))).1 = 0 then (zu fq sm (-1)) else fq)) ++ (outW od 0 cy ((0 : Int), (sm : Int), (fun (_ : Nat) => (0 : Int))).2.1))) H := hP
    exact vx_ret (zw_i M hr hlk ((0 : Int), (sm : Int), (fun (_ : Nat) => (0 : Int))) hP hS (Or.inl ⟨rfl, rfl, hN1, rfl⟩) (by decide) (by decide) dL_station_30)
  ·
    rcases hC with ⟨rfl, hC1⟩ | ⟨rfl, hC1⟩ | ⟨rfl, hC1⟩
    ·
      refine vx_catch (own := RL) (name := eIB) (E := eIB) M.2.2.2.1 [] ⟨0, 14, 17, 26⟩ [⟨0, 14, 21, 13⟩, ⟨0, 14, 25, 39⟩] (ht.trans rfl) (fun z hz => nomatch hz) (by decide) (by decide) (M.w zk_cl_RL_26) (M.w zk_ca_402) hce hcv hcl ?_
      refine lv_astore (lv' := [(6, .ref qx), (0, .ref (ad 0)), (1, .int (iI q)), (2, .int (iI v)), (3, .int (iI a)), (4, .int (iI d)), (5, .ref (od 0))]) M.1 M.2.1 dL_station_17 hl (by decide) rfl (fun ls hl => ?_)
      refine zi_push M dL_station_19 ?_
      have hP : va_P D vwCl ((rooW ad 0 cy fm fr) ++ ((sndW ad 19 cy 12 (if ((1 : Int), (o : Int), (fun (_ : Nat) => (0 : Int))).1 = 0 then (sm + 1) else sm) (if ((1 : Int), (o : Int), (fun (_ : Nat) => (0 : Int))).1 = 0 then (zu pl sm q) else pl) (if ((1 : Int), (o : Int), (fun (_ : Nat) => (0 : Int))).1 = 0 then (zu pw sm v) else pw) (if ((1 : Int), (o : Int), (fun (_ : Nat) => (0 : Int))).1 = 0 then (zu an sm a) else an) (if ((1 : Int), (o : Int), (fun (_ : Nat) => (0 : Int))).1 = 0 then (zu hd sm d) else hd) (if ((1 : Int), (o : Int), (fun (_ : Nat) => (0 : Int))).1 = 0 then (zu fq sm (-1)) else fq)) ++ (outW od 0 cy ((1 : Int), (o : Int), (fun (_ : Nat) => (0 : Int))).2.1))) H := hP
      exact vx_ret (zw_i M hr hlk ((1 : Int), (o : Int), (fun (_ : Nat) => (0 : Int))) hP hS (Or.inr (Or.inl ⟨rfl, rfl, hC1, rfl⟩)) (by decide) (by decide) dL_station_20)
    ·
      refine vx_catch (own := RL) (name := eIA) (E := eIA) M.2.2.2.1 [⟨0, 14, 17, 26⟩] ⟨0, 14, 21, 13⟩ [⟨0, 14, 25, 39⟩] (ht.trans rfl) (fun z hz => by rw [List.mem_singleton.mp hz]; exact Or.inr ⟨by decide, _, M.w zk_cl_RL_26, hN.1⟩) (by decide) (by decide) (M.w zk_cl_RL_13) (M.w zk_ca_297) hce hcv hcl ?_
      refine lv_astore (lv' := [(6, .ref qx), (0, .ref (ad 0)), (1, .int (iI q)), (2, .int (iI v)), (3, .int (iI a)), (4, .int (iI d)), (5, .ref (od 0))]) M.1 M.2.1 dL_station_21 hl (by decide) rfl (fun ls hl => ?_)
      refine zi_push M dL_station_23 ?_
      have hP : va_P D vwCl ((rooW ad 0 cy fm fr) ++ ((sndW ad 19 cy 12 (if ((2 : Int), (o : Int), (fun (_ : Nat) => (0 : Int))).1 = 0 then (sm + 1) else sm) (if ((2 : Int), (o : Int), (fun (_ : Nat) => (0 : Int))).1 = 0 then (zu pl sm q) else pl) (if ((2 : Int), (o : Int), (fun (_ : Nat) => (0 : Int))).1 = 0 then (zu pw sm v) else pw) (if ((2 : Int), (o : Int), (fun (_ : Nat) => (0 : Int))).1 = 0 then (zu an sm a) else an) (if ((2 : Int), (o : Int), (fun (_ : Nat) => (0 : Int))).1 = 0 then (zu hd sm d) else hd) (if ((2 : Int), (o : Int), (fun (_ : Nat) => (0 : Int))).1 = 0 then (zu fq sm (-1)) else fq)) ++ (outW od 0 cy ((2 : Int), (o : Int), (fun (_ : Nat) => (0 : Int))).2.1))) H := hP
      exact vx_ret (zw_i M hr hlk ((2 : Int), (o : Int), (fun (_ : Nat) => (0 : Int))) hP hS (Or.inr (Or.inr (Or.inl ⟨rfl, rfl, hC1, rfl⟩))) (by decide) (by decide) dL_station_24)
    ·
      refine vx_catch (own := RL) (name := eIS) (E := eIS) M.2.2.2.1 [⟨0, 14, 17, 26⟩, ⟨0, 14, 21, 13⟩] ⟨0, 14, 25, 39⟩ [] (ht.trans rfl) (fun z hz => by rcases List.mem_cons.mp hz with hz | hz; (rw [hz]; exact Or.inr ⟨by decide, _, M.w zk_cl_RL_26, hN.2.1⟩); (rw [List.mem_singleton.mp hz]; exact Or.inr ⟨by decide, _, M.w zk_cl_RL_13, hN.2.2⟩)) (by decide) (by decide) (M.w zk_cl_RL_39) (M.w zk_ca_444) hce hcv hcl ?_
      refine lv_astore (lv' := [(6, .ref qx), (0, .ref (ad 0)), (1, .int (iI q)), (2, .int (iI v)), (3, .int (iI a)), (4, .int (iI d)), (5, .ref (od 0))]) M.1 M.2.1 dL_station_25 hl (by decide) rfl (fun ls hl => ?_)
      refine zi_push M dL_station_27 ?_
      have hP : va_P D vwCl ((rooW ad 0 cy fm fr) ++ ((sndW ad 19 cy 12 (if ((3 : Int), (o : Int), (fun (_ : Nat) => (0 : Int))).1 = 0 then (sm + 1) else sm) (if ((3 : Int), (o : Int), (fun (_ : Nat) => (0 : Int))).1 = 0 then (zu pl sm q) else pl) (if ((3 : Int), (o : Int), (fun (_ : Nat) => (0 : Int))).1 = 0 then (zu pw sm v) else pw) (if ((3 : Int), (o : Int), (fun (_ : Nat) => (0 : Int))).1 = 0 then (zu an sm a) else an) (if ((3 : Int), (o : Int), (fun (_ : Nat) => (0 : Int))).1 = 0 then (zu hd sm d) else hd) (if ((3 : Int), (o : Int), (fun (_ : Nat) => (0 : Int))).1 = 0 then (zu fq sm (-1)) else fq)) ++ (outW od 0 cy ((3 : Int), (o : Int), (fun (_ : Nat) => (0 : Int))).2.1))) H := hP
      exact vx_ret (zw_i M hr hlk ((3 : Int), (o : Int), (fun (_ : Nat) => (0 : Int))) hP hS (Or.inr (Or.inr (Or.inr (⟨rfl, rfl, hC1, rfl⟩)))) (by decide) (by decide) dL_station_28)

set_option maxRecDepth 100000 in
set_option maxHeartbeats 8000000 in
theorem c_L_beacon (l : Launch) (hst : l.stackTraces = false) (D : va_G) (cy : Nat → ClassId) (z0 : Nat) (ad od : Nat → Nat) (fm fr bsm o : Int) (bpl bpw ban bhd bfq : Int → Int) (q : Int) (f : Int) (v : Int) (r_q : r32 q) (r_f : r32 f) (r_v : r32 v) (hbm : 0 ≤ bsm ∧ bsm ≤ 6) : vx_Met l yL_beacon [.codeWith yL_beacon cL_beacon 6 (some .int) [(0, 12, 15, 26), (0, 12, 19, 13), (0, 12, 23, 39)]] (zRm 9 4 24 155) (zPcN [.ref (ad 0), .int (iI q), .int (iI f), .int (iI v), .ref (od 0)] D cy z0 (zWl D z0 ((rooW ad 0 cy fm fr) ++ ((sndW ad 25 cy 6 bsm bpl bpw ban bhd bfq) ++ (outW od 0 cy o))))) (zQ1 D ((rooW ad 0 cy fm fr) ++ ((sndW ad 25 cy 6 bsm bpl bpw ban bhd bfq) ++ (outW od 0 cy o))) (fun (r : Int32) (u : Int × Int × (Nat → Int)) => (u.1 = 0 ∧ r = iI 0 ∧ ((0 ≤ q ∧ q < 48) ∧ ((10 ≤ f ∧ f ≤ 300) ∧ (1 ≤ v ∧ v ≤ 80)) ∧ (bsm < 6)) ∧ u.2.1 = bsm) ∨ (u.1 = 1 ∧ r = iI 1 ∧ (¬ (0 ≤ q ∧ q < 48)) ∧ u.2.1 = o) ∨ (u.1 = 2 ∧ r = iI 2 ∧ ((0 ≤ q ∧ q < 48) ∧ ¬ ((10 ≤ f ∧ f ≤ 300) ∧ (1 ≤ v ∧ v ≤ 80))) ∧ u.2.1 = o) ∨ (u.1 = 3 ∧ r = iI 3 ∧ ((0 ≤ q ∧ q < 48) ∧ ((10 ≤ f ∧ f ≤ 300) ∧ (1 ≤ v ∧ v ≤ 80)) ∧ ¬ (bsm < 6)) ∧ u.2.1 = o)) (fun (u : Int × Int × (Nat → Int)) => ((rooW ad 0 cy fm fr) ++ ((sndW ad 25 cy 6 (if u.1 = 0 then (bsm + 1) else bsm) (if u.1 = 0 then (zu bpl bsm q) else bpl) (if u.1 = 0 then (zu bpw bsm v) else bpw) (if u.1 = 0 then (zu ban bsm 2) else ban) (if u.1 = 0 then (zu bhd bsm 2) else bhd) (if u.1 = 0 then (zu bfq bsm f) else bfq)) ++ (outW od 0 cy u.2.1))))) (fun _ _ _ => False) 4 24 (zIn ((rooW ad 0 cy fm fr) ++ ((sndW ad 25 cy 6 bsm bpl bpw ban bhd bfq) ++ (outW od 0 cy o)))) := by
  refine z_ofH (by decide) (Nat.le_of_ble_eq_true rfl) ?_
  intro p e s m args below meth c M hr hlk ht hargs hP0 hE hN ls hl
  have hP : va_P D vwCl ((rooW ad 0 cy fm fr) ++ ((sndW ad 25 cy 6 bsm bpl bpw ban bhd bfq) ++ (outW od 0 cy o))) s.heap := hP0.1
  have hD : va_D (zIn ((rooW ad 0 cy fm fr) ++ ((sndW ad 25 cy 6 bsm bpl bpw ban bhd bfq) ++ (outW od 0 cy o)))) ((rooW ad 0 cy fm fr) ++ ((sndW ad 25 cy 6 bsm bpl bpw ban bhd bfq) ++ (outW od 0 cy o))) := hP0.self
  have hAz := hP0.A
  have hS : va_S (zIn ((rooW ad 0 cy fm fr) ++ ((sndW ad 25 cy 6 bsm bpl bpw ban bhd bfq) ++ (outW od 0 cy o)))) s.heap s.heap [] := va_S.rf
  have hl : lv_has ls 6 [(0, .ref (ad 0)), (1, .int (iI q)), (2, .int (iI f)), (3, .int (iI v)), (4, .ref (od 0))] := hl
  refine lv_aload M.1 M.2.1 dL_beacon_0 (lv_at hl 4 rfl) ?_
  refine zi_push M dL_beacon_2 ?_
  refine lv_aload_n M.1 M.2.1 dL_beacon_3 rfl (lv_at hl 0 rfl) ?_
  refine lv_iload_n M.1 M.2.1 dL_beacon_4 rfl (lv_at hl 1 rfl) ?_
  refine lv_iload_n M.1 M.2.1 dL_beacon_5 rfl (lv_at hl 2 rfl) ?_
  refine lv_iload_n M.1 M.2.1 dL_beacon_6 rfl (lv_at hl 3 rfl) ?_
  refine z_tW (zx_runV (As := [.int (iI q), .int (iI f), .int (iI v)]) (rest := [.int (iI 0), .ref (od 0)]) M (c_X6_beacon l hst D cy z0 ad fm fr bsm bpl bpw ban bhd bfq q f v r_q r_f r_v hbm) hE hS hAz (z_cut hP hD hAz [0, 1, 2, 3, 4, 5, 6] rfl (by decide +kernel)) (zRc.of (ci := 6) (q0 := 0) hE hP rfl rfl) zk_cd_X6_beacon zk_in_RX6 zk_im_X6_beacon zk_se_X6_beacon zk_ml_RL_45 rfl rfl zd_X6_beacon ⟨by decide, by decide⟩ rfl hl.1 rfl (Nat.le_of_ble_eq_true rfl) dL_beacon_7 ⟨by decide, by decide⟩) hP hD hS [0, 1, 2, 3, 4, 5, 6] rfl (fun _ => rfl) (fun r1 u1 H locs hp hP hD hS => ?_) (fun Ex qx ce H locs hC hP hS hce hcv hcl => ?_)
  ·
    have hP : va_P D vwCl ((rooW ad 0 cy fm fr) ++ ((sndW ad 25 cy 6 (bsm + 1) (zu bpl bsm q) (zu bpw bsm v) (zu ban bsm 2) (zu bhd bsm 2) (zu bfq bsm f)) ++ (outW od 0 cy o))) H := hP
    have hD : va_D (zIn ((rooW ad 0 cy fm fr) ++ ((sndW ad 25 cy 6 bsm bpl bpw ban bhd bfq) ++ (outW od 0 cy o)))) ((rooW ad 0 cy fm fr) ++ ((sndW ad 25 cy 6 (bsm + 1) (zu bpl bsm q) (zu bpw bsm v) (zu ban bsm 2) (zu bhd bsm 2) (zu bfq bsm f)) ++ (outW od 0 cy o))) := hD
    obtain ⟨hN1, rfl⟩ := hp
    refine zi_i2l M dL_beacon_10 ?_
    refine zi_last (ws' := ((rooW ad 0 cy fm fr) ++ ((sndW ad 25 cy 6 (bsm + 1) (zu bpl bsm q) (zu bpw bsm v) (zu ban bsm 2) (zu bhd bsm 2) (zu bfq bsm f)) ++ (outW od 0 cy bsm)))) M hE hP hD hS 7 rfl rfl dL_beacon_11 (fun H locs hP hD hS => ?_)
    refine zi_goto (tgt := 27) M dL_beacon_12 (by decide) ?_
    refine zi_push M dL_beacon_27 ?_
    have hP : va_P D vwCl ((rooW ad 0 cy fm fr) ++ ((sndW ad 25 cy 6 (if ((0 : Int), (bsm : Int), (fun (_ : Nat) => (0 : Int))).1 = 0 then (bsm + 1) else bsm) (if ((0 : Int), (bsm : Int), (fun (_ : Nat) => (0 : Int))).1 = 0 then (zu bpl bsm q) else bpl) (if ((0 : Int), (bsm : Int), (fun (_ : Nat) => (0 : Int))).1 = 0 then (zu bpw bsm v) else bpw) (if ((0 : Int), (bsm : Int), (fun (_ : Nat) => (0 : Int))).1 = 0 then (zu ban bsm 2) else ban) (if ((0 : Int), (bsm : Int), (fun (_ : Nat) => (0 : Int))).1 = 0 then (zu bhd bsm 2) else bhd) (if ((0 : Int), (bsm : Int), (fun (_ : Nat) => (0 : Int))).1 = 0 then (zu bfq bsm f) else bfq)) ++ (outW od 0 cy ((0 : Int), (bsm : Int), (fun (_ : Nat) => (0 : Int))).2.1))) H := hP
    exact vx_ret (zw_i M hr hlk ((0 : Int), (bsm : Int), (fun (_ : Nat) => (0 : Int))) hP hS (Or.inl ⟨rfl, rfl, hN1, rfl⟩) (by decide) (by decide) dL_beacon_28)
  ·
    rcases hC with ⟨rfl, hC1⟩ | ⟨rfl, hC1⟩ | ⟨rfl, hC1⟩
    ·
      refine vx_catch (own := RL) (name := eIB) (E := eIB) M.2.2.2.1 [] ⟨0, 12, 15, 26⟩ [⟨0, 12, 19, 13⟩, ⟨0, 12, 23, 39⟩] (ht.trans rfl) (fun z hz => nomatch hz) (by decide) (by decide) (M.w zk_cl_RL_26) (M.w zk_ca_402) hce hcv hcl ?_
      refine lv_astore (lv' := [(5, .ref qx), (0, .ref (ad 0)), (1, .int (iI q)), (2, .int (iI f)), (3, .int (iI v)), (4, .ref (od 0))]) M.1 M.2.1 dL_beacon_15 hl (by decide) rfl (fun ls hl => ?_)
      refine zi_push M dL_beacon_17 ?_
      have hP : va_P D vwCl ((rooW ad 0 cy fm fr) ++ ((sndW ad 25 cy 6 (if ((1 : Int), (o : Int), (fun (_ : Nat) => (0 : Int))).1 = 0 then (bsm + 1) else bsm) (if ((1 : Int), (o : Int), (fun (_ : Nat) => (0 : Int))).1 = 0 then (zu bpl bsm q) else bpl) (if ((1 : Int), (o : Int), (fun (_ : Nat) => (0 : Int))).1 = 0 then (zu bpw bsm v) else bpw) (if ((1 : Int), (o : Int), (fun (_ : Nat) => (0 : Int))).1 = 0 then (zu ban bsm 2) else ban) (if ((1 : Int), (o : Int), (fun (_ : Nat) => (0 : Int))).1 = 0 then (zu bhd bsm 2) else bhd) (if ((1 : Int), (o : Int), (fun (_ : Nat) => (0 : Int))).1 = 0 then (zu bfq bsm f) else bfq)) ++ (outW od 0 cy ((1 : Int), (o : Int), (fun (_ : Nat) => (0 : Int))).2.1))) H := hP
      exact vx_ret (zw_i M hr hlk ((1 : Int), (o : Int), (fun (_ : Nat) => (0 : Int))) hP hS (Or.inr (Or.inl ⟨rfl, rfl, hC1, rfl⟩)) (by decide) (by decide) dL_beacon_18)
    ·
      refine vx_catch (own := RL) (name := eIA) (E := eIA) M.2.2.2.1 [⟨0, 12, 15, 26⟩] ⟨0, 12, 19, 13⟩ [⟨0, 12, 23, 39⟩] (ht.trans rfl) (fun z hz => by rw [List.mem_singleton.mp hz]; exact Or.inr ⟨by decide, _, M.w zk_cl_RL_26, hN.1⟩) (by decide) (by decide) (M.w zk_cl_RL_13) (M.w zk_ca_297) hce hcv hcl ?_
      refine lv_astore (lv' := [(5, .ref qx), (0, .ref (ad 0)), (1, .int (iI q)), (2, .int (iI f)), (3, .int (iI v)), (4, .ref (od 0))]) M.1 M.2.1 dL_beacon_19 hl (by decide) rfl (fun ls hl => ?_)
      refine zi_push M dL_beacon_21 ?_
      have hP : va_P D vwCl ((rooW ad 0 cy fm fr) ++ ((sndW ad 25 cy 6 (if ((2 : Int), (o : Int), (fun (_ : Nat) => (0 : Int))).1 = 0 then (bsm + 1) else bsm) (if ((2 : Int), (o : Int), (fun (_ : Nat) => (0 : Int))).1 = 0 then (zu bpl bsm q) else bpl) (if ((2 : Int), (o : Int), (fun (_ : Nat) => (0 : Int))).1 = 0 then (zu bpw bsm v) else bpw) (if ((2 : Int), (o : Int), (fun (_ : Nat) => (0 : Int))).1 = 0 then (zu ban bsm 2) else ban) (if ((2 : Int), (o : Int), (fun (_ : Nat) => (0 : Int))).1 = 0 then (zu bhd bsm 2) else bhd) (if ((2 : Int), (o : Int), (fun (_ : Nat) => (0 : Int))).1 = 0 then (zu bfq bsm f) else bfq)) ++ (outW od 0 cy ((2 : Int), (o : Int), (fun (_ : Nat) => (0 : Int))).2.1))) H := hP
      exact vx_ret (zw_i M hr hlk ((2 : Int), (o : Int), (fun (_ : Nat) => (0 : Int))) hP hS (Or.inr (Or.inr (Or.inl ⟨rfl, rfl, hC1, rfl⟩))) (by decide) (by decide) dL_beacon_22)
    ·
      refine vx_catch (own := RL) (name := eIS) (E := eIS) M.2.2.2.1 [⟨0, 12, 15, 26⟩, ⟨0, 12, 19, 13⟩] ⟨0, 12, 23, 39⟩ [] (ht.trans rfl) (fun z hz => by rcases List.mem_cons.mp hz with hz | hz; (rw [hz]; exact Or.inr ⟨by decide, _, M.w zk_cl_RL_26, hN.2.1⟩); (rw [List.mem_singleton.mp hz]; exact Or.inr ⟨by decide, _, M.w zk_cl_RL_13, hN.2.2⟩)) (by decide) (by decide) (M.w zk_cl_RL_39) (M.w zk_ca_444) hce hcv hcl ?_
      refine lv_astore (lv' := [(5, .ref qx), (0, .ref (ad 0)), (1, .int (iI q)), (2, .int (iI f)), (3, .int (iI v)), (4, .ref (od 0))]) M.1 M.2.1 dL_beacon_23 hl (by decide) rfl (fun ls hl => ?_)
      refine zi_push M dL_beacon_25 ?_
      have hP : va_P D vwCl ((rooW ad 0 cy fm fr) ++ ((sndW ad 25 cy 6 (if ((3 : Int), (o : Int), (fun (_ : Nat) => (0 : Int))).1 = 0 then (bsm + 1) else bsm) (if ((3 : Int), (o : Int), (fun (_ : Nat) => (0 : Int))).1 = 0 then (zu bpl bsm q) else bpl) (if ((3 : Int), (o : Int), (fun (_ : Nat) => (0 : Int))).1 = 0 then (zu bpw bsm v) else bpw) (if ((3 : Int), (o : Int), (fun (_ : Nat) => (0 : Int))).1 = 0 then (zu ban bsm 2) else ban) (if ((3 : Int), (o : Int), (fun (_ : Nat) => (0 : Int))).1 = 0 then (zu bhd bsm 2) else bhd) (if ((3 : Int), (o : Int), (fun (_ : Nat) => (0 : Int))).1 = 0 then (zu bfq bsm f) else bfq)) ++ (outW od 0 cy ((3 : Int), (o : Int), (fun (_ : Nat) => (0 : Int))).2.1))) H := hP
      exact vx_ret (zw_i M hr hlk ((3 : Int), (o : Int), (fun (_ : Nat) => (0 : Int))) hP hS (Or.inr (Or.inr (Or.inr (⟨rfl, rfl, hC1, rfl⟩)))) (by decide) (by decide) dL_beacon_26)
