/-! contracts: the model, what everybody may call -/
set_option maxRecDepth 100000 in
set_option maxHeartbeats 4000000 in
theorem c_X7_sun (l : Launch) (D : va_G) (cy : Nat → ClassId) (z0 : Nat) (ad : Nat → Nat) (th h su st sh fl ic sn bn fm fr cm em lg le lf dl : Int) (cS cH sea noi pl pw an hd bp bo bw c1 c2 c3 c4 c5 e1 e2 e3 e4 e5 : Int → Int) (v : Int) (r_v : r32 v) : Met l yX7_sun [.code yX7_sun cX7_sun 3 (some .int)] (zRm 1 0 0 22) (zPc [.ref (ad 0), .int (iI v)] D cy z0 (zWl D z0 (mdlW ad 0 cy th h su st sh fl ic sn bn fm fr cm em lg le lf dl cS cH sea noi pl pw an hd bp bo bw c1 c2 c3 c4 c5 e1 e2 e3 e4 e5))) (zQ1 D (mdlW ad 0 cy th h su st sh fl ic sn bn fm fr cm em lg le lf dl cS cH sea noi pl pw an hd bp bo bw c1 c2 c3 c4 c5 e1 e2 e3 e4 e5) (fun (r : Int32) (u : Int) => (u = 0 ∧ ((0 ≤ v ∧ v ≤ 100)) ∧ r = iI su) ∨ (u = 1 ∧ (¬ (0 ≤ v ∧ v ≤ 100)) ∧ r = iI 0)) (fun (u : Int) => (mdlW ad 0 cy u h (if u = 0 then v else su) st sh fl ic sn bn fm fr cm em lg le lf dl cS cH sea noi pl pw an hd bp bo bw c1 c2 c3 c4 c5 e1 e2 e3 e4 e5))) 0 0 (zIn (mdlW ad 0 cy th h su st sh fl ic sn bn fm fr cm em lg le lf dl cS cH sea noi pl pw an hd bp bo bw c1 c2 c3 c4 c5 e1 e2 e3 e4 e5)) := by
  refine z_of (by decide) (Nat.le_of_ble_eq_true rfl) ?_
  intro p e s m args below meth c M hr hlk hini hargs hP0 hE ls hl
  have hP : va_P D vwCl (mdlW ad 0 cy th h su st sh fl ic sn bn fm fr cm em lg le lf dl cS cH sea noi pl pw an hd bp bo bw c1 c2 c3 c4 c5 e1 e2 e3 e4 e5) s.heap := hP0.1
  have hD : va_D (zIn (mdlW ad 0 cy th h su st sh fl ic sn bn fm fr cm em lg le lf dl cS cH sea noi pl pw an hd bp bo bw c1 c2 c3 c4 c5 e1 e2 e3 e4 e5)) (mdlW ad 0 cy th h su st sh fl ic sn bn fm fr cm em lg le lf dl cS cH sea noi pl pw an hd bp bo bw c1 c2 c3 c4 c5 e1 e2 e3 e4 e5) := hP0.self
  have hAz := hP0.A
  have hS : va_S (zIn (mdlW ad 0 cy th h su st sh fl ic sn bn fm fr cm em lg le lf dl cS cH sea noi pl pw an hd bp bo bw c1 c2 c3 c4 c5 e1 e2 e3 e4 e5)) s.heap s.heap [] := va_S.rf
  have hl : lv_has ls 3 [(0, .ref (ad 0)), (1, .int (iI v))] := hl
  refine lv_aload_n M.1 M.2.1 dX7_sun_0 rfl (lv_at hl 0 rfl) ?_
  refine lv_iload_n M.1 M.2.1 dX7_sun_1 rfl (lv_at hl 1 rfl) ?_
  refine zi_push M dX7_sun_2 ?_
  refine zi_bipush M dX7_sun_3 ⟨by decide, by decide⟩ ?_
  refine z_cR (z_runS (As := [.int (iI v), .int (iI 0), .int (iI 100)]) (rest := [.ref (ad 0)]) M (c_X7_in l D cy z0 v 0 100 (by omega) (by omega) (by omega)) hE hS hAz trivial zk_cd_X7_in zk_in_RX7 zk_st_X7_in zk_ml_RX7_81 rfl rfl zd_X7_in ⟨by decide, by decide⟩ rfl hl.1 rfl (Nat.le_of_ble_eq_true rfl) dX7_sun_5 ⟨by decide, by decide⟩) ?_
  refine zi_b (P := 0 ≤ v ∧ v ≤ 100) (g := fun r => F0 m 8 ls (.int r :: [.ref (ad 0)])) (fun b_1 => ?_) (fun b_1 => ?_)
  ·
    refine zi_if_eq (tgt := 15) M dX7_sun_8 (by decide) ⟨by decide, by decide⟩ (fun q => absurd q (by decide)) (fun _ => ?_)
    refine zi_push M dX7_sun_11 ?_
    refine zi_goto (tgt := 16) M dX7_sun_12 (by decide) ?_
    refine z_cW (z_runV (As := [.int (iI 0)]) (rest := []) M (c_X7_goesWell l D cy z0 ad th h su st sh fl ic sn bn fm fr cm em lg le lf dl cS cH sea noi pl pw an hd bp bo bw c1 c2 c3 c4 c5 e1 e2 e3 e4 e5 0 (by omega)) hE hS hAz (z_cut hP hD hAz [0, 1, 2, 3, 4, 5, 6, 7, 8, 9, 10, 11, 12, 13, 14, 15, 16, 17, 18, 19, 20, 21] rfl (by decide +kernel)) (zRc.of (ci := 7) (q0 := 0) hE hP rfl rfl) zk_cd_X7_goesWell zk_in_RX7 zk_im_X7_goesWell zk_se_X7_goesWell zk_ml_RX7_88 rfl rfl zd_X7_goesWell ⟨by decide, by decide⟩ rfl hl.1 rfl (Nat.le_of_ble_eq_true rfl) dX7_sun_16 ⟨by decide, by decide⟩) hP hD hS [0, 1, 2, 3, 4, 5, 6, 7, 8, 9, 10, 11, 12, 13, 14, 15, 16, 17, 18, 19, 20, 21] rfl (fun _ => rfl) (fun r_2 u_2 H locs hp_2 hP hD hS => ?_)
    have hP : va_P D vwCl (mdlW ad 0 cy 0 h su st sh fl ic sn bn fm fr cm em lg le lf dl cS cH sea noi pl pw an hd bp bo bw c1 c2 c3 c4 c5 e1 e2 e3 e4 e5) H := hP
    have hD : va_D (zIn (mdlW ad 0 cy th h su st sh fl ic sn bn fm fr cm em lg le lf dl cS cH sea noi pl pw an hd bp bo bw c1 c2 c3 c4 c5 e1 e2 e3 e4 e5)) (mdlW ad 0 cy 0 h su st sh fl ic sn bn fm fr cm em lg le lf dl cS cH sea noi pl pw an hd bp bo bw c1 c2 c3 c4 c5 e1 e2 e3 e4 e5) := hD
    subst hp_2
    refine z_rw (b := 1) rfl ?_
    refine zi_if_ne (tgt := 24) M dX7_sun_19 (by decide) ⟨by decide, by decide⟩ (fun _ => ?_) (fun q => absurd q (by decide))
    refine lv_aload_n M.1 M.2.1 dX7_sun_24 rfl (lv_at hl 0 rfl) ?_
    refine zi_get (ci := 7) (v := .int (iI su)) M hE hP 0 rfl rfl zu_X7 2 (by decide) zk_fl_RX7_7 rfl rfl dX7_sun_25 ?_
    refine lv_istore_n (lv' := [(2, .int (iI su)), (0, .ref (ad 0)), (1, .int (iI v))]) M.1 M.2.1 dX7_sun_28 rfl hl (by decide) rfl (fun ls hl => ?_)
    refine lv_aload_n M.1 M.2.1 dX7_sun_29 rfl (lv_at hl 1 rfl) ?_
    refine lv_iload_n M.1 M.2.1 dX7_sun_30 rfl (lv_at hl 2 rfl) ?_
    refine zi_put (ci := 7) (ws' := (mdlW ad 0 cy 0 h v st sh fl ic sn bn fm fr cm em lg le lf dl cS cH sea noi pl pw an hd bp bo bw c1 c2 c3 c4 c5 e1 e2 e3 e4 e5)) M hE hP hD hS 0 rfl rfl zu_X7 2 (by decide) zk_fl_RX7_7 rfl rfl tyX7_ok nmX7 rfl rfl (Nat.le_of_ble_eq_true rfl) rfl dX7_sun_31 (fun H locs hP hD hS => ?_)
    refine lv_iload_n M.1 M.2.1 dX7_sun_34 rfl (lv_at hl 0 rfl) ?_
    have hP : va_P D vwCl (mdlW ad 0 cy 0 h (if 0 = 0 then v else su) st sh fl ic sn bn fm fr cm em lg le lf dl cS cH sea noi pl pw an hd bp bo bw c1 c2 c3 c4 c5 e1 e2 e3 e4 e5) H := hP
    exact zw_i M hr hlk 0 hP hS (by exact Or.inl ⟨rfl, by omega, congrArg iI (show (su : Int) = su by rfl)⟩) (by decide) (by decide) dX7_sun_35
  ·
    refine zi_if_eq (tgt := 15) M dX7_sun_8 (by decide) ⟨by decide, by decide⟩ (fun _ => ?_) (fun q => absurd q (by decide))
    refine zi_push M dX7_sun_15 ?_
    refine z_cW (z_runV (As := [.int (iI 1)]) (rest := []) M (c_X7_goesWell l D cy z0 ad th h su st sh fl ic sn bn fm fr cm em lg le lf dl cS cH sea noi pl pw an hd bp bo bw c1 c2 c3 c4 c5 e1 e2 e3 e4 e5 1 (by omega)) hE hS hAz (z_cut hP hD hAz [0, 1, 2, 3, 4, 5, 6, 7, 8, 9, 10, 11, 12, 13, 14, 15, 16, 17, 18, 19, 20, 21] rfl (by decide +kernel)) (zRc.of (ci := 7) (q0 := 0) hE hP rfl rfl) zk_cd_X7_goesWell zk_in_RX7 zk_im_X7_goesWell zk_se_X7_goesWell zk_ml_RX7_88 rfl rfl zd_X7_goesWell ⟨by decide, by decide⟩ rfl hl.1 rfl (Nat.le_of_ble_eq_true rfl) dX7_sun_16 ⟨by decide, by decide⟩) hP hD hS [0, 1, 2, 3, 4, 5, 6, 7, 8, 9, 10, 11, 12, 13, 14, 15, 16, 17, 18, 19, 20, 21] rfl (fun _ => rfl) (fun r_3 u_3 H locs hp_3 hP hD hS => ?_)
    have hP : va_P D vwCl (mdlW ad 0 cy 1 h su st sh fl ic sn bn fm fr cm em lg le lf dl cS cH sea noi pl pw an hd bp bo bw c1 c2 c3 c4 c5 e1 e2 e3 e4 e5) H := hP
    have hD : va_D (zIn (mdlW ad 0 cy th h su st sh fl ic sn bn fm fr cm em lg le lf dl cS cH sea noi pl pw an hd bp bo bw c1 c2 c3 c4 c5 e1 e2 e3 e4 e5)) (mdlW ad 0 cy 1 h su st sh fl ic sn bn fm fr cm em lg le lf dl cS cH sea noi pl pw an hd bp bo bw c1 c2 c3 c4 c5 e1 e2 e3 e4 e5) := hD
    subst hp_3
    refine z_rw (b := 0) rfl ?_
    refine zi_if_ne (tgt := 24) M dX7_sun_19 (by decide) ⟨by decide, by decide⟩ (fun q => absurd q (by decide)) (fun _ => ?_)
    refine zi_push M dX7_sun_22 ?_
    have hP : va_P D vwCl (mdlW ad 0 cy 1 h (if 1 = 0 then v else su) st sh fl ic sn bn fm fr cm em lg le lf dl cS cH sea noi pl pw an hd bp bo bw c1 c2 c3 c4 c5 e1 e2 e3 e4 e5) H := hP
    exact zw_i M hr hlk 1 hP hS (by exact Or.inr (⟨rfl, by omega, rfl⟩)) (by decide) (by decide) dX7_sun_23

set_option maxRecDepth 100000 in
set_option maxHeartbeats 4000000 in
theorem c_X7_storm (l : Launch) (D : va_G) (cy : Nat → ClassId) (z0 : Nat) (ad : Nat → Nat) (th h su st sh fl ic sn bn fm fr cm em lg le lf dl : Int) (cS cH sea noi pl pw an hd bp bo bw c1 c2 c3 c4 c5 e1 e2 e3 e4 e5 : Int → Int) (v : Int) (k : Int) (r_v : r32 v) (r_k : r32 k) : Met l yX7_storm [.code yX7_storm cX7_storm 3 none] (zRm 1 0 0 22) (zPc [.ref (ad 0), .int (iI v), .int (iI k)] D cy z0 (zWl D z0 (mdlW ad 0 cy th h su st sh fl ic sn bn fm fr cm em lg le lf dl cS cH sea noi pl pw an hd bp bo bw c1 c2 c3 c4 c5 e1 e2 e3 e4 e5))) (zQ0 D (mdlW ad 0 cy th h su st sh fl ic sn bn fm fr cm em lg le lf dl cS cH sea noi pl pw an hd bp bo bw c1 c2 c3 c4 c5 e1 e2 e3 e4 e5) (fun (u : Int) => (u = 0 ∧ (((1 ≤ v ∧ v ≤ 60) ∧ (1 ≤ k ∧ k ≤ 72)))) ∨ (u = 1 ∧ (¬ ((1 ≤ v ∧ v ≤ 60) ∧ (1 ≤ k ∧ k ≤ 72))))) (fun (u : Int) => (mdlW ad 0 cy u h su (if u = 0 then v else st) (if u = 0 then k else sh) fl ic sn bn fm fr cm em lg le lf dl cS cH sea noi pl pw an hd bp bo bw c1 c2 c3 c4 c5 e1 e2 e3 e4 e5))) 0 0 (zIn (mdlW ad 0 cy th h su st sh fl ic sn bn fm fr cm em lg le lf dl cS cH sea noi pl pw an hd bp bo bw c1 c2 c3 c4 c5 e1 e2 e3 e4 e5)) := by
  refine z_of (by decide) (Nat.le_of_ble_eq_true rfl) ?_
  intro p e s m args below meth c M hr hlk hini hargs hP0 hE ls hl
  have hP : va_P D vwCl (mdlW ad 0 cy th h su st sh fl ic sn bn fm fr cm em lg le lf dl cS cH sea noi pl pw an hd bp bo bw c1 c2 c3 c4 c5 e1 e2 e3 e4 e5) s.heap := hP0.1
  have hD : va_D (zIn (mdlW ad 0 cy th h su st sh fl ic sn bn fm fr cm em lg le lf dl cS cH sea noi pl pw an hd bp bo bw c1 c2 c3 c4 c5 e1 e2 e3 e4 e5)) (mdlW ad 0 cy th h su st sh fl ic sn bn fm fr cm em lg le lf dl cS cH sea noi pl pw an hd bp bo bw c1 c2 c3 c4 c5 e1 e2 e3 e4 e5) := hP0.self
  have hAz := hP0.A
  have hS : va_S (zIn (mdlW ad 0 cy th h su st sh fl ic sn bn fm fr cm em lg le lf dl cS cH sea noi pl pw an hd bp bo bw c1 c2 c3 c4 c5 e1 e2 e3 e4 e5)) s.heap s.heap [] := va_S.rf
  have hl : lv_has ls 3 [(0, .ref (ad 0)), (1, .int (iI v)), (2, .int (iI k))] := hl
  refine lv_aload_n M.1 M.2.1 dX7_storm_0 rfl (lv_at hl 0 rfl) ?_
  refine lv_iload_n M.1 M.2.1 dX7_storm_1 rfl (lv_at hl 1 rfl) ?_
  refine zi_push M dX7_storm_2 ?_
  refine zi_bipush M dX7_storm_3 ⟨by decide, by decide⟩ ?_
  refine z_cR (z_runS (As := [.int (iI v), .int (iI 1), .int (iI 60)]) (rest := [.ref (ad 0)]) M (c_X7_in l D cy z0 v 1 60 (by omega) (by omega) (by omega)) hE hS hAz trivial zk_cd_X7_in zk_in_RX7 zk_st_X7_in zk_ml_RX7_81 rfl rfl zd_X7_in ⟨by decide, by decide⟩ rfl hl.1 rfl (Nat.le_of_ble_eq_true rfl) dX7_storm_5 ⟨by decide, by decide⟩) ?_
  refine zi_b (P := 1 ≤ v ∧ v ≤ 60) (g := fun r => F0 m 8 ls (.int r :: [.ref (ad 0)])) (fun b_1 => ?_) (fun b_1 => ?_)
  ·
    refine zi_if_eq (tgt := 25) M dX7_storm_8 (by decide) ⟨by decide, by decide⟩ (fun q => absurd q (by decide)) (fun _ => ?_)
    refine lv_iload_n M.1 M.2.1 dX7_storm_11 rfl (lv_at hl 2 rfl) ?_
    refine zi_push M dX7_storm_12 ?_
    refine zi_bipush M dX7_storm_13 ⟨by decide, by decide⟩ ?_
    refine z_cR (z_runS (As := [.int (iI k), .int (iI 1), .int (iI 72)]) (rest := [.ref (ad 0)]) M (c_X7_in l D cy z0 k 1 72 (by omega) (by omega) (by omega)) hE hS hAz trivial zk_cd_X7_in zk_in_RX7 zk_st_X7_in zk_ml_RX7_81 rfl rfl zd_X7_in ⟨by decide, by decide⟩ rfl hl.1 rfl (Nat.le_of_ble_eq_true rfl) dX7_storm_15 ⟨by decide, by decide⟩) ?_
    refine zi_b (P := 1 ≤ k ∧ k ≤ 72) (g := fun r => F0 m 18 ls (.int r :: [.ref (ad 0)])) (fun b_2 => ?_) (fun b_2 => ?_)
    ·
      refine zi_if_eq (tgt := 25) M dX7_storm_18 (by decide) ⟨by decide, by decide⟩ (fun q => absurd q (by decide)) (fun _ => ?_)
      refine zi_push M dX7_storm_21 ?_
      refine zi_goto (tgt := 26) M dX7_storm_22 (by decide) ?_
      refine z_cW (z_runV (As := [.int (iI 0)]) (rest := []) M (c_X7_goesWell l D cy z0 ad th h su st sh fl ic sn bn fm fr cm em lg le lf dl cS cH sea noi pl pw an hd bp bo bw c1 c2 c3 c4 c5 e1 e2 e3 e4 e5 0 (by omega)) hE hS hAz (z_cut hP hD hAz [0, 1, 2, 3, 4, 5, 6, 7, 8, 9, 10, 11, 12, 13, 14, 15, 16, 17, 18, 19, 20, 21] rfl (by decide +kernel)) (zRc.of (ci := 7) (q0 := 0) hE hP rfl rfl) zk_cd_X7_goesWell zk_in_RX7 zk_im_X7_goesWell zk_se_X7_goesWell zk_ml_RX7_88 rfl rfl zd_X7_goesWell ⟨by decide, by decide⟩ rfl hl.1 rfl (Nat.le_of_ble_eq_true rfl) dX7_storm_26 ⟨by decide, by decide⟩) hP hD hS [0, 1, 2, 3, 4, 5, 6, 7, 8, 9, 10, 11, 12, 13, 14, 15, 16, 17, 18, 19, 20, 21] rfl (fun _ => rfl) (fun r_3 u_3 H locs hp_3 hP hD hS => ?_)
      have hP : va_P D vwCl (mdlW ad 0 cy 0 h su st sh fl ic sn bn fm fr cm em lg le lf dl cS cH sea noi pl pw an hd bp bo bw c1 c2 c3 c4 c5 e1 e2 e3 e4 e5) H := hP
      have hD : va_D (zIn (mdlW ad 0 cy th h su st sh fl ic sn bn fm fr cm em lg le lf dl cS cH sea noi pl pw an hd bp bo bw c1 c2 c3 c4 c5 e1 e2 e3 e4 e5)) (mdlW ad 0 cy 0 h su st sh fl ic sn bn fm fr cm em lg le lf dl cS cH sea noi pl pw an hd bp bo bw c1 c2 c3 c4 c5 e1 e2 e3 e4 e5) := hD
      subst hp_3
      refine z_rw (b := 1) rfl ?_
      refine zi_if_eq (tgt := 42) M dX7_storm_29 (by decide) ⟨by decide, by decide⟩ (fun q => absurd q (by decide)) (fun _ => ?_)
      refine lv_aload_n M.1 M.2.1 dX7_storm_32 rfl (lv_at hl 0 rfl) ?_
      refine lv_iload_n M.1 M.2.1 dX7_storm_33 rfl (lv_at hl 1 rfl) ?_
      refine zi_put (ci := 7) (ws' := (mdlW ad 0 cy 0 h su v sh fl ic sn bn fm fr cm em lg le lf dl cS cH sea noi pl pw an hd bp bo bw c1 c2 c3 c4 c5 e1 e2 e3 e4 e5)) M hE hP hD hS 0 rfl rfl zu_X7 3 (by decide) zk_fl_RX7_92 rfl rfl tyX7_ok nmX7 rfl rfl (Nat.le_of_ble_eq_true rfl) rfl dX7_storm_34 (fun H locs hP hD hS => ?_)
      refine lv_aload_n M.1 M.2.1 dX7_storm_37 rfl (lv_at hl 0 rfl) ?_
      refine lv_iload_n M.1 M.2.1 dX7_storm_38 rfl (lv_at hl 2 rfl) ?_
      refine zi_put (ci := 7) (ws' := (mdlW ad 0 cy 0 h su v k fl ic sn bn fm fr cm em lg le lf dl cS cH sea noi pl pw an hd bp bo bw c1 c2 c3 c4 c5 e1 e2 e3 e4 e5)) M hE hP hD hS 0 rfl rfl zu_X7 4 (by decide) zk_fl_RX7_95 rfl rfl tyX7_ok nmX7 rfl rfl (Nat.le_of_ble_eq_true rfl) rfl dX7_storm_39 (fun H locs hP hD hS => ?_)
      have hP : va_P D vwCl (mdlW ad 0 cy 0 h su (if 0 = 0 then v else st) (if 0 = 0 then k else sh) fl ic sn bn fm fr cm em lg le lf dl cS cH sea noi pl pw an hd bp bo bw c1 c2 c3 c4 c5 e1 e2 e3 e4 e5) H := hP
      exact zw_v M hr hlk 0 hP hS (by exact Or.inl ⟨rfl, by omega⟩) (by decide) (by decide) dX7_storm_42
    ·
      refine zi_if_eq (tgt := 25) M dX7_storm_18 (by decide) ⟨by decide, by decide⟩ (fun _ => ?_) (fun q => absurd q (by decide))
      refine zi_push M dX7_storm_25 ?_
      refine z_cW (z_runV (As := [.int (iI 1)]) (rest := []) M (c_X7_goesWell l D cy z0 ad th h su st sh fl ic sn bn fm fr cm em lg le lf dl cS cH sea noi pl pw an hd bp bo bw c1 c2 c3 c4 c5 e1 e2 e3 e4 e5 1 (by omega)) hE hS hAz (z_cut hP hD hAz [0, 1, 2, 3, 4, 5, 6, 7, 8, 9, 10, 11, 12, 13, 14, 15, 16, 17, 18, 19, 20, 21] rfl (by decide +kernel)) (zRc.of (ci := 7) (q0 := 0) hE hP rfl rfl) zk_cd_X7_goesWell zk_in_RX7 zk_im_X7_goesWell zk_se_X7_goesWell zk_ml_RX7_88 rfl rfl zd_X7_goesWell ⟨by decide, by decide⟩ rfl hl.1 rfl (Nat.le_of_ble_eq_true rfl) dX7_storm_26 ⟨by decide, by decide⟩) hP hD hS [0, 1, 2, 3, 4, 5, 6, 7, 8, 9, 10, 11, 12, 13, 14, 15, 16, 17, 18, 19, 20, 21] rfl (fun _ => rfl) (fun r_4 u_4 H locs hp_4 hP hD hS => ?_)
      have hP : va_P D vwCl (mdlW ad 0 cy 1 h su st sh fl ic sn bn fm fr cm em lg le lf dl cS cH sea noi pl pw an hd bp bo bw c1 c2 c3 c4 c5 e1 e2 e3 e4 e5) H := hP
      have hD : va_D (zIn (mdlW ad 0 cy th h su st sh fl ic sn bn fm fr cm em lg le lf dl cS cH sea noi pl pw an hd bp bo bw c1 c2 c3 c4 c5 e1 e2 e3 e4 e5)) (mdlW ad 0 cy 1 h su st sh fl ic sn bn fm fr cm em lg le lf dl cS cH sea noi pl pw an hd bp bo bw c1 c2 c3 c4 c5 e1 e2 e3 e4 e5) := hD
      subst hp_4
      refine z_rw (b := 0) rfl ?_
      refine zi_if_eq (tgt := 42) M dX7_storm_29 (by decide) ⟨by decide, by decide⟩ (fun _ => ?_) (fun q => absurd q (by decide))
      have hP : va_P D vwCl (mdlW ad 0 cy 1 h su (if 1 = 0 then v else st) (if 1 = 0 then k else sh) fl ic sn bn fm fr cm em lg le lf dl cS cH sea noi pl pw an hd bp bo bw c1 c2 c3 c4 c5 e1 e2 e3 e4 e5) H := hP
      exact zw_v M hr hlk 1 hP hS (by exact Or.inr (⟨rfl, by omega⟩)) (by decide) (by decide) dX7_storm_42
  ·
    refine zi_if_eq (tgt := 25) M dX7_storm_8 (by decide) ⟨by decide, by decide⟩ (fun _ => ?_) (fun q => absurd q (by decide))
    refine zi_push M dX7_storm_25 ?_
    refine z_cW (z_runV (As := [.int (iI 1)]) (rest := []) M (c_X7_goesWell l D cy z0 ad th h su st sh fl ic sn bn fm fr cm em lg le lf dl cS cH sea noi pl pw an hd bp bo bw c1 c2 c3 c4 c5 e1 e2 e3 e4 e5 1 (by omega)) hE hS hAz (z_cut hP hD hAz [0, 1, 2, 3, 4, 5, 6, 7, 8, 9, 10, 11, 12, 13, 14, 15, 16, 17, 18, 19, 20, 21] rfl (by decide +kernel)) (zRc.of (ci := 7) (q0 := 0) hE hP rfl rfl) zk_cd_X7_goesWell zk_in_RX7 zk_im_X7_goesWell zk_se_X7_goesWell zk_ml_RX7_88 rfl rfl zd_X7_goesWell ⟨by decide, by decide⟩ rfl hl.1 rfl (Nat.le_of_ble_eq_true rfl) dX7_storm_26 ⟨by decide, by decide⟩) hP hD hS [0, 1, 2, 3, 4, 5, 6, 7, 8, 9, 10, 11, 12, 13, 14, 15, 16, 17, 18, 19, 20, 21] rfl (fun _ => rfl) (fun r_5 u_5 H locs hp_5 hP hD hS => ?_)
    have hP : va_P D vwCl (mdlW ad 0 cy 1 h su st sh fl ic sn bn fm fr cm em lg le lf dl cS cH sea noi pl pw an hd bp bo bw c1 c2 c3 c4 c5 e1 e2 e3 e4 e5) H := hP
    have hD : va_D (zIn (mdlW ad 0 cy th h su st sh fl ic sn bn fm fr cm em lg le lf dl cS cH sea noi pl pw an hd bp bo bw c1 c2 c3 c4 c5 e1 e2 e3 e4 e5)) (mdlW ad 0 cy 1 h su st sh fl ic sn bn fm fr cm em lg le lf dl cS cH sea noi pl pw an hd bp bo bw c1 c2 c3 c4 c5 e1 e2 e3 e4 e5) := hD
    subst hp_5
    refine z_rw (b := 0) rfl ?_
    refine zi_if_eq (tgt := 42) M dX7_storm_29 (by decide) ⟨by decide, by decide⟩ (fun _ => ?_) (fun q => absurd q (by decide))
    have hP : va_P D vwCl (mdlW ad 0 cy 1 h su (if 1 = 0 then v else st) (if 1 = 0 then k else sh) fl ic sn bn fm fr cm em lg le lf dl cS cH sea noi pl pw an hd bp bo bw c1 c2 c3 c4 c5 e1 e2 e3 e4 e5) H := hP
    exact zw_v M hr hlk 1 hP hS (by exact Or.inr (⟨rfl, by omega⟩)) (by decide) (by decide) dX7_storm_42

set_option maxRecDepth 100000 in
set_option maxHeartbeats 4000000 in
theorem c_X7_flare (l : Launch) (D : va_G) (cy : Nat → ClassId) (z0 : Nat) (ad : Nat → Nat) (th h su st sh fl ic sn bn fm fr cm em lg le lf dl : Int) (cS cH sea noi pl pw an hd bp bo bw c1 c2 c3 c4 c5 e1 e2 e3 e4 e5 : Int → Int) (v : Int) (r_v : r32 v) : Met l yX7_flare [.code yX7_flare cX7_flare 3 (some .int)] (zRm 1 0 0 22) (zPc [.ref (ad 0), .int (iI v)] D cy z0 (zWl D z0 (mdlW ad 0 cy th h su st sh fl ic sn bn fm fr cm em lg le lf dl cS cH sea noi pl pw an hd bp bo bw c1 c2 c3 c4 c5 e1 e2 e3 e4 e5))) (zQ1 D (mdlW ad 0 cy th h su st sh fl ic sn bn fm fr cm em lg le lf dl cS cH sea noi pl pw an hd bp bo bw c1 c2 c3 c4 c5 e1 e2 e3 e4 e5) (fun (r : Int32) (u : Int) => (u = 0 ∧ ((1 ≤ v ∧ v ≤ 80)) ∧ r = iI fl) ∨ (u = 1 ∧ (¬ (1 ≤ v ∧ v ≤ 80)) ∧ r = iI 0)) (fun (u : Int) => (mdlW ad 0 cy u h su st sh (if u = 0 then v else fl) ic sn bn fm fr cm em lg le lf dl cS cH sea noi pl pw an hd bp bo bw c1 c2 c3 c4 c5 e1 e2 e3 e4 e5))) 0 0 (zIn (mdlW ad 0 cy th h su st sh fl ic sn bn fm fr cm em lg le lf dl cS cH sea noi pl pw an hd bp bo bw c1 c2 c3 c4 c5 e1 e2 e3 e4 e5)) := by
  refine z_of (by decide) (Nat.le_of_ble_eq_true rfl) ?_
  intro p e s m args below meth c M hr hlk hini hargs hP0 hE ls hl
  have hP : va_P D vwCl (mdlW ad 0 cy th h su st sh fl ic sn bn fm fr cm em lg le lf dl cS cH sea noi pl pw an hd bp bo bw c1 c2 c3 c4 c5 e1 e2 e3 e4 e5) s.heap := hP0.1
  have hD : va_D (zIn (mdlW ad 0 cy th h su st sh fl ic sn bn fm fr cm em lg le lf dl cS cH sea noi pl pw an hd bp bo bw c1 c2 c3 c4 c5 e1 e2 e3 e4 e5)) (mdlW ad 0 cy th h su st sh fl ic sn bn fm fr cm em lg le lf dl cS cH sea noi pl pw an hd bp bo bw c1 c2 c3 c4 c5 e1 e2 e3 e4 e5) := hP0.self
  have hAz := hP0.A
  have hS : va_S (zIn (mdlW ad 0 cy th h su st sh fl ic sn bn fm fr cm em lg le lf dl cS cH sea noi pl pw an hd bp bo bw c1 c2 c3 c4 c5 e1 e2 e3 e4 e5)) s.heap s.heap [] := va_S.rf
  have hl : lv_has ls 3 [(0, .ref (ad 0)), (1, .int (iI v))] := hl
  refine lv_aload_n M.1 M.2.1 dX7_flare_0 rfl (lv_at hl 0 rfl) ?_
  refine lv_iload_n M.1 M.2.1 dX7_flare_1 rfl (lv_at hl 1 rfl) ?_
  refine zi_push M dX7_flare_2 ?_
  refine zi_bipush M dX7_flare_3 ⟨by decide, by decide⟩ ?_
  refine z_cR (z_runS (As := [.int (iI v), .int (iI 1), .int (iI 80)]) (rest := [.ref (ad 0)]) M (c_X7_in l D cy z0 v 1 80 (by omega) (by omega) (by omega)) hE hS hAz trivial zk_cd_X7_in zk_in_RX7 zk_st_X7_in zk_ml_RX7_81 rfl rfl zd_X7_in ⟨by decide, by decide⟩ rfl hl.1 rfl (Nat.le_of_ble_eq_true rfl) dX7_flare_5 ⟨by decide, by decide⟩) ?_
  refine zi_b (P := 1 ≤ v ∧ v ≤ 80) (g := fun r => F0 m 8 ls (.int r :: [.ref (ad 0)])) (fun b_1 => ?_) (fun b_1 => ?_)
  ·
    refine zi_if_eq (tgt := 15) M dX7_flare_8 (by decide) ⟨by decide, by decide⟩ (fun q => absurd q (by decide)) (fun _ => ?_)
    refine zi_push M dX7_flare_11 ?_
    refine zi_goto (tgt := 16) M dX7_flare_12 (by decide) ?_
    refine z_cW (z_runV (As := [.int (iI 0)]) (rest := []) M (c_X7_goesWell l D cy z0 ad th h su st sh fl ic sn bn fm fr cm em lg le lf dl cS cH sea noi pl pw an hd bp bo bw c1 c2 c3 c4 c5 e1 e2 e3 e4 e5 0 (by omega)) hE hS hAz (z_cut hP hD hAz [0, 1, 2, 3, 4, 5, 6, 7, 8, 9, 10, 11, 12, 13, 14, 15, 16, 17, 18, 19, 20, 21] rfl (by decide +kernel)) (zRc.of (ci := 7) (q0 := 0) hE hP rfl rfl) zk_cd_X7_goesWell zk_in_RX7 zk_im_X7_goesWell zk_se_X7_goesWell zk_ml_RX7_88 rfl rfl zd_X7_goesWell ⟨by decide, by decide⟩ rfl hl.1 rfl (Nat.le_of_ble_eq_true rfl) dX7_flare_16 ⟨by decide, by decide⟩) hP hD hS [0, 1, 2, 3, 4, 5, 6, 7, 8, 9, 10, 11, 12, 13, 14, 15, 16, 17, 18, 19, 20, 21] rfl (fun _ => rfl) (fun r_2 u_2 H locs hp_2 hP hD hS => ?_)
    have hP : va_P D vwCl (mdlW ad 0 cy 0 h su st sh fl ic sn bn fm fr cm em lg le lf dl cS cH sea noi pl pw an hd bp bo bw c1 c2 c3 c4 c5 e1 e2 e3 e4 e5) H := hP
    have hD : va_D (zIn (mdlW ad 0 cy th h su st sh fl ic sn bn fm fr cm em lg le lf dl cS cH sea noi pl pw an hd bp bo bw c1 c2 c3 c4 c5 e1 e2 e3 e4 e5)) (mdlW ad 0 cy 0 h su st sh fl ic sn bn fm fr cm em lg le lf dl cS cH sea noi pl pw an hd bp bo bw c1 c2 c3 c4 c5 e1 e2 e3 e4 e5) := hD
    subst hp_2
    refine z_rw (b := 1) rfl ?_
    refine zi_if_ne (tgt := 24) M dX7_flare_19 (by decide) ⟨by decide, by decide⟩ (fun _ => ?_) (fun q => absurd q (by decide))
    refine lv_aload_n M.1 M.2.1 dX7_flare_24 rfl (lv_at hl 0 rfl) ?_
    refine zi_get (ci := 7) (v := .int (iI fl)) M hE hP 0 rfl rfl zu_X7 5 (by decide) zk_fl_RX7_98 rfl rfl dX7_flare_25 ?_
    refine lv_istore_n (lv' := [(2, .int (iI fl)), (0, .ref (ad 0)), (1, .int (iI v))]) M.1 M.2.1 dX7_flare_28 rfl hl (by decide) rfl (fun ls hl => ?_)
    refine lv_aload_n M.1 M.2.1 dX7_flare_29 rfl (lv_at hl 1 rfl) ?_
    refine lv_iload_n M.1 M.2.1 dX7_flare_30 rfl (lv_at hl 2 rfl) ?_
    refine zi_put (ci := 7) (ws' := (mdlW ad 0 cy 0 h su st sh v ic sn bn fm fr cm em lg le lf dl cS cH sea noi pl pw an hd bp bo bw c1 c2 c3 c4 c5 e1 e2 e3 e4 e5)) M hE hP hD hS 0 rfl rfl zu_X7 5 (by decide) zk_fl_RX7_98 rfl rfl tyX7_ok nmX7 rfl rfl (Nat.le_of_ble_eq_true rfl) rfl dX7_flare_31 (fun H locs hP hD hS => ?_)
    refine lv_iload_n M.1 M.2.1 dX7_flare_34 rfl (lv_at hl 0 rfl) ?_
    have hP : va_P D vwCl (mdlW ad 0 cy 0 h su st sh (if 0 = 0 then v else fl) ic sn bn fm fr cm em lg le lf dl cS cH sea noi pl pw an hd bp bo bw c1 c2 c3 c4 c5 e1 e2 e3 e4 e5) H := hP
    exact zw_i M hr hlk 0 hP hS (by exact Or.inl ⟨rfl, by omega, congrArg iI (show (fl : Int) = fl by rfl)⟩) (by decide) (by decide) dX7_flare_35
  ·
    refine zi_if_eq (tgt := 15) M dX7_flare_8 (by decide) ⟨by decide, by decide⟩ (fun _ => ?_) (fun q => absurd q (by decide))
    refine zi_push M dX7_flare_15 ?_
    refine z_cW (z_runV (As := [.int (iI 1)]) (rest := []) M (c_X7_goesWell l D cy z0 ad th h su st sh fl ic sn bn fm fr cm em lg le lf dl cS cH sea noi pl pw an hd bp bo bw c1 c2 c3 c4 c5 e1 e2 e3 e4 e5 1 (by omega)) hE hS hAz (z_cut hP hD hAz [0, 1, 2, 3, 4, 5, 6, 7, 8, 9, 10, 11, 12, 13, 14, 15, 16, 17, 18, 19, 20, 21] rfl (by decide +kernel)) (zRc.of (ci := 7) (q0 := 0) hE hP rfl rfl) zk_cd_X7_goesWell zk_in_RX7 zk_im_X7_goesWell zk_se_X7_goesWell zk_ml_RX7_88 rfl rfl zd_X7_goesWell ⟨by decide, by decide⟩ rfl hl.1 rfl (Nat.le_of_ble_eq_true rfl) dX7_flare_16 ⟨by decide, by decide⟩) hP hD hS [0, 1, 2, 3, 4, 5, 6, 7, 8, 9, 10, 11, 12, 13, 14, 15, 16, 17, 18, 19, 20, 21] rfl (fun _ => rfl) (fun r_3 u_3 H locs hp_3 hP hD hS => ?_)
    have hP : va_P D vwCl (mdlW ad 0 cy 1 h su st sh fl ic sn bn fm fr cm em lg le lf dl cS cH sea noi pl pw an hd bp bo bw c1 c2 c3 c4 c5 e1 e2 e3 e4 e5) H := hP
    have hD : va_D (zIn (mdlW ad 0 cy th h su st sh fl ic sn bn fm fr cm em lg le lf dl cS cH sea noi pl pw an hd bp bo bw c1 c2 c3 c4 c5 e1 e2 e3 e4 e5)) (mdlW ad 0 cy 1 h su st sh fl ic sn bn fm fr cm em lg le lf dl cS cH sea noi pl pw an hd bp bo bw c1 c2 c3 c4 c5 e1 e2 e3 e4 e5) := hD
    subst hp_3
    refine z_rw (b := 0) rfl ?_
    refine zi_if_ne (tgt := 24) M dX7_flare_19 (by decide) ⟨by decide, by decide⟩ (fun q => absurd q (by decide)) (fun _ => ?_)
    refine zi_push M dX7_flare_22 ?_
    have hP : va_P D vwCl (mdlW ad 0 cy 1 h su st sh (if 1 = 0 then v else fl) ic sn bn fm fr cm em lg le lf dl cS cH sea noi pl pw an hd bp bo bw c1 c2 c3 c4 c5 e1 e2 e3 e4 e5) H := hP
    exact zw_i M hr hlk 1 hP hS (by exact Or.inr (⟨rfl, by omega, rfl⟩)) (by decide) (by decide) dX7_flare_23

set_option maxRecDepth 100000 in
set_option maxHeartbeats 4000000 in
theorem c_X7_cloud (l : Launch) (D : va_G) (cy : Nat → ClassId) (z0 : Nat) (ad : Nat → Nat) (th h su st sh fl ic sn bn fm fr cm em lg le lf dl : Int) (cS cH sea noi pl pw an hd bp bo bw c1 c2 c3 c4 c5 e1 e2 e3 e4 e5 : Int → Int) (q : Int) (v : Int) (k : Int) (r_q : r32 q) (r_v : r32 v) (r_k : r32 k) : Met l yX7_cloud [.code yX7_cloud cX7_cloud 5 none] (zRm 2 0 0 42) (zPc [.ref (ad 0), .int (iI q), .int (iI v), .int (iI k)] D cy z0 (zWl D z0 (mdlW ad 0 cy th h su st sh fl ic sn bn fm fr cm em lg le lf dl cS cH sea noi pl pw an hd bp bo bw c1 c2 c3 c4 c5 e1 e2 e3 e4 e5))) (zQ0 D (mdlW ad 0 cy th h su st sh fl ic sn bn fm fr cm em lg le lf dl cS cH sea noi pl pw an hd bp bo bw c1 c2 c3 c4 c5 e1 e2 e3 e4 e5) (fun (u : Int) => (u = 0 ∧ ((0 ≤ q ∧ q < 48) ∧ ((1 ≤ v ∧ v ≤ 100) ∧ (1 ≤ k ∧ k ≤ 24)))) ∨ (u = 1 ∧ (¬ (0 ≤ q ∧ q < 48))) ∨ (u = 2 ∧ ((0 ≤ q ∧ q < 48) ∧ ¬ ((1 ≤ v ∧ v ≤ 100) ∧ (1 ≤ k ∧ k ≤ 24))))) (fun (u : Int) => (mdlW ad 0 cy u h su st sh fl ic sn bn fm fr cm em lg le lf dl (if u = 0 then (zu cS q v) else cS) (if u = 0 then (zu cH q k) else cH) sea noi pl pw an hd bp bo bw c1 c2 c3 c4 c5 e1 e2 e3 e4 e5))) 0 0 (zIn (mdlW ad 0 cy th h su st sh fl ic sn bn fm fr cm em lg le lf dl cS cH sea noi pl pw an hd bp bo bw c1 c2 c3 c4 c5 e1 e2 e3 e4 e5)) := by
  refine z_of (by decide) (Nat.le_of_ble_eq_true rfl) ?_
  intro p e s m args below meth c M hr hlk hini hargs hP0 hE ls hl
  have hP : va_P D vwCl (mdlW ad 0 cy th h su st sh fl ic sn bn fm fr cm em lg le lf dl cS cH sea noi pl pw an hd bp bo bw c1 c2 c3 c4 c5 e1 e2 e3 e4 e5) s.heap := hP0.1
  have hD : va_D (zIn (mdlW ad 0 cy th h su st sh fl ic sn bn fm fr cm em lg le lf dl cS cH sea noi pl pw an hd bp bo bw c1 c2 c3 c4 c5 e1 e2 e3 e4 e5)) (mdlW ad 0 cy th h su st sh fl ic sn bn fm fr cm em lg le lf dl cS cH sea noi pl pw an hd bp bo bw c1 c2 c3 c4 c5 e1 e2 e3 e4 e5) := hP0.self
  have hAz := hP0.A
  have hS : va_S (zIn (mdlW ad 0 cy th h su st sh fl ic sn bn fm fr cm em lg le lf dl cS cH sea noi pl pw an hd bp bo bw c1 c2 c3 c4 c5 e1 e2 e3 e4 e5)) s.heap s.heap [] := va_S.rf
  have hl : lv_has ls 5 [(0, .ref (ad 0)), (1, .int (iI q)), (2, .int (iI v)), (3, .int (iI k))] := hl
  refine lv_iload_n M.1 M.2.1 dX7_cloud_0 rfl (lv_at hl 1 rfl) ?_
  refine z_cR (z_runS (As := [.int (iI q)]) (rest := []) M (c_X7_isPlace l D cy z0 q (by omega)) hE hS hAz trivial zk_cd_X7_isPlace zk_in_RX7 zk_st_X7_isPlace zk_ml_RX7_101 rfl rfl zd_X7_isPlace ⟨by decide, by decide⟩ rfl hl.1 rfl (Nat.le_of_ble_eq_true rfl) dX7_cloud_1 ⟨by decide, by decide⟩) ?_
  refine zi_b (P := 0 ≤ q ∧ q ≤ 47) (g := fun r => F0 m 4 ls (.int r :: [])) (fun b_1 => ?_) (fun b_1 => ?_)
  ·
    refine lv_istore (lv' := [(4, .int (iI 1)), (0, .ref (ad 0)), (1, .int (iI q)), (2, .int (iI v)), (3, .int (iI k))]) M.1 M.2.1 dX7_cloud_4 hl (by decide) rfl (fun ls hl => ?_)
    refine lv_aload_n M.1 M.2.1 dX7_cloud_6 rfl (lv_at hl 1 rfl) ?_
    refine lv_iload M.1 M.2.1 dX7_cloud_7 (lv_at hl 0 rfl) ?_
    refine zi_if_ne (tgt := 16) M dX7_cloud_9 (by decide) ⟨by decide, by decide⟩ (fun _ => ?_) (fun q => absurd q (by decide))
    refine lv_iload_n M.1 M.2.1 dX7_cloud_16 rfl (lv_at hl 3 rfl) ?_
    refine zi_push M dX7_cloud_17 ?_
    refine zi_bipush M dX7_cloud_18 ⟨by decide, by decide⟩ ?_
    refine z_cR (z_runS (As := [.int (iI v), .int (iI 1), .int (iI 100)]) (rest := [.ref (ad 0)]) M (c_X7_in l D cy z0 v 1 100 (by omega) (by omega) (by omega)) hE hS hAz trivial zk_cd_X7_in zk_in_RX7 zk_st_X7_in zk_ml_RX7_81 rfl rfl zd_X7_in ⟨by decide, by decide⟩ rfl hl.1 rfl (Nat.le_of_ble_eq_true rfl) dX7_cloud_20 ⟨by decide, by decide⟩) ?_
    refine zi_b (P := 1 ≤ v ∧ v ≤ 100) (g := fun r => F0 m 23 ls (.int r :: [.ref (ad 0)])) (fun b_2 => ?_) (fun b_2 => ?_)
    ·
      refine zi_if_eq (tgt := 40) M dX7_cloud_23 (by decide) ⟨by decide, by decide⟩ (fun q => absurd q (by decide)) (fun _ => ?_)
      refine lv_iload_n M.1 M.2.1 dX7_cloud_26 rfl (lv_at hl 4 rfl) ?_
      refine zi_push M dX7_cloud_27 ?_
      refine zi_bipush M dX7_cloud_28 ⟨by decide, by decide⟩ ?_
      refine z_cR (z_runS (As := [.int (iI k), .int (iI 1), .int (iI 24)]) (rest := [.ref (ad 0)]) M (c_X7_in l D cy z0 k 1 24 (by omega) (by omega) (by omega)) hE hS hAz trivial zk_cd_X7_in zk_in_RX7 zk_st_X7_in zk_ml_RX7_81 rfl rfl zd_X7_in ⟨by decide, by decide⟩ rfl hl.1 rfl (Nat.le_of_ble_eq_true rfl) dX7_cloud_30 ⟨by decide, by decide⟩) ?_
      refine zi_b (P := 1 ≤ k ∧ k ≤ 24) (g := fun r => F0 m 33 ls (.int r :: [.ref (ad 0)])) (fun b_3 => ?_) (fun b_3 => ?_)
      ·
        refine zi_if_eq (tgt := 40) M dX7_cloud_33 (by decide) ⟨by decide, by decide⟩ (fun q => absurd q (by decide)) (fun _ => ?_)
        refine zi_push M dX7_cloud_36 ?_
        refine zi_goto (tgt := 41) M dX7_cloud_37 (by decide) ?_
        refine z_cW (z_runV (As := [.int (iI 0)]) (rest := []) M (c_X7_goesWell l D cy z0 ad th h su st sh fl ic sn bn fm fr cm em lg le lf dl cS cH sea noi pl pw an hd bp bo bw c1 c2 c3 c4 c5 e1 e2 e3 e4 e5 0 (by omega)) hE hS hAz (z_cut hP hD hAz [0, 1, 2, 3, 4, 5, 6, 7, 8, 9, 10, 11, 12, 13, 14, 15, 16, 17, 18, 19, 20, 21] rfl (by decide +kernel)) (zRc.of (ci := 7) (q0 := 0) hE hP rfl rfl) zk_cd_X7_goesWell zk_in_RX7 zk_im_X7_goesWell zk_se_X7_goesWell zk_ml_RX7_88 rfl rfl zd_X7_goesWell ⟨by decide, by decide⟩ rfl hl.1 rfl (Nat.le_of_ble_eq_true rfl) dX7_cloud_41 ⟨by decide, by decide⟩) hP hD hS [0, 1, 2, 3, 4, 5, 6, 7, 8, 9, 10, 11, 12, 13, 14, 15, 16, 17, 18, 19, 20, 21] rfl (fun _ => rfl) (fun r_4 u_4 H locs hp_4 hP hD hS => ?_)
        have hP : va_P D vwCl (mdlW ad 0 cy 0 h su st sh fl ic sn bn fm fr cm em lg le lf dl cS cH sea noi pl pw an hd bp bo bw c1 c2 c3 c4 c5 e1 e2 e3 e4 e5) H := hP
        have hD : va_D (zIn (mdlW ad 0 cy th h su st sh fl ic sn bn fm fr cm em lg le lf dl cS cH sea noi pl pw an hd bp bo bw c1 c2 c3 c4 c5 e1 e2 e3 e4 e5)) (mdlW ad 0 cy 0 h su st sh fl ic sn bn fm fr cm em lg le lf dl cS cH sea noi pl pw an hd bp bo bw c1 c2 c3 c4 c5 e1 e2 e3 e4 e5) := hD
        subst hp_4
        refine z_rw (b := 1) rfl ?_
        refine zi_if_eq (tgt := 61) M dX7_cloud_44 (by decide) ⟨by decide, by decide⟩ (fun q => absurd q (by decide)) (fun _ => ?_)
        refine lv_aload_n M.1 M.2.1 dX7_cloud_47 rfl (lv_at hl 1 rfl) ?_
        refine zi_get (ci := 7) (v := .ref (ad (0 + 1))) M hE hP 0 rfl rfl zu_X7 6 (by decide) zk_fl_RX7_13 rfl rfl dX7_cloud_48 ?_
        refine lv_iload_n M.1 M.2.1 dX7_cloud_51 rfl (lv_at hl 2 rfl) ?_
        refine lv_iload_n M.1 M.2.1 dX7_cloud_52 rfl (lv_at hl 3 rfl) ?_
        refine zi_iast (ws' := (mdlW ad 0 cy 0 h su st sh fl ic sn bn fm fr cm em lg le lf dl (zu cS q v) cH sea noi pl pw an hd bp bo bw c1 c2 c3 c4 c5 e1 e2 e3 e4 e5)) M hE hP hD hS 1 (n := 48) (g := cS) rfl (Nat.le_of_ble_eq_true rfl) (by omega) (by omega) rfl dX7_cloud_53 (fun H locs hP hD hS => ?_)
        refine lv_aload_n M.1 M.2.1 dX7_cloud_54 rfl (lv_at hl 1 rfl) ?_
        refine zi_get (ci := 7) (v := .ref (ad (0 + 2))) M hE hP 0 rfl rfl zu_X7 7 (by decide) zk_fl_RX7_17 rfl rfl dX7_cloud_55 ?_
        refine lv_iload_n M.1 M.2.1 dX7_cloud_58 rfl (lv_at hl 2 rfl) ?_
        refine lv_iload_n M.1 M.2.1 dX7_cloud_59 rfl (lv_at hl 4 rfl) ?_
        refine zi_iast (ws' := (mdlW ad 0 cy 0 h su st sh fl ic sn bn fm fr cm em lg le lf dl (zu cS q v) (zu cH q k) sea noi pl pw an hd bp bo bw c1 c2 c3 c4 c5 e1 e2 e3 e4 e5)) M hE hP hD hS 2 (n := 48) (g := cH) rfl (Nat.le_of_ble_eq_true rfl) (by omega) (by omega) rfl dX7_cloud_60 (fun H locs hP hD hS => ?_)
        have hP : va_P D vwCl (mdlW ad 0 cy 0 h su st sh fl ic sn bn fm fr cm em lg le lf dl (if 0 = 0 then (zu cS q v) else cS) (if 0 = 0 then (zu cH q k) else cH) sea noi pl pw an hd bp bo bw c1 c2 c3 c4 c5 e1 e2 e3 e4 e5) H := hP
        exact zw_v M hr hlk 0 hP hS (by exact Or.inl ⟨rfl, by omega⟩) (by decide) (by decide) dX7_cloud_61
      ·
        refine zi_if_eq (tgt := 40) M dX7_cloud_33 (by decide) ⟨by decide, by decide⟩ (fun _ => ?_) (fun q => absurd q (by decide))
        refine zi_push M dX7_cloud_40 ?_
        refine z_cW (z_runV (As := [.int (iI 2)]) (rest := []) M (c_X7_goesWell l D cy z0 ad th h su st sh fl ic sn bn fm fr cm em lg le lf dl cS cH sea noi pl pw an hd bp bo bw c1 c2 c3 c4 c5 e1 e2 e3 e4 e5 2 (by omega)) hE hS hAz (z_cut hP hD hAz [0, 1, 2, 3, 4, 5, 6, 7, 8, 9, 10, 11, 12, 13, 14, 15, 16, 17, 18, 19, 20, 21] rfl (by decide +kernel)) (zRc.of (ci := 7) (q0 := 0) hE hP rfl rfl) zk_cd_X7_goesWell zk_in_RX7 zk_im_X7_goesWell zk_se_X7_goesWell zk_ml_RX7_88 rfl rfl zd_X7_goesWell ⟨by decide, by decide⟩ rfl hl.1 rfl (Nat.le_of_ble_eq_true rfl) dX7_cloud_41 ⟨by decide, by decide⟩) hP hD hS [0, 1, 2, 3, 4, 5, 6, 7, 8, 9, 10, 11, 12, 13, 14, 15, 16, 17, 18, 19, 20, 21] rfl (fun _ => rfl) (fun r_5 u_5 H locs hp_5 hP hD hS => ?_)
        have hP : va_P D vwCl (mdlW ad 0 cy 2 h su st sh fl ic sn bn fm fr cm em lg le lf dl cS cH sea noi pl pw an hd bp bo bw c1 c2 c3 c4 c5 e1 e2 e3 e4 e5) H := hP
        have hD : va_D (zIn (mdlW ad 0 cy th h su st sh fl ic sn bn fm fr cm em lg le lf dl cS cH sea noi pl pw an hd bp bo bw c1 c2 c3 c4 c5 e1 e2 e3 e4 e5)) (mdlW ad 0 cy 2 h su st sh fl ic sn bn fm fr cm em lg le lf dl cS cH sea noi pl pw an hd bp bo bw c1 c2 c3 c4 c5 e1 e2 e3 e4 e5) := hD
        subst hp_5
        refine z_rw (b := 0) rfl ?_
        refine zi_if_eq (tgt := 61) M dX7_cloud_44 (by decide) ⟨by decide, by decide⟩ (fun _ => ?_) (fun q => absurd q (by decide))
        have hP : va_P D vwCl (mdlW ad 0 cy 2 h su st sh fl ic sn bn fm fr cm em lg le lf dl (if 2 = 0 then (zu cS q v) else cS) (if 2 = 0 then (zu cH q k) else cH) sea noi pl pw an hd bp bo bw c1 c2 c3 c4 c5 e1 e2 e3 e4 e5) H := hP
        exact zw_v M hr hlk 2 hP hS (by exact Or.inr (Or.inr (⟨rfl, by omega⟩))) (by decide) (by decide) dX7_cloud_61
    ·
      refine zi_if_eq (tgt := 40) M dX7_cloud_23 (by decide) ⟨by decide, by decide⟩ (fun _ => ?_) (fun q => absurd q (by decide))
      refine zi_push M dX7_cloud_40 ?_
      refine z_cW (z_runV (As := [.int (iI 2)]) (rest := []) M (c_X7_goesWell l D cy z0 ad th h su st sh fl ic sn bn fm fr cm em lg le lf dl cS cH sea noi pl pw an hd bp bo bw c1 c2 c3 c4 c5 e1 e2 e3 e4 e5 2 (by omega)) hE hS hAz (z_cut hP hD hAz [0, 1, 2, 3, 4, 5, 6, 7, 8, 9, 10, 11, 12, 13, 14, 15, 16, 17, 18, 19, 20, 21] rfl (by decide +kernel)) (zRc.of (ci := 7) (q0 := 0) hE hP rfl rfl) zk_cd_X7_goesWell zk_in_RX7 zk_im_X7_goesWell zk_se_X7_goesWell zk_ml_RX7_88 rfl rfl zd_X7_goesWell ⟨by decide, by decide⟩ rfl hl.1 rfl (Nat.le_of_ble_eq_true rfl) dX7_cloud_41 ⟨by decide, by decide⟩) hP hD hS [0, 1, 2, 3, 4, 5, 6, 7, 8, 9, 10, 11, 12, 13, 14, 15, 16, 17, 18, 19, 20, 21] rfl (fun _ => rfl) (fun r_6 u_6 H locs hp_6 hP hD hS => ?_)
      have hP : va_P D vwCl (mdlW ad 0 cy 2 h su st sh fl ic sn bn fm fr cm em lg le lf dl cS cH sea noi pl pw an hd bp bo bw c1 c2 c3 c4 c5 e1 e2 e3 e4 e5) H := hP
      have hD : va_D (zIn (mdlW ad 0 cy th h su st sh fl ic sn bn fm fr cm em lg le lf dl cS cH sea noi pl pw an hd bp bo bw c1 c2 c3 c4 c5 e1 e2 e3 e4 e5)) (mdlW ad 0 cy 2 h su st sh fl ic sn bn fm fr cm em lg le lf dl cS cH sea noi pl pw an hd bp bo bw c1 c2 c3 c4 c5 e1 e2 e3 e4 e5) := hD
      subst hp_6
      refine z_rw (b := 0) rfl ?_
      refine zi_if_eq (tgt := 61) M dX7_cloud_44 (by decide) ⟨by decide, by decide⟩ (fun _ => ?_) (fun q => absurd q (by decide))
      have hP : va_P D vwCl (mdlW ad 0 cy 2 h su st sh fl ic sn bn fm fr cm em lg le lf dl (if 2 = 0 then (zu cS q v) else cS) (if 2 = 0 then (zu cH q k) else cH) sea noi pl pw an hd bp bo bw c1 c2 c3 c4 c5 e1 e2 e3 e4 e5) H := hP
      exact zw_v M hr hlk 2 hP hS (by exact Or.inr (Or.inr (⟨rfl, by omega⟩))) (by decide) (by decide) dX7_cloud_61
  ·
    refine lv_istore (lv' := [(4, .int (iI 0)), (0, .ref (ad 0)), (1, .int (iI q)), (2, .int (iI v)), (3, .int (iI k))]) M.1 M.2.1 dX7_cloud_4 hl (by decide) rfl (fun ls hl => ?_)
    refine lv_aload_n M.1 M.2.1 dX7_cloud_6 rfl (lv_at hl 1 rfl) ?_
    refine lv_iload M.1 M.2.1 dX7_cloud_7 (lv_at hl 0 rfl) ?_
    refine zi_if_ne (tgt := 16) M dX7_cloud_9 (by decide) ⟨by decide, by decide⟩ (fun q => absurd q (by decide)) (fun _ => ?_)
    refine zi_push M dX7_cloud_12 ?_
    refine zi_goto (tgt := 41) M dX7_cloud_13 (by decide) ?_
    refine z_cW (z_runV (As := [.int (iI 1)]) (rest := []) M (c_X7_goesWell l D cy z0 ad th h su st sh fl ic sn bn fm fr cm em lg le lf dl cS cH sea noi pl pw an hd bp bo bw c1 c2 c3 c4 c5 e1 e2 e3 e4 e5 1 (by omega)) hE hS hAz (z_cut hP hD hAz [0, 1, 2, 3, 4, 5, 6, 7, 8, 9, 10, 11, 12, 13, 14, 15, 16, 17, 18, 19, 20, 21] rfl (by decide +kernel)) (zRc.of (ci := 7) (q0 := 0) hE hP rfl rfl) zk_cd_X7_goesWell zk_in_RX7 zk_im_X7_goesWell zk_se_X7_goesWell zk_ml_RX7_88 rfl rfl zd_X7_goesWell ⟨by decide, by decide⟩ rfl hl.1 rfl (Nat.le_of_ble_eq_true rfl) dX7_cloud_41 ⟨by decide, by decide⟩) hP hD hS [0, 1, 2, 3, 4, 5, 6, 7, 8, 9, 10, 11, 12, 13, 14, 15, 16, 17, 18, 19, 20, 21] rfl (fun _ => rfl) (fun r_7 u_7 H locs hp_7 hP hD hS => ?_)
    have hP : va_P D vwCl (mdlW ad 0 cy 1 h su st sh fl ic sn bn fm fr cm em lg le lf dl cS cH sea noi pl pw an hd bp bo bw c1 c2 c3 c4 c5 e1 e2 e3 e4 e5) H := hP
    have hD : va_D (zIn (mdlW ad 0 cy th h su st sh fl ic sn bn fm fr cm em lg le lf dl cS cH sea noi pl pw an hd bp bo bw c1 c2 c3 c4 c5 e1 e2 e3 e4 e5)) (mdlW ad 0 cy 1 h su st sh fl ic sn bn fm fr cm em lg le lf dl cS cH sea noi pl pw an hd bp bo bw c1 c2 c3 c4 c5 e1 e2 e3 e4 e5) := hD
    subst hp_7
    refine z_rw (b := 0) rfl ?_
    refine zi_if_eq (tgt := 61) M dX7_cloud_44 (by decide) ⟨by decide, by decide⟩ (fun _ => ?_) (fun q => absurd q (by decide))
    have hP : va_P D vwCl (mdlW ad 0 cy 1 h su st sh fl ic sn bn fm fr cm em lg le lf dl (if 1 = 0 then (zu cS q v) else cS) (if 1 = 0 then (zu cH q k) else cH) sea noi pl pw an hd bp bo bw c1 c2 c3 c4 c5 e1 e2 e3 e4 e5) H := hP
    exact zw_v M hr hlk 1 hP hS (by exact Or.inr (Or.inl (⟨rfl, by omega⟩))) (by decide) (by decide) dX7_cloud_61

set_option maxRecDepth 100000 in
set_option maxHeartbeats 4000000 in
theorem c_X7_sea (l : Launch) (D : va_G) (cy : Nat → ClassId) (z0 : Nat) (ad : Nat → Nat) (th h su st sh fl ic sn bn fm fr cm em lg le lf dl : Int) (cS cH sea noi pl pw an hd bp bo bw c1 c2 c3 c4 c5 e1 e2 e3 e4 e5 : Int → Int) (q : Int) (z : Int) (r_q : r32 q) (hz : 0 ≤ z ∧ z ≤ 1) (g_sea : zrg 48 0 1 sea) (g_noi : zrg 48 0 40 noi) : Met l yX7_sea [.code yX7_sea cX7_sea 4 (some .boolean)] (zRm 2 0 0 42) (zPc [.ref (ad 0), .int (iI q), .int (iI z)] D cy z0 (zWl D z0 (mdlW ad 0 cy th h su st sh fl ic sn bn fm fr cm em lg le lf dl cS cH sea noi pl pw an hd bp bo bw c1 c2 c3 c4 c5 e1 e2 e3 e4 e5))) (zQ1 D (mdlW ad 0 cy th h su st sh fl ic sn bn fm fr cm em lg le lf dl cS cH sea noi pl pw an hd bp bo bw c1 c2 c3 c4 c5 e1 e2 e3 e4 e5) (fun (r : Int32) (u : Int) => (u = 0 ∧ ((0 ≤ q ∧ q < 48)) ∧ r = iI (sea q)) ∨ (u = 1 ∧ (¬ (0 ≤ q ∧ q < 48)) ∧ r = iI 0)) (fun (u : Int) => (mdlW ad 0 cy u h su st sh fl ic sn bn fm fr cm em lg le lf dl cS cH (if u = 0 then (zu sea q z) else sea) noi pl pw an hd bp bo bw c1 c2 c3 c4 c5 e1 e2 e3 e4 e5))) 0 0 (zIn (mdlW ad 0 cy th h su st sh fl ic sn bn fm fr cm em lg le lf dl cS cH sea noi pl pw an hd bp bo bw c1 c2 c3 c4 c5 e1 e2 e3 e4 e5)) := by
  refine z_of (by decide) (Nat.le_of_ble_eq_true rfl) ?_
  intro p e s m args below meth c M hr hlk hini hargs hP0 hE ls hl
  have hP : va_P D vwCl (mdlW ad 0 cy th h su st sh fl ic sn bn fm fr cm em lg le lf dl cS cH sea noi pl pw an hd bp bo bw c1 c2 c3 c4 c5 e1 e2 e3 e4 e5) s.heap := hP0.1
  have hD : va_D (zIn (mdlW ad 0 cy th h su st sh fl ic sn bn fm fr cm em lg le lf dl cS cH sea noi pl pw an hd bp bo bw c1 c2 c3 c4 c5 e1 e2 e3 e4 e5)) (mdlW ad 0 cy th h su st sh fl ic sn bn fm fr cm em lg le lf dl cS cH sea noi pl pw an hd bp bo bw c1 c2 c3 c4 c5 e1 e2 e3 e4 e5) := hP0.self
  have hAz := hP0.A
  have hS : va_S (zIn (mdlW ad 0 cy th h su st sh fl ic sn bn fm fr cm em lg le lf dl cS cH sea noi pl pw an hd bp bo bw c1 c2 c3 c4 c5 e1 e2 e3 e4 e5)) s.heap s.heap [] := va_S.rf
  have hl : lv_has ls 4 [(0, .ref (ad 0)), (1, .int (iI q)), (2, .int (iI z))] := hl
  refine lv_aload_n M.1 M.2.1 dX7_sea_0 rfl (lv_at hl 0 rfl) ?_
  refine lv_iload_n M.1 M.2.1 dX7_sea_1 rfl (lv_at hl 1 rfl) ?_
  refine z_cR (z_runS (As := [.int (iI q)]) (rest := [.ref (ad 0)]) M (c_X7_isPlace l D cy z0 q (by omega)) hE hS hAz trivial zk_cd_X7_isPlace zk_in_RX7 zk_st_X7_isPlace zk_ml_RX7_101 rfl rfl zd_X7_isPlace ⟨by decide, by decide⟩ rfl hl.1 rfl (Nat.le_of_ble_eq_true rfl) dX7_sea_2 ⟨by decide, by decide⟩) ?_
  refine zi_b (P := 0 ≤ q ∧ q ≤ 47) (g := fun r => F0 m 5 ls (.int r :: [.ref (ad 0)])) (fun b_1 => ?_) (fun b_1 => ?_)
  ·
    refine zi_if_eq (tgt := 12) M dX7_sea_5 (by decide) ⟨by decide, by decide⟩ (fun q => absurd q (by decide)) (fun _ => ?_)
    refine zi_push M dX7_sea_8 ?_
    refine zi_goto (tgt := 13) M dX7_sea_9 (by decide) ?_
    refine z_cW (z_runV (As := [.int (iI 0)]) (rest := []) M (c_X7_goesWell l D cy z0 ad th h su st sh fl ic sn bn fm fr cm em lg le lf dl cS cH sea noi pl pw an hd bp bo bw c1 c2 c3 c4 c5 e1 e2 e3 e4 e5 0 (by omega)) hE hS hAz (z_cut hP hD hAz [0, 1, 2, 3, 4, 5, 6, 7, 8, 9, 10, 11, 12, 13, 14, 15, 16, 17, 18, 19, 20, 21] rfl (by decide +kernel)) (zRc.of (ci := 7) (q0 := 0) hE hP rfl rfl) zk_cd_X7_goesWell zk_in_RX7 zk_im_X7_goesWell zk_se_X7_goesWell zk_ml_RX7_88 rfl rfl zd_X7_goesWell ⟨by decide, by decide⟩ rfl hl.1 rfl (Nat.le_of_ble_eq_true rfl) dX7_sea_13 ⟨by decide, by decide⟩) hP hD hS [0, 1, 2, 3, 4, 5, 6, 7, 8, 9, 10, 11, 12, 13, 14, 15, 16, 17, 18, 19, 20, 21] rfl (fun _ => rfl) (fun r_2 u_2 H locs hp_2 hP hD hS => ?_)
    have hP : va_P D vwCl (mdlW ad 0 cy 0 h su st sh fl ic sn bn fm fr cm em lg le lf dl cS cH sea noi pl pw an hd bp bo bw c1 c2 c3 c4 c5 e1 e2 e3 e4 e5) H := hP
    have hD : va_D (zIn (mdlW ad 0 cy th h su st sh fl ic sn bn fm fr cm em lg le lf dl cS cH sea noi pl pw an hd bp bo bw c1 c2 c3 c4 c5 e1 e2 e3 e4 e5)) (mdlW ad 0 cy 0 h su st sh fl ic sn bn fm fr cm em lg le lf dl cS cH sea noi pl pw an hd bp bo bw c1 c2 c3 c4 c5 e1 e2 e3 e4 e5) := hD
    subst hp_2
    refine z_rw (b := 1) rfl ?_
    refine zi_if_ne (tgt := 21) M dX7_sea_16 (by decide) ⟨by decide, by decide⟩ (fun _ => ?_) (fun q => absurd q (by decide))
    refine lv_aload_n M.1 M.2.1 dX7_sea_21 rfl (lv_at hl 0 rfl) ?_
    refine zi_get (ci := 7) (v := .ref (ad (0 + 3))) M hE hP 0 rfl rfl zu_X7 8 (by decide) zk_fl_RX7_20 rfl rfl dX7_sea_22 ?_
    refine lv_iload_n M.1 M.2.1 dX7_sea_25 rfl (lv_at hl 1 rfl) ?_
    refine zi_zald M hE hP 3 (n := 48) (g := sea) rfl (Nat.le_of_ble_eq_true rfl) (by omega) (by omega) dX7_sea_26 ?_
    have hr_3 := g_sea q (by omega) (by omega)
    refine lv_istore_n (lv' := [(3, .int (iI (sea q))), (0, .ref (ad 0)), (1, .int (iI q)), (2, .int (iI z))]) M.1 M.2.1 dX7_sea_27 rfl hl (by decide) rfl (fun ls hl => ?_)
    refine lv_aload_n M.1 M.2.1 dX7_sea_28 rfl (lv_at hl 1 rfl) ?_
    refine zi_get (ci := 7) (v := .ref (ad (0 + 3))) M hE hP 0 rfl rfl zu_X7 8 (by decide) zk_fl_RX7_20 rfl rfl dX7_sea_29 ?_
    refine lv_iload_n M.1 M.2.1 dX7_sea_32 rfl (lv_at hl 2 rfl) ?_
    refine lv_iload_n M.1 M.2.1 dX7_sea_33 rfl (lv_at hl 3 rfl) ?_
    refine zi_zast (ws' := (mdlW ad 0 cy 0 h su st sh fl ic sn bn fm fr cm em lg le lf dl cS cH (zu sea q z) noi pl pw an hd bp bo bw c1 c2 c3 c4 c5 e1 e2 e3 e4 e5)) M hE hP hD hS 3 (n := 48) (g := sea) rfl (Nat.le_of_ble_eq_true rfl) (by omega) (by omega) (by omega) rfl dX7_sea_34 (fun H locs hP hD hS => ?_)
    refine lv_iload_n M.1 M.2.1 dX7_sea_35 rfl (lv_at hl 0 rfl) ?_
    have hP : va_P D vwCl (mdlW ad 0 cy 0 h su st sh fl ic sn bn fm fr cm em lg le lf dl cS cH (if 0 = 0 then (zu sea q z) else sea) noi pl pw an hd bp bo bw c1 c2 c3 c4 c5 e1 e2 e3 e4 e5) H := hP
    exact zw_z M hr hlk (v := (sea q)) ((by omega)) 0 hP hS (by exact Or.inl ⟨rfl, by omega, congrArg iI (show ((sea q) : Int) = sea q by rfl)⟩) (by decide) (by decide) dX7_sea_36
  ·
    refine zi_if_eq (tgt := 12) M dX7_sea_5 (by decide) ⟨by decide, by decide⟩ (fun _ => ?_) (fun q => absurd q (by decide))
    refine zi_push M dX7_sea_12 ?_
    refine z_cW (z_runV (As := [.int (iI 1)]) (rest := []) M (c_X7_goesWell l D cy z0 ad th h su st sh fl ic sn bn fm fr cm em lg le lf dl cS cH sea noi pl pw an hd bp bo bw c1 c2 c3 c4 c5 e1 e2 e3 e4 e5 1 (by omega)) hE hS hAz (z_cut hP hD hAz [0, 1, 2, 3, 4, 5, 6, 7, 8, 9, 10, 11, 12, 13, 14, 15, 16, 17, 18, 19, 20, 21] rfl (by decide +kernel)) (zRc.of (ci := 7) (q0 := 0) hE hP rfl rfl) zk_cd_X7_goesWell zk_in_RX7 zk_im_X7_goesWell zk_se_X7_goesWell zk_ml_RX7_88 rfl rfl zd_X7_goesWell ⟨by decide, by decide⟩ rfl hl.1 rfl (Nat.le_of_ble_eq_true rfl) dX7_sea_13 ⟨by decide, by decide⟩) hP hD hS [0, 1, 2, 3, 4, 5, 6, 7, 8, 9, 10, 11, 12, 13, 14, 15, 16, 17, 18, 19, 20, 21] rfl (fun _ => rfl) (fun r_4 u_4 H locs hp_4 hP hD hS => ?_)
    have hP : va_P D vwCl (mdlW ad 0 cy 1 h su st sh fl ic sn bn fm fr cm em lg le lf dl cS cH sea noi pl pw an hd bp bo bw c1 c2 c3 c4 c5 e1 e2 e3 e4 e5) H := hP
    have hD : va_D (zIn (mdlW ad 0 cy th h su st sh fl ic sn bn fm fr cm em lg le lf dl cS cH sea noi pl pw an hd bp bo bw c1 c2 c3 c4 c5 e1 e2 e3 e4 e5)) (mdlW ad 0 cy 1 h su st sh fl ic sn bn fm fr cm em lg le lf dl cS cH sea noi pl pw an hd bp bo bw c1 c2 c3 c4 c5 e1 e2 e3 e4 e5) := hD
    subst hp_4
    refine z_rw (b := 0) rfl ?_
    refine zi_if_ne (tgt := 21) M dX7_sea_16 (by decide) ⟨by decide, by decide⟩ (fun q => absurd q (by decide)) (fun _ => ?_)
    refine zi_push M dX7_sea_19 ?_
    have hP : va_P D vwCl (mdlW ad 0 cy 1 h su st sh fl ic sn bn fm fr cm em lg le lf dl cS cH (if 1 = 0 then (zu sea q z) else sea) noi pl pw an hd bp bo bw c1 c2 c3 c4 c5 e1 e2 e3 e4 e5) H := hP
    exact zw_z M hr hlk (v := 0) (Or.inl rfl) 1 hP hS (by exact Or.inr (⟨rfl, by omega, rfl⟩)) (by decide) (by decide) dX7_sea_20

set_option maxRecDepth 100000 in
set_option maxHeartbeats 4000000 in
theorem c_X7_noise (l : Launch) (D : va_G) (cy : Nat → ClassId) (z0 : Nat) (ad : Nat → Nat) (th h su st sh fl ic sn bn fm fr cm em lg le lf dl : Int) (cS cH sea noi pl pw an hd bp bo bw c1 c2 c3 c4 c5 e1 e2 e3 e4 e5 : Int → Int) (q : Int) (v : Int) (r_q : r32 q) (r_v : r32 v) : Met l yX7_noise [.code yX7_noise cX7_noise 5 (some .int)] (zRm 2 0 0 42) (zPc [.ref (ad 0), .int (iI q), .int (iI v)] D cy z0 (zWl D z0 (mdlW ad 0 cy th h su st sh fl ic sn bn fm fr cm em lg le lf dl cS cH sea noi pl pw an hd bp bo bw c1 c2 c3 c4 c5 e1 e2 e3 e4 e5))) (zQ1 D (mdlW ad 0 cy th h su st sh fl ic sn bn fm fr cm em lg le lf dl cS cH sea noi pl pw an hd bp bo bw c1 c2 c3 c4 c5 e1 e2 e3 e4 e5) (fun (r : Int32) (u : Int) => (u = 0 ∧ ((0 ≤ q ∧ q < 48) ∧ (0 ≤ v ∧ v ≤ 40)) ∧ r = iI (noi q)) ∨ (u = 1 ∧ (¬ (0 ≤ q ∧ q < 48)) ∧ r = iI 0) ∨ (u = 2 ∧ ((0 ≤ q ∧ q < 48) ∧ ¬ (0 ≤ v ∧ v ≤ 40)) ∧ r = iI 0)) (fun (u : Int) => (mdlW ad 0 cy u h su st sh fl ic sn bn fm fr cm em lg le lf dl cS cH sea (if u = 0 then (zu noi q v) else noi) pl pw an hd bp bo bw c1 c2 c3 c4 c5 e1 e2 e3 e4 e5))) 0 0 (zIn (mdlW ad 0 cy th h su st sh fl ic sn bn fm fr cm em lg le lf dl cS cH sea noi pl pw an hd bp bo bw c1 c2 c3 c4 c5 e1 e2 e3 e4 e5)) := by
  refine z_of (by decide) (Nat.le_of_ble_eq_true rfl) ?_
  intro p e s m args below meth c M hr hlk hini hargs hP0 hE ls hl
  have hP : va_P D vwCl (mdlW ad 0 cy th h su st sh fl ic sn bn fm fr cm em lg le lf dl cS cH sea noi pl pw an hd bp bo bw c1 c2 c3 c4 c5 e1 e2 e3 e4 e5) s.heap := hP0.1
  have hD : va_D (zIn (mdlW ad 0 cy th h su st sh fl ic sn bn fm fr cm em lg le lf dl cS cH sea noi pl pw an hd bp bo bw c1 c2 c3 c4 c5 e1 e2 e3 e4 e5)) (mdlW ad 0 cy th h su st sh fl ic sn bn fm fr cm em lg le lf dl cS cH sea noi pl pw an hd bp bo bw c1 c2 c3 c4 c5 e1 e2 e3 e4 e5) := hP0.self
  have hAz := hP0.A
  have hS : va_S (zIn (mdlW ad 0 cy th h su st sh fl ic sn bn fm fr cm em lg le lf dl cS cH sea noi pl pw an hd bp bo bw c1 c2 c3 c4 c5 e1 e2 e3 e4 e5)) s.heap s.heap [] := va_S.rf
  have hl : lv_has ls 5 [(0, .ref (ad 0)), (1, .int (iI q)), (2, .int (iI v))] := hl
  refine lv_iload_n M.1 M.2.1 dX7_noise_0 rfl (lv_at hl 1 rfl) ?_
  refine z_cR (z_runS (As := [.int (iI q)]) (rest := []) M (c_X7_isPlace l D cy z0 q (by omega)) hE hS hAz trivial zk_cd_X7_isPlace zk_in_RX7 zk_st_X7_isPlace zk_ml_RX7_101 rfl rfl zd_X7_isPlace ⟨by decide, by decide⟩ rfl hl.1 rfl (Nat.le_of_ble_eq_true rfl) dX7_noise_1 ⟨by decide, by decide⟩) ?_
  refine zi_b (P := 0 ≤ q ∧ q ≤ 47) (g := fun r => F0 m 4 ls (.int r :: [])) (fun b_1 => ?_) (fun b_1 => ?_)
  ·
    refine lv_istore_n (lv' := [(3, .int (iI 1)), (0, .ref (ad 0)), (1, .int (iI q)), (2, .int (iI v))]) M.1 M.2.1 dX7_noise_4 rfl hl (by decide) rfl (fun ls hl => ?_)
    refine lv_aload_n M.1 M.2.1 dX7_noise_5 rfl (lv_at hl 1 rfl) ?_
    refine lv_iload_n M.1 M.2.1 dX7_noise_6 rfl (lv_at hl 0 rfl) ?_
    refine zi_if_ne (tgt := 14) M dX7_noise_7 (by decide) ⟨by decide, by decide⟩ (fun _ => ?_) (fun q => absurd q (by decide))
    refine lv_iload_n M.1 M.2.1 dX7_noise_14 rfl (lv_at hl 3 rfl) ?_
    refine zi_push M dX7_noise_15 ?_
    refine zi_bipush M dX7_noise_16 ⟨by decide, by decide⟩ ?_
    refine z_cR (z_runS (As := [.int (iI v), .int (iI 0), .int (iI 40)]) (rest := [.ref (ad 0)]) M (c_X7_in l D cy z0 v 0 40 (by omega) (by omega) (by omega)) hE hS hAz trivial zk_cd_X7_in zk_in_RX7 zk_st_X7_in zk_ml_RX7_81 rfl rfl zd_X7_in ⟨by decide, by decide⟩ rfl hl.1 rfl (Nat.le_of_ble_eq_true rfl) dX7_noise_18 ⟨by decide, by decide⟩) ?_
    refine zi_b (P := 0 ≤ v ∧ v ≤ 40) (g := fun r => F0 m 21 ls (.int r :: [.ref (ad 0)])) (fun b_2 => ?_) (fun b_2 => ?_)
    ·
      refine zi_if_eq (tgt := 28) M dX7_noise_21 (by decide) ⟨by decide, by decide⟩ (fun q => absurd q (by decide)) (fun _ => ?_)
      refine zi_push M dX7_noise_24 ?_
      refine zi_goto (tgt := 29) M dX7_noise_25 (by decide) ?_
      refine z_cW (z_runV (As := [.int (iI 0)]) (rest := []) M (c_X7_goesWell l D cy z0 ad th h su st sh fl ic sn bn fm fr cm em lg le lf dl cS cH sea noi pl pw an hd bp bo bw c1 c2 c3 c4 c5 e1 e2 e3 e4 e5 0 (by omega)) hE hS hAz (z_cut hP hD hAz [0, 1, 2, 3, 4, 5, 6, 7, 8, 9, 10, 11, 12, 13, 14, 15, 16, 17, 18, 19, 20, 21] rfl (by decide +kernel)) (zRc.of (ci := 7) (q0 := 0) hE hP rfl rfl) zk_cd_X7_goesWell zk_in_RX7 zk_im_X7_goesWell zk_se_X7_goesWell zk_ml_RX7_88 rfl rfl zd_X7_goesWell ⟨by decide, by decide⟩ rfl hl.1 rfl (Nat.le_of_ble_eq_true rfl) dX7_noise_29 ⟨by decide, by decide⟩) hP hD hS [0, 1, 2, 3, 4, 5, 6, 7, 8, 9, 10, 11, 12, 13, 14, 15, 16, 17, 18, 19, 20, 21] rfl (fun _ => rfl) (fun r_3 u_3 H locs hp_3 hP hD hS => ?_)
      have hP : va_P D vwCl (mdlW ad 0 cy 0 h su st sh fl ic sn bn fm fr cm em lg le lf dl cS cH sea noi pl pw an hd bp bo bw c1 c2 c3 c4 c5 e1 e2 e3 e4 e5) H := hP
      have hD : va_D (zIn (mdlW ad 0 cy th h su st sh fl ic sn bn fm fr cm em lg le lf dl cS cH sea noi pl pw an hd bp bo bw c1 c2 c3 c4 c5 e1 e2 e3 e4 e5)) (mdlW ad 0 cy 0 h su st sh fl ic sn bn fm fr cm em lg le lf dl cS cH sea noi pl pw an hd bp bo bw c1 c2 c3 c4 c5 e1 e2 e3 e4 e5) := hD
      subst hp_3
      refine z_rw (b := 1) rfl ?_
      refine zi_if_ne (tgt := 37) M dX7_noise_32 (by decide) ⟨by decide, by decide⟩ (fun _ => ?_) (fun q => absurd q (by decide))
      refine lv_aload_n M.1 M.2.1 dX7_noise_37 rfl (lv_at hl 1 rfl) ?_
      refine zi_get (ci := 7) (v := .ref (ad (0 + 4))) M hE hP 0 rfl rfl zu_X7 9 (by decide) zk_fl_RX7_24 rfl rfl dX7_noise_38 ?_
      refine lv_iload_n M.1 M.2.1 dX7_noise_41 rfl (lv_at hl 2 rfl) ?_
      refine zi_iald M hE hP 4 (n := 48) (g := noi) rfl (Nat.le_of_ble_eq_true rfl) (by omega) (by omega) dX7_noise_42 ?_
      refine lv_istore (lv' := [(4, .int (iI (noi q))), (3, .int (iI 1)), (0, .ref (ad 0)), (1, .int (iI q)), (2, .int (iI v))]) M.1 M.2.1 dX7_noise_43 hl (by decide) rfl (fun ls hl => ?_)
      refine lv_aload_n M.1 M.2.1 dX7_noise_45 rfl (lv_at hl 2 rfl) ?_
      refine zi_get (ci := 7) (v := .ref (ad (0 + 4))) M hE hP 0 rfl rfl zu_X7 9 (by decide) zk_fl_RX7_24 rfl rfl dX7_noise_46 ?_
      refine lv_iload_n M.1 M.2.1 dX7_noise_49 rfl (lv_at hl 3 rfl) ?_
      refine lv_iload_n M.1 M.2.1 dX7_noise_50 rfl (lv_at hl 4 rfl) ?_
      refine zi_iast (ws' := (mdlW ad 0 cy 0 h su st sh fl ic sn bn fm fr cm em lg le lf dl cS cH sea (zu noi q v) pl pw an hd bp bo bw c1 c2 c3 c4 c5 e1 e2 e3 e4 e5)) M hE hP hD hS 4 (n := 48) (g := noi) rfl (Nat.le_of_ble_eq_true rfl) (by omega) (by omega) rfl dX7_noise_51 (fun H locs hP hD hS => ?_)
      refine lv_iload M.1 M.2.1 dX7_noise_52 (lv_at hl 0 rfl) ?_
      have hP : va_P D vwCl (mdlW ad 0 cy 0 h su st sh fl ic sn bn fm fr cm em lg le lf dl cS cH sea (if 0 = 0 then (zu noi q v) else noi) pl pw an hd bp bo bw c1 c2 c3 c4 c5 e1 e2 e3 e4 e5) H := hP
      exact zw_i M hr hlk 0 hP hS (by exact Or.inl ⟨rfl, by omega, congrArg iI (show ((noi q) : Int) = noi q by rfl)⟩) (by decide) (by decide) dX7_noise_54
    ·
      refine zi_if_eq (tgt := 28) M dX7_noise_21 (by decide) ⟨by decide, by decide⟩ (fun _ => ?_) (fun q => absurd q (by decide))
      refine zi_push M dX7_noise_28 ?_
      refine z_cW (z_runV (As := [.int (iI 2)]) (rest := []) M (c_X7_goesWell l D cy z0 ad th h su st sh fl ic sn bn fm fr cm em lg le lf dl cS cH sea noi pl pw an hd bp bo bw c1 c2 c3 c4 c5 e1 e2 e3 e4 e5 2 (by omega)) hE hS hAz (z_cut hP hD hAz [0, 1, 2, 3, 4, 5, 6, 7, 8, 9, 10, 11, 12, 13, 14, 15, 16, 17, 18, 19, 20, 21] rfl (by decide +kernel)) (zRc.of (ci := 7) (q0 := 0) hE hP rfl rfl) zk_cd_X7_goesWell zk_in_RX7 zk_im_X7_goesWell zk_se_X7_goesWell zk_ml_RX7_88 rfl rfl zd_X7_goesWell ⟨by decide, by decide⟩ rfl hl.1 rfl (Nat.le_of_ble_eq_true rfl) dX7_noise_29 ⟨by decide, by decide⟩) hP hD hS [0, 1, 2, 3, 4, 5, 6, 7, 8, 9, 10, 11, 12, 13, 14, 15, 16, 17, 18, 19, 20, 21] rfl (fun _ => rfl) (fun r_4 u_4 H locs hp_4 hP hD hS => ?_)
      have hP : va_P D vwCl (mdlW ad 0 cy 2 h su st sh fl ic sn bn fm fr cm em lg le lf dl cS cH sea noi pl pw an hd bp bo bw c1 c2 c3 c4 c5 e1 e2 e3 e4 e5) H := hP
      have hD : va_D (zIn (mdlW ad 0 cy th h su st sh fl ic sn bn fm fr cm em lg le lf dl cS cH sea noi pl pw an hd bp bo bw c1 c2 c3 c4 c5 e1 e2 e3 e4 e5)) (mdlW ad 0 cy 2 h su st sh fl ic sn bn fm fr cm em lg le lf dl cS cH sea noi pl pw an hd bp bo bw c1 c2 c3 c4 c5 e1 e2 e3 e4 e5) := hD
      subst hp_4
      refine z_rw (b := 0) rfl ?_
      refine zi_if_ne (tgt := 37) M dX7_noise_32 (by decide) ⟨by decide, by decide⟩ (fun q => absurd q (by decide)) (fun _ => ?_)
      refine zi_push M dX7_noise_35 ?_
      have hP : va_P D vwCl (mdlW ad 0 cy 2 h su st sh fl ic sn bn fm fr cm em lg le lf dl cS cH sea (if 2 = 0 then (zu noi q v) else noi) pl pw an hd bp bo bw c1 c2 c3 c4 c5 e1 e2 e3 e4 e5) H := hP
      exact zw_i M hr hlk 2 hP hS (by exact Or.inr (Or.inr (⟨rfl, by omega, rfl⟩))) (by decide) (by decide) dX7_noise_36
  ·
    refine lv_istore_n (lv' := [(3, .int (iI 0)), (0, .ref (ad 0)), (1, .int (iI q)), (2, .int (iI v))]) M.1 M.2.1 dX7_noise_4 rfl hl (by decide) rfl (fun ls hl => ?_)
    refine lv_aload_n M.1 M.2.1 dX7_noise_5 rfl (lv_at hl 1 rfl) ?_
    refine lv_iload_n M.1 M.2.1 dX7_noise_6 rfl (lv_at hl 0 rfl) ?_
    refine zi_if_ne (tgt := 14) M dX7_noise_7 (by decide) ⟨by decide, by decide⟩ (fun q => absurd q (by decide)) (fun _ => ?_)
    refine zi_push M dX7_noise_10 ?_
    refine zi_goto (tgt := 29) M dX7_noise_11 (by decide) ?_
    refine z_cW (z_runV (As := [.int (iI 1)]) (rest := []) M (c_X7_goesWell l D cy z0 ad th h su st sh fl ic sn bn fm fr cm em lg le lf dl cS cH sea noi pl pw an hd bp bo bw c1 c2 c3 c4 c5 e1 e2 e3 e4 e5 1 (by omega)) hE hS hAz (z_cut hP hD hAz [0, 1, 2, 3, 4, 5, 6, 7, 8, 9, 10, 11, 12, 13, 14, 15, 16, 17, 18, 19, 20, 21] rfl (by decide +kernel)) (zRc.of (ci := 7) (q0 := 0) hE hP rfl rfl) zk_cd_X7_goesWell zk_in_RX7 zk_im_X7_goesWell zk_se_X7_goesWell zk_ml_RX7_88 rfl rfl zd_X7_goesWell ⟨by decide, by decide⟩ rfl hl.1 rfl (Nat.le_of_ble_eq_true rfl) dX7_noise_29 ⟨by decide, by decide⟩) hP hD hS [0, 1, 2, 3, 4, 5, 6, 7, 8, 9, 10, 11, 12, 13, 14, 15, 16, 17, 18, 19, 20, 21] rfl (fun _ => rfl) (fun r_5 u_5 H locs hp_5 hP hD hS => ?_)
    have hP : va_P D vwCl (mdlW ad 0 cy 1 h su st sh fl ic sn bn fm fr cm em lg le lf dl cS cH sea noi pl pw an hd bp bo bw c1 c2 c3 c4 c5 e1 e2 e3 e4 e5) H := hP
    have hD : va_D (zIn (mdlW ad 0 cy th h su st sh fl ic sn bn fm fr cm em lg le lf dl cS cH sea noi pl pw an hd bp bo bw c1 c2 c3 c4 c5 e1 e2 e3 e4 e5)) (mdlW ad 0 cy 1 h su st sh fl ic sn bn fm fr cm em lg le lf dl cS cH sea noi pl pw an hd bp bo bw c1 c2 c3 c4 c5 e1 e2 e3 e4 e5) := hD
    subst hp_5
    refine z_rw (b := 0) rfl ?_
    refine zi_if_ne (tgt := 37) M dX7_noise_32 (by decide) ⟨by decide, by decide⟩ (fun q => absurd q (by decide)) (fun _ => ?_)
    refine zi_push M dX7_noise_35 ?_
    have hP : va_P D vwCl (mdlW ad 0 cy 1 h su st sh fl ic sn bn fm fr cm em lg le lf dl cS cH sea (if 1 = 0 then (zu noi q v) else noi) pl pw an hd bp bo bw c1 c2 c3 c4 c5 e1 e2 e3 e4 e5) H := hP
    exact zw_i M hr hlk 1 hP hS (by exact Or.inr (Or.inl (⟨rfl, by omega, rfl⟩))) (by decide) (by decide) dX7_noise_36
