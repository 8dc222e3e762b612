/-! contracts: the model, what everybody may call, 2 -/
set_option maxRecDepth 100000 in
set_option maxHeartbeats 4000000 in
theorem c_X7_station (l : Launch) (D : va_G) (cy : Nat → ClassId) (z0 : Nat) (ad : Nat → Nat) (th h su st sh fl ic sn bn fm fr cm em lg le lf dl : Int) (cS cH sea noi pl pw an hd bp bo bw c1 c2 c3 c4 c5 e1 e2 e3 e4 e5 : Int → Int) (q : Int) (v : Int) (a : Int) (d : Int) (r_q : r32 q) (r_v : r32 v) (r_a : r32 a) (r_d : r32 d) (hsm : 0 ≤ sn ∧ sn ≤ 12) : Met l yX7_station [.code yX7_station cX7_station 7 (some .int)] (zRm 2 0 0 42) (zPc [.ref (ad 0), .int (iI q), .int (iI v), .int (iI a), .int (iI d)] D cy z0 (zWl D z0 (mdlW ad 0 cy th h su st sh fl ic sn bn fm fr cm em lg le lf dl cS cH sea noi pl pw an hd bp bo bw c1 c2 c3 c4 c5 e1 e2 e3 e4 e5))) (zQ1 D (mdlW ad 0 cy th h su st sh fl ic sn bn fm fr cm em lg le lf dl cS cH sea noi pl pw an hd bp bo bw c1 c2 c3 c4 c5 e1 e2 e3 e4 e5) (fun (r : Int32) (u : Int) => (u = 0 ∧ ((0 ≤ q ∧ q < 48) ∧ ((1 ≤ v ∧ v ≤ 80) ∧ (0 ≤ a ∧ a ≤ 2) ∧ (0 ≤ d ∧ d ≤ 2)) ∧ (sn < 12)) ∧ r = iI sn) ∨ (u = 1 ∧ (¬ (0 ≤ q ∧ q < 48)) ∧ r = iI 0) ∨ (u = 2 ∧ ((0 ≤ q ∧ q < 48) ∧ ¬ ((1 ≤ v ∧ v ≤ 80) ∧ (0 ≤ a ∧ a ≤ 2) ∧ (0 ≤ d ∧ d ≤ 2))) ∧ r = iI 0) ∨ (u = 3 ∧ ((0 ≤ q ∧ q < 48) ∧ ((1 ≤ v ∧ v ≤ 80) ∧ (0 ≤ a ∧ a ≤ 2) ∧ (0 ≤ d ∧ d ≤ 2)) ∧ ¬ (sn < 12)) ∧ r = iI 0)) (fun (u : Int) => (mdlW ad 0 cy u h su st sh fl ic (if u = 0 then (sn + 1) else sn) bn fm fr cm em lg le lf dl cS cH sea noi (if u = 0 then (zu pl sn q) else pl) (if u = 0 then (zu pw sn v) else pw) (if u = 0 then (zu an sn a) else an) (if u = 0 then (zu hd sn d) else hd) bp bo bw c1 c2 c3 c4 c5 e1 e2 e3 e4 e5))) 0 0 (zIn (mdlW ad 0 cy th h su st sh fl ic sn bn fm fr cm em lg le lf dl cS cH sea noi pl pw an hd bp bo bw c1 c2 c3 c4 c5 e1 e2 e3 e4 e5)) := by
  refine z_of (by decide) (Nat.le_of_ble_eq_true rfl) ?_
  intro p e s m args below meth c M hr hlk hini hargs hP0 hE ls hl
  have hP : va_P D vwCl (mdlW ad 0 cy th h su st sh fl ic sn bn fm fr cm em lg le lf dl cS cH sea noi pl pw an hd bp bo bw c1 c2 c3 c4 c5 e1 e2 e3 e4 e5) s.heap := hP0.1
  have hD : va_D (zIn (mdlW ad 0 cy th h su st sh fl ic sn bn fm fr cm em lg le lf dl cS cH sea noi pl pw an hd bp bo bw c1 c2 c3 c4 c5 e1 e2 e3 e4 e5)) (mdlW ad 0 cy th h su st sh fl ic sn bn fm fr cm em lg le lf dl cS cH sea noi pl pw an hd bp bo bw c1 c2 c3 c4 c5 e1 e2 e3 e4 e5) := hP0.self
  have hAz := hP0.A
  have hS : va_S (zIn (mdlW ad 0 cy th h su st sh fl ic sn bn fm fr cm em lg le lf dl cS cH sea noi pl pw an hd bp bo bw c1 c2 c3 c4 c5 e1 e2 e3 e4 e5)) s.heap s.heap [] := va_S.rf
  have hl : lv_has ls 7 [(0, .ref (ad 0)), (1, .int (iI q)), (2, .int (iI v)), (3, .int (iI a)), (4, .int (iI d))] := hl
  refine lv_iload_n M.1 M.2.1 dX7_station_0 rfl (lv_at hl 1 rfl) ?_
  refine z_cR (z_runS (As := [.int (iI q)]) (rest := []) M (c_X7_isPlace l D cy z0 q (by omega)) hE hS hAz trivial zk_cd_X7_isPlace zk_in_RX7 zk_st_X7_isPlace zk_ml_RX7_101 rfl rfl zd_X7_isPlace ⟨by decide, by decide⟩ rfl hl.1 rfl (Nat.le_of_ble_eq_true rfl) dX7_station_1 ⟨by decide, by decide⟩) ?_
  refine zi_b (P := 0 ≤ q ∧ q ≤ 47) (g := fun r => F0 m 4 ls (.int r :: [])) (fun b_1 => ?_) (fun b_1 => ?_)
  ·
    refine lv_istore (lv' := [(5, .int (iI 1)), (0, .ref (ad 0)), (1, .int (iI q)), (2, .int (iI v)), (3, .int (iI a)), (4, .int (iI d))]) M.1 M.2.1 dX7_station_4 hl (by decide) rfl (fun ls hl => ?_)
    refine lv_iload_n M.1 M.2.1 dX7_station_6 rfl (lv_at hl 3 rfl) ?_
    refine zi_push M dX7_station_7 ?_
    refine zi_bipush M dX7_station_8 ⟨by decide, by decide⟩ ?_
    refine z_cR (z_runS (As := [.int (iI v), .int (iI 1), .int (iI 80)]) (rest := []) M (c_X7_in l D cy z0 v 1 80 (by omega) (by omega) (by omega)) hE hS hAz trivial zk_cd_X7_in zk_in_RX7 zk_st_X7_in zk_ml_RX7_81 rfl rfl zd_X7_in ⟨by decide, by decide⟩ rfl hl.1 rfl (Nat.le_of_ble_eq_true rfl) dX7_station_10 ⟨by decide, by decide⟩) ?_
    refine zi_b (P := 1 ≤ v ∧ v ≤ 80) (g := fun r => F0 m 13 ls (.int r :: [])) (fun b_2 => ?_) (fun b_2 => ?_)
    ·
      refine zi_if_eq (tgt := 39) M dX7_station_13 (by decide) ⟨by decide, by decide⟩ (fun q => absurd q (by decide)) (fun _ => ?_)
      refine lv_iload_n M.1 M.2.1 dX7_station_16 rfl (lv_at hl 4 rfl) ?_
      refine zi_push M dX7_station_17 ?_
      refine zi_push M dX7_station_18 ?_
      refine z_cR (z_runS (As := [.int (iI a), .int (iI 0), .int (iI 2)]) (rest := []) M (c_X7_in l D cy z0 a 0 2 (by omega) (by omega) (by omega)) hE hS hAz trivial zk_cd_X7_in zk_in_RX7 zk_st_X7_in zk_ml_RX7_81 rfl rfl zd_X7_in ⟨by decide, by decide⟩ rfl hl.1 rfl (Nat.le_of_ble_eq_true rfl) dX7_station_19 ⟨by decide, by decide⟩) ?_
      refine zi_b (P := 0 ≤ a ∧ a ≤ 2) (g := fun r => F0 m 22 ls (.int r :: [])) (fun b_3 => ?_) (fun b_3 => ?_)
      ·
        refine zi_if_eq (tgt := 39) M dX7_station_22 (by decide) ⟨by decide, by decide⟩ (fun q => absurd q (by decide)) (fun _ => ?_)
        refine lv_iload M.1 M.2.1 dX7_station_25 (lv_at hl 5 rfl) ?_
        refine zi_push M dX7_station_27 ?_
        refine zi_push M dX7_station_28 ?_
        refine z_cR (z_runS (As := [.int (iI d), .int (iI 0), .int (iI 2)]) (rest := []) M (c_X7_in l D cy z0 d 0 2 (by omega) (by omega) (by omega)) hE hS hAz trivial zk_cd_X7_in zk_in_RX7 zk_st_X7_in zk_ml_RX7_81 rfl rfl zd_X7_in ⟨by decide, by decide⟩ rfl hl.1 rfl (Nat.le_of_ble_eq_true rfl) dX7_station_29 ⟨by decide, by decide⟩) ?_
        refine zi_b (P := 0 ≤ d ∧ d ≤ 2) (g := fun r => F0 m 32 ls (.int r :: [])) (fun b_4 => ?_) (fun b_4 => ?_)
        ·
          refine zi_if_eq (tgt := 39) M dX7_station_32 (by decide) ⟨by decide, by decide⟩ (fun q => absurd q (by decide)) (fun _ => ?_)
          refine zi_push M dX7_station_35 ?_
          refine zi_goto (tgt := 40) M dX7_station_36 (by decide) ?_
          refine lv_istore (lv' := [(6, .int (iI 1)), (5, .int (iI 1)), (0, .ref (ad 0)), (1, .int (iI q)), (2, .int (iI v)), (3, .int (iI a)), (4, .int (iI d))]) M.1 M.2.1 dX7_station_40 hl (by decide) rfl (fun ls hl => ?_)
          refine lv_aload_n M.1 M.2.1 dX7_station_42 rfl (lv_at hl 2 rfl) ?_
          refine lv_iload M.1 M.2.1 dX7_station_43 (lv_at hl 1 rfl) ?_
          refine zi_if_ne (tgt := 52) M dX7_station_45 (by decide) ⟨by decide, by decide⟩ (fun _ => ?_) (fun q => absurd q (by decide))
          refine lv_iload M.1 M.2.1 dX7_station_52 (lv_at hl 0 rfl) ?_
          refine zi_if_ne (tgt := 61) M dX7_station_54 (by decide) ⟨by decide, by decide⟩ (fun _ => ?_) (fun q => absurd q (by decide))
          refine lv_aload_n M.1 M.2.1 dX7_station_61 rfl (lv_at hl 2 rfl) ?_
          refine zi_get (ci := 7) (v := .int (iI sn)) M hE hP 0 rfl rfl zu_X7 11 (by decide) zk_fl_RX7_85 rfl rfl dX7_station_62 ?_
          refine zi_bipush M dX7_station_65 ⟨by decide, by decide⟩ ?_
          refine zi_icmp_ne (tgt := 74) M dX7_station_67 (by decide) (by omega) ⟨by decide, by decide⟩ (fun c_5 => ?_) (fun c_5 => ?_)
          ·
            refine zi_push M dX7_station_74 ?_
            refine z_cW (z_runV (As := [.int (iI 0)]) (rest := []) M (c_X7_goesWell l D cy z0 ad th h su st sh fl ic sn bn fm fr cm em lg le lf dl cS cH sea noi pl pw an hd bp bo bw c1 c2 c3 c4 c5 e1 e2 e3 e4 e5 0 (by omega)) hE hS hAz (z_cut hP hD hAz [0, 1, 2, 3, 4, 5, 6, 7, 8, 9, 10, 11, 12, 13, 14, 15, 16, 17, 18, 19, 20, 21] rfl (by decide +kernel)) (zRc.of (ci := 7) (q0 := 0) hE hP rfl rfl) zk_cd_X7_goesWell zk_in_RX7 zk_im_X7_goesWell zk_se_X7_goesWell zk_ml_RX7_88 rfl rfl zd_X7_goesWell ⟨by decide, by decide⟩ rfl hl.1 rfl (Nat.le_of_ble_eq_true rfl) dX7_station_75 ⟨by decide, by decide⟩) hP hD hS [0, 1, 2, 3, 4, 5, 6, 7, 8, 9, 10, 11, 12, 13, 14, 15, 16, 17, 18, 19, 20, 21] rfl (fun _ => rfl) (fun r_6 u_6 H locs hp_6 hP hD hS => ?_)
            have hP : va_P D vwCl (mdlW ad 0 cy 0 h su st sh fl ic sn bn fm fr cm em lg le lf dl cS cH sea noi pl pw an hd bp bo bw c1 c2 c3 c4 c5 e1 e2 e3 e4 e5) H := hP
            have hD : va_D (zIn (mdlW ad 0 cy th h su st sh fl ic sn bn fm fr cm em lg le lf dl cS cH sea noi pl pw an hd bp bo bw c1 c2 c3 c4 c5 e1 e2 e3 e4 e5)) (mdlW ad 0 cy 0 h su st sh fl ic sn bn fm fr cm em lg le lf dl cS cH sea noi pl pw an hd bp bo bw c1 c2 c3 c4 c5 e1 e2 e3 e4 e5) := hD
            subst hp_6
            refine z_rw (b := 1) rfl ?_
            refine zi_if_ne (tgt := 83) M dX7_station_78 (by decide) ⟨by decide, by decide⟩ (fun _ => ?_) (fun q => absurd q (by decide))
            refine lv_aload_n M.1 M.2.1 dX7_station_83 rfl (lv_at hl 2 rfl) ?_
            refine zi_get (ci := 7) (v := .ref (ad (0 + 5))) M hE hP 0 rfl rfl zu_X7 12 (by decide) zk_fl_RX7_27 rfl rfl dX7_station_84 ?_
            refine lv_aload_n M.1 M.2.1 dX7_station_87 rfl (lv_at hl 2 rfl) ?_
            refine zi_get (ci := 7) (v := .int (iI sn)) M hE hP 0 rfl rfl zu_X7 11 (by decide) zk_fl_RX7_85 rfl rfl dX7_station_88 ?_
            refine lv_iload_n M.1 M.2.1 dX7_station_91 rfl (lv_at hl 3 rfl) ?_
            refine zi_iast (ws' := (mdlW ad 0 cy 0 h su st sh fl ic sn bn fm fr cm em lg le lf dl cS cH sea noi (zu pl sn q) pw an hd bp bo bw c1 c2 c3 c4 c5 e1 e2 e3 e4 e5)) M hE hP hD hS 5 (n := 12) (g := pl) rfl (Nat.le_of_ble_eq_true rfl) (by omega) (by omega) rfl dX7_station_92 (fun H locs hP hD hS => ?_)
            refine lv_aload_n M.1 M.2.1 dX7_station_93 rfl (lv_at hl 2 rfl) ?_
            refine zi_get (ci := 7) (v := .ref (ad (0 + 6))) M hE hP 0 rfl rfl zu_X7 13 (by decide) zk_fl_RX7_30 rfl rfl dX7_station_94 ?_
            refine lv_aload_n M.1 M.2.1 dX7_station_97 rfl (lv_at hl 2 rfl) ?_
            refine zi_get (ci := 7) (v := .int (iI sn)) M hE hP 0 rfl rfl zu_X7 11 (by decide) zk_fl_RX7_85 rfl rfl dX7_station_98 ?_
            refine lv_iload_n M.1 M.2.1 dX7_station_101 rfl (lv_at hl 4 rfl) ?_
            refine zi_iast (ws' := (mdlW ad 0 cy 0 h su st sh fl ic sn bn fm fr cm em lg le lf dl cS cH sea noi (zu pl sn q) (zu pw sn v) an hd bp bo bw c1 c2 c3 c4 c5 e1 e2 e3 e4 e5)) M hE hP hD hS 6 (n := 12) (g := pw) rfl (Nat.le_of_ble_eq_true rfl) (by omega) (by omega) rfl dX7_station_102 (fun H locs hP hD hS => ?_)
            refine lv_aload_n M.1 M.2.1 dX7_station_103 rfl (lv_at hl 2 rfl) ?_
            refine zi_get (ci := 7) (v := .ref (ad (0 + 7))) M hE hP 0 rfl rfl zu_X7 14 (by decide) zk_fl_RX7_33 rfl rfl dX7_station_104 ?_
            refine lv_aload_n M.1 M.2.1 dX7_station_107 rfl (lv_at hl 2 rfl) ?_
            refine zi_get (ci := 7) (v := .int (iI sn)) M hE hP 0 rfl rfl zu_X7 11 (by decide) zk_fl_RX7_85 rfl rfl dX7_station_108 ?_
            refine lv_iload_n M.1 M.2.1 dX7_station_111 rfl (lv_at hl 5 rfl) ?_
            refine zi_iast (ws' := (mdlW ad 0 cy 0 h su st sh fl ic sn bn fm fr cm em lg le lf dl cS cH sea noi (zu pl sn q) (zu pw sn v) (zu an sn a) hd bp bo bw c1 c2 c3 c4 c5 e1 e2 e3 e4 e5)) M hE hP hD hS 7 (n := 12) (g := an) rfl (Nat.le_of_ble_eq_true rfl) (by omega) (by omega) rfl dX7_station_112 (fun H locs hP hD hS => ?_)
            refine lv_aload_n M.1 M.2.1 dX7_station_113 rfl (lv_at hl 2 rfl) ?_
            refine zi_get (ci := 7) (v := .ref (ad (0 + 8))) M hE hP 0 rfl rfl zu_X7 15 (by decide) zk_fl_RX7_36 rfl rfl dX7_station_114 ?_
            refine lv_aload_n M.1 M.2.1 dX7_station_117 rfl (lv_at hl 2 rfl) ?_
            refine zi_get (ci := 7) (v := .int (iI sn)) M hE hP 0 rfl rfl zu_X7 11 (by decide) zk_fl_RX7_85 rfl rfl dX7_station_118 ?_
            refine lv_iload M.1 M.2.1 dX7_station_121 (lv_at hl 6 rfl) ?_
            refine zi_iast (ws' := (mdlW ad 0 cy 0 h su st sh fl ic sn bn fm fr cm em lg le lf dl cS cH sea noi (zu pl sn q) (zu pw sn v) (zu an sn a) (zu hd sn d) bp bo bw c1 c2 c3 c4 c5 e1 e2 e3 e4 e5)) M hE hP hD hS 8 (n := 12) (g := hd) rfl (Nat.le_of_ble_eq_true rfl) (by omega) (by omega) rfl dX7_station_123 (fun H locs hP hD hS => ?_)
            refine lv_aload_n M.1 M.2.1 dX7_station_124 rfl (lv_at hl 2 rfl) ?_
            refine lv_dup M.1 M.2.1 dX7_station_125 rfl ?_
            refine zi_get (ci := 7) (v := .int (iI sn)) M hE hP 0 rfl rfl zu_X7 11 (by decide) zk_fl_RX7_85 rfl rfl dX7_station_126 ?_
            refine zi_push M dX7_station_129 ?_
            refine zi_iadd M dX7_station_130 ?_
            refine zi_put (ci := 7) (ws' := (mdlW ad 0 cy 0 h su st sh fl ic (sn + 1) bn fm fr cm em lg le lf dl cS cH sea noi (zu pl sn q) (zu pw sn v) (zu an sn a) (zu hd sn d) bp bo bw c1 c2 c3 c4 c5 e1 e2 e3 e4 e5)) M hE hP hD hS 0 rfl rfl zu_X7 11 (by decide) zk_fl_RX7_85 rfl rfl tyX7_ok nmX7 rfl rfl (Nat.le_of_ble_eq_true rfl) rfl dX7_station_131 (fun H locs hP hD hS => ?_)
            refine lv_aload_n M.1 M.2.1 dX7_station_134 rfl (lv_at hl 2 rfl) ?_
            refine zi_get (ci := 7) (v := .int (iI (sn + 1))) M hE hP 0 rfl rfl zu_X7 11 (by decide) zk_fl_RX7_85 rfl rfl dX7_station_135 ?_
            refine zi_push M dX7_station_138 ?_
            refine zi_isub M dX7_station_139 ?_
            have hP : va_P D vwCl (mdlW ad 0 cy 0 h su st sh fl ic (if 0 = 0 then (sn + 1) else sn) bn fm fr cm em lg le lf dl cS cH sea noi (if 0 = 0 then (zu pl sn q) else pl) (if 0 = 0 then (zu pw sn v) else pw) (if 0 = 0 then (zu an sn a) else an) (if 0 = 0 then (zu hd sn d) else hd) bp bo bw c1 c2 c3 c4 c5 e1 e2 e3 e4 e5) H := hP
            exact zw_i M hr hlk 0 hP hS (by exact Or.inl ⟨rfl, by omega, congrArg iI (show (((sn + 1) - 1) : Int) = sn by omega)⟩) (by decide) (by decide) dX7_station_140
          ·
            refine zi_push M dX7_station_70 ?_
            refine zi_goto (tgt := 75) M dX7_station_71 (by decide) ?_
            refine z_cW (z_runV (As := [.int (iI 3)]) (rest := []) M (c_X7_goesWell l D cy z0 ad th h su st sh fl ic sn bn fm fr cm em lg le lf dl cS cH sea noi pl pw an hd bp bo bw c1 c2 c3 c4 c5 e1 e2 e3 e4 e5 3 (by omega)) hE hS hAz (z_cut hP hD hAz [0, 1, 2, 3, 4, 5, 6, 7, 8, 9, 10, 11, 12, 13, 14, 15, 16, 17, 18, 19, 20, 21] rfl (by decide +kernel)) (zRc.of (ci := 7) (q0 := 0) hE hP rfl rfl) zk_cd_X7_goesWell zk_in_RX7 zk_im_X7_goesWell zk_se_X7_goesWell zk_ml_RX7_88 rfl rfl zd_X7_goesWell ⟨by decide, by decide⟩ rfl hl.1 rfl (Nat.le_of_ble_eq_true rfl) dX7_station_75 ⟨by decide, by decide⟩) hP hD hS [0, 1, 2, 3, 4, 5, 6, 7, 8, 9, 10, 11, 12, 13, 14, 15, 16, 17, 18, 19, 20, 21] rfl (fun _ => rfl) (fun r_7 u_7 H locs hp_7 hP hD hS => ?_)
            have hP : va_P D vwCl (mdlW ad 0 cy 3 h su st sh fl ic sn bn fm fr cm em lg le lf dl cS cH sea noi pl pw an hd bp bo bw c1 c2 c3 c4 c5 e1 e2 e3 e4 e5) H := hP
            have hD : va_D (zIn (mdlW ad 0 cy th h su st sh fl ic sn bn fm fr cm em lg le lf dl cS cH sea noi pl pw an hd bp bo bw c1 c2 c3 c4 c5 e1 e2 e3 e4 e5)) (mdlW ad 0 cy 3 h su st sh fl ic sn bn fm fr cm em lg le lf dl cS cH sea noi pl pw an hd bp bo bw c1 c2 c3 c4 c5 e1 e2 e3 e4 e5) := hD
            subst hp_7
            refine z_rw (b := 0) rfl ?_
            refine zi_if_ne (tgt := 83) M dX7_station_78 (by decide) ⟨by decide, by decide⟩ (fun q => absurd q (by decide)) (fun _ => ?_)
            refine zi_push M dX7_station_81 ?_
            have hP : va_P D vwCl (mdlW ad 0 cy 3 h su st sh fl ic (if 3 = 0 then (sn + 1) else sn) bn fm fr cm em lg le lf dl cS cH sea noi (if 3 = 0 then (zu pl sn q) else pl) (if 3 = 0 then (zu pw sn v) else pw) (if 3 = 0 then (zu an sn a) else an) (if 3 = 0 then (zu hd sn d) else hd) bp bo bw c1 c2 c3 c4 c5 e1 e2 e3 e4 e5) H := hP
            exact zw_i M hr hlk 3 hP hS (by exact Or.inr (Or.inr (Or.inr (⟨rfl, by omega, rfl⟩)))) (by decide) (by decide) dX7_station_82
        ·
          refine zi_if_eq (tgt := 39) M dX7_station_32 (by decide) ⟨by decide, by decide⟩ (fun _ => ?_) (fun q => absurd q (by decide))
          refine zi_push M dX7_station_39 ?_
          refine lv_istore (lv' := [(6, .int (iI 0)), (5, .int (iI 1)), (0, .ref (ad 0)), (1, .int (iI q)), (2, .int (iI v)), (3, .int (iI a)), (4, .int (iI d))]) M.1 M.2.1 dX7_station_40 hl (by decide) rfl (fun ls hl => ?_)
          refine lv_aload_n M.1 M.2.1 dX7_station_42 rfl (lv_at hl 2 rfl) ?_
          refine lv_iload M.1 M.2.1 dX7_station_43 (lv_at hl 1 rfl) ?_
          refine zi_if_ne (tgt := 52) M dX7_station_45 (by decide) ⟨by decide, by decide⟩ (fun _ => ?_) (fun q => absurd q (by decide))
          refine lv_iload M.1 M.2.1 dX7_station_52 (lv_at hl 0 rfl) ?_
          refine zi_if_ne (tgt := 61) M dX7_station_54 (by decide) ⟨by decide, by decide⟩ (fun q => absurd q (by decide)) (fun _ => ?_)
          refine zi_push M dX7_station_57 ?_
          refine zi_goto (tgt := 75) M dX7_station_58 (by decide) ?_
          refine z_cW (z_runV (As := [.int (iI 2)]) (rest := []) M (c_X7_goesWell l D cy z0 ad th h su st sh fl ic sn bn fm fr cm em lg le lf dl cS cH sea noi pl pw an hd bp bo bw c1 c2 c3 c4 c5 e1 e2 e3 e4 e5 2 (by omega)) hE hS hAz (z_cut hP hD hAz [0, 1, 2, 3, 4, 5, 6, 7, 8, 9, 10, 11, 12, 13, 14, 15, 16, 17, 18, 19, 20, 21] rfl (by decide +kernel)) (zRc.of (ci := 7) (q0 := 0) hE hP rfl rfl) zk_cd_X7_goesWell zk_in_RX7 zk_im_X7_goesWell zk_se_X7_goesWell zk_ml_RX7_88 rfl rfl zd_X7_goesWell ⟨by decide, by decide⟩ rfl hl.1 rfl (Nat.le_of_ble_eq_true rfl) dX7_station_75 ⟨by decide, by decide⟩) hP hD hS [0, 1, 2, 3, 4, 5, 6, 7, 8, 9, 10, 11, 12, 13, 14, 15, 16, 17, 18, 19, 20, 21] rfl (fun _ => rfl) (fun r_8 u_8 H locs hp_8 hP hD hS => ?_)
          have hP : va_P D vwCl (mdlW ad 0 cy 2 h su st sh fl ic sn bn fm fr cm em lg le lf dl cS cH sea noi pl pw an hd bp bo bw c1 c2 c3 c4 c5 e1 e2 e3 e4 e5) H := hP
          have hD : va_D (zIn (mdlW ad 0 cy th h su st sh fl ic sn bn fm fr cm em lg le lf dl cS cH sea noi pl pw an hd bp bo bw c1 c2 c3 c4 c5 e1 e2 e3 e4 e5)) (mdlW ad 0 cy 2 h su st sh fl ic sn bn fm fr cm em lg le lf dl cS cH sea noi pl pw an hd bp bo bw c1 c2 c3 c4 c5 e1 e2 e3 e4 e5) := hD
          subst hp_8
          refine z_rw (b := 0) rfl ?_
          refine zi_if_ne (tgt := 83) M dX7_station_78 (by decide) ⟨by decide, by decide⟩ (fun q => absurd q (by decide)) (fun _ => ?_)
          refine zi_push M dX7_station_81 ?_
          have hP : va_P D vwCl (mdlW ad 0 cy 2 h su st sh fl ic (if 2 = 0 then (sn + 1) else sn) bn fm fr cm em lg le lf dl cS cH sea noi (if 2 = 0 then (zu pl sn q) else pl) (if 2 = 0 then (zu pw sn v) else pw) (if 2 = 0 then (zu an sn a) else an) (if 2 = 0 then (zu hd sn d) else hd) bp bo bw c1 c2 c3 c4 c5 e1 e2 e3 e4 e5) H := hP
          exact zw_i M hr hlk 2 hP hS (by exact Or.inr (Or.inr (Or.inl (⟨rfl, by omega, rfl⟩)))) (by decide) (by decide) dX7_station_82
      ·
        refine zi_if_eq (tgt := 39) M dX7_station_22 (by decide) ⟨by decide, by decide⟩ (fun _ => ?_) (fun q => absurd q (by decide))
        refine zi_push M dX7_station_39 ?_
        refine lv_istore (lv' := [(6, .int (iI 0)), (5, .int (iI 1)), (0, .ref (ad 0)), (1, .int (iI q)), (2, .int (iI v)), (3, .int (iI a)), (4, .int (iI d))]) M.1 M.2.1 dX7_station_40 hl (by decide) rfl (fun ls hl => ?_)
        refine lv_aload_n M.1 M.2.1 dX7_station_42 rfl (lv_at hl 2 rfl) ?_
        refine lv_iload M.1 M.2.1 dX7_station_43 (lv_at hl 1 rfl) ?_
        refine zi_if_ne (tgt := 52) M dX7_station_45 (by decide) ⟨by decide, by decide⟩ (fun _ => ?_) (fun q => absurd q (by decide))
        refine lv_iload M.1 M.2.1 dX7_station_52 (lv_at hl 0 rfl) ?_
        refine zi_if_ne (tgt := 61) M dX7_station_54 (by decide) ⟨by decide, by decide⟩ (fun q => absurd q (by decide)) (fun _ => ?_)
        refine zi_push M dX7_station_57 ?_
        refine zi_goto (tgt := 75) M dX7_station_58 (by decide) ?_
        refine z_cW (z_runV (As := [.int (iI 2)]) (rest := []) M (c_X7_goesWell l D cy z0 ad th h su st sh fl ic sn bn fm fr cm em lg le lf dl cS cH sea noi pl pw an hd bp bo bw c1 c2 c3 c4 c5 e1 e2 e3 e4 e5 2 (by omega)) hE hS hAz (z_cut hP hD hAz [0, 1, 2, 3, 4, 5, 6, 7, 8, 9, 10, 11, 12, 13, 14, 15, 16, 17, 18, 19, 20, 21] rfl (by decide +kernel)) (zRc.of (ci := 7) (q0 := 0) hE hP rfl rfl) zk_cd_X7_goesWell zk_in_RX7 zk_im_X7_goesWell zk_se_X7_goesWell zk_ml_RX7_88 rfl rfl zd_X7_goesWell ⟨by decide, by decide⟩ rfl hl.1 rfl (Nat.le_of_ble_eq_true rfl) dX7_station_75 ⟨by decide, by decide⟩) hP hD hS [0, 1, 2, 3, 4, 5, 6, 7, 8, 9, 10, 11, 12, 13, 14, 15, 16, 17, 18, 19, 20, 21] rfl (fun _ => rfl) (fun r_9 u_9 H locs hp_9 hP hD hS => ?_)
        have hP : va_P D vwCl (mdlW ad 0 cy 2 h su st sh fl ic sn bn fm fr cm em lg le lf dl cS cH sea noi pl pw an hd bp bo bw c1 c2 c3 c4 c5 e1 e2 e3 e4 e5) H := hP
        have hD : va_D (zIn (mdlW ad 0 cy th h su st sh fl ic sn bn fm fr cm em lg le lf dl cS cH sea noi pl pw an hd bp bo bw c1 c2 c3 c4 c5 e1 e2 e3 e4 e5)) (mdlW ad 0 cy 2 h su st sh fl ic sn bn fm fr cm em lg le lf dl cS cH sea noi pl pw an hd bp bo bw c1 c2 c3 c4 c5 e1 e2 e3 e4 e5) := hD
        subst hp_9
        refine z_rw (b := 0) rfl ?_
        refine zi_if_ne (tgt := 83) M dX7_station_78 (by decide) ⟨by decide, by decide⟩ (fun q => absurd q (by decide)) (fun _ => ?_)
        refine zi_push M dX7_station_81 ?_
        have hP : va_P D vwCl (mdlW ad 0 cy 2 h su st sh fl ic (if 2 = 0 then (sn + 1) else sn) bn fm fr cm em lg le lf dl cS cH sea noi (if 2 = 0 then (zu pl sn q) else pl) (if 2 = 0 then (zu pw sn v) else pw) (if 2 = 0 then (zu an sn a) else an) (if 2 = 0 then (zu hd sn d) else hd) bp bo bw c1 c2 c3 c4 c5 e1 e2 e3 e4 e5) H := hP
        exact zw_i M hr hlk 2 hP hS (by exact Or.inr (Or.inr (Or.inl (⟨rfl, by omega, rfl⟩)))) (by decide) (by decide) dX7_station_82
    ·
      refine zi_if_eq (tgt := 39) M dX7_station_13 (by decide) ⟨by decide, by decide⟩ (fun _ => ?_) (fun q => absurd q (by decide))
      refine zi_push M dX7_station_39 ?_
      refine lv_istore (lv' := [(6, .int (iI 0)), (5, .int (iI 1)), (0, .ref (ad 0)), (1, .int (iI q)), (2, .int (iI v)), (3, .int (iI a)), (4, .int (iI d))]) M.1 M.2.1 dX7_station_40 hl (by decide) rfl (fun ls hl => ?_)
      refine lv_aload_n M.1 M.2.1 dX7_station_42 rfl (lv_at hl 2 rfl) ?_
      refine lv_iload M.1 M.2.1 dX7_station_43 (lv_at hl 1 rfl) ?_
      refine zi_if_ne (tgt := 52) M dX7_station_45 (by decide) ⟨by decide, by decide⟩ (fun _ => ?_) (fun q => absurd q (by decide))
      refine lv_iload M.1 M.2.1 dX7_station_52 (lv_at hl 0 rfl) ?_
      refine zi_if_ne (tgt := 61) M dX7_station_54 (by decide) ⟨by decide, by decide⟩ (fun q => absurd q (by decide)) (fun _ => ?_)
      refine zi_push M dX7_station_57 ?_
      refine zi_goto (tgt := 75) M dX7_station_58 (by decide) ?_
      refine z_cW (z_runV (As := [.int (iI 2)]) (rest := []) M (c_X7_goesWell l D cy z0 ad th h su st sh fl ic sn bn fm fr cm em lg le lf dl cS cH sea noi pl pw an hd bp bo bw c1 c2 c3 c4 c5 e1 e2 e3 e4 e5 2 (by omega)) hE hS hAz (z_cut hP hD hAz [0, 1, 2, 3, 4, 5, 6, 7, 8, 9, 10, 11, 12, 13, 14, 15, 16, 17, 18, 19, 20, 21] rfl (by decide +kernel)) (zRc.of (ci := 7) (q0 := 0) hE hP rfl rfl) zk_cd_X7_goesWell zk_in_RX7 zk_im_X7_goesWell zk_se_X7_goesWell zk_ml_RX7_88 rfl rfl zd_X7_goesWell ⟨by decide, by decide⟩ rfl hl.1 rfl (Nat.le_of_ble_eq_true rfl) dX7_station_75 ⟨by decide, by decide⟩) hP hD hS [0, 1, 2, 3, 4, 5, 6, 7, 8, 9, 10, 11, 12, 13, 14, 15, 16, 17, 18, 19, 20, 21] rfl (fun _ => rfl) (fun r_10 u_10 H locs hp_10 hP hD hS => ?_)
      have hP : va_P D vwCl (mdlW ad 0 cy 2 h su st sh fl ic sn bn fm fr cm em lg le lf dl cS cH sea noi pl pw an hd bp bo bw c1 c2 c3 c4 c5 e1 e2 e3 e4 e5) H := hP
      have hD : va_D (zIn (mdlW ad 0 cy th h su st sh fl ic sn bn fm fr cm em lg le lf dl cS cH sea noi pl pw an hd bp bo bw c1 c2 c3 c4 c5 e1 e2 e3 e4 e5)) (mdlW ad 0 cy 2 h su st sh fl ic sn bn fm fr cm em lg le lf dl cS cH sea noi pl pw an hd bp bo bw c1 c2 c3 c4 c5 e1 e2 e3 e4 e5) := hD
      subst hp_10
      refine z_rw (b := 0) rfl ?_
      refine zi_if_ne (tgt := 83) M dX7_station_78 (by decide) ⟨by decide, by decide⟩ (fun q => absurd q (by decide)) (fun _ => ?_)
      refine zi_push M dX7_station_81 ?_
      have hP : va_P D vwCl (mdlW ad 0 cy 2 h su st sh fl ic (if 2 = 0 then (sn + 1) else sn) bn fm fr cm em lg le lf dl cS cH sea noi (if 2 = 0 then (zu pl sn q) else pl) (if 2 = 0 then (zu pw sn v) else pw) (if 2 = 0 then (zu an sn a) else an) (if 2 = 0 then (zu hd sn d) else hd) bp bo bw c1 c2 c3 c4 c5 e1 e2 e3 e4 e5) H := hP
      exact zw_i M hr hlk 2 hP hS (by exact Or.inr (Or.inr (Or.inl (⟨rfl, by omega, rfl⟩)))) (by decide) (by decide) dX7_station_82
  ·
    refine lv_istore (lv' := [(5, .int (iI 0)), (0, .ref (ad 0)), (1, .int (iI q)), (2, .int (iI v)), (3, .int (iI a)), (4, .int (iI d))]) M.1 M.2.1 dX7_station_4 hl (by decide) rfl (fun ls hl => ?_)
    refine lv_iload_n M.1 M.2.1 dX7_station_6 rfl (lv_at hl 3 rfl) ?_
    refine zi_push M dX7_station_7 ?_
    refine zi_bipush M dX7_station_8 ⟨by decide, by decide⟩ ?_
    refine z_cR (z_runS (As := [.int (iI v), .int (iI 1), .int (iI 80)]) (rest := []) M (c_X7_in l D cy z0 v 1 80 (by omega) (by omega) (by omega)) hE hS hAz trivial zk_cd_X7_in zk_in_RX7 zk_st_X7_in zk_ml_RX7_81 rfl rfl zd_X7_in ⟨by decide, by decide⟩ rfl hl.1 rfl (Nat.le_of_ble_eq_true rfl) dX7_station_10 ⟨by decide, by decide⟩) ?_
    refine zi_b (P := 1 ≤ v ∧ v ≤ 80) (g := fun r => F0 m 13 ls (.int r :: [])) (fun b_11 => ?_) (fun b_11 => ?_)
    ·
      refine zi_if_eq (tgt := 39) M dX7_station_13 (by decide) ⟨by decide, by decide⟩ (fun q => absurd q (by decide)) (fun _ => ?_)
      refine lv_iload_n M.1 M.2.1 dX7_station_16 rfl (lv_at hl 4 rfl) ?_
      refine zi_push M dX7_station_17 ?_
      refine zi_push M dX7_station_18 ?_
      refine z_cR (z_runS (As := [.int (iI a), .int (iI 0), .int (iI 2)]) (rest := []) M (c_X7_in l D cy z0 a 0 2 (by omega) (by omega) (by omega)) hE hS hAz trivial zk_cd_X7_in zk_in_RX7 zk_st_X7_in zk_ml_RX7_81 rfl rfl zd_X7_in ⟨by decide, by decide⟩ rfl hl.1 rfl (Nat.le_of_ble_eq_true rfl) dX7_station_19 ⟨by decide, by decide⟩) ?_
      refine zi_b (P := 0 ≤ a ∧ a ≤ 2) (g := fun r => F0 m 22 ls (.int r :: [])) (fun b_12 => ?_) (fun b_12 => ?_)
      ·
        refine zi_if_eq (tgt := 39) M dX7_station_22 (by decide) ⟨by decide, by decide⟩ (fun q => absurd q (by decide)) (fun _ => ?_)
        refine lv_iload M.1 M.2.1 dX7_station_25 (lv_at hl 5 rfl) ?_
        refine zi_push M dX7_station_27 ?_
        refine zi_push M dX7_station_28 ?_
        refine z_cR (z_runS (As := [.int (iI d), .int (iI 0), .int (iI 2)]) (rest := []) M (c_X7_in l D cy z0 d 0 2 (by omega) (by omega) (by omega)) hE hS hAz trivial zk_cd_X7_in zk_in_RX7 zk_st_X7_in zk_ml_RX7_81 rfl rfl zd_X7_in ⟨by decide, by decide⟩ rfl hl.1 rfl (Nat.le_of_ble_eq_true rfl) dX7_station_29 ⟨by decide, by decide⟩) ?_
        refine zi_b (P := 0 ≤ d ∧ d ≤ 2) (g := fun r => F0 m 32 ls (.int r :: [])) (fun b_13 => ?_) (fun b_13 => ?_)
        ·
          refine zi_if_eq (tgt := 39) M dX7_station_32 (by decide) ⟨by decide, by decide⟩ (fun q => absurd q (by decide)) (fun _ => ?_)
          refine zi_push M dX7_station_35 ?_
          refine zi_goto (tgt := 40) M dX7_station_36 (by decide) ?_
          refine lv_istore (lv' := [(6, .int (iI 1)), (5, .int (iI 0)), (0, .ref (ad 0)), (1, .int (iI q)), (2, .int (iI v)), (3, .int (iI a)), (4, .int (iI d))]) M.1 M.2.1 dX7_station_40 hl (by decide) rfl (fun ls hl => ?_)
          refine lv_aload_n M.1 M.2.1 dX7_station_42 rfl (lv_at hl 2 rfl) ?_
          refine lv_iload M.1 M.2.1 dX7_station_43 (lv_at hl 1 rfl) ?_
          refine zi_if_ne (tgt := 52) M dX7_station_45 (by decide) ⟨by decide, by decide⟩ (fun q => absurd q (by decide)) (fun _ => ?_)
          refine zi_push M dX7_station_48 ?_
          refine zi_goto (tgt := 75) M dX7_station_49 (by decide) ?_
          refine z_cW (z_runV (As := [.int (iI 1)]) (rest := []) M (c_X7_goesWell l D cy z0 ad th h su st sh fl ic sn bn fm fr cm em lg le lf dl cS cH sea noi pl pw an hd bp bo bw c1 c2 c3 c4 c5 e1 e2 e3 e4 e5 1 (by omega)) hE hS hAz (z_cut hP hD hAz [0, 1, 2, 3, 4, 5, 6, 7, 8, 9, 10, 11, 12, 13, 14, 15, 16, 17, 18, 19, 20, 21] rfl (by decide +kernel)) (zRc.of (ci := 7) (q0 := 0) hE hP rfl rfl) zk_cd_X7_goesWell zk_in_RX7 zk_im_X7_goesWell zk_se_X7_goesWell zk_ml_RX7_88 rfl rfl zd_X7_goesWell ⟨by decide, by decide⟩ rfl hl.1 rfl (Nat.le_of_ble_eq_true rfl) dX7_station_75 ⟨by decide, by decide⟩) hP hD hS [0, 1, 2, 3, 4, 5, 6, 7, 8, 9, 10, 11, 12, 13, 14, 15, 16, 17, 18, 19, 20, 21] rfl (fun _ => rfl) (fun r_14 u_14 H locs hp_14 hP hD hS => ?_)
          have hP : va_P D vwCl (mdlW ad 0 cy 1 h su st sh fl ic sn bn fm fr cm em lg le lf dl cS cH sea noi pl pw an hd bp bo bw c1 c2 c3 c4 c5 e1 e2 e3 e4 e5) H := hP
          have hD : va_D (zIn (mdlW ad 0 cy th h su st sh fl ic sn bn fm fr cm em lg le lf dl cS cH sea noi pl pw an hd bp bo bw c1 c2 c3 c4 c5 e1 e2 e3 e4 e5)) (mdlW ad 0 cy 1 h su st sh fl ic sn bn fm fr cm em lg le lf dl cS cH sea noi pl pw an hd bp bo bw c1 c2 c3 c4 c5 e1 e2 e3 e4 e5) := hD
          subst hp_14
          refine z_rw (b := 0) rfl ?_
          refine zi_if_ne (tgt := 83) M dX7_station_78 (by decide) ⟨by decide, by decide⟩ (fun q => absurd q (by decide)) (fun _ => ?_)
          refine zi_push M dX7_station_81 ?_
          have hP : va_P D vwCl (mdlW ad 0 cy 1 h su st sh fl ic (if 1 = 0 then (sn + 1) else sn) bn fm fr cm em lg le lf dl cS cH sea noi (if 1 = 0 then (zu pl sn q) else pl) (if 1 = 0 then (zu pw sn v) else pw) (if 1 = 0 then (zu an sn a) else an) (if 1 = 0 then (zu hd sn d) else hd) bp bo bw c1 c2 c3 c4 c5 e1 e2 e3 e4 e5) H := hP
          exact zw_i M hr hlk 1 hP hS (by exact Or.inr (Or.inl (⟨rfl, by omega, rfl⟩))) (by decide) (by decide) dX7_station_82
        ·
          refine zi_if_eq (tgt := 39) M dX7_station_32 (by decide) ⟨by decide, by decide⟩ (fun _ => ?_) (fun q => absurd q (by decide))
          refine zi_push M dX7_station_39 ?_
          refine lv_istore (lv' := [(6, .int (iI 0)), (5, .int (iI 0)), (0, .ref (ad 0)), (1, .int (iI q)), (2, .int (iI v)), (3, .int (iI a)), (4, .int (iI d))]) M.1 M.2.1 dX7_station_40 hl (by decide) rfl (fun ls hl => ?_)
          refine lv_aload_n M.1 M.2.1 dX7_station_42 rfl (lv_at hl 2 rfl) ?_
          refine lv_iload M.1 M.2.1 dX7_station_43 (lv_at hl 1 rfl) ?_
          refine zi_if_ne (tgt := 52) M dX7_station_45 (by decide) ⟨by decide, by decide⟩ (fun q => absurd q (by decide)) (fun _ => ?_)
          refine zi_push M dX7_station_48 ?_
          refine zi_goto (tgt := 75) M dX7_station_49 (by decide) ?_
          refine z_cW (z_runV (As := [.int (iI 1)]) (rest := []) M (c_X7_goesWell l D cy z0 ad th h su st sh fl ic sn bn fm fr cm em lg le lf dl cS cH sea noi pl pw an hd bp bo bw c1 c2 c3 c4 c5 e1 e2 e3 e4 e5 1 (by omega)) hE hS hAz (z_cut hP hD hAz [0, 1, 2, 3, 4, 5, 6, 7, 8, 9, 10, 11, 12, 13, 14, 15, 16, 17, 18, 19, 20, 21] rfl (by decide +kernel)) (zRc.of (ci := 7) (q0 := 0) hE hP rfl rfl) zk_cd_X7_goesWell zk_in_RX7 zk_im_X7_goesWell zk_se_X7_goesWell zk_ml_RX7_88 rfl rfl zd_X7_goesWell ⟨by decide, by decide⟩ rfl hl.1 rfl (Nat.le_of_ble_eq_true rfl) dX7_station_75 ⟨by decide, by decide⟩) hP hD hS [0, 1, 2, 3, 4, 5, 6, 7, 8, 9, 10, 11, 12, 13, 14, 15, 16, 17, 18, 19, 20, 21] rfl (fun _ => rfl) (fun r_15 u_15 H locs hp_15 hP hD hS => ?_)
          have hP : va_P D vwCl (mdlW ad 0 cy 1 h su st sh fl ic sn bn fm fr cm em lg le lf dl cS cH sea noi pl pw an hd bp bo bw c1 c2 c3 c4 c5 e1 e2 e3 e4 e5) H := hP
          have hD : va_D (zIn (mdlW ad 0 cy th h su st sh fl ic sn bn fm fr cm em lg le lf dl cS cH sea noi pl pw an hd bp bo bw c1 c2 c3 c4 c5 e1 e2 e3 e4 e5)) (mdlW ad 0 cy 1 h su st sh fl ic sn bn fm fr cm em lg le lf dl cS cH sea noi pl pw an hd bp bo bw c1 c2 c3 c4 c5 e1 e2 e3 e4 e5) := hD
          subst hp_15
          refine z_rw (b := 0) rfl ?_
          refine zi_if_ne (tgt := 83) M dX7_station_78 (by decide) ⟨by decide, by decide⟩ (fun q => absurd q (by decide)) (fun _ => ?_)
          refine zi_push M dX7_station_81 ?_
          have hP : va_P D vwCl (mdlW ad 0 cy 1 h su st sh fl ic (if 1 = 0 then (sn + 1) else sn) bn fm fr cm em lg le lf dl cS cH sea noi (if 1 = 0 then (zu pl sn q) else pl) (if 1 = 0 then (zu pw sn v) else pw) (if 1 = 0 then (zu an sn a) else an) (if 1 = 0 then (zu hd sn d) else hd) bp bo bw c1 c2 c3 c4 c5 e1 e2 e3 e4 e5) H := hP
          exact zw_i M hr hlk 1 hP hS (by exact Or.inr (Or.inl (⟨rfl, by omega, rfl⟩))) (by decide) (by decide) dX7_station_82
      ·
        refine zi_if_eq (tgt := 39) M dX7_station_22 (by decide) ⟨by decide, by decide⟩ (fun _ => ?_) (fun q => absurd q (by decide))
        refine zi_push M dX7_station_39 ?_
        refine lv_istore (lv' := [(6, .int (iI 0)), (5, .int (iI 0)), (0, .ref (ad 0)), (1, .int (iI q)), (2, .int (iI v)), (3, .int (iI a)), (4, .int (iI d))]) M.1 M.2.1 dX7_station_40 hl (by decide) rfl (fun ls hl => ?_)
        refine lv_aload_n M.1 M.2.1 dX7_station_42 rfl (lv_at hl 2 rfl) ?_
        refine lv_iload M.1 M.2.1 dX7_station_43 (lv_at hl 1 rfl) ?_
        refine zi_if_ne (tgt := 52) M dX7_station_45 (by decide) ⟨by decide, by decide⟩ (fun q => absurd q (by decide)) (fun _ => ?_)
        refine zi_push M dX7_station_48 ?_
        refine zi_goto (tgt := 75) M dX7_station_49 (by decide) ?_
        refine z_cW (z_runV (As := [.int (iI 1)]) (rest := []) M (c_X7_goesWell l D cy z0 ad th h su st sh fl ic sn bn fm fr cm em lg le lf dl cS cH sea noi pl pw an hd bp bo bw c1 c2 c3 c4 c5 e1 e2 e3 e4 e5 1 (by omega)) hE hS hAz (z_cut hP hD hAz [0, 1, 2, 3, 4, 5, 6, 7, 8, 9, 10, 11, 12, 13, 14, 15, 16, 17, 18, 19, 20, 21] rfl (by decide +kernel)) (zRc.of (ci := 7) (q0 := 0) hE hP rfl rfl) zk_cd_X7_goesWell zk_in_RX7 zk_im_X7_goesWell zk_se_X7_goesWell zk_ml_RX7_88 rfl rfl zd_X7_goesWell ⟨by decide, by decide⟩ rfl hl.1 rfl (Nat.le_of_ble_eq_true rfl) dX7_station_75 ⟨by decide, by decide⟩) hP hD hS [0, 1, 2, 3, 4, 5, 6, 7, 8, 9, 10, 11, 12, 13, 14, 15, 16, 17, 18, 19, 20, 21] rfl (fun _ => rfl) (fun r_16 u_16 H locs hp_16 hP hD hS => ?_)
        have hP : va_P D vwCl (mdlW ad 0 cy 1 h su st sh fl ic sn bn fm fr cm em lg le lf dl cS cH sea noi pl pw an hd bp bo bw c1 c2 c3 c4 c5 e1 e2 e3 e4 e5) H := hP
        have hD : va_D (zIn (mdlW ad 0 cy th h su st sh fl ic sn bn fm fr cm em lg le lf dl cS cH sea noi pl pw an hd bp bo bw c1 c2 c3 c4 c5 e1 e2 e3 e4 e5)) (mdlW ad 0 cy 1 h su st sh fl ic sn bn fm fr cm em lg le lf dl cS cH sea noi pl pw an hd bp bo bw c1 c2 c3 c4 c5 e1 e2 e3 e4 e5) := hD
        subst hp_16
        refine z_rw (b := 0) rfl ?_
        refine zi_if_ne (tgt := 83) M dX7_station_78 (by decide) ⟨by decide, by decide⟩ (fun q => absurd q (by decide)) (fun _ => ?_)
        refine zi_push M dX7_station_81 ?_
        have hP : va_P D vwCl (mdlW ad 0 cy 1 h su st sh fl ic (if 1 = 0 then (sn + 1) else sn) bn fm fr cm em lg le lf dl cS cH sea noi (if 1 = 0 then (zu pl sn q) else pl) (if 1 = 0 then (zu pw sn v) else pw) (if 1 = 0 then (zu an sn a) else an) (if 1 = 0 then (zu hd sn d) else hd) bp bo bw c1 c2 c3 c4 c5 e1 e2 e3 e4 e5) H := hP
        exact zw_i M hr hlk 1 hP hS (by exact Or.inr (Or.inl (⟨rfl, by omega, rfl⟩))) (by decide) (by decide) dX7_station_82
    ·
      refine zi_if_eq (tgt := 39) M dX7_station_13 (by decide) ⟨by decide, by decide⟩ (fun _ => ?_) (fun q => absurd q (by decide))
      refine zi_push M dX7_station_39 ?_
      refine lv_istore (lv' := [(6, .int (iI 0)), (5, .int (iI 0)), (0, .ref (ad 0)), (1, .int (iI q)), (2, .int (iI v)), (3, .int (iI a)), (4, .int (iI d))]) M.1 M.2.1 dX7_station_40 hl (by decide) rfl (fun ls hl => ?_)
      refine lv_aload_n M.1 M.2.1 dX7_station_42 rfl (lv_at hl 2 rfl) ?_
      refine lv_iload M.1 M.2.1 dX7_station_43 (lv_at hl 1 rfl) ?_
      refine zi_if_ne (tgt := 52) M dX7_station_45 (by decide) ⟨by decide, by decide⟩ (fun q => absurd q (by decide)) (fun _ => ?_)
      refine zi_push M dX7_station_48 ?_
      refine zi_goto (tgt := 75) M dX7_station_49 (by decide) ?_
      refine z_cW (z_runV (As := [.int (iI 1)]) (rest := []) M (c_X7_goesWell l D cy z0 ad th h su st sh fl ic sn bn fm fr cm em lg le lf dl cS cH sea noi pl pw an hd bp bo bw c1 c2 c3 c4 c5 e1 e2 e3 e4 e5 1 (by omega)) hE hS hAz (z_cut hP hD hAz [0, 1, 2, 3, 4, 5, 6, 7, 8, 9, 10, 11, 12, 13, 14, 15, 16, 17, 18, 19, 20, 21] rfl (by decide +kernel)) (zRc.of (ci := 7) (q0 := 0) hE hP rfl rfl) zk_cd_X7_goesWell zk_in_RX7 zk_im_X7_goesWell zk_se_X7_goesWell zk_ml_RX7_88 rfl rfl zd_X7_goesWell ⟨by decide, by decide⟩ rfl hl.1 rfl (Nat.le_of_ble_eq_true rfl) dX7_station_75 ⟨by decide, by decide⟩) hP hD hS [0, 1, 2, 3, 4, 5, 6, 7, 8, 9, 10, 11, 12, 13, 14, 15, 16, 17, 18, 19, 20, 21] rfl (fun _ => rfl) (fun r_17 u_17 H locs hp_17 hP hD hS => ?_)
      have hP : va_P D vwCl (mdlW ad 0 cy 1 h su st sh fl ic sn bn fm fr cm em lg le lf dl cS cH sea noi pl pw an hd bp bo bw c1 c2 c3 c4 c5 e1 e2 e3 e4 e5) H := hP
      have hD : va_D (zIn (mdlW ad 0 cy th h su st sh fl ic sn bn fm fr cm em lg le lf dl cS cH sea noi pl pw an hd bp bo bw c1 c2 c3 c4 c5 e1 e2 e3 e4 e5)) (mdlW ad 0 cy 1 h su st sh fl ic sn bn fm fr cm em lg le lf dl cS cH sea noi pl pw an hd bp bo bw c1 c2 c3 c4 c5 e1 e2 e3 e4 e5) := hD
      subst hp_17
      refine z_rw (b := 0) rfl ?_
      refine zi_if_ne (tgt := 83) M dX7_station_78 (by decide) ⟨by decide, by decide⟩ (fun q => absurd q (by decide)) (fun _ => ?_)
      refine zi_push M dX7_station_81 ?_
      have hP : va_P D vwCl (mdlW ad 0 cy 1 h su st sh fl ic (if 1 = 0 then (sn + 1) else sn) bn fm fr cm em lg le lf dl cS cH sea noi (if 1 = 0 then (zu pl sn q) else pl) (if 1 = 0 then (zu pw sn v) else pw) (if 1 = 0 then (zu an sn a) else an) (if 1 = 0 then (zu hd sn d) else hd) bp bo bw c1 c2 c3 c4 c5 e1 e2 e3 e4 e5) H := hP
      exact zw_i M hr hlk 1 hP hS (by exact Or.inr (Or.inl (⟨rfl, by omega, rfl⟩))) (by decide) (by decide) dX7_station_82

set_option maxRecDepth 100000 in
set_option maxHeartbeats 4000000 in
theorem c_X7_beacon (l : Launch) (D : va_G) (cy : Nat → ClassId) (z0 : Nat) (ad : Nat → Nat) (th h su st sh fl ic sn bn fm fr cm em lg le lf dl : Int) (cS cH sea noi pl pw an hd bp bo bw c1 c2 c3 c4 c5 e1 e2 e3 e4 e5 : Int → Int) (q : Int) (f : Int) (v : Int) (r_q : r32 q) (r_f : r32 f) (r_v : r32 v) (hbm : 0 ≤ bn ∧ bn ≤ 6) : Met l yX7_beacon [.code yX7_beacon cX7_beacon 6 (some .int)] (zRm 2 0 0 42) (zPc [.ref (ad 0), .int (iI q), .int (iI f), .int (iI v)] D cy z0 (zWl D z0 (mdlW ad 0 cy th h su st sh fl ic sn bn fm fr cm em lg le lf dl cS cH sea noi pl pw an hd bp bo bw c1 c2 c3 c4 c5 e1 e2 e3 e4 e5))) (zQ1 D (mdlW ad 0 cy th h su st sh fl ic sn bn fm fr cm em lg le lf dl cS cH sea noi pl pw an hd bp bo bw c1 c2 c3 c4 c5 e1 e2 e3 e4 e5) (fun (r : Int32) (u : Int) => (u = 0 ∧ ((0 ≤ q ∧ q < 48) ∧ ((10 ≤ f ∧ f ≤ 300) ∧ (1 ≤ v ∧ v ≤ 80)) ∧ (bn < 6)) ∧ r = iI bn) ∨ (u = 1 ∧ (¬ (0 ≤ q ∧ q < 48)) ∧ r = iI 0) ∨ (u = 2 ∧ ((0 ≤ q ∧ q < 48) ∧ ¬ ((10 ≤ f ∧ f ≤ 300) ∧ (1 ≤ v ∧ v ≤ 80))) ∧ r = iI 0) ∨ (u = 3 ∧ ((0 ≤ q ∧ q < 48) ∧ ((10 ≤ f ∧ f ≤ 300) ∧ (1 ≤ v ∧ v ≤ 80)) ∧ ¬ (bn < 6)) ∧ r = iI 0)) (fun (u : Int) => (mdlW ad 0 cy u h su st sh fl ic sn (if u = 0 then (bn + 1) else bn) fm fr cm em lg le lf dl cS cH sea noi pl pw an hd (if u = 0 then (zu bp bn q) else bp) (if u = 0 then (zu bo bn f) else bo) (if u = 0 then (zu bw bn v) else bw) c1 c2 c3 c4 c5 e1 e2 e3 e4 e5))) 0 0 (zIn (mdlW ad 0 cy th h su st sh fl ic sn bn fm fr cm em lg le lf dl cS cH sea noi pl pw an hd bp bo bw c1 c2 c3 c4 c5 e1 e2 e3 e4 e5)) := by
  refine z_of (by decide) (Nat.le_of_ble_eq_true rfl) ?_
  intro p e s m args below meth c M hr hlk hini hargs hP0 hE ls hl
  have hP : va_P D vwCl (mdlW ad 0 cy th h su st sh fl ic sn bn fm fr cm em lg le lf dl cS cH sea noi pl pw an hd bp bo bw c1 c2 c3 c4 c5 e1 e2 e3 e4 e5) s.heap := hP0.1
  have hD : va_D (zIn (mdlW ad 0 cy th h su st sh fl ic sn bn fm fr cm em lg le lf dl cS cH sea noi pl pw an hd bp bo bw c1 c2 c3 c4 c5 e1 e2 e3 e4 e5)) (mdlW ad 0 cy th h su st sh fl ic sn bn fm fr cm em lg le lf dl cS cH sea noi pl pw an hd bp bo bw c1 c2 c3 c4 c5 e1 e2 e3 e4 e5) := hP0.self
  have hAz := hP0.A
  have hS : va_S (zIn (mdlW ad 0 cy th h su st sh fl ic sn bn fm fr cm em lg le lf dl cS cH sea noi pl pw an hd bp bo bw c1 c2 c3 c4 c5 e1 e2 e3 e4 e5)) s.heap s.heap [] := va_S.rf
  have hl : lv_has ls 6 [(0, .ref (ad 0)), (1, .int (iI q)), (2, .int (iI f)), (3, .int (iI v))] := hl
  refine lv_iload_n M.1 M.2.1 dX7_beacon_0 rfl (lv_at hl 1 rfl) ?_
  refine z_cR (z_runS (As := [.int (iI q)]) (rest := []) M (c_X7_isPlace l D cy z0 q (by omega)) hE hS hAz trivial zk_cd_X7_isPlace zk_in_RX7 zk_st_X7_isPlace zk_ml_RX7_101 rfl rfl zd_X7_isPlace ⟨by decide, by decide⟩ rfl hl.1 rfl (Nat.le_of_ble_eq_true rfl) dX7_beacon_1 ⟨by decide, by decide⟩) ?_
  refine zi_b (P := 0 ≤ q ∧ q ≤ 47) (g := fun r => F0 m 4 ls (.int r :: [])) (fun b_1 => ?_) (fun b_1 => ?_)
  ·
    refine lv_istore (lv' := [(4, .int (iI 1)), (0, .ref (ad 0)), (1, .int (iI q)), (2, .int (iI f)), (3, .int (iI v))]) M.1 M.2.1 dX7_beacon_4 hl (by decide) rfl (fun ls hl => ?_)
    refine lv_iload_n M.1 M.2.1 dX7_beacon_6 rfl (lv_at hl 3 rfl) ?_
    refine z_cR (z_runS (As := [.int (iI f)]) (rest := []) M (c_X7_isOn l D cy z0 f (by omega)) hE hS hAz trivial zk_cd_X7_isOn zk_in_RX7 zk_st_X7_isOn zk_ml_RX7_152 rfl rfl zd_X7_isOn ⟨by decide, by decide⟩ rfl hl.1 rfl (Nat.le_of_ble_eq_true rfl) dX7_beacon_7 ⟨by decide, by decide⟩) ?_
    refine zi_b (P := 10 ≤ f ∧ f ≤ 300) (g := fun r => F0 m 10 ls (.int r :: [])) (fun b_2 => ?_) (fun b_2 => ?_)
    ·
      refine zi_if_eq (tgt := 27) M dX7_beacon_10 (by decide) ⟨by decide, by decide⟩ (fun q => absurd q (by decide)) (fun _ => ?_)
      refine lv_iload_n M.1 M.2.1 dX7_beacon_13 rfl (lv_at hl 4 rfl) ?_
      refine zi_push M dX7_beacon_14 ?_
      refine zi_bipush M dX7_beacon_15 ⟨by decide, by decide⟩ ?_
      refine z_cR (z_runS (As := [.int (iI v), .int (iI 1), .int (iI 80)]) (rest := []) M (c_X7_in l D cy z0 v 1 80 (by omega) (by omega) (by omega)) hE hS hAz trivial zk_cd_X7_in zk_in_RX7 zk_st_X7_in zk_ml_RX7_81 rfl rfl zd_X7_in ⟨by decide, by decide⟩ rfl hl.1 rfl (Nat.le_of_ble_eq_true rfl) dX7_beacon_17 ⟨by decide, by decide⟩) ?_
      refine zi_b (P := 1 ≤ v ∧ v ≤ 80) (g := fun r => F0 m 20 ls (.int r :: [])) (fun b_3 => ?_) (fun b_3 => ?_)
      ·
        refine zi_if_eq (tgt := 27) M dX7_beacon_20 (by decide) ⟨by decide, by decide⟩ (fun q => absurd q (by decide)) (fun _ => ?_)
        refine zi_push M dX7_beacon_23 ?_
        refine zi_goto (tgt := 28) M dX7_beacon_24 (by decide) ?_
        refine lv_istore (lv' := [(5, .int (iI 1)), (4, .int (iI 1)), (0, .ref (ad 0)), (1, .int (iI q)), (2, .int (iI f)), (3, .int (iI v))]) M.1 M.2.1 dX7_beacon_28 hl (by decide) rfl (fun ls hl => ?_)
        refine lv_aload_n M.1 M.2.1 dX7_beacon_30 rfl (lv_at hl 2 rfl) ?_
        refine lv_iload M.1 M.2.1 dX7_beacon_31 (lv_at hl 1 rfl) ?_
        refine zi_if_ne (tgt := 40) M dX7_beacon_33 (by decide) ⟨by decide, by decide⟩ (fun _ => ?_) (fun q => absurd q (by decide))
        refine lv_iload M.1 M.2.1 dX7_beacon_40 (lv_at hl 0 rfl) ?_
        refine zi_if_ne (tgt := 49) M dX7_beacon_42 (by decide) ⟨by decide, by decide⟩ (fun _ => ?_) (fun q => absurd q (by decide))
        refine lv_aload_n M.1 M.2.1 dX7_beacon_49 rfl (lv_at hl 2 rfl) ?_
        refine zi_get (ci := 7) (v := .int (iI bn)) M hE hP 0 rfl rfl zu_X7 16 (by decide) zk_fl_RX7_174 rfl rfl dX7_beacon_50 ?_
        refine zi_bipush M dX7_beacon_53 ⟨by decide, by decide⟩ ?_
        refine zi_icmp_ne (tgt := 62) M dX7_beacon_55 (by decide) (by omega) ⟨by decide, by decide⟩ (fun c_4 => ?_) (fun c_4 => ?_)
        ·
          refine zi_push M dX7_beacon_62 ?_
          refine z_cW (z_runV (As := [.int (iI 0)]) (rest := []) M (c_X7_goesWell l D cy z0 ad th h su st sh fl ic sn bn fm fr cm em lg le lf dl cS cH sea noi pl pw an hd bp bo bw c1 c2 c3 c4 c5 e1 e2 e3 e4 e5 0 (by omega)) hE hS hAz (z_cut hP hD hAz [0, 1, 2, 3, 4, 5, 6, 7, 8, 9, 10, 11, 12, 13, 14, 15, 16, 17, 18, 19, 20, 21] rfl (by decide +kernel)) (zRc.of (ci := 7) (q0 := 0) hE hP rfl rfl) zk_cd_X7_goesWell zk_in_RX7 zk_im_X7_goesWell zk_se_X7_goesWell zk_ml_RX7_88 rfl rfl zd_X7_goesWell ⟨by decide, by decide⟩ rfl hl.1 rfl (Nat.le_of_ble_eq_true rfl) dX7_beacon_63 ⟨by decide, by decide⟩) hP hD hS [0, 1, 2, 3, 4, 5, 6, 7, 8, 9, 10, 11, 12, 13, 14, 15, 16, 17, 18, 19, 20, 21] rfl (fun _ => rfl) (fun r_5 u_5 H locs hp_5 hP hD hS => ?_)
          have hP : va_P D vwCl (mdlW ad 0 cy 0 h su st sh fl ic sn bn fm fr cm em lg le lf dl cS cH sea noi pl pw an hd bp bo bw c1 c2 c3 c4 c5 e1 e2 e3 e4 e5) H := hP
          have hD : va_D (zIn (mdlW ad 0 cy th h su st sh fl ic sn bn fm fr cm em lg le lf dl cS cH sea noi pl pw an hd bp bo bw c1 c2 c3 c4 c5 e1 e2 e3 e4 e5)) (mdlW ad 0 cy 0 h su st sh fl ic sn bn fm fr cm em lg le lf dl cS cH sea noi pl pw an hd bp bo bw c1 c2 c3 c4 c5 e1 e2 e3 e4 e5) := hD
          subst hp_5
          refine z_rw (b := 1) rfl ?_
          refine zi_if_ne (tgt := 71) M dX7_beacon_66 (by decide) ⟨by decide, by decide⟩ (fun _ => ?_) (fun q => absurd q (by decide))
          refine lv_aload_n M.1 M.2.1 dX7_beacon_71 rfl (lv_at hl 2 rfl) ?_
          refine zi_get (ci := 7) (v := .ref (ad (0 + 9))) M hE hP 0 rfl rfl zu_X7 17 (by decide) zk_fl_RX7_39 rfl rfl dX7_beacon_72 ?_
          refine lv_aload_n M.1 M.2.1 dX7_beacon_75 rfl (lv_at hl 2 rfl) ?_
          refine zi_get (ci := 7) (v := .int (iI bn)) M hE hP 0 rfl rfl zu_X7 16 (by decide) zk_fl_RX7_174 rfl rfl dX7_beacon_76 ?_
          refine lv_iload_n M.1 M.2.1 dX7_beacon_79 rfl (lv_at hl 3 rfl) ?_
          refine zi_iast (ws' := (mdlW ad 0 cy 0 h su st sh fl ic sn bn fm fr cm em lg le lf dl cS cH sea noi pl pw an hd (zu bp bn q) bo bw c1 c2 c3 c4 c5 e1 e2 e3 e4 e5)) M hE hP hD hS 9 (n := 6) (g := bp) rfl (Nat.le_of_ble_eq_true rfl) (by omega) (by omega) rfl dX7_beacon_80 (fun H locs hP hD hS => ?_)
          refine lv_aload_n M.1 M.2.1 dX7_beacon_81 rfl (lv_at hl 2 rfl) ?_
          refine zi_get (ci := 7) (v := .ref (ad (0 + 10))) M hE hP 0 rfl rfl zu_X7 18 (by decide) zk_fl_RX7_42 rfl rfl dX7_beacon_82 ?_
          refine lv_aload_n M.1 M.2.1 dX7_beacon_85 rfl (lv_at hl 2 rfl) ?_
          refine zi_get (ci := 7) (v := .int (iI bn)) M hE hP 0 rfl rfl zu_X7 16 (by decide) zk_fl_RX7_174 rfl rfl dX7_beacon_86 ?_
          refine lv_iload_n M.1 M.2.1 dX7_beacon_89 rfl (lv_at hl 4 rfl) ?_
          refine zi_iast (ws' := (mdlW ad 0 cy 0 h su st sh fl ic sn bn fm fr cm em lg le lf dl cS cH sea noi pl pw an hd (zu bp bn q) (zu bo bn f) bw c1 c2 c3 c4 c5 e1 e2 e3 e4 e5)) M hE hP hD hS 10 (n := 6) (g := bo) rfl (Nat.le_of_ble_eq_true rfl) (by omega) (by omega) rfl dX7_beacon_90 (fun H locs hP hD hS => ?_)
          refine lv_aload_n M.1 M.2.1 dX7_beacon_91 rfl (lv_at hl 2 rfl) ?_
          refine zi_get (ci := 7) (v := .ref (ad (0 + 11))) M hE hP 0 rfl rfl zu_X7 19 (by decide) zk_fl_RX7_45 rfl rfl dX7_beacon_92 ?_
          refine lv_aload_n M.1 M.2.1 dX7_beacon_95 rfl (lv_at hl 2 rfl) ?_
          refine zi_get (ci := 7) (v := .int (iI bn)) M hE hP 0 rfl rfl zu_X7 16 (by decide) zk_fl_RX7_174 rfl rfl dX7_beacon_96 ?_
          refine lv_iload_n M.1 M.2.1 dX7_beacon_99 rfl (lv_at hl 5 rfl) ?_
          refine zi_iast (ws' := (mdlW ad 0 cy 0 h su st sh fl ic sn bn fm fr cm em lg le lf dl cS cH sea noi pl pw an hd (zu bp bn q) (zu bo bn f) (zu bw bn v) c1 c2 c3 c4 c5 e1 e2 e3 e4 e5)) M hE hP hD hS 11 (n := 6) (g := bw) rfl (Nat.le_of_ble_eq_true rfl) (by omega) (by omega) rfl dX7_beacon_100 (fun H locs hP hD hS => ?_)
          refine lv_aload_n M.1 M.2.1 dX7_beacon_101 rfl (lv_at hl 2 rfl) ?_
          refine lv_dup M.1 M.2.1 dX7_beacon_102 rfl ?_
          refine zi_get (ci := 7) (v := .int (iI bn)) M hE hP 0 rfl rfl zu_X7 16 (by decide) zk_fl_RX7_174 rfl rfl dX7_beacon_103 ?_
          refine zi_push M dX7_beacon_106 ?_
          refine zi_iadd M dX7_beacon_107 ?_
          refine zi_put (ci := 7) (ws' := (mdlW ad 0 cy 0 h su st sh fl ic sn (bn + 1) fm fr cm em lg le lf dl cS cH sea noi pl pw an hd (zu bp bn q) (zu bo bn f) (zu bw bn v) c1 c2 c3 c4 c5 e1 e2 e3 e4 e5)) M hE hP hD hS 0 rfl rfl zu_X7 16 (by decide) zk_fl_RX7_174 rfl rfl tyX7_ok nmX7 rfl rfl (Nat.le_of_ble_eq_true rfl) rfl dX7_beacon_108 (fun H locs hP hD hS => ?_)
          refine lv_aload_n M.1 M.2.1 dX7_beacon_111 rfl (lv_at hl 2 rfl) ?_
          refine zi_get (ci := 7) (v := .int (iI (bn + 1))) M hE hP 0 rfl rfl zu_X7 16 (by decide) zk_fl_RX7_174 rfl rfl dX7_beacon_112 ?_
          refine zi_push M dX7_beacon_115 ?_
          refine zi_isub M dX7_beacon_116 ?_
          have hP : va_P D vwCl (mdlW ad 0 cy 0 h su st sh fl ic sn (if 0 = 0 then (bn + 1) else bn) fm fr cm em lg le lf dl cS cH sea noi pl pw an hd (if 0 = 0 then (zu bp bn q) else bp) (if 0 = 0 then (zu bo bn f) else bo) (if 0 = 0 then (zu bw bn v) else bw) c1 c2 c3 c4 c5 e1 e2 e3 e4 e5) H := hP
          exact zw_i M hr hlk 0 hP hS (by exact Or.inl ⟨rfl, by omega, congrArg iI (show (((bn + 1) - 1) : Int) = bn by omega)⟩) (by decide) (by decide) dX7_beacon_117
        ·
          refine zi_push M dX7_beacon_58 ?_
          refine zi_goto (tgt := 63) M dX7_beacon_59 (by decide) ?_
          refine z_cW (z_runV (As := [.int (iI 3)]) (rest := []) M (c_X7_goesWell l D cy z0 ad th h su st sh fl ic sn bn fm fr cm em lg le lf dl cS cH sea noi pl pw an hd bp bo bw c1 c2 c3 c4 c5 e1 e2 e3 e4 e5 3 (by omega)) hE hS hAz (z_cut hP hD hAz [0, 1, 2, 3, 4, 5, 6, 7, 8, 9, 10, 11, 12, 13, 14, 15, 16, 17, 18, 19, 20, 21] rfl (by decide +kernel)) (zRc.of (ci := 7) (q0 := 0) hE hP rfl rfl) zk_cd_X7_goesWell zk_in_RX7 zk_im_X7_goesWell zk_se_X7_goesWell zk_ml_RX7_88 rfl rfl zd_X7_goesWell ⟨by decide, by decide⟩ rfl hl.1 rfl (Nat.le_of_ble_eq_true rfl) dX7_beacon_63 ⟨by decide, by decide⟩) hP hD hS [0, 1, 2, 3, 4, 5, 6, 7, 8, 9, 10, 11, 12, 13, 14, 15, 16, 17, 18, 19, 20, 21] rfl (fun _ => rfl) (fun r_6 u_6 H locs hp_6 hP hD hS => ?_)
          have hP : va_P D vwCl (mdlW ad 0 cy 3 h su st sh fl ic sn bn fm fr cm em lg le lf dl cS cH sea noi pl pw an hd bp bo bw c1 c2 c3 c4 c5 e1 e2 e3 e4 e5) H := hP
          have hD : va_D (zIn (mdlW ad 0 cy th h su st sh fl ic sn bn fm fr cm em lg le lf dl cS cH sea noi pl pw an hd bp bo bw c1 c2 c3 c4 c5 e1 e2 e3 e4 e5)) (mdlW ad 0 cy 3 h su st sh fl ic sn bn fm fr cm em lg le lf dl cS cH sea noi pl pw an hd bp bo bw c1 c2 c3 c4 c5 e1 e2 e3 e4 e5) := hD
          subst hp_6
          refine z_rw (b := 0) rfl ?_
          refine zi_if_ne (tgt := 71) M dX7_beacon_66 (by decide) ⟨by decide, by decide⟩ (fun q => absurd q (by decide)) (fun _ => ?_)
          refine zi_push M dX7_beacon_69 ?_
          have hP : va_P D vwCl (mdlW ad 0 cy 3 h su st sh fl ic sn (if 3 = 0 then (bn + 1) else bn) fm fr cm em lg le lf dl cS cH sea noi pl pw an hd (if 3 = 0 then (zu bp bn q) else bp) (if 3 = 0 then (zu bo bn f) else bo) (if 3 = 0 then (zu bw bn v) else bw) c1 c2 c3 c4 c5 e1 e2 e3 e4 e5) H := hP
          exact zw_i M hr hlk 3 hP hS (by exact Or.inr (Or.inr (Or.inr (⟨rfl, by omega, rfl⟩)))) (by decide) (by decide) dX7_beacon_70
      ·
        refine zi_if_eq (tgt := 27) M dX7_beacon_20 (by decide) ⟨by decide, by decide⟩ (fun _ => ?_) (fun q => absurd q (by decide))
        refine zi_push M dX7_beacon_27 ?_
        refine lv_istore (lv' := [(5, .int (iI 0)), (4, .int (iI 1)), (0, .ref (ad 0)), (1, .int (iI q)), (2, .int (iI f)), (3, .int (iI v))]) M.1 M.2.1 dX7_beacon_28 hl (by decide) rfl (fun ls hl => ?_)
        refine lv_aload_n M.1 M.2.1 dX7_beacon_30 rfl (lv_at hl 2 rfl) ?_
        refine lv_iload M.1 M.2.1 dX7_beacon_31 (lv_at hl 1 rfl) ?_
        refine zi_if_ne (tgt := 40) M dX7_beacon_33 (by decide) ⟨by decide, by decide⟩ (fun _ => ?_) (fun q => absurd q (by decide))
        refine lv_iload M.1 M.2.1 dX7_beacon_40 (lv_at hl 0 rfl) ?_
        refine zi_if_ne (tgt := 49) M dX7_beacon_42 (by decide) ⟨by decide, by decide⟩ (fun q => absurd q (by decide)) (fun _ => ?_)
        refine zi_push M dX7_beacon_45 ?_
        refine zi_goto (tgt := 63) M dX7_beacon_46 (by decide) ?_
        refine z_cW (z_runV (As := [.int (iI 2)]) (rest := []) M (c_X7_goesWell l D cy z0 ad th h su st sh fl ic sn bn fm fr cm em lg le lf dl cS cH sea noi pl pw an hd bp bo bw c1 c2 c3 c4 c5 e1 e2 e3 e4 e5 2 (by omega)) hE hS hAz (z_cut hP hD hAz [0, 1, 2, 3, 4, 5, 6, 7, 8, 9, 10, 11, 12, 13, 14, 15, 16, 17, 18, 19, 20, 21] rfl (by decide +kernel)) (zRc.of (ci := 7) (q0 := 0) hE hP rfl rfl) zk_cd_X7_goesWell zk_in_RX7 zk_im_X7_goesWell zk_se_X7_goesWell zk_ml_RX7_88 rfl rfl zd_X7_goesWell ⟨by decide, by decide⟩ rfl hl.1 rfl (Nat.le_of_ble_eq_true rfl) dX7_beacon_63 ⟨by decide, by decide⟩) hP hD hS [0, 1, 2, 3, 4, 5, 6, 7, 8, 9, 10, 11, 12, 13, 14, 15, 16, 17, 18, 19, 20, 21] rfl (fun _ => rfl) (fun r_7 u_7 H locs hp_7 hP hD hS => ?_)
        have hP : va_P D vwCl (mdlW ad 0 cy 2 h su st sh fl ic sn bn fm fr cm em lg le lf dl cS cH sea noi pl pw an hd bp bo bw c1 c2 c3 c4 c5 e1 e2 e3 e4 e5) H := hP
        have hD : va_D (zIn (mdlW ad 0 cy th h su st sh fl ic sn bn fm fr cm em lg le lf dl cS cH sea noi pl pw an hd bp bo bw c1 c2 c3 c4 c5 e1 e2 e3 e4 e5)) (mdlW ad 0 cy 2 h su st sh fl ic sn bn fm fr cm em lg le lf dl cS cH sea noi pl pw an hd bp bo bw c1 c2 c3 c4 c5 e1 e2 e3 e4 e5) := hD
        subst hp_7
        refine z_rw (b := 0) rfl ?_
        refine zi_if_ne (tgt := 71) M dX7_beacon_66 (by decide) ⟨by decide, by decide⟩ (fun q => absurd q (by decide)) (fun _ => ?_)
        refine zi_push M dX7_beacon_69 ?_
        have hP : va_P D vwCl (mdlW ad 0 cy 2 h su st sh fl ic sn (if 2 = 0 then (bn + 1) else bn) fm fr cm em lg le lf dl cS cH sea noi pl pw an hd (if 2 = 0 then (zu bp bn q) else bp) (if 2 = 0 then (zu bo bn f) else bo) (if 2 = 0 then (zu bw bn v) else bw) c1 c2 c3 c4 c5 e1 e2 e3 e4 e5) H := hP
        exact zw_i M hr hlk 2 hP hS (by exact Or.inr (Or.inr (Or.inl (⟨rfl, by omega, rfl⟩)))) (by decide) (by decide) dX7_beacon_70
    ·
      refine zi_if_eq (tgt := 27) M dX7_beacon_10 (by decide) ⟨by decide, by decide⟩ (fun _ => ?_) (fun q => absurd q (by decide))
      refine zi_push M dX7_beacon_27 ?_
      refine lv_istore (lv' := [(5, .int (iI 0)), (4, .int (iI 1)), (0, .ref (ad 0)), (1, .int (iI q)), (2, .int (iI f)), (3, .int (iI v))]) M.1 M.2.1 dX7_beacon_28 hl (by decide) rfl (fun ls hl => ?_)
      refine lv_aload_n M.1 M.2.1 dX7_beacon_30 rfl (lv_at hl 2 rfl) ?_
      refine lv_iload M.1 M.2.1 dX7_beacon_31 (lv_at hl 1 rfl) ?_
      refine zi_if_ne (tgt := 40) M dX7_beacon_33 (by decide) ⟨by decide, by decide⟩ (fun _ => ?_) (fun q => absurd q (by decide))
      refine lv_iload M.1 M.2.1 dX7_beacon_40 (lv_at hl 0 rfl) ?_
      refine zi_if_ne (tgt := 49) M dX7_beacon_42 (by decide) ⟨by decide, by decide⟩ (fun q => absurd q (by decide)) (fun _ => ?_)
      refine zi_push M dX7_beacon_45 ?_
      refine zi_goto (tgt := 63) M dX7_beacon_46 (by decide) ?_
      refine z_cW (z_runV (As := [.int (iI 2)]) (rest := []) M (c_X7_goesWell l D cy z0 ad th h su st sh fl ic sn bn fm fr cm em lg le lf dl cS cH sea noi pl pw an hd bp bo bw c1 c2 c3 c4 c5 e1 e2 e3 e4 e5 2 (by omega)) hE hS hAz (z_cut hP hD hAz [0, 1, 2, 3, 4, 5, 6, 7, 8, 9, 10, 11, 12, 13, 14, 15, 16, 17, 18, 19, 20, 21] rfl (by decide +kernel)) (zRc.of (ci := 7) (q0 := 0) hE hP rfl rfl) zk_cd_X7_goesWell zk_in_RX7 zk_im_X7_goesWell zk_se_X7_goesWell zk_ml_RX7_88 rfl rfl zd_X7_goesWell ⟨by decide, by decide⟩ rfl hl.1 rfl (Nat.le_of_ble_eq_true rfl) dX7_beacon_63 ⟨by decide, by decide⟩) hP hD hS [0, 1, 2, 3, 4, 5, 6, 7, 8, 9, 10, 11, 12, 13, 14, 15, 16, 17, 18, 19, 20, 21] rfl (fun _ => rfl) (fun r_8 u_8 H locs hp_8 hP hD hS => ?_)
      have hP : va_P D vwCl (mdlW ad 0 cy 2 h su st sh fl ic sn bn fm fr cm em lg le lf dl cS cH sea noi pl pw an hd bp bo bw c1 c2 c3 c4 c5 e1 e2 e3 e4 e5) H := hP
      have hD : va_D (zIn (mdlW ad 0 cy th h su st sh fl ic sn bn fm fr cm em lg le lf dl cS cH sea noi pl pw an hd bp bo bw c1 c2 c3 c4 c5 e1 e2 e3 e4 e5)) (mdlW ad 0 cy 2 h su st sh fl ic sn bn fm fr cm em lg le lf dl cS cH sea noi pl pw an hd bp bo bw c1 c2 c3 c4 c5 e1 e2 e3 e4 e5) := hD
      subst hp_8
      refine z_rw (b := 0) rfl ?_
      refine zi_if_ne (tgt := 71) M dX7_beacon_66 (by decide) ⟨by decide, by decide⟩ (fun q => absurd q (by decide)) (fun _ => ?_)
      refine zi_push M dX7_beacon_69 ?_
      have hP : va_P D vwCl (mdlW ad 0 cy 2 h su st sh fl ic sn (if 2 = 0 then (bn + 1) else bn) fm fr cm em lg le lf dl cS cH sea noi pl pw an hd (if 2 = 0 then (zu bp bn q) else bp) (if 2 = 0 then (zu bo bn f) else bo) (if 2 = 0 then (zu bw bn v) else bw) c1 c2 c3 c4 c5 e1 e2 e3 e4 e5) H := hP
      exact zw_i M hr hlk 2 hP hS (by exact Or.inr (Or.inr (Or.inl (⟨rfl, by omega, rfl⟩)))) (by decide) (by decide) dX7_beacon_70
  ·
    refine lv_istore (lv' := [(4, .int (iI 0)), (0, .ref (ad 0)), (1, .int (iI q)), (2, .int (iI f)), (3, .int (iI v))]) M.1 M.2.1 dX7_beacon_4 hl (by decide) rfl (fun ls hl => ?_)
    refine lv_iload_n M.1 M.2.1 dX7_beacon_6 rfl (lv_at hl 3 rfl) ?_
    refine z_cR (z_runS (As := [.int (iI f)]) (rest := []) M (c_X7_isOn l D cy z0 f (by omega)) hE hS hAz trivial zk_cd_X7_isOn zk_in_RX7 zk_st_X7_isOn zk_ml_RX7_152 rfl rfl zd_X7_isOn ⟨by decide, by decide⟩ rfl hl.1 rfl (Nat.le_of_ble_eq_true rfl) dX7_beacon_7 ⟨by decide, by decide⟩) ?_
    refine zi_b (P := 10 ≤ f ∧ f ≤ 300) (g := fun r => F0 m 10 ls (.int r :: [])) (fun b_9 => ?_) (fun b_9 => ?_)
    ·
      refine zi_if_eq (tgt := 27) M dX7_beacon_10 (by decide) ⟨by decide, by decide⟩ (fun q => absurd q (by decide)) (fun _ => ?_)
      refine lv_iload_n M.1 M.2.1 dX7_beacon_13 rfl (lv_at hl 4 rfl) ?_
      refine zi_push M dX7_beacon_14 ?_
      refine zi_bipush M dX7_beacon_15 ⟨by decide, by decide⟩ ?_
      refine z_cR (z_runS (As := [.int (iI v), .int (iI 1), .int (iI 80)]) (rest := []) M (c_X7_in l D cy z0 v 1 80 (by omega) (by omega) (by omega)) hE hS hAz trivial zk_cd_X7_in zk_in_RX7 zk_st_X7_in zk_ml_RX7_81 rfl rfl zd_X7_in ⟨by decide, by decide⟩ rfl hl.1 rfl (Nat.le_of_ble_eq_true rfl) dX7_beacon_17 ⟨by decide, by decide⟩) ?_
      refine zi_b (P := 1 ≤ v ∧ v ≤ 80) (g := fun r => F0 m 20 ls (.int r :: [])) (fun b_10 => ?_) (fun b_10 => ?_)
      ·
        refine zi_if_eq (tgt := 27) M dX7_beacon_20 (by decide) ⟨by decide, by decide⟩ (fun q => absurd q (by decide)) (fun _ => ?_)
        refine zi_push M dX7_beacon_23 ?_
        refine zi_goto (tgt := 28) M dX7_beacon_24 (by decide) ?_
        refine lv_istore (lv' := [(5, .int (iI 1)), (4, .int (iI 0)), (0, .ref (ad 0)), (1, .int (iI q)), (2, .int (iI f)), (3, .int (iI v))]) M.1 M.2.1 dX7_beacon_28 hl (by decide) rfl (fun ls hl => ?_)
        refine lv_aload_n M.1 M.2.1 dX7_beacon_30 rfl (lv_at hl 2 rfl) ?_
        refine lv_iload M.1 M.2.1 dX7_beacon_31 (lv_at hl 1 rfl) ?_
        refine zi_if_ne (tgt := 40) M dX7_beacon_33 (by decide) ⟨by decide, by decide⟩ (fun q => absurd q (by decide)) (fun _ => ?_)
        refine zi_push M dX7_beacon_36 ?_
        refine zi_goto (tgt := 63) M dX7_beacon_37 (by decide) ?_
        refine z_cW (z_runV (As := [.int (iI 1)]) (rest := []) M (c_X7_goesWell l D cy z0 ad th h su st sh fl ic sn bn fm fr cm em lg le lf dl cS cH sea noi pl pw an hd bp bo bw c1 c2 c3 c4 c5 e1 e2 e3 e4 e5 1 (by omega)) hE hS hAz (z_cut hP hD hAz [0, 1, 2, 3, 4, 5, 6, 7, 8, 9, 10, 11, 12, 13, 14, 15, 16, 17, 18, 19, 20, 21] rfl (by decide +kernel)) (zRc.of (ci := 7) (q0 := 0) hE hP rfl rfl) zk_cd_X7_goesWell zk_in_RX7 zk_im_X7_goesWell zk_se_X7_goesWell zk_ml_RX7_88 rfl rfl zd_X7_goesWell ⟨by decide, by decide⟩ rfl hl.1 rfl (Nat.le_of_ble_eq_true rfl) dX7_beacon_63 ⟨by decide, by decide⟩) hP hD hS [0, 1, 2, 3, 4, 5, 6, 7, 8, 9, 10, 11, 12, 13, 14, 15, 16, 17, 18, 19, 20, 21] rfl (fun _ => rfl) (fun r_11 u_11 H locs hp_11 hP hD hS => ?_)
        have hP : va_P D vwCl (mdlW ad 0 cy 1 h su st sh fl ic sn bn fm fr cm em lg le lf dl cS cH sea noi pl pw an hd bp bo bw c1 c2 c3 c4 c5 e1 e2 e3 e4 e5) H := hP
        have hD : va_D (zIn (mdlW ad 0 cy th h su st sh fl ic sn bn fm fr cm em lg le lf dl cS cH sea noi pl pw an hd bp bo bw c1 c2 c3 c4 c5 e1 e2 e3 e4 e5)) (mdlW ad 0 cy 1 h su st sh fl ic sn bn fm fr cm em lg le lf dl cS cH sea noi pl pw an hd bp bo bw c1 c2 c3 c4 c5 e1 e2 e3 e4 e5) := hD
        subst hp_11
        refine z_rw (b := 0) rfl ?_
        refine zi_if_ne (tgt := 71) M dX7_beacon_66 (by decide) ⟨by decide, by decide⟩ (fun q => absurd q (by decide)) (fun _ => ?_)
        refine zi_push M dX7_beacon_69 ?_
        have hP : va_P D vwCl (mdlW ad 0 cy 1 h su st sh fl ic sn (if 1 = 0 then (bn + 1) else bn) fm fr cm em lg le lf dl cS cH sea noi pl pw an hd (if 1 = 0 then (zu bp bn q) else bp) (if 1 = 0 then (zu bo bn f) else bo) (if 1 = 0 then (zu bw bn v) else bw) c1 c2 c3 c4 c5 e1 e2 e3 e4 e5) H := hP
        exact zw_i M hr hlk 1 hP hS (by exact Or.inr (Or.inl (⟨rfl, by omega, rfl⟩))) (by decide) (by decide) dX7_beacon_70
      ·
        refine zi_if_eq (tgt := 27) M dX7_beacon_20 (by decide) ⟨by decide, by decide⟩ (fun _ => ?_) (fun q => absurd q (by decide))
        refine zi_push M dX7_beacon_27 ?_
        refine lv_istore (lv' := [(5, .int (iI 0)), (4, .int (iI 0)), (0, .ref (ad 0)), (1, .int (iI q)), (2, .int (iI f)), (3, .int (iI v))]) M.1 M.2.1 dX7_beacon_28 hl (by decide) rfl (fun ls hl => ?_)
        refine lv_aload_n M.1 M.2.1 dX7_beacon_30 rfl (lv_at hl 2 rfl) ?_
        refine lv_iload M.1 M.2.1 dX7_beacon_31 (lv_at hl 1 rfl) ?_
        refine zi_if_ne (tgt := 40) M dX7_beacon_33 (by decide) ⟨by decide, by decide⟩ (fun q => absurd q (by decide)) (fun _ => ?_)
        refine zi_push M dX7_beacon_36 ?_
        refine zi_goto (tgt := 63) M dX7_beacon_37 (by decide) ?_
        refine z_cW (z_runV (As := [.int (iI 1)]) (rest := []) M (c_X7_goesWell l D cy z0 ad th h su st sh fl ic sn bn fm fr cm em lg le lf dl cS cH sea noi pl pw an hd bp bo bw c1 c2 c3 c4 c5 e1 e2 e3 e4 e5 1 (by omega)) hE hS hAz (z_cut hP hD hAz [0, 1, 2, 3, 4, 5, 6, 7, 8, 9, 10, 11, 12, 13, 14, 15, 16, 17, 18, 19, 20, 21] rfl (by decide +kernel)) (zRc.of (ci := 7) (q0 := 0) hE hP rfl rfl) zk_cd_X7_goesWell zk_in_RX7 zk_im_X7_goesWell zk_se_X7_goesWell zk_ml_RX7_88 rfl rfl zd_X7_goesWell ⟨by decide, by decide⟩ rfl hl.1 rfl (Nat.le_of_ble_eq_true rfl) dX7_beacon_63 ⟨by decide, by decide⟩) hP hD hS [0, 1, 2, 3, 4, 5, 6, 7, 8, 9, 10, 11, 12, 13, 14, 15, 16, 17, 18, 19, 20, 21] rfl (fun _ => rfl) (fun r_12 u_12 H locs hp_12 hP hD hS => ?_)
        have hP : va_P D vwCl (mdlW ad 0 cy 1 h su st sh fl ic sn bn fm fr cm em lg le lf dl cS cH sea noi pl pw an hd bp bo bw c1 c2 c3 c4 c5 e1 e2 e3 e4 e5) H := hP
        have hD : va_D (zIn (mdlW ad 0 cy th h su st sh fl ic sn bn fm fr cm em lg le lf dl cS cH sea noi pl pw an hd bp bo bw c1 c2 c3 c4 c5 e1 e2 e3 e4 e5)) (mdlW ad 0 cy 1 h su st sh fl ic sn bn fm fr cm em lg le lf dl cS cH sea noi pl pw an hd bp bo bw c1 c2 c3 c4 c5 e1 e2 e3 e4 e5) := hD
        subst hp_12
        refine z_rw (b := 0) rfl ?_
        refine zi_if_ne (tgt := 71) M dX7_beacon_66 (by decide) ⟨by decide, by decide⟩ (fun q => absurd q (by decide)) (fun _ => ?_)
        refine zi_push M dX7_beacon_69 ?_
        have hP : va_P D vwCl (mdlW ad 0 cy 1 h su st sh fl ic sn (if 1 = 0 then (bn + 1) else bn) fm fr cm em lg le lf dl cS cH sea noi pl pw an hd (if 1 = 0 then (zu bp bn q) else bp) (if 1 = 0 then (zu bo bn f) else bo) (if 1 = 0 then (zu bw bn v) else bw) c1 c2 c3 c4 c5 e1 e2 e3 e4 e5) H := hP
        exact zw_i M hr hlk 1 hP hS (by exact Or.inr (Or.inl (⟨rfl, by omega, rfl⟩))) (by decide) (by decide) dX7_beacon_70
    ·
      refine zi_if_eq (tgt := 27) M dX7_beacon_10 (by decide) ⟨by decide, by decide⟩ (fun _ => ?_) (fun q => absurd q (by decide))
      refine zi_push M dX7_beacon_27 ?_
      refine lv_istore (lv' := [(5, .int (iI 0)), (4, .int (iI 0)), (0, .ref (ad 0)), (1, .int (iI q)), (2, .int (iI f)), (3, .int (iI v))]) M.1 M.2.1 dX7_beacon_28 hl (by decide) rfl (fun ls hl => ?_)
      refine lv_aload_n M.1 M.2.1 dX7_beacon_30 rfl (lv_at hl 2 rfl) ?_
      refine lv_iload M.1 M.2.1 dX7_beacon_31 (lv_at hl 1 rfl) ?_
      refine zi_if_ne (tgt := 40) M dX7_beacon_33 (by decide) ⟨by decide, by decide⟩ (fun q => absurd q (by decide)) (fun _ => ?_)
      refine zi_push M dX7_beacon_36 ?_
      refine zi_goto (tgt := 63) M dX7_beacon_37 (by decide) ?_
      refine z_cW (z_runV (As := [.int (iI 1)]) (rest := []) M (c_X7_goesWell l D cy z0 ad th h su st sh fl ic sn bn fm fr cm em lg le lf dl cS cH sea noi pl pw an hd bp bo bw c1 c2 c3 c4 c5 e1 e2 e3 e4 e5 1 (by omega)) hE hS hAz (z_cut hP hD hAz [0, 1, 2, 3, 4, 5, 6, 7, 8, 9, 10, 11, 12, 13, 14, 15, 16, 17, 18, 19, 20, 21] rfl (by decide +kernel)) (zRc.of (ci := 7) (q0 := 0) hE hP rfl rfl) zk_cd_X7_goesWell zk_in_RX7 zk_im_X7_goesWell zk_se_X7_goesWell zk_ml_RX7_88 rfl rfl zd_X7_goesWell ⟨by decide, by decide⟩ rfl hl.1 rfl (Nat.le_of_ble_eq_true rfl) dX7_beacon_63 ⟨by decide, by decide⟩) hP hD hS [0, 1, 2, 3, 4, 5, 6, 7, 8, 9, 10, 11, 12, 13, 14, 15, 16, 17, 18, 19, 20, 21] rfl (fun _ => rfl) (fun r_13 u_13 H locs hp_13 hP hD hS => ?_)
      have hP : va_P D vwCl (mdlW ad 0 cy 1 h su st sh fl ic sn bn fm fr cm em lg le lf dl cS cH sea noi pl pw an hd bp bo bw c1 c2 c3 c4 c5 e1 e2 e3 e4 e5) H := hP
      have hD : va_D (zIn (mdlW ad 0 cy th h su st sh fl ic sn bn fm fr cm em lg le lf dl cS cH sea noi pl pw an hd bp bo bw c1 c2 c3 c4 c5 e1 e2 e3 e4 e5)) (mdlW ad 0 cy 1 h su st sh fl ic sn bn fm fr cm em lg le lf dl cS cH sea noi pl pw an hd bp bo bw c1 c2 c3 c4 c5 e1 e2 e3 e4 e5) := hD
      subst hp_13
      refine z_rw (b := 0) rfl ?_
      refine zi_if_ne (tgt := 71) M dX7_beacon_66 (by decide) ⟨by decide, by decide⟩ (fun q => absurd q (by decide)) (fun _ => ?_)
      refine zi_push M dX7_beacon_69 ?_
      have hP : va_P D vwCl (mdlW ad 0 cy 1 h su st sh fl ic sn (if 1 = 0 then (bn + 1) else bn) fm fr cm em lg le lf dl cS cH sea noi pl pw an hd (if 1 = 0 then (zu bp bn q) else bp) (if 1 = 0 then (zu bo bn f) else bo) (if 1 = 0 then (zu bw bn v) else bw) c1 c2 c3 c4 c5 e1 e2 e3 e4 e5) H := hP
      exact zw_i M hr hlk 1 hP hS (by exact Or.inr (Or.inl (⟨rfl, by omega, rfl⟩))) (by decide) (by decide) dX7_beacon_70

set_option maxRecDepth 100000 in
set_option maxHeartbeats 4000000 in
theorem c_X7_hour (l : Launch) (D : va_G) (cy : Nat → ClassId) (z0 : Nat) (ad : Nat → Nat) (th h su st sh fl ic sn bn fm fr cm em lg le lf dl : Int) (cS cH sea noi pl pw an hd bp bo bw c1 c2 c3 c4 c5 e1 e2 e3 e4 e5 : Int → Int) : Met l yX7_hour [.code yX7_hour cX7_hour 1 (some .int)] (zRm 0 0 0 0) (zPc [.ref (ad 0)] D cy z0 (zWl D z0 (mdlW ad 0 cy th h su st sh fl ic sn bn fm fr cm em lg le lf dl cS cH sea noi pl pw an hd bp bo bw c1 c2 c3 c4 c5 e1 e2 e3 e4 e5))) (zQ1 D (mdlW ad 0 cy th h su st sh fl ic sn bn fm fr cm em lg le lf dl cS cH sea noi pl pw an hd bp bo bw c1 c2 c3 c4 c5 e1 e2 e3 e4 e5) (fun (r : Int32) (_ : Unit) => r = iI h) (fun (_ : Unit) => (mdlW ad 0 cy 0 h su st sh fl ic sn bn fm fr cm em lg le lf dl cS cH sea noi pl pw an hd bp bo bw c1 c2 c3 c4 c5 e1 e2 e3 e4 e5))) 0 0 (zIn (mdlW ad 0 cy th h su st sh fl ic sn bn fm fr cm em lg le lf dl cS cH sea noi pl pw an hd bp bo bw c1 c2 c3 c4 c5 e1 e2 e3 e4 e5)) := by
  refine z_of (by decide) (Nat.le_of_ble_eq_true rfl) ?_
  intro p e s m args below meth c M hr hlk hini hargs hP0 hE ls hl
  have hP : va_P D vwCl (mdlW ad 0 cy th h su st sh fl ic sn bn fm fr cm em lg le lf dl cS cH sea noi pl pw an hd bp bo bw c1 c2 c3 c4 c5 e1 e2 e3 e4 e5) s.heap := hP0.1
  have hD : va_D (zIn (mdlW ad 0 cy th h su st sh fl ic sn bn fm fr cm em lg le lf dl cS cH sea noi pl pw an hd bp bo bw c1 c2 c3 c4 c5 e1 e2 e3 e4 e5)) (mdlW ad 0 cy th h su st sh fl ic sn bn fm fr cm em lg le lf dl cS cH sea noi pl pw an hd bp bo bw c1 c2 c3 c4 c5 e1 e2 e3 e4 e5) := hP0.self
  have hAz := hP0.A
  have hS : va_S (zIn (mdlW ad 0 cy th h su st sh fl ic sn bn fm fr cm em lg le lf dl cS cH sea noi pl pw an hd bp bo bw c1 c2 c3 c4 c5 e1 e2 e3 e4 e5)) s.heap s.heap [] := va_S.rf
  have hl : lv_has ls 1 [(0, .ref (ad 0))] := hl
  refine lv_aload_n M.1 M.2.1 dX7_hour_0 rfl (lv_at hl 0 rfl) ?_
  refine zi_push M dX7_hour_1 ?_
  refine zi_put (ci := 7) (ws' := (mdlW ad 0 cy 0 h su st sh fl ic sn bn fm fr cm em lg le lf dl cS cH sea noi pl pw an hd bp bo bw c1 c2 c3 c4 c5 e1 e2 e3 e4 e5)) M hE hP hD hS 0 rfl rfl zu_X7 0 (by decide) zk_fl_RX7_78 rfl rfl tyX7_ok nmX7 rfl rfl (Nat.le_of_ble_eq_true rfl) rfl dX7_hour_2 (fun H locs hP hD hS => ?_)
  refine lv_aload_n M.1 M.2.1 dX7_hour_5 rfl (lv_at hl 0 rfl) ?_
  refine zi_get (ci := 7) (v := .int (iI h)) M hE hP 0 rfl rfl zu_X7 1 (by decide) zk_fl_RX7_104 rfl rfl dX7_hour_6 ?_
  have hP : va_P D vwCl (mdlW ad 0 cy 0 h su st sh fl ic sn bn fm fr cm em lg le lf dl cS cH sea noi pl pw an hd bp bo bw c1 c2 c3 c4 c5 e1 e2 e3 e4 e5) H := hP
  exact zw_i M hr hlk () hP hS (congrArg iI (show (h : Int) = h by rfl)) (by decide) (by decide) dX7_hour_9

set_option maxRecDepth 100000 in
set_option maxHeartbeats 4000000 in
theorem c_X7_forecasts (l : Launch) (D : va_G) (cy : Nat → ClassId) (z0 : Nat) (ad : Nat → Nat) (th h su st sh fl ic sn bn fm fr cm em lg le lf dl : Int) (cS cH sea noi pl pw an hd bp bo bw c1 c2 c3 c4 c5 e1 e2 e3 e4 e5 : Int → Int) (g : Int) (hg : g = 0 ∨ g = 1) : Met l yX7_forecasts [.code yX7_forecasts cX7_forecasts 2 (some .int)] (zRm 0 0 0 0) (zPc [.ref (ad 0), .int (iI g)] D cy z0 (zWl D z0 (mdlW ad 0 cy th h su st sh fl ic sn bn fm fr cm em lg le lf dl cS cH sea noi pl pw an hd bp bo bw c1 c2 c3 c4 c5 e1 e2 e3 e4 e5))) (zQ1 D (mdlW ad 0 cy th h su st sh fl ic sn bn fm fr cm em lg le lf dl cS cH sea noi pl pw an hd bp bo bw c1 c2 c3 c4 c5 e1 e2 e3 e4 e5) (fun (r : Int32) (_ : Unit) => r = iI (if g = 0 then fm else fr)) (fun (_ : Unit) => (mdlW ad 0 cy 0 h su st sh fl ic sn bn fm fr cm em lg le lf dl cS cH sea noi pl pw an hd bp bo bw c1 c2 c3 c4 c5 e1 e2 e3 e4 e5))) 0 0 (zIn (mdlW ad 0 cy th h su st sh fl ic sn bn fm fr cm em lg le lf dl cS cH sea noi pl pw an hd bp bo bw c1 c2 c3 c4 c5 e1 e2 e3 e4 e5)) := by
  refine z_of (by decide) (Nat.le_of_ble_eq_true rfl) ?_
  intro p e s m args below meth c M hr hlk hini hargs hP0 hE ls hl
  have hP : va_P D vwCl (mdlW ad 0 cy th h su st sh fl ic sn bn fm fr cm em lg le lf dl cS cH sea noi pl pw an hd bp bo bw c1 c2 c3 c4 c5 e1 e2 e3 e4 e5) s.heap := hP0.1
  have hD : va_D (zIn (mdlW ad 0 cy th h su st sh fl ic sn bn fm fr cm em lg le lf dl cS cH sea noi pl pw an hd bp bo bw c1 c2 c3 c4 c5 e1 e2 e3 e4 e5)) (mdlW ad 0 cy th h su st sh fl ic sn bn fm fr cm em lg le lf dl cS cH sea noi pl pw an hd bp bo bw c1 c2 c3 c4 c5 e1 e2 e3 e4 e5) := hP0.self
  have hAz := hP0.A
  have hS : va_S (zIn (mdlW ad 0 cy th h su st sh fl ic sn bn fm fr cm em lg le lf dl cS cH sea noi pl pw an hd bp bo bw c1 c2 c3 c4 c5 e1 e2 e3 e4 e5)) s.heap s.heap [] := va_S.rf
  have hl : lv_has ls 2 [(0, .ref (ad 0)), (1, .int (iI g))] := hl
  refine lv_aload_n M.1 M.2.1 dX7_forecasts_0 rfl (lv_at hl 0 rfl) ?_
  refine zi_push M dX7_forecasts_1 ?_
  refine zi_put (ci := 7) (ws' := (mdlW ad 0 cy 0 h su st sh fl ic sn bn fm fr cm em lg le lf dl cS cH sea noi pl pw an hd bp bo bw c1 c2 c3 c4 c5 e1 e2 e3 e4 e5)) M hE hP hD hS 0 rfl rfl zu_X7 0 (by decide) zk_fl_RX7_78 rfl rfl tyX7_ok nmX7 rfl rfl (Nat.le_of_ble_eq_true rfl) rfl dX7_forecasts_2 (fun H locs hP hD hS => ?_)
  refine lv_iload_n M.1 M.2.1 dX7_forecasts_5 rfl (lv_at hl 1 rfl) ?_
  refine zi_if_eq (tgt := 16) M dX7_forecasts_6 (by decide) (by omega) (fun c_1 => ?_) (fun c_1 => ?_)
  ·
    refine lv_aload_n M.1 M.2.1 dX7_forecasts_16 rfl (lv_at hl 0 rfl) ?_
    refine zi_get (ci := 7) (v := .int (iI fm)) M hE hP 0 rfl rfl zu_X7 20 (by decide) zk_fl_RX7_190 rfl rfl dX7_forecasts_17 ?_
    have hP : va_P D vwCl (mdlW ad 0 cy 0 h su st sh fl ic sn bn fm fr cm em lg le lf dl cS cH sea noi pl pw an hd bp bo bw c1 c2 c3 c4 c5 e1 e2 e3 e4 e5) H := hP
    exact zw_i M hr hlk () hP hS (congrArg iI (show (fm : Int) = if g = 0 then fm else fr by first | exact (if_pos (by omega)).symm | exact (if_neg (by omega)).symm)) (by decide) (by decide) dX7_forecasts_20
  ·
    refine lv_aload_n M.1 M.2.1 dX7_forecasts_9 rfl (lv_at hl 0 rfl) ?_
    refine zi_get (ci := 7) (v := .int (iI fr)) M hE hP 0 rfl rfl zu_X7 21 (by decide) zk_fl_RX7_193 rfl rfl dX7_forecasts_10 ?_
    refine zi_goto (tgt := 20) M dX7_forecasts_13 (by decide) ?_
    have hP : va_P D vwCl (mdlW ad 0 cy 0 h su st sh fl ic sn bn fm fr cm em lg le lf dl cS cH sea noi pl pw an hd bp bo bw c1 c2 c3 c4 c5 e1 e2 e3 e4 e5) H := hP
    exact zw_i M hr hlk () hP hS (congrArg iI (show (fr : Int) = if g = 0 then fm else fr by first | exact (if_pos (by omega)).symm | exact (if_neg (by omega)).symm)) (by decide) (by decide) dX7_forecasts_20

set_option maxRecDepth 100000 in
set_option maxHeartbeats 4000000 in
theorem c_X7_light (l : Launch) (D : va_G) (cy : Nat → ClassId) (z0 : Nat) (ad : Nat → Nat) (th h su st sh fl ic sn bn fm fr cm em lg le lf dl : Int) (cS cH sea noi pl pw an hd bp bo bw c1 c2 c3 c4 c5 e1 e2 e3 e4 e5 : Int → Int) (q : Int) (k : Int) (r_q : r32 q) (r_k : r32 k) (h_h : 0 ≤ h ∧ h ≤ 5000) : Met l yX7_light [.code yX7_light cX7_light 4 (some .int)] (zRm 2 0 0 42) (zPc [.ref (ad 0), .int (iI q), .int (iI k)] D cy z0 (zWl D z0 (mdlW ad 0 cy th h su st sh fl ic sn bn fm fr cm em lg le lf dl cS cH sea noi pl pw an hd bp bo bw c1 c2 c3 c4 c5 e1 e2 e3 e4 e5))) (zQ1 D (mdlW ad 0 cy th h su st sh fl ic sn bn fm fr cm em lg le lf dl cS cH sea noi pl pw an hd bp bo bw c1 c2 c3 c4 c5 e1 e2 e3 e4 e5) (fun (r : Int32) (u : Int) => (u = 0 ∧ ((0 ≤ q ∧ q < 48) ∧ (0 ≤ k ∧ k ≤ 24)) ∧ r = iI (lightZ (h + k) q)) ∨ (u = 1 ∧ (¬ (0 ≤ q ∧ q < 48)) ∧ r = iI 0) ∨ (u = 2 ∧ ((0 ≤ q ∧ q < 48) ∧ ¬ (0 ≤ k ∧ k ≤ 24)) ∧ r = iI 0)) (fun (u : Int) => (mdlW ad 0 cy u h su st sh fl ic sn bn fm fr cm em lg le lf dl cS cH sea noi pl pw an hd bp bo bw c1 c2 c3 c4 c5 e1 e2 e3 e4 e5))) 0 0 (zIn (mdlW ad 0 cy th h su st sh fl ic sn bn fm fr cm em lg le lf dl cS cH sea noi pl pw an hd bp bo bw c1 c2 c3 c4 c5 e1 e2 e3 e4 e5)) := by
  refine z_of (by decide) (Nat.le_of_ble_eq_true rfl) ?_
  intro p e s m args below meth c M hr hlk hini hargs hP0 hE ls hl
  have hP : va_P D vwCl (mdlW ad 0 cy th h su st sh fl ic sn bn fm fr cm em lg le lf dl cS cH sea noi pl pw an hd bp bo bw c1 c2 c3 c4 c5 e1 e2 e3 e4 e5) s.heap := hP0.1
  have hD : va_D (zIn (mdlW ad 0 cy th h su st sh fl ic sn bn fm fr cm em lg le lf dl cS cH sea noi pl pw an hd bp bo bw c1 c2 c3 c4 c5 e1 e2 e3 e4 e5)) (mdlW ad 0 cy th h su st sh fl ic sn bn fm fr cm em lg le lf dl cS cH sea noi pl pw an hd bp bo bw c1 c2 c3 c4 c5 e1 e2 e3 e4 e5) := hP0.self
  have hAz := hP0.A
  have hS : va_S (zIn (mdlW ad 0 cy th h su st sh fl ic sn bn fm fr cm em lg le lf dl cS cH sea noi pl pw an hd bp bo bw c1 c2 c3 c4 c5 e1 e2 e3 e4 e5)) s.heap s.heap [] := va_S.rf
  have hl : lv_has ls 4 [(0, .ref (ad 0)), (1, .int (iI q)), (2, .int (iI k))] := hl
  refine lv_iload_n M.1 M.2.1 dX7_light_0 rfl (lv_at hl 1 rfl) ?_
  refine z_cR (z_runS (As := [.int (iI q)]) (rest := []) M (c_X7_isPlace l D cy z0 q (by omega)) hE hS hAz trivial zk_cd_X7_isPlace zk_in_RX7 zk_st_X7_isPlace zk_ml_RX7_101 rfl rfl zd_X7_isPlace ⟨by decide, by decide⟩ rfl hl.1 rfl (Nat.le_of_ble_eq_true rfl) dX7_light_1 ⟨by decide, by decide⟩) ?_
  refine zi_b (P := 0 ≤ q ∧ q ≤ 47) (g := fun r => F0 m 4 ls (.int r :: [])) (fun b_1 => ?_) (fun b_1 => ?_)
  ·
    refine lv_istore_n (lv' := [(3, .int (iI 1)), (0, .ref (ad 0)), (1, .int (iI q)), (2, .int (iI k))]) M.1 M.2.1 dX7_light_4 rfl hl (by decide) rfl (fun ls hl => ?_)
    refine lv_aload_n M.1 M.2.1 dX7_light_5 rfl (lv_at hl 1 rfl) ?_
    refine lv_iload_n M.1 M.2.1 dX7_light_6 rfl (lv_at hl 0 rfl) ?_
    refine zi_if_ne (tgt := 14) M dX7_light_7 (by decide) ⟨by decide, by decide⟩ (fun _ => ?_) (fun q => absurd q (by decide))
    refine lv_iload_n M.1 M.2.1 dX7_light_14 rfl (lv_at hl 3 rfl) ?_
    refine zi_push M dX7_light_15 ?_
    refine zi_bipush M dX7_light_16 ⟨by decide, by decide⟩ ?_
    refine z_cR (z_runS (As := [.int (iI k), .int (iI 0), .int (iI 24)]) (rest := [.ref (ad 0)]) M (c_X7_in l D cy z0 k 0 24 (by omega) (by omega) (by omega)) hE hS hAz trivial zk_cd_X7_in zk_in_RX7 zk_st_X7_in zk_ml_RX7_81 rfl rfl zd_X7_in ⟨by decide, by decide⟩ rfl hl.1 rfl (Nat.le_of_ble_eq_true rfl) dX7_light_18 ⟨by decide, by decide⟩) ?_
    refine zi_b (P := 0 ≤ k ∧ k ≤ 24) (g := fun r => F0 m 21 ls (.int r :: [.ref (ad 0)])) (fun b_2 => ?_) (fun b_2 => ?_)
    ·
      refine zi_if_eq (tgt := 28) M dX7_light_21 (by decide) ⟨by decide, by decide⟩ (fun q => absurd q (by decide)) (fun _ => ?_)
      refine zi_push M dX7_light_24 ?_
      refine zi_goto (tgt := 29) M dX7_light_25 (by decide) ?_
      refine z_cW (z_runV (As := [.int (iI 0)]) (rest := []) M (c_X7_goesWell l D cy z0 ad th h su st sh fl ic sn bn fm fr cm em lg le lf dl cS cH sea noi pl pw an hd bp bo bw c1 c2 c3 c4 c5 e1 e2 e3 e4 e5 0 (by omega)) hE hS hAz (z_cut hP hD hAz [0, 1, 2, 3, 4, 5, 6, 7, 8, 9, 10, 11, 12, 13, 14, 15, 16, 17, 18, 19, 20, 21] rfl (by decide +kernel)) (zRc.of (ci := 7) (q0 := 0) hE hP rfl rfl) zk_cd_X7_goesWell zk_in_RX7 zk_im_X7_goesWell zk_se_X7_goesWell zk_ml_RX7_88 rfl rfl zd_X7_goesWell ⟨by decide, by decide⟩ rfl hl.1 rfl (Nat.le_of_ble_eq_true rfl) dX7_light_29 ⟨by decide, by decide⟩) hP hD hS [0, 1, 2, 3, 4, 5, 6, 7, 8, 9, 10, 11, 12, 13, 14, 15, 16, 17, 18, 19, 20, 21] rfl (fun _ => rfl) (fun r_3 u_3 H locs hp_3 hP hD hS => ?_)
      have hP : va_P D vwCl (mdlW ad 0 cy 0 h su st sh fl ic sn bn fm fr cm em lg le lf dl cS cH sea noi pl pw an hd bp bo bw c1 c2 c3 c4 c5 e1 e2 e3 e4 e5) H := hP
      have hD : va_D (zIn (mdlW ad 0 cy th h su st sh fl ic sn bn fm fr cm em lg le lf dl cS cH sea noi pl pw an hd bp bo bw c1 c2 c3 c4 c5 e1 e2 e3 e4 e5)) (mdlW ad 0 cy 0 h su st sh fl ic sn bn fm fr cm em lg le lf dl cS cH sea noi pl pw an hd bp bo bw c1 c2 c3 c4 c5 e1 e2 e3 e4 e5) := hD
      subst hp_3
      refine z_rw (b := 1) rfl ?_
      refine zi_if_eq (tgt := 44) M dX7_light_32 (by decide) ⟨by decide, by decide⟩ (fun q => absurd q (by decide)) (fun _ => ?_)
      refine lv_aload_n M.1 M.2.1 dX7_light_35 rfl (lv_at hl 1 rfl) ?_
      refine lv_iload_n M.1 M.2.1 dX7_light_36 rfl (lv_at hl 2 rfl) ?_
      refine lv_iload_n M.1 M.2.1 dX7_light_37 rfl (lv_at hl 3 rfl) ?_
      refine z_cR (z_runV (As := [.int (iI q), .int (iI k)]) (rest := []) M (c_X7_lightOf l D cy z0 ad 0 h su st sh fl ic sn bn fm fr cm em lg le lf dl cS cH sea noi pl pw an hd bp bo bw c1 c2 c3 c4 c5 e1 e2 e3 e4 e5 q k (by omega) (by omega) (by omega)) hE hS hAz hP (zRc.of (ci := 7) (q0 := 0) hE hP rfl rfl) zk_cd_X7_lightOf zk_in_RX7 zk_im_X7_lightOf zk_se_X7_lightOf zk_ml_RX7_110 rfl rfl zd_X7_lightOf ⟨by decide, by decide⟩ rfl hl.1 rfl (Nat.le_of_ble_eq_true rfl) dX7_light_38 ⟨by decide, by decide⟩) ?_
      have hx_4 := lightZ_rg (h + k) q
      refine zi_goto (tgt := 45) M dX7_light_41 (by decide) ?_
      have hP : va_P D vwCl (mdlW ad 0 cy 0 h su st sh fl ic sn bn fm fr cm em lg le lf dl cS cH sea noi pl pw an hd bp bo bw c1 c2 c3 c4 c5 e1 e2 e3 e4 e5) H := hP
      exact zw_i M hr hlk 0 hP hS (by exact Or.inl ⟨rfl, by omega, congrArg iI (show ((lightZ (h + k) q) : Int) = lightZ (h + k) q by rfl)⟩) (by decide) (by decide) dX7_light_45
    ·
      refine zi_if_eq (tgt := 28) M dX7_light_21 (by decide) ⟨by decide, by decide⟩ (fun _ => ?_) (fun q => absurd q (by decide))
      refine zi_push M dX7_light_28 ?_
      refine z_cW (z_runV (As := [.int (iI 2)]) (rest := []) M (c_X7_goesWell l D cy z0 ad th h su st sh fl ic sn bn fm fr cm em lg le lf dl cS cH sea noi pl pw an hd bp bo bw c1 c2 c3 c4 c5 e1 e2 e3 e4 e5 2 (by omega)) hE hS hAz (z_cut hP hD hAz [0, 1, 2, 3, 4, 5, 6, 7, 8, 9, 10, 11, 12, 13, 14, 15, 16, 17, 18, 19, 20, 21] rfl (by decide +kernel)) (zRc.of (ci := 7) (q0 := 0) hE hP rfl rfl) zk_cd_X7_goesWell zk_in_RX7 zk_im_X7_goesWell zk_se_X7_goesWell zk_ml_RX7_88 rfl rfl zd_X7_goesWell ⟨by decide, by decide⟩ rfl hl.1 rfl (Nat.le_of_ble_eq_true rfl) dX7_light_29 ⟨by decide, by decide⟩) hP hD hS [0, 1, 2, 3, 4, 5, 6, 7, 8, 9, 10, 11, 12, 13, 14, 15, 16, 17, 18, 19, 20, 21] rfl (fun _ => rfl) (fun r_5 u_5 H locs hp_5 hP hD hS => ?_)
      have hP : va_P D vwCl (mdlW ad 0 cy 2 h su st sh fl ic sn bn fm fr cm em lg le lf dl cS cH sea noi pl pw an hd bp bo bw c1 c2 c3 c4 c5 e1 e2 e3 e4 e5) H := hP
      have hD : va_D (zIn (mdlW ad 0 cy th h su st sh fl ic sn bn fm fr cm em lg le lf dl cS cH sea noi pl pw an hd bp bo bw c1 c2 c3 c4 c5 e1 e2 e3 e4 e5)) (mdlW ad 0 cy 2 h su st sh fl ic sn bn fm fr cm em lg le lf dl cS cH sea noi pl pw an hd bp bo bw c1 c2 c3 c4 c5 e1 e2 e3 e4 e5) := hD
      subst hp_5
      refine z_rw (b := 0) rfl ?_
      refine zi_if_eq (tgt := 44) M dX7_light_32 (by decide) ⟨by decide, by decide⟩ (fun _ => ?_) (fun q => absurd q (by decide))
      refine zi_push M dX7_light_44 ?_
      have hP : va_P D vwCl (mdlW ad 0 cy 2 h su st sh fl ic sn bn fm fr cm em lg le lf dl cS cH sea noi pl pw an hd bp bo bw c1 c2 c3 c4 c5 e1 e2 e3 e4 e5) H := hP
      exact zw_i M hr hlk 2 hP hS (by exact Or.inr (Or.inr (⟨rfl, by omega, rfl⟩))) (by decide) (by decide) dX7_light_45
  ·
    refine lv_istore_n (lv' := [(3, .int (iI 0)), (0, .ref (ad 0)), (1, .int (iI q)), (2, .int (iI k))]) M.1 M.2.1 dX7_light_4 rfl hl (by decide) rfl (fun ls hl => ?_)
    refine lv_aload_n M.1 M.2.1 dX7_light_5 rfl (lv_at hl 1 rfl) ?_
    refine lv_iload_n M.1 M.2.1 dX7_light_6 rfl (lv_at hl 0 rfl) ?_
    refine zi_if_ne (tgt := 14) M dX7_light_7 (by decide) ⟨by decide, by decide⟩ (fun q => absurd q (by decide)) (fun _ => ?_)
    refine zi_push M dX7_light_10 ?_
    refine zi_goto (tgt := 29) M dX7_light_11 (by decide) ?_
    refine z_cW (z_runV (As := [.int (iI 1)]) (rest := []) M (c_X7_goesWell l D cy z0 ad th h su st sh fl ic sn bn fm fr cm em lg le lf dl cS cH sea noi pl pw an hd bp bo bw c1 c2 c3 c4 c5 e1 e2 e3 e4 e5 1 (by omega)) hE hS hAz (z_cut hP hD hAz [0, 1, 2, 3, 4, 5, 6, 7, 8, 9, 10, 11, 12, 13, 14, 15, 16, 17, 18, 19, 20, 21] rfl (by decide +kernel)) (zRc.of (ci := 7) (q0 := 0) hE hP rfl rfl) zk_cd_X7_goesWell zk_in_RX7 zk_im_X7_goesWell zk_se_X7_goesWell zk_ml_RX7_88 rfl rfl zd_X7_goesWell ⟨by decide, by decide⟩ rfl hl.1 rfl (Nat.le_of_ble_eq_true rfl) dX7_light_29 ⟨by decide, by decide⟩) hP hD hS [0, 1, 2, 3, 4, 5, 6, 7, 8, 9, 10, 11, 12, 13, 14, 15, 16, 17, 18, 19, 20, 21] rfl (fun _ => rfl) (fun r_6 u_6 H locs hp_6 hP hD hS => ?_)
    have hP : va_P D vwCl (mdlW ad 0 cy 1 h su st sh fl ic sn bn fm fr cm em lg le lf dl cS cH sea noi pl pw an hd bp bo bw c1 c2 c3 c4 c5 e1 e2 e3 e4 e5) H := hP
    have hD : va_D (zIn (mdlW ad 0 cy th h su st sh fl ic sn bn fm fr cm em lg le lf dl cS cH sea noi pl pw an hd bp bo bw c1 c2 c3 c4 c5 e1 e2 e3 e4 e5)) (mdlW ad 0 cy 1 h su st sh fl ic sn bn fm fr cm em lg le lf dl cS cH sea noi pl pw an hd bp bo bw c1 c2 c3 c4 c5 e1 e2 e3 e4 e5) := hD
    subst hp_6
    refine z_rw (b := 0) rfl ?_
    refine zi_if_eq (tgt := 44) M dX7_light_32 (by decide) ⟨by decide, by decide⟩ (fun _ => ?_) (fun q => absurd q (by decide))
    refine zi_push M dX7_light_44 ?_
    have hP : va_P D vwCl (mdlW ad 0 cy 1 h su st sh fl ic sn bn fm fr cm em lg le lf dl cS cH sea noi pl pw an hd bp bo bw c1 c2 c3 c4 c5 e1 e2 e3 e4 e5) H := hP
    exact zw_i M hr hlk 1 hP hS (by exact Or.inr (Or.inl (⟨rfl, by omega, rfl⟩))) (by decide) (by decide) dX7_light_45

set_option maxRecDepth 100000 in
set_option maxHeartbeats 4000000 in
theorem c_X7_density (l : Launch) (D : va_G) (cy : Nat → ClassId) (z0 : Nat) (ad : Nat → Nat) (th h su st sh fl ic sn bn fm fr cm em lg le lf dl : Int) (cS cH sea noi pl pw an hd bp bo bw c1 c2 c3 c4 c5 e1 e2 e3 e4 e5 : Int → Int) (q : Int) (y : Int) (r_q : r32 q) (r_y : r32 y) (h_h : 0 ≤ h ∧ h ≤ 5000) (h_su : 0 ≤ su ∧ su ≤ 100) (h_st : 0 ≤ st ∧ st ≤ 60) (h_fl : 0 ≤ fl ∧ fl ≤ 80) (h_cS : zrg 48 0 100 cS) (h_ic : 0 ≤ ic ∧ ic ≤ 1) : Met l yX7_density [.code yX7_density cX7_density 4 (some .int)] (zRm 2 0 0 48) (zPc [.ref (ad 0), .int (iI q), .int (iI y)] D cy z0 (zWl D z0 (mdlW ad 0 cy th h su st sh fl ic sn bn fm fr cm em lg le lf dl cS cH sea noi pl pw an hd bp bo bw c1 c2 c3 c4 c5 e1 e2 e3 e4 e5))) (zQ1 D (mdlW ad 0 cy th h su st sh fl ic sn bn fm fr cm em lg le lf dl cS cH sea noi pl pw an hd bp bo bw c1 c2 c3 c4 c5 e1 e2 e3 e4 e5) (fun (r : Int32) (u : Int) => (u = 0 ∧ ((0 ≤ q ∧ q < 48) ∧ (0 ≤ y ∧ y ≤ 2)) ∧ r = iI (tell3 (mdD ic h fl) (mdE ic h cS) (mdF ic h su st) y q)) ∨ (u = 1 ∧ (¬ (0 ≤ q ∧ q < 48)) ∧ r = iI 0) ∨ (u = 2 ∧ ((0 ≤ q ∧ q < 48) ∧ ¬ (0 ≤ y ∧ y ≤ 2)) ∧ r = iI 0)) (fun (u : Int) => (mdlW ad 0 cy u h su st sh fl ic sn bn fm fr cm em lg le lf dl cS cH sea noi pl pw an hd bp bo bw c1 c2 c3 c4 c5 e1 e2 e3 e4 e5))) 0 0 (zIn (mdlW ad 0 cy th h su st sh fl ic sn bn fm fr cm em lg le lf dl cS cH sea noi pl pw an hd bp bo bw c1 c2 c3 c4 c5 e1 e2 e3 e4 e5)) := by
  refine z_of (by decide) (Nat.le_of_ble_eq_true rfl) ?_
  intro p e s m args below meth c M hr hlk hini hargs hP0 hE ls hl
  have hP : va_P D vwCl (mdlW ad 0 cy th h su st sh fl ic sn bn fm fr cm em lg le lf dl cS cH sea noi pl pw an hd bp bo bw c1 c2 c3 c4 c5 e1 e2 e3 e4 e5) s.heap := hP0.1
  have hD : va_D (zIn (mdlW ad 0 cy th h su st sh fl ic sn bn fm fr cm em lg le lf dl cS cH sea noi pl pw an hd bp bo bw c1 c2 c3 c4 c5 e1 e2 e3 e4 e5)) (mdlW ad 0 cy th h su st sh fl ic sn bn fm fr cm em lg le lf dl cS cH sea noi pl pw an hd bp bo bw c1 c2 c3 c4 c5 e1 e2 e3 e4 e5) := hP0.self
  have hAz := hP0.A
  have hS : va_S (zIn (mdlW ad 0 cy th h su st sh fl ic sn bn fm fr cm em lg le lf dl cS cH sea noi pl pw an hd bp bo bw c1 c2 c3 c4 c5 e1 e2 e3 e4 e5)) s.heap s.heap [] := va_S.rf
  have hl : lv_has ls 4 [(0, .ref (ad 0)), (1, .int (iI q)), (2, .int (iI y))] := hl
  refine lv_iload_n M.1 M.2.1 dX7_density_0 rfl (lv_at hl 1 rfl) ?_
  refine z_cR (z_runS (As := [.int (iI q)]) (rest := []) M (c_X7_isPlace l D cy z0 q (by omega)) hE hS hAz trivial zk_cd_X7_isPlace zk_in_RX7 zk_st_X7_isPlace zk_ml_RX7_101 rfl rfl zd_X7_isPlace ⟨by decide, by decide⟩ rfl hl.1 rfl (Nat.le_of_ble_eq_true rfl) dX7_density_1 ⟨by decide, by decide⟩) ?_
  refine zi_b (P := 0 ≤ q ∧ q ≤ 47) (g := fun r => F0 m 4 ls (.int r :: [])) (fun b_1 => ?_) (fun b_1 => ?_)
  ·
    refine lv_istore_n (lv' := [(3, .int (iI 1)), (0, .ref (ad 0)), (1, .int (iI q)), (2, .int (iI y))]) M.1 M.2.1 dX7_density_4 rfl hl (by decide) rfl (fun ls hl => ?_)
    refine lv_aload_n M.1 M.2.1 dX7_density_5 rfl (lv_at hl 1 rfl) ?_
    refine lv_iload_n M.1 M.2.1 dX7_density_6 rfl (lv_at hl 0 rfl) ?_
    refine zi_if_ne (tgt := 14) M dX7_density_7 (by decide) ⟨by decide, by decide⟩ (fun _ => ?_) (fun q => absurd q (by decide))
    refine lv_iload_n M.1 M.2.1 dX7_density_14 rfl (lv_at hl 3 rfl) ?_
    refine zi_push M dX7_density_15 ?_
    refine zi_push M dX7_density_16 ?_
    refine z_cR (z_runS (As := [.int (iI y), .int (iI 0), .int (iI 2)]) (rest := [.ref (ad 0)]) M (c_X7_in l D cy z0 y 0 2 (by omega) (by omega) (by omega)) hE hS hAz trivial zk_cd_X7_in zk_in_RX7 zk_st_X7_in zk_ml_RX7_81 rfl rfl zd_X7_in ⟨by decide, by decide⟩ rfl hl.1 rfl (Nat.le_of_ble_eq_true rfl) dX7_density_17 ⟨by decide, by decide⟩) ?_
    refine zi_b (P := 0 ≤ y ∧ y ≤ 2) (g := fun r => F0 m 20 ls (.int r :: [.ref (ad 0)])) (fun b_2 => ?_) (fun b_2 => ?_)
    ·
      refine zi_if_eq (tgt := 27) M dX7_density_20 (by decide) ⟨by decide, by decide⟩ (fun q => absurd q (by decide)) (fun _ => ?_)
      refine zi_push M dX7_density_23 ?_
      refine zi_goto (tgt := 28) M dX7_density_24 (by decide) ?_
      refine z_cW (z_runV (As := [.int (iI 0)]) (rest := []) M (c_X7_goesWell l D cy z0 ad th h su st sh fl ic sn bn fm fr cm em lg le lf dl cS cH sea noi pl pw an hd bp bo bw c1 c2 c3 c4 c5 e1 e2 e3 e4 e5 0 (by omega)) hE hS hAz (z_cut hP hD hAz [0, 1, 2, 3, 4, 5, 6, 7, 8, 9, 10, 11, 12, 13, 14, 15, 16, 17, 18, 19, 20, 21] rfl (by decide +kernel)) (zRc.of (ci := 7) (q0 := 0) hE hP rfl rfl) zk_cd_X7_goesWell zk_in_RX7 zk_im_X7_goesWell zk_se_X7_goesWell zk_ml_RX7_88 rfl rfl zd_X7_goesWell ⟨by decide, by decide⟩ rfl hl.1 rfl (Nat.le_of_ble_eq_true rfl) dX7_density_28 ⟨by decide, by decide⟩) hP hD hS [0, 1, 2, 3, 4, 5, 6, 7, 8, 9, 10, 11, 12, 13, 14, 15, 16, 17, 18, 19, 20, 21] rfl (fun _ => rfl) (fun r_3 u_3 H locs hp_3 hP hD hS => ?_)
      have hP : va_P D vwCl (mdlW ad 0 cy 0 h su st sh fl ic sn bn fm fr cm em lg le lf dl cS cH sea noi pl pw an hd bp bo bw c1 c2 c3 c4 c5 e1 e2 e3 e4 e5) H := hP
      have hD : va_D (zIn (mdlW ad 0 cy th h su st sh fl ic sn bn fm fr cm em lg le lf dl cS cH sea noi pl pw an hd bp bo bw c1 c2 c3 c4 c5 e1 e2 e3 e4 e5)) (mdlW ad 0 cy 0 h su st sh fl ic sn bn fm fr cm em lg le lf dl cS cH sea noi pl pw an hd bp bo bw c1 c2 c3 c4 c5 e1 e2 e3 e4 e5) := hD
      subst hp_3
      refine z_rw (b := 1) rfl ?_
      refine zi_if_eq (tgt := 43) M dX7_density_31 (by decide) ⟨by decide, by decide⟩ (fun q => absurd q (by decide)) (fun _ => ?_)
      refine lv_aload_n M.1 M.2.1 dX7_density_34 rfl (lv_at hl 1 rfl) ?_
      refine lv_iload_n M.1 M.2.1 dX7_density_35 rfl (lv_at hl 2 rfl) ?_
      refine lv_iload_n M.1 M.2.1 dX7_density_36 rfl (lv_at hl 3 rfl) ?_
      refine z_cR (z_runV (As := [.int (iI q), .int (iI y)]) (rest := []) M (c_X7_dense l D cy z0 ad 0 h su st sh fl ic sn bn fm fr cm em lg le lf dl cS cH sea noi pl pw an hd bp bo bw c1 c2 c3 c4 c5 e1 e2 e3 e4 e5 q y (by omega) (by omega) (by omega) (by omega) (by omega) (by omega) (by omega) (by omega)) hE hS hAz hP (zRc.of (ci := 7) (q0 := 0) hE hP rfl rfl) zk_cd_X7_dense zk_in_RX7 zk_im_X7_dense zk_se_X7_dense zk_ml_RX7_118 rfl rfl zd_X7_dense ⟨by decide, by decide⟩ rfl hl.1 rfl (Nat.le_of_ble_eq_true rfl) dX7_density_37 ⟨by decide, by decide⟩) ?_
      have hx_4 : 0 ≤ tell3 (mdD ic h fl) (mdE ic h cS) (mdF ic h su st) y q ∧ tell3 (mdD ic h fl) (mdE ic h cS) (mdF ic h su st) y q ≤ 1000 := dens_rg h_fl h_cS h_su h_st (by omega)
      refine zi_goto (tgt := 44) M dX7_density_40 (by decide) ?_
      have hP : va_P D vwCl (mdlW ad 0 cy 0 h su st sh fl ic sn bn fm fr cm em lg le lf dl cS cH sea noi pl pw an hd bp bo bw c1 c2 c3 c4 c5 e1 e2 e3 e4 e5) H := hP
      exact zw_i M hr hlk 0 hP hS (by exact Or.inl ⟨rfl, by omega, congrArg iI (show ((tell3 (mdD ic h fl) (mdE ic h cS) (mdF ic h su st) y q) : Int) = tell3 (mdD ic h fl) (mdE ic h cS) (mdF ic h su st) y q by rfl)⟩) (by decide) (by decide) dX7_density_44
    ·
      refine zi_if_eq (tgt := 27) M dX7_density_20 (by decide) ⟨by decide, by decide⟩ (fun _ => ?_) (fun q => absurd q (by decide))
      refine zi_push M dX7_density_27 ?_
      refine z_cW (z_runV (As := [.int (iI 2)]) (rest := []) M (c_X7_goesWell l D cy z0 ad th h su st sh fl ic sn bn fm fr cm em lg le lf dl cS cH sea noi pl pw an hd bp bo bw c1 c2 c3 c4 c5 e1 e2 e3 e4 e5 2 (by omega)) hE hS hAz (z_cut hP hD hAz [0, 1, 2, 3, 4, 5, 6, 7, 8, 9, 10, 11, 12, 13, 14, 15, 16, 17, 18, 19, 20, 21] rfl (by decide +kernel)) (zRc.of (ci := 7) (q0 := 0) hE hP rfl rfl) zk_cd_X7_goesWell zk_in_RX7 zk_im_X7_goesWell zk_se_X7_goesWell zk_ml_RX7_88 rfl rfl zd_X7_goesWell ⟨by decide, by decide⟩ rfl hl.1 rfl (Nat.le_of_ble_eq_true rfl) dX7_density_28 ⟨by decide, by decide⟩) hP hD hS [0, 1, 2, 3, 4, 5, 6, 7, 8, 9, 10, 11, 12, 13, 14, 15, 16, 17, 18, 19, 20, 21] rfl (fun _ => rfl) (fun r_5 u_5 H locs hp_5 hP hD hS => ?_)
      have hP : va_P D vwCl (mdlW ad 0 cy 2 h su st sh fl ic sn bn fm fr cm em lg le lf dl cS cH sea noi pl pw an hd bp bo bw c1 c2 c3 c4 c5 e1 e2 e3 e4 e5) H := hP
      have hD : va_D (zIn (mdlW ad 0 cy th h su st sh fl ic sn bn fm fr cm em lg le lf dl cS cH sea noi pl pw an hd bp bo bw c1 c2 c3 c4 c5 e1 e2 e3 e4 e5)) (mdlW ad 0 cy 2 h su st sh fl ic sn bn fm fr cm em lg le lf dl cS cH sea noi pl pw an hd bp bo bw c1 c2 c3 c4 c5 e1 e2 e3 e4 e5) := hD
      subst hp_5
      refine z_rw (b := 0) rfl ?_
      refine zi_if_eq (tgt := 43) M dX7_density_31 (by decide) ⟨by decide, by decide⟩ (fun _ => ?_) (fun q => absurd q (by decide))
      refine zi_push M dX7_density_43 ?_
      have hP : va_P D vwCl (mdlW ad 0 cy 2 h su st sh fl ic sn bn fm fr cm em lg le lf dl cS cH sea noi pl pw an hd bp bo bw c1 c2 c3 c4 c5 e1 e2 e3 e4 e5) H := hP
      exact zw_i M hr hlk 2 hP hS (by exact Or.inr (Or.inr (⟨rfl, by omega, rfl⟩))) (by decide) (by decide) dX7_density_44
  ·
    refine lv_istore_n (lv' := [(3, .int (iI 0)), (0, .ref (ad 0)), (1, .int (iI q)), (2, .int (iI y))]) M.1 M.2.1 dX7_density_4 rfl hl (by decide) rfl (fun ls hl => ?_)
    refine lv_aload_n M.1 M.2.1 dX7_density_5 rfl (lv_at hl 1 rfl) ?_
    refine lv_iload_n M.1 M.2.1 dX7_density_6 rfl (lv_at hl 0 rfl) ?_
    refine zi_if_ne (tgt := 14) M dX7_density_7 (by decide) ⟨by decide, by decide⟩ (fun q => absurd q (by decide)) (fun _ => ?_)
    refine zi_push M dX7_density_10 ?_
    refine zi_goto (tgt := 28) M dX7_density_11 (by decide) ?_
    refine z_cW (z_runV (As := [.int (iI 1)]) (rest := []) M (c_X7_goesWell l D cy z0 ad th h su st sh fl ic sn bn fm fr cm em lg le lf dl cS cH sea noi pl pw an hd bp bo bw c1 c2 c3 c4 c5 e1 e2 e3 e4 e5 1 (by omega)) hE hS hAz (z_cut hP hD hAz [0, 1, 2, 3, 4, 5, 6, 7, 8, 9, 10, 11, 12, 13, 14, 15, 16, 17, 18, 19, 20, 21] rfl (by decide +kernel)) (zRc.of (ci := 7) (q0 := 0) hE hP rfl rfl) zk_cd_X7_goesWell zk_in_RX7 zk_im_X7_goesWell zk_se_X7_goesWell zk_ml_RX7_88 rfl rfl zd_X7_goesWell ⟨by decide, by decide⟩ rfl hl.1 rfl (Nat.le_of_ble_eq_true rfl) dX7_density_28 ⟨by decide, by decide⟩) hP hD hS [0, 1, 2, 3, 4, 5, 6, 7, 8, 9, 10, 11, 12, 13, 14, 15, 16, 17, 18, 19, 20, 21] rfl (fun _ => rfl) (fun r_6 u_6 H locs hp_6 hP hD hS => ?_)
    have hP : va_P D vwCl (mdlW ad 0 cy 1 h su st sh fl ic sn bn fm fr cm em lg le lf dl cS cH sea noi pl pw an hd bp bo bw c1 c2 c3 c4 c5 e1 e2 e3 e4 e5) H := hP
    have hD : va_D (zIn (mdlW ad 0 cy th h su st sh fl ic sn bn fm fr cm em lg le lf dl cS cH sea noi pl pw an hd bp bo bw c1 c2 c3 c4 c5 e1 e2 e3 e4 e5)) (mdlW ad 0 cy 1 h su st sh fl ic sn bn fm fr cm em lg le lf dl cS cH sea noi pl pw an hd bp bo bw c1 c2 c3 c4 c5 e1 e2 e3 e4 e5) := hD
    subst hp_6
    refine z_rw (b := 0) rfl ?_
    refine zi_if_eq (tgt := 43) M dX7_density_31 (by decide) ⟨by decide, by decide⟩ (fun _ => ?_) (fun q => absurd q (by decide))
    refine zi_push M dX7_density_43 ?_
    have hP : va_P D vwCl (mdlW ad 0 cy 1 h su st sh fl ic sn bn fm fr cm em lg le lf dl cS cH sea noi pl pw an hd bp bo bw c1 c2 c3 c4 c5 e1 e2 e3 e4 e5) H := hP
    exact zw_i M hr hlk 1 hP hS (by exact Or.inr (Or.inl (⟨rfl, by omega, rfl⟩))) (by decide) (by decide) dX7_density_44

set_option maxRecDepth 100000 in
set_option maxHeartbeats 4000000 in
theorem c_X7_signal (l : Launch) (D : va_G) (cy : Nat → ClassId) (z0 : Nat) (ad : Nat → Nat) (th h su st sh fl ic sn bn fm fr cm em lg le lf dl : Int) (cS cH sea noi pl pw an hd bp bo bw c1 c2 c3 c4 c5 e1 e2 e3 e4 e5 : Int → Int) (x : Int) (y : Int) (f : Int) (r_x : r32 x) (r_y : r32 y) (r_f : r32 f) (h_h : 0 ≤ h ∧ h ≤ 5000) (h_su : 0 ≤ su ∧ su ≤ 100) (h_st : 0 ≤ st ∧ st ≤ 60) (h_fl : 0 ≤ fl ∧ fl ≤ 80) (h_cS : zrg 48 0 100 cS) (h_ic : 0 ≤ ic ∧ ic ≤ 1) (g_sea : zrg 48 0 1 sea) (g_noi : zrg 48 0 40 noi) (g_pl : zrg 12 0 47 pl) (g_pw : zrg 12 0 80 pw) (g_an : zrg 12 0 2 an) (g_hd : zrg 12 0 2 hd) (hsm : 0 ≤ sn ∧ sn ≤ 12) : Met l yX7_signal [.code yX7_signal cX7_signal 5 (some .int)] (zRm 8 0 0 203) (zPc [.ref (ad 0), .int (iI x), .int (iI y), .int (iI f)] D cy z0 (zWl D z0 (mdlW ad 0 cy th h su st sh fl ic sn bn fm fr cm em lg le lf dl cS cH sea noi pl pw an hd bp bo bw c1 c2 c3 c4 c5 e1 e2 e3 e4 e5))) (zQ1 D (mdlW ad 0 cy th h su st sh fl ic sn bn fm fr cm em lg le lf dl cS cH sea noi pl pw an hd bp bo bw c1 c2 c3 c4 c5 e1 e2 e3 e4 e5) (fun (r : Int32) (u : Nat → Int) => (∃ xa xb xc xd : Int, u = u8 xa xb xc xd 0 0 0 0 ∧ (((0 ≤ x ∧ x < sn) ∧ (0 ≤ y ∧ y < sn)) ∧ ((10 ≤ f ∧ f ≤ 300) ∧ (¬ x = y))) ∧ r = iI (sigZ (mdE ic h cS) (mdF ic h su st) (mdD ic h fl) sea noi h (pl x) (pl y) f (pw x) (an x) (hd x))) ∨ (u = u8 lg le lf dl 1 0 0 0 ∧ (¬ ((0 ≤ x ∧ x < sn) ∧ (0 ≤ y ∧ y < sn))) ∧ r = iI 0) ∨ (u = u8 lg le lf dl 2 0 0 0 ∧ (((0 ≤ x ∧ x < sn) ∧ (0 ≤ y ∧ y < sn)) ∧ ¬ ((10 ≤ f ∧ f ≤ 300) ∧ (¬ x = y))) ∧ r = iI 0)) (fun (u : Nat → Int) => (mdlW ad 0 cy (u 4) h su st sh fl ic sn bn fm fr cm em (u 0) (u 1) (u 2) (u 3) cS cH sea noi pl pw an hd bp bo bw c1 c2 c3 c4 c5 e1 e2 e3 e4 e5))) 0 0 (zIn (mdlW ad 0 cy th h su st sh fl ic sn bn fm fr cm em lg le lf dl cS cH sea noi pl pw an hd bp bo bw c1 c2 c3 c4 c5 e1 e2 e3 e4 e5)) := by
  refine z_of (by decide) (Nat.le_of_ble_eq_true rfl) ?_
  intro p e s m args below meth c M hr hlk hini hargs hP0 hE ls hl
  have hP : va_P D vwCl (mdlW ad 0 cy th h su st sh fl ic sn bn fm fr cm em lg le lf dl cS cH sea noi pl pw an hd bp bo bw c1 c2 c3 c4 c5 e1 e2 e3 e4 e5) s.heap := hP0.1
  have hD : va_D (zIn (mdlW ad 0 cy th h su st sh fl ic sn bn fm fr cm em lg le lf dl cS cH sea noi pl pw an hd bp bo bw c1 c2 c3 c4 c5 e1 e2 e3 e4 e5)) (mdlW ad 0 cy th h su st sh fl ic sn bn fm fr cm em lg le lf dl cS cH sea noi pl pw an hd bp bo bw c1 c2 c3 c4 c5 e1 e2 e3 e4 e5) := hP0.self
  have hAz := hP0.A
  have hS : va_S (zIn (mdlW ad 0 cy th h su st sh fl ic sn bn fm fr cm em lg le lf dl cS cH sea noi pl pw an hd bp bo bw c1 c2 c3 c4 c5 e1 e2 e3 e4 e5)) s.heap s.heap [] := va_S.rf
  have hl : lv_has ls 5 [(0, .ref (ad 0)), (1, .int (iI x)), (2, .int (iI y)), (3, .int (iI f))] := hl
  refine lv_aload_n M.1 M.2.1 dX7_signal_0 rfl (lv_at hl 0 rfl) ?_
  refine lv_iload_n M.1 M.2.1 dX7_signal_1 rfl (lv_at hl 1 rfl) ?_
  refine z_cR (z_runV (As := [.int (iI x)]) (rest := []) M (c_X7_isStation l D cy z0 ad th h su st sh fl ic sn bn fm fr cm em lg le lf dl cS cH sea noi pl pw an hd bp bo bw c1 c2 c3 c4 c5 e1 e2 e3 e4 e5 x (by omega) (by omega)) hE hS hAz hP (zRc.of (ci := 7) (q0 := 0) hE hP rfl rfl) zk_cd_X7_isStation zk_in_RX7 zk_im_X7_isStation zk_se_X7_isStation zk_ml_RX7_177 rfl rfl zd_X7_isStation ⟨by decide, by decide⟩ rfl hl.1 rfl (Nat.le_of_ble_eq_true rfl) dX7_signal_2 ⟨by decide, by decide⟩) ?_
  refine zi_b (P := 0 ≤ x ∧ x ≤ sn - 1) (g := fun r => F0 m 5 ls (.int r :: [])) (fun b_1 => ?_) (fun b_1 => ?_)
  ·
    refine zi_if_eq (tgt := 20) M dX7_signal_5 (by decide) ⟨by decide, by decide⟩ (fun q => absurd q (by decide)) (fun _ => ?_)
    refine lv_aload_n M.1 M.2.1 dX7_signal_8 rfl (lv_at hl 0 rfl) ?_
    refine lv_iload_n M.1 M.2.1 dX7_signal_9 rfl (lv_at hl 2 rfl) ?_
    refine z_cR (z_runV (As := [.int (iI y)]) (rest := []) M (c_X7_isStation l D cy z0 ad th h su st sh fl ic sn bn fm fr cm em lg le lf dl cS cH sea noi pl pw an hd bp bo bw c1 c2 c3 c4 c5 e1 e2 e3 e4 e5 y (by omega) (by omega)) hE hS hAz hP (zRc.of (ci := 7) (q0 := 0) hE hP rfl rfl) zk_cd_X7_isStation zk_in_RX7 zk_im_X7_isStation zk_se_X7_isStation zk_ml_RX7_177 rfl rfl zd_X7_isStation ⟨by decide, by decide⟩ rfl hl.1 rfl (Nat.le_of_ble_eq_true rfl) dX7_signal_10 ⟨by decide, by decide⟩) ?_
    refine zi_b (P := 0 ≤ y ∧ y ≤ sn - 1) (g := fun r => F0 m 13 ls (.int r :: [])) (fun b_2 => ?_) (fun b_2 => ?_)
    ·
      refine zi_if_eq (tgt := 20) M dX7_signal_13 (by decide) ⟨by decide, by decide⟩ (fun q => absurd q (by decide)) (fun _ => ?_)
      refine zi_push M dX7_signal_16 ?_
      refine zi_goto (tgt := 21) M dX7_signal_17 (by decide) ?_
      refine lv_istore (lv' := [(4, .int (iI 1)), (0, .ref (ad 0)), (1, .int (iI x)), (2, .int (iI y)), (3, .int (iI f))]) M.1 M.2.1 dX7_signal_21 hl (by decide) rfl (fun ls hl => ?_)
      refine lv_aload_n M.1 M.2.1 dX7_signal_23 rfl (lv_at hl 1 rfl) ?_
      refine lv_iload M.1 M.2.1 dX7_signal_24 (lv_at hl 0 rfl) ?_
      refine zi_if_ne (tgt := 33) M dX7_signal_26 (by decide) ⟨by decide, by decide⟩ (fun _ => ?_) (fun q => absurd q (by decide))
      refine lv_iload_n M.1 M.2.1 dX7_signal_33 rfl (lv_at hl 4 rfl) ?_
      refine z_cR (z_runS (As := [.int (iI f)]) (rest := [.ref (ad 0)]) M (c_X7_isOn l D cy z0 f (by omega)) hE hS hAz trivial zk_cd_X7_isOn zk_in_RX7 zk_st_X7_isOn zk_ml_RX7_152 rfl rfl zd_X7_isOn ⟨by decide, by decide⟩ rfl hl.1 rfl (Nat.le_of_ble_eq_true rfl) dX7_signal_34 ⟨by decide, by decide⟩) ?_
      refine zi_b (P := 10 ≤ f ∧ f ≤ 300) (g := fun r => F0 m 37 ls (.int r :: [.ref (ad 0)])) (fun b_3 => ?_) (fun b_3 => ?_)
      ·
        refine zi_if_eq (tgt := 49) M dX7_signal_37 (by decide) ⟨by decide, by decide⟩ (fun q => absurd q (by decide)) (fun _ => ?_)
        refine lv_iload_n M.1 M.2.1 dX7_signal_40 rfl (lv_at hl 2 rfl) ?_
        refine lv_iload_n M.1 M.2.1 dX7_signal_41 rfl (lv_at hl 3 rfl) ?_
        refine zi_icmp_eq (tgt := 49) M dX7_signal_42 (by decide) (by omega) (by omega) (fun c_4 => ?_) (fun c_4 => ?_)
        ·
          refine zi_push M dX7_signal_49 ?_
          refine z_cW (z_runV (As := [.int (iI 2)]) (rest := []) M (c_X7_goesWell l D cy z0 ad th h su st sh fl ic sn bn fm fr cm em lg le lf dl cS cH sea noi pl pw an hd bp bo bw c1 c2 c3 c4 c5 e1 e2 e3 e4 e5 2 (by omega)) hE hS hAz (z_cut hP hD hAz [0, 1, 2, 3, 4, 5, 6, 7, 8, 9, 10, 11, 12, 13, 14, 15, 16, 17, 18, 19, 20, 21] rfl (by decide +kernel)) (zRc.of (ci := 7) (q0 := 0) hE hP rfl rfl) zk_cd_X7_goesWell zk_in_RX7 zk_im_X7_goesWell zk_se_X7_goesWell zk_ml_RX7_88 rfl rfl zd_X7_goesWell ⟨by decide, by decide⟩ rfl hl.1 rfl (Nat.le_of_ble_eq_true rfl) dX7_signal_50 ⟨by decide, by decide⟩) hP hD hS [0, 1, 2, 3, 4, 5, 6, 7, 8, 9, 10, 11, 12, 13, 14, 15, 16, 17, 18, 19, 20, 21] rfl (fun _ => rfl) (fun r_5 u_5 H locs hp_5 hP hD hS => ?_)
          have hP : va_P D vwCl (mdlW ad 0 cy 2 h su st sh fl ic sn bn fm fr cm em lg le lf dl cS cH sea noi pl pw an hd bp bo bw c1 c2 c3 c4 c5 e1 e2 e3 e4 e5) H := hP
          have hD : va_D (zIn (mdlW ad 0 cy th h su st sh fl ic sn bn fm fr cm em lg le lf dl cS cH sea noi pl pw an hd bp bo bw c1 c2 c3 c4 c5 e1 e2 e3 e4 e5)) (mdlW ad 0 cy 2 h su st sh fl ic sn bn fm fr cm em lg le lf dl cS cH sea noi pl pw an hd bp bo bw c1 c2 c3 c4 c5 e1 e2 e3 e4 e5) := hD
          subst hp_5
          refine z_rw (b := 0) rfl ?_
          refine zi_if_eq (tgt := 66) M dX7_signal_53 (by decide) ⟨by decide, by decide⟩ (fun _ => ?_) (fun q => absurd q (by decide))
          refine zi_push M dX7_signal_66 ?_
          have hP : va_P D vwCl (mdlW ad 0 cy ((u8 lg le lf dl 2 0 0 0) 4) h su st sh fl ic sn bn fm fr cm em ((u8 lg le lf dl 2 0 0 0) 0) ((u8 lg le lf dl 2 0 0 0) 1) ((u8 lg le lf dl 2 0 0 0) 2) ((u8 lg le lf dl 2 0 0 0) 3) cS cH sea noi pl pw an hd bp bo bw c1 c2 c3 c4 c5 e1 e2 e3 e4 e5) H := hP
          exact zw_i M hr hlk (u8 lg le lf dl 2 0 0 0) hP hS (by exact Or.inr (Or.inr (⟨rfl, by omega, rfl⟩))) (by decide) (by decide) dX7_signal_67
        ·
          refine zi_push M dX7_signal_45 ?_
          refine zi_goto (tgt := 50) M dX7_signal_46 (by decide) ?_
          refine z_cW (z_runV (As := [.int (iI 0)]) (rest := []) M (c_X7_goesWell l D cy z0 ad th h su st sh fl ic sn bn fm fr cm em lg le lf dl cS cH sea noi pl pw an hd bp bo bw c1 c2 c3 c4 c5 e1 e2 e3 e4 e5 0 (by omega)) hE hS hAz (z_cut hP hD hAz [0, 1, 2, 3, 4, 5, 6, 7, 8, 9, 10, 11, 12, 13, 14, 15, 16, 17, 18, 19, 20, 21] rfl (by decide +kernel)) (zRc.of (ci := 7) (q0 := 0) hE hP rfl rfl) zk_cd_X7_goesWell zk_in_RX7 zk_im_X7_goesWell zk_se_X7_goesWell zk_ml_RX7_88 rfl rfl zd_X7_goesWell ⟨by decide, by decide⟩ rfl hl.1 rfl (Nat.le_of_ble_eq_true rfl) dX7_signal_50 ⟨by decide, by decide⟩) hP hD hS [0, 1, 2, 3, 4, 5, 6, 7, 8, 9, 10, 11, 12, 13, 14, 15, 16, 17, 18, 19, 20, 21] rfl (fun _ => rfl) (fun r_6 u_6 H locs hp_6 hP hD hS => ?_)
          have hP : va_P D vwCl (mdlW ad 0 cy 0 h su st sh fl ic sn bn fm fr cm em lg le lf dl cS cH sea noi pl pw an hd bp bo bw c1 c2 c3 c4 c5 e1 e2 e3 e4 e5) H := hP
          have hD : va_D (zIn (mdlW ad 0 cy th h su st sh fl ic sn bn fm fr cm em lg le lf dl cS cH sea noi pl pw an hd bp bo bw c1 c2 c3 c4 c5 e1 e2 e3 e4 e5)) (mdlW ad 0 cy 0 h su st sh fl ic sn bn fm fr cm em lg le lf dl cS cH sea noi pl pw an hd bp bo bw c1 c2 c3 c4 c5 e1 e2 e3 e4 e5) := hD
          subst hp_6
          refine z_rw (b := 1) rfl ?_
          refine zi_if_eq (tgt := 66) M dX7_signal_53 (by decide) ⟨by decide, by decide⟩ (fun q => absurd q (by decide)) (fun _ => ?_)
          refine lv_aload_n M.1 M.2.1 dX7_signal_56 rfl (lv_at hl 1 rfl) ?_
          refine lv_iload_n M.1 M.2.1 dX7_signal_57 rfl (lv_at hl 2 rfl) ?_
          refine lv_iload_n M.1 M.2.1 dX7_signal_58 rfl (lv_at hl 3 rfl) ?_
          refine lv_iload_n M.1 M.2.1 dX7_signal_59 rfl (lv_at hl 4 rfl) ?_
          refine z_cW (z_runV (As := [.int (iI x), .int (iI y), .int (iI f)]) (rest := []) M (c_X7_signalBy l D cy z0 ad 0 h su st sh fl ic sn bn fm fr cm em lg le lf dl cS cH sea noi pl pw an hd bp bo bw c1 c2 c3 c4 c5 e1 e2 e3 e4 e5 x y f (by omega) (by omega) (by omega) (by omega) (by omega) (by omega) g_sea g_noi g_pl g_pw g_an g_hd (by omega) (by omega) (by omega)) hE hS hAz (z_cut hP hD hAz [0, 1, 2, 3, 4, 5, 6, 7, 8, 9, 10, 11, 12, 13, 14, 15, 16, 17, 18, 19, 20, 21] rfl (by decide +kernel)) (zRc.of (ci := 7) (q0 := 0) hE hP rfl rfl) zk_cd_X7_signalBy zk_in_RX7 zk_im_X7_signalBy zk_se_X7_signalBy zk_ml_RX7_183 rfl rfl zd_X7_signalBy ⟨by decide, by decide⟩ rfl hl.1 rfl (Nat.le_of_ble_eq_true rfl) dX7_signal_60 ⟨by decide, by decide⟩) hP hD hS [0, 1, 2, 3, 4, 5, 6, 7, 8, 9, 10, 11, 12, 13, 14, 15, 16, 17, 18, 19, 20, 21] rfl (fun _ => rfl) (fun r_7 u_7 H locs hp_7 hP hD hS => ?_)
          have hP : va_P D vwCl (mdlW ad 0 cy 0 h su st sh fl ic sn bn fm fr cm em (u_7 0) (u_7 1) (u_7 2) (u_7 3) cS cH sea noi pl pw an hd bp bo bw c1 c2 c3 c4 c5 e1 e2 e3 e4 e5) H := hP
          have hD : va_D (zIn (mdlW ad 0 cy th h su st sh fl ic sn bn fm fr cm em lg le lf dl cS cH sea noi pl pw an hd bp bo bw c1 c2 c3 c4 c5 e1 e2 e3 e4 e5)) (mdlW ad 0 cy 0 h su st sh fl ic sn bn fm fr cm em (u_7 0) (u_7 1) (u_7 2) (u_7 3) cS cH sea noi pl pw an hd bp bo bw c1 c2 c3 c4 c5 e1 e2 e3 e4 e5) := hD
          subst hp_7
          have hsg_7 : -1000 ≤ sigZ (mdE ic h cS) (mdF ic h su st) (mdD ic h fl) sea noi h (pl x) (pl y) f (pw x) (an x) (hd x) ∧ sigZ (mdE ic h cS) (mdF ic h su st) (mdD ic h fl) sea noi h (pl x) (pl y) f (pw x) (an x) (hd x) ≤ 88 := sigZ_rg (mdD_rg h_fl) g_noi (by omega) (g_pl x (by omega) (by omega) |> fun z => by omega) (g_pl y (by omega) (by omega) |> fun z => by omega) (g_pw x (by omega) (by omega))
          refine zi_goto (tgt := 67) M dX7_signal_63 (by decide) ?_
          have hP : va_P D vwCl (mdlW ad 0 cy ((u8 (u_7 0) (u_7 1) (u_7 2) (u_7 3) 0 0 0 0) 4) h su st sh fl ic sn bn fm fr cm em ((u8 (u_7 0) (u_7 1) (u_7 2) (u_7 3) 0 0 0 0) 0) ((u8 (u_7 0) (u_7 1) (u_7 2) (u_7 3) 0 0 0 0) 1) ((u8 (u_7 0) (u_7 1) (u_7 2) (u_7 3) 0 0 0 0) 2) ((u8 (u_7 0) (u_7 1) (u_7 2) (u_7 3) 0 0 0 0) 3) cS cH sea noi pl pw an hd bp bo bw c1 c2 c3 c4 c5 e1 e2 e3 e4 e5) H := hP
          exact zw_i M hr hlk (u8 (u_7 0) (u_7 1) (u_7 2) (u_7 3) 0 0 0 0) hP hS (by exact Or.inl ⟨_, _, _, _, rfl, by omega, congrArg iI (show (sigZ (mdE ic h cS) (mdF ic h su st) (mdD ic h fl) sea noi h (pl x) (pl y) f (pw x) (an x) (hd x) : Int) = sigZ (mdE ic h cS) (mdF ic h su st) (mdD ic h fl) sea noi h (pl x) (pl y) f (pw x) (an x) (hd x) by rfl)⟩) (by decide) (by decide) dX7_signal_67
      ·
        refine zi_if_eq (tgt := 49) M dX7_signal_37 (by decide) ⟨by decide, by decide⟩ (fun _ => ?_) (fun q => absurd q (by decide))
        refine zi_push M dX7_signal_49 ?_
        refine z_cW (z_runV (As := [.int (iI 2)]) (rest := []) M (c_X7_goesWell l D cy z0 ad th h su st sh fl ic sn bn fm fr cm em lg le lf dl cS cH sea noi pl pw an hd bp bo bw c1 c2 c3 c4 c5 e1 e2 e3 e4 e5 2 (by omega)) hE hS hAz (z_cut hP hD hAz [0, 1, 2, 3, 4, 5, 6, 7, 8, 9, 10, 11, 12, 13, 14, 15, 16, 17, 18, 19, 20, 21] rfl (by decide +kernel)) (zRc.of (ci := 7) (q0 := 0) hE hP rfl rfl) zk_cd_X7_goesWell zk_in_RX7 zk_im_X7_goesWell zk_se_X7_goesWell zk_ml_RX7_88 rfl rfl zd_X7_goesWell ⟨by decide, by decide⟩ rfl hl.1 rfl (Nat.le_of_ble_eq_true rfl) dX7_signal_50 ⟨by decide, by decide⟩) hP hD hS [0, 1, 2, 3, 4, 5, 6, 7, 8, 9, 10, 11, 12, 13, 14, 15, 16, 17, 18, 19, 20, 21] rfl (fun _ => rfl) (fun r_8 u_8 H locs hp_8 hP hD hS => ?_)
        have hP : va_P D vwCl (mdlW ad 0 cy 2 h su st sh fl ic sn bn fm fr cm em lg le lf dl cS cH sea noi pl pw an hd bp bo bw c1 c2 c3 c4 c5 e1 e2 e3 e4 e5) H := hP
        have hD : va_D (zIn (mdlW ad 0 cy th h su st sh fl ic sn bn fm fr cm em lg le lf dl cS cH sea noi pl pw an hd bp bo bw c1 c2 c3 c4 c5 e1 e2 e3 e4 e5)) (mdlW ad 0 cy 2 h su st sh fl ic sn bn fm fr cm em lg le lf dl cS cH sea noi pl pw an hd bp bo bw c1 c2 c3 c4 c5 e1 e2 e3 e4 e5) := hD
        subst hp_8
        refine z_rw (b := 0) rfl ?_
        refine zi_if_eq (tgt := 66) M dX7_signal_53 (by decide) ⟨by decide, by decide⟩ (fun _ => ?_) (fun q => absurd q (by decide))
        refine zi_push M dX7_signal_66 ?_
        have hP : va_P D vwCl (mdlW ad 0 cy ((u8 lg le lf dl 2 0 0 0) 4) h su st sh fl ic sn bn fm fr cm em ((u8 lg le lf dl 2 0 0 0) 0) ((u8 lg le lf dl 2 0 0 0) 1) ((u8 lg le lf dl 2 0 0 0) 2) ((u8 lg le lf dl 2 0 0 0) 3) cS cH sea noi pl pw an hd bp bo bw c1 c2 c3 c4 c5 e1 e2 e3 e4 e5) H := hP
        exact zw_i M hr hlk (u8 lg le lf dl 2 0 0 0) hP hS (by exact Or.inr (Or.inr (⟨rfl, by omega, rfl⟩))) (by decide) (by decide) dX7_signal_67
    ·
      refine zi_if_eq (tgt := 20) M dX7_signal_13 (by decide) ⟨by decide, by decide⟩ (fun _ => ?_) (fun q => absurd q (by decide))
      refine zi_push M dX7_signal_20 ?_
      refine lv_istore (lv' := [(4, .int (iI 0)), (0, .ref (ad 0)), (1, .int (iI x)), (2, .int (iI y)), (3, .int (iI f))]) M.1 M.2.1 dX7_signal_21 hl (by decide) rfl (fun ls hl => ?_)
      refine lv_aload_n M.1 M.2.1 dX7_signal_23 rfl (lv_at hl 1 rfl) ?_
      refine lv_iload M.1 M.2.1 dX7_signal_24 (lv_at hl 0 rfl) ?_
      refine zi_if_ne (tgt := 33) M dX7_signal_26 (by decide) ⟨by decide, by decide⟩ (fun q => absurd q (by decide)) (fun _ => ?_)
      refine zi_push M dX7_signal_29 ?_
      refine zi_goto (tgt := 50) M dX7_signal_30 (by decide) ?_
      refine z_cW (z_runV (As := [.int (iI 1)]) (rest := []) M (c_X7_goesWell l D cy z0 ad th h su st sh fl ic sn bn fm fr cm em lg le lf dl cS cH sea noi pl pw an hd bp bo bw c1 c2 c3 c4 c5 e1 e2 e3 e4 e5 1 (by omega)) hE hS hAz (z_cut hP hD hAz [0, 1, 2, 3, 4, 5, 6, 7, 8, 9, 10, 11, 12, 13, 14, 15, 16, 17, 18, 19, 20, 21] rfl (by decide +kernel)) (zRc.of (ci := 7) (q0 := 0) hE hP rfl rfl) zk_cd_X7_goesWell zk_in_RX7 zk_im_X7_goesWell zk_se_X7_goesWell zk_ml_RX7_88 rfl rfl zd_X7_goesWell ⟨by decide, by decide⟩ rfl hl.1 rfl (Nat.le_of_ble_eq_true rfl) dX7_signal_50 ⟨by decide, by decide⟩) hP hD hS [0, 1, 2, 3, 4, 5, 6, 7, 8, 9, 10, 11, 12, 13, 14, 15, 16, 17, 18, 19, 20, 21] rfl (fun _ => rfl) (fun r_9 u_9 H locs hp_9 hP hD hS => ?_)
      have hP : va_P D vwCl (mdlW ad 0 cy 1 h su st sh fl ic sn bn fm fr cm em lg le lf dl cS cH sea noi pl pw an hd bp bo bw c1 c2 c3 c4 c5 e1 e2 e3 e4 e5) H := hP
      have hD : va_D (zIn (mdlW ad 0 cy th h su st sh fl ic sn bn fm fr cm em lg le lf dl cS cH sea noi pl pw an hd bp bo bw c1 c2 c3 c4 c5 e1 e2 e3 e4 e5)) (mdlW ad 0 cy 1 h su st sh fl ic sn bn fm fr cm em lg le lf dl cS cH sea noi pl pw an hd bp bo bw c1 c2 c3 c4 c5 e1 e2 e3 e4 e5) := hD
      subst hp_9
      refine z_rw (b := 0) rfl ?_
      refine zi_if_eq (tgt := 66) M dX7_signal_53 (by decide) ⟨by decide, by decide⟩ (fun _ => ?_) (fun q => absurd q (by decide))
      refine zi_push M dX7_signal_66 ?_
      have hP : va_P D vwCl (mdlW ad 0 cy ((u8 lg le lf dl 1 0 0 0) 4) h su st sh fl ic sn bn fm fr cm em ((u8 lg le lf dl 1 0 0 0) 0) ((u8 lg le lf dl 1 0 0 0) 1) ((u8 lg le lf dl 1 0 0 0) 2) ((u8 lg le lf dl 1 0 0 0) 3) cS cH sea noi pl pw an hd bp bo bw c1 c2 c3 c4 c5 e1 e2 e3 e4 e5) H := hP
      exact zw_i M hr hlk (u8 lg le lf dl 1 0 0 0) hP hS (by exact Or.inr (Or.inl (⟨rfl, by omega, rfl⟩))) (by decide) (by decide) dX7_signal_67
  ·
    refine zi_if_eq (tgt := 20) M dX7_signal_5 (by decide) ⟨by decide, by decide⟩ (fun _ => ?_) (fun q => absurd q (by decide))
    refine zi_push M dX7_signal_20 ?_
    refine lv_istore (lv' := [(4, .int (iI 0)), (0, .ref (ad 0)), (1, .int (iI x)), (2, .int (iI y)), (3, .int (iI f))]) M.1 M.2.1 dX7_signal_21 hl (by decide) rfl (fun ls hl => ?_)
    refine lv_aload_n M.1 M.2.1 dX7_signal_23 rfl (lv_at hl 1 rfl) ?_
    refine lv_iload M.1 M.2.1 dX7_signal_24 (lv_at hl 0 rfl) ?_
    refine zi_if_ne (tgt := 33) M dX7_signal_26 (by decide) ⟨by decide, by decide⟩ (fun q => absurd q (by decide)) (fun _ => ?_)
    refine zi_push M dX7_signal_29 ?_
    refine zi_goto (tgt := 50) M dX7_signal_30 (by decide) ?_
    refine z_cW (z_runV (As := [.int (iI 1)]) (rest := []) M (c_X7_goesWell l D cy z0 ad th h su st sh fl ic sn bn fm fr cm em lg le lf dl cS cH sea noi pl pw an hd bp bo bw c1 c2 c3 c4 c5 e1 e2 e3 e4 e5 1 (by omega)) hE hS hAz (z_cut hP hD hAz [0, 1, 2, 3, 4, 5, 6, 7, 8, 9, 10, 11, 12, 13, 14, 15, 16, 17, 18, 19, 20, 21] rfl (by decide +kernel)) (zRc.of (ci := 7) (q0 := 0) hE hP rfl rfl) zk_cd_X7_goesWell zk_in_RX7 zk_im_X7_goesWell zk_se_X7_goesWell zk_ml_RX7_88 rfl rfl zd_X7_goesWell ⟨by decide, by decide⟩ rfl hl.1 rfl (Nat.le_of_ble_eq_true rfl) dX7_signal_50 ⟨by decide, by decide⟩) hP hD hS [0, 1, 2, 3, 4, 5, 6, 7, 8, 9, 10, 11, 12, 13, 14, 15, 16, 17, 18, 19, 20, 21] rfl (fun _ => rfl) (fun r_10 u_10 H locs hp_10 hP hD hS => ?_)
    have hP : va_P D vwCl (mdlW ad 0 cy 1 h su st sh fl ic sn bn fm fr cm em lg le lf dl cS cH sea noi pl pw an hd bp bo bw c1 c2 c3 c4 c5 e1 e2 e3 e4 e5) H := hP
    have hD : va_D (zIn (mdlW ad 0 cy th h su st sh fl ic sn bn fm fr cm em lg le lf dl cS cH sea noi pl pw an hd bp bo bw c1 c2 c3 c4 c5 e1 e2 e3 e4 e5)) (mdlW ad 0 cy 1 h su st sh fl ic sn bn fm fr cm em lg le lf dl cS cH sea noi pl pw an hd bp bo bw c1 c2 c3 c4 c5 e1 e2 e3 e4 e5) := hD
    subst hp_10
    refine z_rw (b := 0) rfl ?_
    refine zi_if_eq (tgt := 66) M dX7_signal_53 (by decide) ⟨by decide, by decide⟩ (fun _ => ?_) (fun q => absurd q (by decide))
    refine zi_push M dX7_signal_66 ?_
    have hP : va_P D vwCl (mdlW ad 0 cy ((u8 lg le lf dl 1 0 0 0) 4) h su st sh fl ic sn bn fm fr cm em ((u8 lg le lf dl 1 0 0 0) 0) ((u8 lg le lf dl 1 0 0 0) 1) ((u8 lg le lf dl 1 0 0 0) 2) ((u8 lg le lf dl 1 0 0 0) 3) cS cH sea noi pl pw an hd bp bo bw c1 c2 c3 c4 c5 e1 e2 e3 e4 e5) H := hP
    exact zw_i M hr hlk (u8 lg le lf dl 1 0 0 0) hP hS (by exact Or.inr (Or.inl (⟨rfl, by omega, rfl⟩))) (by decide) (by decide) dX7_signal_67

set_option maxRecDepth 100000 in
set_option maxHeartbeats 4000000 in
theorem c_X7_contactOf (l : Launch) (D : va_G) (cy : Nat → ClassId) (z0 : Nat) (ad : Nat → Nat) (th h su st sh fl ic sn bn fm fr cm em lg le lf dl : Int) (cS cH sea noi pl pw an hd bp bo bw c1 c2 c3 c4 c5 e1 e2 e3 e4 e5 : Int → Int) (k : Int) (wh : Int) (r_k : r32 k) (r_wh : r32 wh) (hcm : 0 ≤ cm ∧ cm ≤ 60) : Met l yX7_contactOf [.code yX7_contactOf cX7_contactOf 4 (some .int)] (zRm 1 0 0 22) (zPc [.ref (ad 0), .int (iI k), .int (iI wh)] D cy z0 (zWl D z0 (mdlW ad 0 cy th h su st sh fl ic sn bn fm fr cm em lg le lf dl cS cH sea noi pl pw an hd bp bo bw c1 c2 c3 c4 c5 e1 e2 e3 e4 e5))) (zQ1 D (mdlW ad 0 cy th h su st sh fl ic sn bn fm fr cm em lg le lf dl cS cH sea noi pl pw an hd bp bo bw c1 c2 c3 c4 c5 e1 e2 e3 e4 e5) (fun (r : Int32) (u : Int) => (u = 0 ∧ ((0 ≤ k ∧ k < cm) ∧ (0 ≤ wh ∧ wh ≤ 4)) ∧ r = iI (tell5 (c1 k) (c2 k) (c3 k) (c4 k) (c5 k) wh)) ∨ (u = 1 ∧ (¬ (0 ≤ k ∧ k < cm)) ∧ r = iI 0) ∨ (u = 2 ∧ ((0 ≤ k ∧ k < cm) ∧ ¬ (0 ≤ wh ∧ wh ≤ 4)) ∧ r = iI 0)) (fun (u : Int) => (mdlW ad 0 cy u h su st sh fl ic sn bn fm fr cm em lg le lf dl cS cH sea noi pl pw an hd bp bo bw c1 c2 c3 c4 c5 e1 e2 e3 e4 e5))) 0 0 (zIn (mdlW ad 0 cy th h su st sh fl ic sn bn fm fr cm em lg le lf dl cS cH sea noi pl pw an hd bp bo bw c1 c2 c3 c4 c5 e1 e2 e3 e4 e5)) := by
  refine z_of (by decide) (Nat.le_of_ble_eq_true rfl) ?_
  intro p e s m args below meth c M hr hlk hini hargs hP0 hE ls hl
  have hP : va_P D vwCl (mdlW ad 0 cy th h su st sh fl ic sn bn fm fr cm em lg le lf dl cS cH sea noi pl pw an hd bp bo bw c1 c2 c3 c4 c5 e1 e2 e3 e4 e5) s.heap := hP0.1
  have hD : va_D (zIn (mdlW ad 0 cy th h su st sh fl ic sn bn fm fr cm em lg le lf dl cS cH sea noi pl pw an hd bp bo bw c1 c2 c3 c4 c5 e1 e2 e3 e4 e5)) (mdlW ad 0 cy th h su st sh fl ic sn bn fm fr cm em lg le lf dl cS cH sea noi pl pw an hd bp bo bw c1 c2 c3 c4 c5 e1 e2 e3 e4 e5) := hP0.self
  have hAz := hP0.A
  have hS : va_S (zIn (mdlW ad 0 cy th h su st sh fl ic sn bn fm fr cm em lg le lf dl cS cH sea noi pl pw an hd bp bo bw c1 c2 c3 c4 c5 e1 e2 e3 e4 e5)) s.heap s.heap [] := va_S.rf
  have hl : lv_has ls 4 [(0, .ref (ad 0)), (1, .int (iI k)), (2, .int (iI wh))] := hl
  refine lv_iload_n M.1 M.2.1 dX7_contactOf_0 rfl (lv_at hl 1 rfl) ?_
  refine zi_push M dX7_contactOf_1 ?_
  refine lv_aload_n M.1 M.2.1 dX7_contactOf_2 rfl (lv_at hl 0 rfl) ?_
  refine zi_get (ci := 7) (v := .int (iI cm)) M hE hP 0 rfl rfl zu_X7 22 (by decide) zk_fl_RX7_180 rfl rfl dX7_contactOf_3 ?_
  refine zi_push M dX7_contactOf_6 ?_
  refine zi_isub M dX7_contactOf_7 ?_
  refine z_cR (z_runS (As := [.int (iI k), .int (iI 0), .int (iI (cm - 1))]) (rest := []) M (c_X7_in l D cy z0 k 0 (cm - 1) (by omega) (by omega) (by omega)) hE hS hAz trivial zk_cd_X7_in zk_in_RX7 zk_st_X7_in zk_ml_RX7_81 rfl rfl zd_X7_in ⟨by decide, by decide⟩ rfl hl.1 rfl (Nat.le_of_ble_eq_true rfl) dX7_contactOf_8 ⟨by decide, by decide⟩) ?_
  refine zi_b (P := 0 ≤ k ∧ k ≤ (cm - 1)) (g := fun r => F0 m 11 ls (.int r :: [])) (fun b_1 => ?_) (fun b_1 => ?_)
  ·
    refine lv_istore_n (lv' := [(3, .int (iI 1)), (0, .ref (ad 0)), (1, .int (iI k)), (2, .int (iI wh))]) M.1 M.2.1 dX7_contactOf_11 rfl hl (by decide) rfl (fun ls hl => ?_)
    refine lv_aload_n M.1 M.2.1 dX7_contactOf_12 rfl (lv_at hl 1 rfl) ?_
    refine lv_iload_n M.1 M.2.1 dX7_contactOf_13 rfl (lv_at hl 0 rfl) ?_
    refine zi_if_ne (tgt := 21) M dX7_contactOf_14 (by decide) ⟨by decide, by decide⟩ (fun _ => ?_) (fun q => absurd q (by decide))
    refine lv_iload_n M.1 M.2.1 dX7_contactOf_21 rfl (lv_at hl 3 rfl) ?_
    refine zi_push M dX7_contactOf_22 ?_
    refine zi_push M dX7_contactOf_23 ?_
    refine z_cR (z_runS (As := [.int (iI wh), .int (iI 0), .int (iI 4)]) (rest := [.ref (ad 0)]) M (c_X7_in l D cy z0 wh 0 4 (by omega) (by omega) (by omega)) hE hS hAz trivial zk_cd_X7_in zk_in_RX7 zk_st_X7_in zk_ml_RX7_81 rfl rfl zd_X7_in ⟨by decide, by decide⟩ rfl hl.1 rfl (Nat.le_of_ble_eq_true rfl) dX7_contactOf_24 ⟨by decide, by decide⟩) ?_
    refine zi_b (P := 0 ≤ wh ∧ wh ≤ 4) (g := fun r => F0 m 27 ls (.int r :: [.ref (ad 0)])) (fun b_2 => ?_) (fun b_2 => ?_)
    ·
      refine zi_if_eq (tgt := 34) M dX7_contactOf_27 (by decide) ⟨by decide, by decide⟩ (fun q => absurd q (by decide)) (fun _ => ?_)
      refine zi_push M dX7_contactOf_30 ?_
      refine zi_goto (tgt := 35) M dX7_contactOf_31 (by decide) ?_
      refine z_cW (z_runV (As := [.int (iI 0)]) (rest := []) M (c_X7_goesWell l D cy z0 ad th h su st sh fl ic sn bn fm fr cm em lg le lf dl cS cH sea noi pl pw an hd bp bo bw c1 c2 c3 c4 c5 e1 e2 e3 e4 e5 0 (by omega)) hE hS hAz (z_cut hP hD hAz [0, 1, 2, 3, 4, 5, 6, 7, 8, 9, 10, 11, 12, 13, 14, 15, 16, 17, 18, 19, 20, 21] rfl (by decide +kernel)) (zRc.of (ci := 7) (q0 := 0) hE hP rfl rfl) zk_cd_X7_goesWell zk_in_RX7 zk_im_X7_goesWell zk_se_X7_goesWell zk_ml_RX7_88 rfl rfl zd_X7_goesWell ⟨by decide, by decide⟩ rfl hl.1 rfl (Nat.le_of_ble_eq_true rfl) dX7_contactOf_35 ⟨by decide, by decide⟩) hP hD hS [0, 1, 2, 3, 4, 5, 6, 7, 8, 9, 10, 11, 12, 13, 14, 15, 16, 17, 18, 19, 20, 21] rfl (fun _ => rfl) (fun r_3 u_3 H locs hp_3 hP hD hS => ?_)
      have hP : va_P D vwCl (mdlW ad 0 cy 0 h su st sh fl ic sn bn fm fr cm em lg le lf dl cS cH sea noi pl pw an hd bp bo bw c1 c2 c3 c4 c5 e1 e2 e3 e4 e5) H := hP
      have hD : va_D (zIn (mdlW ad 0 cy th h su st sh fl ic sn bn fm fr cm em lg le lf dl cS cH sea noi pl pw an hd bp bo bw c1 c2 c3 c4 c5 e1 e2 e3 e4 e5)) (mdlW ad 0 cy 0 h su st sh fl ic sn bn fm fr cm em lg le lf dl cS cH sea noi pl pw an hd bp bo bw c1 c2 c3 c4 c5 e1 e2 e3 e4 e5) := hD
      subst hp_3
      refine z_rw (b := 1) rfl ?_
      refine zi_if_ne (tgt := 43) M dX7_contactOf_38 (by decide) ⟨by decide, by decide⟩ (fun _ => ?_) (fun q => absurd q (by decide))
      refine lv_iload_n M.1 M.2.1 dX7_contactOf_43 rfl (lv_at hl 3 rfl) ?_
      refine zi_if_ne (tgt := 56) M dX7_contactOf_44 (by decide) (by omega) (fun c_4 => ?_) (fun c_4 => ?_)
      ·
        refine lv_iload_n M.1 M.2.1 dX7_contactOf_56 rfl (lv_at hl 3 rfl) ?_
        refine zi_push M dX7_contactOf_57 ?_
        refine zi_icmp_ne (tgt := 70) M dX7_contactOf_58 (by decide) (by omega) ⟨by decide, by decide⟩ (fun c_5 => ?_) (fun c_5 => ?_)
        ·
          refine lv_iload_n M.1 M.2.1 dX7_contactOf_70 rfl (lv_at hl 3 rfl) ?_
          refine zi_push M dX7_contactOf_71 ?_
          refine zi_icmp_ne (tgt := 84) M dX7_contactOf_72 (by decide) (by omega) ⟨by decide, by decide⟩ (fun c_6 => ?_) (fun c_6 => ?_)
          ·
            refine lv_iload_n M.1 M.2.1 dX7_contactOf_84 rfl (lv_at hl 3 rfl) ?_
            refine zi_push M dX7_contactOf_85 ?_
            refine zi_icmp_ne (tgt := 98) M dX7_contactOf_86 (by decide) (by omega) ⟨by decide, by decide⟩ (fun c_7 => ?_) (fun c_7 => ?_)
            ·
              refine lv_aload_n M.1 M.2.1 dX7_contactOf_98 rfl (lv_at hl 1 rfl) ?_
              refine zi_get (ci := 7) (v := .ref (ad (0 + 16))) M hE hP 0 rfl rfl zu_X7 27 (by decide) zk_fl_RX7_60 rfl rfl dX7_contactOf_99 ?_
              refine lv_iload_n M.1 M.2.1 dX7_contactOf_102 rfl (lv_at hl 2 rfl) ?_
              refine zi_iald M hE hP 16 (n := 60) (g := c5) rfl (Nat.le_of_ble_eq_true rfl) (by omega) (by omega) dX7_contactOf_103 ?_
              have hP : va_P D vwCl (mdlW ad 0 cy 0 h su st sh fl ic sn bn fm fr cm em lg le lf dl cS cH sea noi pl pw an hd bp bo bw c1 c2 c3 c4 c5 e1 e2 e3 e4 e5) H := hP
              exact zw_i M hr hlk 0 hP hS (by exact Or.inl ⟨rfl, by omega, congrArg iI (show ((c5 k) : Int) = tell5 (c1 k) (c2 k) (c3 k) (c4 k) (c5 k) wh by (unfold tell5; (repeat' split) <;> omega))⟩) (by decide) (by decide) dX7_contactOf_104
            ·
              refine lv_aload_n M.1 M.2.1 dX7_contactOf_89 rfl (lv_at hl 1 rfl) ?_
              refine zi_get (ci := 7) (v := .ref (ad (0 + 15))) M hE hP 0 rfl rfl zu_X7 26 (by decide) zk_fl_RX7_57 rfl rfl dX7_contactOf_90 ?_
              refine lv_iload_n M.1 M.2.1 dX7_contactOf_93 rfl (lv_at hl 2 rfl) ?_
              refine zi_iald M hE hP 15 (n := 60) (g := c4) rfl (Nat.le_of_ble_eq_true rfl) (by omega) (by omega) dX7_contactOf_94 ?_
              refine zi_goto (tgt := 104) M dX7_contactOf_95 (by decide) ?_
              have hP : va_P D vwCl (mdlW ad 0 cy 0 h su st sh fl ic sn bn fm fr cm em lg le lf dl cS cH sea noi pl pw an hd bp bo bw c1 c2 c3 c4 c5 e1 e2 e3 e4 e5) H := hP
              exact zw_i M hr hlk 0 hP hS (by exact Or.inl ⟨rfl, by omega, congrArg iI (show ((c4 k) : Int) = tell5 (c1 k) (c2 k) (c3 k) (c4 k) (c5 k) wh by (unfold tell5; (repeat' split) <;> omega))⟩) (by decide) (by decide) dX7_contactOf_104
          ·
            refine lv_aload_n M.1 M.2.1 dX7_contactOf_75 rfl (lv_at hl 1 rfl) ?_
            refine zi_get (ci := 7) (v := .ref (ad (0 + 14))) M hE hP 0 rfl rfl zu_X7 25 (by decide) zk_fl_RX7_54 rfl rfl dX7_contactOf_76 ?_
            refine lv_iload_n M.1 M.2.1 dX7_contactOf_79 rfl (lv_at hl 2 rfl) ?_
            refine zi_iald M hE hP 14 (n := 60) (g := c3) rfl (Nat.le_of_ble_eq_true rfl) (by omega) (by omega) dX7_contactOf_80 ?_
            refine zi_goto (tgt := 104) M dX7_contactOf_81 (by decide) ?_
            have hP : va_P D vwCl (mdlW ad 0 cy 0 h su st sh fl ic sn bn fm fr cm em lg le lf dl cS cH sea noi pl pw an hd bp bo bw c1 c2 c3 c4 c5 e1 e2 e3 e4 e5) H := hP
            exact zw_i M hr hlk 0 hP hS (by exact Or.inl ⟨rfl, by omega, congrArg iI (show ((c3 k) : Int) = tell5 (c1 k) (c2 k) (c3 k) (c4 k) (c5 k) wh by (unfold tell5; (repeat' split) <;> omega))⟩) (by decide) (by decide) dX7_contactOf_104
        ·
          refine lv_aload_n M.1 M.2.1 dX7_contactOf_61 rfl (lv_at hl 1 rfl) ?_
          refine zi_get (ci := 7) (v := .ref (ad (0 + 13))) M hE hP 0 rfl rfl zu_X7 24 (by decide) zk_fl_RX7_51 rfl rfl dX7_contactOf_62 ?_
          refine lv_iload_n M.1 M.2.1 dX7_contactOf_65 rfl (lv_at hl 2 rfl) ?_
          refine zi_iald M hE hP 13 (n := 60) (g := c2) rfl (Nat.le_of_ble_eq_true rfl) (by omega) (by omega) dX7_contactOf_66 ?_
          refine zi_goto (tgt := 104) M dX7_contactOf_67 (by decide) ?_
          have hP : va_P D vwCl (mdlW ad 0 cy 0 h su st sh fl ic sn bn fm fr cm em lg le lf dl cS cH sea noi pl pw an hd bp bo bw c1 c2 c3 c4 c5 e1 e2 e3 e4 e5) H := hP
          exact zw_i M hr hlk 0 hP hS (by exact Or.inl ⟨rfl, by omega, congrArg iI (show ((c2 k) : Int) = tell5 (c1 k) (c2 k) (c3 k) (c4 k) (c5 k) wh by (unfold tell5; (repeat' split) <;> omega))⟩) (by decide) (by decide) dX7_contactOf_104
      ·
        refine lv_aload_n M.1 M.2.1 dX7_contactOf_47 rfl (lv_at hl 1 rfl) ?_
        refine zi_get (ci := 7) (v := .ref (ad (0 + 12))) M hE hP 0 rfl rfl zu_X7 23 (by decide) zk_fl_RX7_48 rfl rfl dX7_contactOf_48 ?_
        refine lv_iload_n M.1 M.2.1 dX7_contactOf_51 rfl (lv_at hl 2 rfl) ?_
        refine zi_iald M hE hP 12 (n := 60) (g := c1) rfl (Nat.le_of_ble_eq_true rfl) (by omega) (by omega) dX7_contactOf_52 ?_
        refine zi_goto (tgt := 104) M dX7_contactOf_53 (by decide) ?_
        have hP : va_P D vwCl (mdlW ad 0 cy 0 h su st sh fl ic sn bn fm fr cm em lg le lf dl cS cH sea noi pl pw an hd bp bo bw c1 c2 c3 c4 c5 e1 e2 e3 e4 e5) H := hP
        exact zw_i M hr hlk 0 hP hS (by exact Or.inl ⟨rfl, by omega, congrArg iI (show ((c1 k) : Int) = tell5 (c1 k) (c2 k) (c3 k) (c4 k) (c5 k) wh by (unfold tell5; (repeat' split) <;> omega))⟩) (by decide) (by decide) dX7_contactOf_104
    ·
      refine zi_if_eq (tgt := 34) M dX7_contactOf_27 (by decide) ⟨by decide, by decide⟩ (fun _ => ?_) (fun q => absurd q (by decide))
      refine zi_push M dX7_contactOf_34 ?_
      refine z_cW (z_runV (As := [.int (iI 2)]) (rest := []) M (c_X7_goesWell l D cy z0 ad th h su st sh fl ic sn bn fm fr cm em lg le lf dl cS cH sea noi pl pw an hd bp bo bw c1 c2 c3 c4 c5 e1 e2 e3 e4 e5 2 (by omega)) hE hS hAz (z_cut hP hD hAz [0, 1, 2, 3, 4, 5, 6, 7, 8, 9, 10, 11, 12, 13, 14, 15, 16, 17, 18, 19, 20, 21] rfl (by decide +kernel)) (zRc.of (ci := 7) (q0 := 0) hE hP rfl rfl) zk_cd_X7_goesWell zk_in_RX7 zk_im_X7_goesWell zk_se_X7_goesWell zk_ml_RX7_88 rfl rfl zd_X7_goesWell ⟨by decide, by decide⟩ rfl hl.1 rfl (Nat.le_of_ble_eq_true rfl) dX7_contactOf_35 ⟨by decide, by decide⟩) hP hD hS [0, 1, 2, 3, 4, 5, 6, 7, 8, 9, 10, 11, 12, 13, 14, 15, 16, 17, 18, 19, 20, 21] rfl (fun _ => rfl) (fun r_8 u_8 H locs hp_8 hP hD hS => ?_)
      have hP : va_P D vwCl (mdlW ad 0 cy 2 h su st sh fl ic sn bn fm fr cm em lg le lf dl cS cH sea noi pl pw an hd bp bo bw c1 c2 c3 c4 c5 e1 e2 e3 e4 e5) H := hP
      have hD : va_D (zIn (mdlW ad 0 cy th h su st sh fl ic sn bn fm fr cm em lg le lf dl cS cH sea noi pl pw an hd bp bo bw c1 c2 c3 c4 c5 e1 e2 e3 e4 e5)) (mdlW ad 0 cy 2 h su st sh fl ic sn bn fm fr cm em lg le lf dl cS cH sea noi pl pw an hd bp bo bw c1 c2 c3 c4 c5 e1 e2 e3 e4 e5) := hD
      subst hp_8
      refine z_rw (b := 0) rfl ?_
      refine zi_if_ne (tgt := 43) M dX7_contactOf_38 (by decide) ⟨by decide, by decide⟩ (fun q => absurd q (by decide)) (fun _ => ?_)
      refine zi_push M dX7_contactOf_41 ?_
      have hP : va_P D vwCl (mdlW ad 0 cy 2 h su st sh fl ic sn bn fm fr cm em lg le lf dl cS cH sea noi pl pw an hd bp bo bw c1 c2 c3 c4 c5 e1 e2 e3 e4 e5) H := hP
      exact zw_i M hr hlk 2 hP hS (by exact Or.inr (Or.inr (⟨rfl, by omega, rfl⟩))) (by decide) (by decide) dX7_contactOf_42
  ·
    refine lv_istore_n (lv' := [(3, .int (iI 0)), (0, .ref (ad 0)), (1, .int (iI k)), (2, .int (iI wh))]) M.1 M.2.1 dX7_contactOf_11 rfl hl (by decide) rfl (fun ls hl => ?_)
    refine lv_aload_n M.1 M.2.1 dX7_contactOf_12 rfl (lv_at hl 1 rfl) ?_
    refine lv_iload_n M.1 M.2.1 dX7_contactOf_13 rfl (lv_at hl 0 rfl) ?_
    refine zi_if_ne (tgt := 21) M dX7_contactOf_14 (by decide) ⟨by decide, by decide⟩ (fun q => absurd q (by decide)) (fun _ => ?_)
    refine zi_push M dX7_contactOf_17 ?_
    refine zi_goto (tgt := 35) M dX7_contactOf_18 (by decide) ?_
    refine z_cW (z_runV (As := [.int (iI 1)]) (rest := []) M (c_X7_goesWell l D cy z0 ad th h su st sh fl ic sn bn fm fr cm em lg le lf dl cS cH sea noi pl pw an hd bp bo bw c1 c2 c3 c4 c5 e1 e2 e3 e4 e5 1 (by omega)) hE hS hAz (z_cut hP hD hAz [0, 1, 2, 3, 4, 5, 6, 7, 8, 9, 10, 11, 12, 13, 14, 15, 16, 17, 18, 19, 20, 21] rfl (by decide +kernel)) (zRc.of (ci := 7) (q0 := 0) hE hP rfl rfl) zk_cd_X7_goesWell zk_in_RX7 zk_im_X7_goesWell zk_se_X7_goesWell zk_ml_RX7_88 rfl rfl zd_X7_goesWell ⟨by decide, by decide⟩ rfl hl.1 rfl (Nat.le_of_ble_eq_true rfl) dX7_contactOf_35 ⟨by decide, by decide⟩) hP hD hS [0, 1, 2, 3, 4, 5, 6, 7, 8, 9, 10, 11, 12, 13, 14, 15, 16, 17, 18, 19, 20, 21] rfl (fun _ => rfl) (fun r_9 u_9 H locs hp_9 hP hD hS => ?_)
    have hP : va_P D vwCl (mdlW ad 0 cy 1 h su st sh fl ic sn bn fm fr cm em lg le lf dl cS cH sea noi pl pw an hd bp bo bw c1 c2 c3 c4 c5 e1 e2 e3 e4 e5) H := hP
    have hD : va_D (zIn (mdlW ad 0 cy th h su st sh fl ic sn bn fm fr cm em lg le lf dl cS cH sea noi pl pw an hd bp bo bw c1 c2 c3 c4 c5 e1 e2 e3 e4 e5)) (mdlW ad 0 cy 1 h su st sh fl ic sn bn fm fr cm em lg le lf dl cS cH sea noi pl pw an hd bp bo bw c1 c2 c3 c4 c5 e1 e2 e3 e4 e5) := hD
    subst hp_9
    refine z_rw (b := 0) rfl ?_
    refine zi_if_ne (tgt := 43) M dX7_contactOf_38 (by decide) ⟨by decide, by decide⟩ (fun q => absurd q (by decide)) (fun _ => ?_)
    refine zi_push M dX7_contactOf_41 ?_
    have hP : va_P D vwCl (mdlW ad 0 cy 1 h su st sh fl ic sn bn fm fr cm em lg le lf dl cS cH sea noi pl pw an hd bp bo bw c1 c2 c3 c4 c5 e1 e2 e3 e4 e5) H := hP
    exact zw_i M hr hlk 1 hP hS (by exact Or.inr (Or.inl (⟨rfl, by omega, rfl⟩))) (by decide) (by decide) dX7_contactOf_42
