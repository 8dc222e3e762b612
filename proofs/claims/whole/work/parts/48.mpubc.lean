/-! contracts: the model, what everybody may call, 2 -/
set_option maxRecDepth 100000 in
set_option maxHeartbeats 4000000 in
theorem c_X7_path (l : Launch) (D : va_G) (cy : Nat → ClassId) (z0 : Nat) (ad : Nat → Nat) (th h su st sh fl ic sn bn fm fr cm em lg le lf dl : Int) (cS cH sea noi pl pw an hd bp bo bw c1 c2 c3 c4 c5 e1 e2 e3 e4 e5 : Int → Int) (q : Int) (t : Int) (f : Int) (w : Int) (k : Int) (wh : Int) (r_q : r32 q) (r_t : r32 t) (r_f : r32 f) (r_w : r32 w) (r_k : r32 k) (r_wh : r32 wh) (h_h : 0 ≤ h ∧ h ≤ 5000) (h_su : 0 ≤ su ∧ su ≤ 100) (h_st : 0 ≤ st ∧ st ≤ 60) (h_fl : 0 ≤ fl ∧ fl ≤ 80) (h_cS : zrg 48 0 100 cS) (h_ic : 0 ≤ ic ∧ ic ≤ 1) (g_sea : zrg 48 0 1 sea) : Met l yX7_path [.code yX7_path cX7_path 12 (some .int)] (zRm 7 0 0 177) (zPc [.ref (ad 0), .int (iI q), .int (iI t), .int (iI f), .int (iI w), .int (iI k), .int (iI wh)] D cy z0 (zWl D z0 (mdlW ad 0 cy th h su st sh fl ic sn bn fm fr cm em lg le lf dl cS cH sea noi pl pw an hd bp bo bw c1 c2 c3 c4 c5 e1 e2 e3 e4 e5))) (zQ1 D (mdlW ad 0 cy th h su st sh fl ic sn bn fm fr cm em lg le lf dl cS cH sea noi pl pw an hd bp bo bw c1 c2 c3 c4 c5 e1 e2 e3 e4 e5) (fun (r : Int32) (u : Nat → Int) => (∃ xa xb xc xd : Int, u = u8 xa xb xc xd 0 0 0 0 ∧ (((0 ≤ q ∧ q < 48) ∧ (0 ≤ t ∧ t < 48)) ∧ ((10 ≤ f ∧ f ≤ 300) ∧ (0 ≤ w ∧ w ≤ 100) ∧ (0 ≤ wh ∧ wh ≤ 5)) ∧ (0 ≤ k ∧ k < cntR (mdE ic h cS) (mdF ic h su st) (mdD ic h fl) sea q t f w 18)) ∧ ∃ n w2 lg2 le2 dl2 : Int, pthP (mdE ic h cS) (mdF ic h su st) (mdD ic h fl) sea q t f w k n w2 lg2 le2 dl2 ∧ r = iI (tell6 (drZ n) (n % 9 + 1) lg2 le2 w2 dl2 wh)) ∨ (u = u8 lg le lf dl 1 0 0 0 ∧ (¬ ((0 ≤ q ∧ q < 48) ∧ (0 ≤ t ∧ t < 48))) ∧ r = iI 0) ∨ (u = u8 lg le lf dl 2 0 0 0 ∧ (((0 ≤ q ∧ q < 48) ∧ (0 ≤ t ∧ t < 48)) ∧ ¬ ((10 ≤ f ∧ f ≤ 300) ∧ (0 ≤ w ∧ w ≤ 100) ∧ (0 ≤ wh ∧ wh ≤ 5))) ∧ r = iI 0) ∨ (∃ xa xb xc xd : Int, u = u8 xa xb xc xd 1 0 0 0 ∧ (((0 ≤ q ∧ q < 48) ∧ (0 ≤ t ∧ t < 48)) ∧ ((10 ≤ f ∧ f ≤ 300) ∧ (0 ≤ w ∧ w ≤ 100) ∧ (0 ≤ wh ∧ wh ≤ 5)) ∧ ¬ (0 ≤ k ∧ k < cntR (mdE ic h cS) (mdF ic h su st) (mdD ic h fl) sea q t f w 18)) ∧ r = iI 0)) (fun (u : Nat → Int) => (mdlW ad 0 cy (u 4) h su st sh fl ic sn bn fm fr cm em (u 0) (u 1) (u 2) (u 3) cS cH sea noi pl pw an hd bp bo bw c1 c2 c3 c4 c5 e1 e2 e3 e4 e5))) 0 0 (zIn (mdlW ad 0 cy th h su st sh fl ic sn bn fm fr cm em lg le lf dl cS cH sea noi pl pw an hd bp bo bw c1 c2 c3 c4 c5 e1 e2 e3 e4 e5)) := by
  refine z_of (by decide) (Nat.le_of_ble_eq_true rfl) ?_
  intro p e s m args below meth c M hr hlk hini hargs hP0 hE ls hl
  have hP : va_P D vwCl (mdlW ad 0 cy th h su st sh fl ic sn bn fm fr cm em lg le lf dl cS cH sea noi pl pw an hd bp bo bw c1 c2 c3 c4 c5 e1 e2 e3 e4 e5) s.heap := hP0.1
  have hD : va_D (zIn (mdlW ad 0 cy th h su st sh fl ic sn bn fm fr cm em lg le lf dl cS cH sea noi pl pw an hd bp bo bw c1 c2 c3 c4 c5 e1 e2 e3 e4 e5)) (mdlW ad 0 cy th h su st sh fl ic sn bn fm fr cm em lg le lf dl cS cH sea noi pl pw an hd bp bo bw c1 c2 c3 c4 c5 e1 e2 e3 e4 e5) := hP0.self
  have hAz := hP0.A
  have hS : va_S (zIn (mdlW ad 0 cy th h su st sh fl ic sn bn fm fr cm em lg le lf dl cS cH sea noi pl pw an hd bp bo bw c1 c2 c3 c4 c5 e1 e2 e3 e4 e5)) s.heap s.heap [] := va_S.rf
  have hl : lv_has ls 12 [(0, .ref (ad 0)), (1, .int (iI q)), (2, .int (iI t)), (3, .int (iI f)), (4, .int (iI w)), (5, .int (iI k)), (6, .int (iI wh))] := hl
  refine lv_iload_n M.1 M.2.1 dX7_path_0 rfl (lv_at hl 1 rfl) ?_
  refine z_cR (z_runS (As := [.int (iI q)]) (rest := []) M (c_X7_isPlace l D cy z0 q (by omega)) hE hS hAz trivial zk_cd_X7_isPlace zk_in_RX7 zk_st_X7_isPlace zk_ml_RX7_101 rfl rfl zd_X7_isPlace ⟨by decide, by decide⟩ rfl hl.1 rfl (Nat.le_of_ble_eq_true rfl) dX7_path_1 ⟨by decide, by decide⟩) ?_
  refine zi_b (P := 0 ≤ q ∧ q ≤ 47) (g := fun r => F0 m 4 ls (.int r :: [])) (fun b_1 => ?_) (fun b_1 => ?_)
  ·
    refine zi_if_eq (tgt := 18) M dX7_path_4 (by decide) ⟨by decide, by decide⟩ (fun q => absurd q (by decide)) (fun _ => ?_)
    refine lv_iload_n M.1 M.2.1 dX7_path_7 rfl (lv_at hl 2 rfl) ?_
    refine z_cR (z_runS (As := [.int (iI t)]) (rest := []) M (c_X7_isPlace l D cy z0 t (by omega)) hE hS hAz trivial zk_cd_X7_isPlace zk_in_RX7 zk_st_X7_isPlace zk_ml_RX7_101 rfl rfl zd_X7_isPlace ⟨by decide, by decide⟩ rfl hl.1 rfl (Nat.le_of_ble_eq_true rfl) dX7_path_8 ⟨by decide, by decide⟩) ?_
    refine zi_b (P := 0 ≤ t ∧ t ≤ 47) (g := fun r => F0 m 11 ls (.int r :: [])) (fun b_2 => ?_) (fun b_2 => ?_)
    ·
      refine zi_if_eq (tgt := 18) M dX7_path_11 (by decide) ⟨by decide, by decide⟩ (fun q => absurd q (by decide)) (fun _ => ?_)
      refine zi_push M dX7_path_14 ?_
      refine zi_goto (tgt := 19) M dX7_path_15 (by decide) ?_
      refine lv_istore (lv' := [(7, .int (iI 1)), (0, .ref (ad 0)), (1, .int (iI q)), (2, .int (iI t)), (3, .int (iI f)), (4, .int (iI w)), (5, .int (iI k)), (6, .int (iI wh))]) M.1 M.2.1 dX7_path_19 hl (by decide) rfl (fun ls hl => ?_)
      refine lv_iload M.1 M.2.1 dX7_path_21 (lv_at hl 0 rfl) ?_
      refine zi_if_eq (tgt := 58) M dX7_path_23 (by decide) ⟨by decide, by decide⟩ (fun q => absurd q (by decide)) (fun _ => ?_)
      refine lv_iload_n M.1 M.2.1 dX7_path_26 rfl (lv_at hl 4 rfl) ?_
      refine z_cR (z_runS (As := [.int (iI f)]) (rest := []) M (c_X7_isOn l D cy z0 f (by omega)) hE hS hAz trivial zk_cd_X7_isOn zk_in_RX7 zk_st_X7_isOn zk_ml_RX7_152 rfl rfl zd_X7_isOn ⟨by decide, by decide⟩ rfl hl.1 rfl (Nat.le_of_ble_eq_true rfl) dX7_path_27 ⟨by decide, by decide⟩) ?_
      refine zi_b (P := 10 ≤ f ∧ f ≤ 300) (g := fun r => F0 m 30 ls (.int r :: [])) (fun b_3 => ?_) (fun b_3 => ?_)
      ·
        refine zi_if_eq (tgt := 58) M dX7_path_30 (by decide) ⟨by decide, by decide⟩ (fun q => absurd q (by decide)) (fun _ => ?_)
        refine lv_iload M.1 M.2.1 dX7_path_33 (lv_at hl 5 rfl) ?_
        refine zi_push M dX7_path_35 ?_
        refine zi_bipush M dX7_path_36 ⟨by decide, by decide⟩ ?_
        refine z_cR (z_runS (As := [.int (iI w), .int (iI 0), .int (iI 100)]) (rest := []) M (c_X7_in l D cy z0 w 0 100 (by omega) (by omega) (by omega)) hE hS hAz trivial zk_cd_X7_in zk_in_RX7 zk_st_X7_in zk_ml_RX7_81 rfl rfl zd_X7_in ⟨by decide, by decide⟩ rfl hl.1 rfl (Nat.le_of_ble_eq_true rfl) dX7_path_38 ⟨by decide, by decide⟩) ?_
        refine zi_b (P := 0 ≤ w ∧ w ≤ 100) (g := fun r => F0 m 41 ls (.int r :: [])) (fun b_4 => ?_) (fun b_4 => ?_)
        ·
          refine zi_if_eq (tgt := 58) M dX7_path_41 (by decide) ⟨by decide, by decide⟩ (fun q => absurd q (by decide)) (fun _ => ?_)
          refine lv_iload M.1 M.2.1 dX7_path_44 (lv_at hl 7 rfl) ?_
          refine zi_push M dX7_path_46 ?_
          refine zi_push M dX7_path_47 ?_
          refine z_cR (z_runS (As := [.int (iI wh), .int (iI 0), .int (iI 5)]) (rest := []) M (c_X7_in l D cy z0 wh 0 5 (by omega) (by omega) (by omega)) hE hS hAz trivial zk_cd_X7_in zk_in_RX7 zk_st_X7_in zk_ml_RX7_81 rfl rfl zd_X7_in ⟨by decide, by decide⟩ rfl hl.1 rfl (Nat.le_of_ble_eq_true rfl) dX7_path_48 ⟨by decide, by decide⟩) ?_
          refine zi_b (P := 0 ≤ wh ∧ wh ≤ 5) (g := fun r => F0 m 51 ls (.int r :: [])) (fun b_5 => ?_) (fun b_5 => ?_)
          ·
            refine zi_if_eq (tgt := 58) M dX7_path_51 (by decide) ⟨by decide, by decide⟩ (fun q => absurd q (by decide)) (fun _ => ?_)
            refine zi_push M dX7_path_54 ?_
            refine zi_goto (tgt := 59) M dX7_path_55 (by decide) ?_
            refine lv_istore (lv' := [(8, .int (iI 1)), (7, .int (iI 1)), (0, .ref (ad 0)), (1, .int (iI q)), (2, .int (iI t)), (3, .int (iI f)), (4, .int (iI w)), (5, .int (iI k)), (6, .int (iI wh))]) M.1 M.2.1 dX7_path_59 hl (by decide) rfl (fun ls hl => ?_)
            refine lv_iload M.1 M.2.1 dX7_path_61 (lv_at hl 0 rfl) ?_
            refine zi_if_eq (tgt := 90) M dX7_path_63 (by decide) ⟨by decide, by decide⟩ (fun q => absurd q (by decide)) (fun _ => ?_)
            refine lv_iload M.1 M.2.1 dX7_path_66 (lv_at hl 7 rfl) ?_
            refine zi_push M dX7_path_68 ?_
            refine lv_aload_n M.1 M.2.1 dX7_path_69 rfl (lv_at hl 2 rfl) ?_
            refine lv_iload_n M.1 M.2.1 dX7_path_70 rfl (lv_at hl 3 rfl) ?_
            refine lv_iload_n M.1 M.2.1 dX7_path_71 rfl (lv_at hl 4 rfl) ?_
            refine lv_iload_n M.1 M.2.1 dX7_path_72 rfl (lv_at hl 5 rfl) ?_
            refine lv_iload M.1 M.2.1 dX7_path_73 (lv_at hl 6 rfl) ?_
            refine z_cW (z_runV (As := [.int (iI q), .int (iI t), .int (iI f), .int (iI w)]) (rest := [.int (iI 0), .int (iI k)]) M (c_X7_pathsOf l D cy z0 ad th h su st sh fl ic sn bn fm fr cm em lg le lf dl cS cH sea noi pl pw an hd bp bo bw c1 c2 c3 c4 c5 e1 e2 e3 e4 e5 q t f w (by omega) (by omega) (by omega) (by omega) (by omega) (by omega) g_sea (by omega) (by omega) (by omega) (by omega)) hE hS hAz (z_cut hP hD hAz [0, 1, 2, 3, 4, 5, 6, 7, 8, 9, 10, 11, 12, 13, 14, 15, 16, 17, 18, 19, 20, 21] rfl (by decide +kernel)) (zRc.of (ci := 7) (q0 := 0) hE hP rfl rfl) zk_cd_X7_pathsOf zk_in_RX7 zk_im_X7_pathsOf zk_se_X7_pathsOf zk_ml_RX7_163 rfl rfl zd_X7_pathsOf ⟨by decide, by decide⟩ rfl hl.1 rfl (Nat.le_of_ble_eq_true rfl) dX7_path_75 ⟨by decide, by decide⟩) hP hD hS [0, 1, 2, 3, 4, 5, 6, 7, 8, 9, 10, 11, 12, 13, 14, 15, 16, 17, 18, 19, 20, 21] rfl (fun _ => rfl) (fun r_6 u_6 H locs hp_6 hP hD hS => ?_)
            have hP : va_P D vwCl (mdlW ad 0 cy th h su st sh fl ic sn bn fm fr cm em (u_6 0) (u_6 1) (u_6 2) (u_6 3) cS cH sea noi pl pw an hd bp bo bw c1 c2 c3 c4 c5 e1 e2 e3 e4 e5) H := hP
            have hD : va_D (zIn (mdlW ad 0 cy th h su st sh fl ic sn bn fm fr cm em lg le lf dl cS cH sea noi pl pw an hd bp bo bw c1 c2 c3 c4 c5 e1 e2 e3 e4 e5)) (mdlW ad 0 cy th h su st sh fl ic sn bn fm fr cm em (u_6 0) (u_6 1) (u_6 2) (u_6 3) cS cH sea noi pl pw an hd bp bo bw c1 c2 c3 c4 c5 e1 e2 e3 e4 e5) := hD
            subst hp_6
            have hcr_6 : 0 ≤ cntR (mdE ic h cS) (mdF ic h su st) (mdD ic h fl) sea q t f w 18 ∧ cntR (mdE ic h cS) (mdF ic h su st) (mdD ic h fl) sea q t f w 18 ≤ ((18 : Nat) : Int) := cntR_rg 18
            refine zi_push M dX7_path_78 ?_
            refine zi_isub M dX7_path_79 ?_
            refine z_cR (z_runS (As := [.int (iI k), .int (iI 0), .int (iI (cntR (mdE ic h cS) (mdF ic h su st) (mdD ic h fl) sea q t f w 18 - 1))]) (rest := []) M (c_X7_in l D cy z0 k 0 (cntR (mdE ic h cS) (mdF ic h su st) (mdD ic h fl) sea q t f w 18 - 1) (by omega) (by omega) (by omega)) hE hS hAz trivial zk_cd_X7_in zk_in_RX7 zk_st_X7_in zk_ml_RX7_81 rfl rfl zd_X7_in ⟨by decide, by decide⟩ rfl hl.1 rfl (Nat.le_of_ble_eq_true rfl) dX7_path_80 ⟨by decide, by decide⟩) ?_
            refine zi_b (P := 0 ≤ k ∧ k ≤ (cntR (mdE ic h cS) (mdF ic h su st) (mdD ic h fl) sea q t f w 18 - 1)) (g := fun r => F0 m 83 ls (.int r :: [])) (fun b_7 => ?_) (fun b_7 => ?_)
            ·
              refine zi_if_eq (tgt := 90) M dX7_path_83 (by decide) ⟨by decide, by decide⟩ (fun q => absurd q (by decide)) (fun _ => ?_)
              refine zi_push M dX7_path_86 ?_
              refine zi_goto (tgt := 91) M dX7_path_87 (by decide) ?_
              refine lv_istore (lv' := [(9, .int (iI 1)), (8, .int (iI 1)), (7, .int (iI 1)), (0, .ref (ad 0)), (1, .int (iI q)), (2, .int (iI t)), (3, .int (iI f)), (4, .int (iI w)), (5, .int (iI k)), (6, .int (iI wh))]) M.1 M.2.1 dX7_path_91 hl (by decide) rfl (fun ls hl => ?_)
              refine lv_aload_n M.1 M.2.1 dX7_path_93 rfl (lv_at hl 3 rfl) ?_
              refine lv_iload M.1 M.2.1 dX7_path_94 (lv_at hl 2 rfl) ?_
              refine zi_if_ne (tgt := 103) M dX7_path_96 (by decide) ⟨by decide, by decide⟩ (fun _ => ?_) (fun q => absurd q (by decide))
              refine lv_iload M.1 M.2.1 dX7_path_103 (lv_at hl 1 rfl) ?_
              refine zi_if_ne (tgt := 112) M dX7_path_105 (by decide) ⟨by decide, by decide⟩ (fun _ => ?_) (fun q => absurd q (by decide))
              refine lv_iload M.1 M.2.1 dX7_path_112 (lv_at hl 0 rfl) ?_
              refine zi_if_eq (tgt := 121) M dX7_path_114 (by decide) ⟨by decide, by decide⟩ (fun q => absurd q (by decide)) (fun _ => ?_)
              refine zi_push M dX7_path_117 ?_
              refine zi_goto (tgt := 122) M dX7_path_118 (by decide) ?_
              refine z_cW (z_runV (As := [.int (iI 0)]) (rest := []) M (c_X7_goesWell l D cy z0 ad th h su st sh fl ic sn bn fm fr cm em (u_6 0) (u_6 1) (u_6 2) (u_6 3) cS cH sea noi pl pw an hd bp bo bw c1 c2 c3 c4 c5 e1 e2 e3 e4 e5 0 (by omega)) hE hS hAz (z_cut hP hD hAz [0, 1, 2, 3, 4, 5, 6, 7, 8, 9, 10, 11, 12, 13, 14, 15, 16, 17, 18, 19, 20, 21] rfl (by decide +kernel)) (zRc.of (ci := 7) (q0 := 0) hE hP rfl rfl) zk_cd_X7_goesWell zk_in_RX7 zk_im_X7_goesWell zk_se_X7_goesWell zk_ml_RX7_88 rfl rfl zd_X7_goesWell ⟨by decide, by decide⟩ rfl hl.1 rfl (Nat.le_of_ble_eq_true rfl) dX7_path_122 ⟨by decide, by decide⟩) hP hD hS [0, 1, 2, 3, 4, 5, 6, 7, 8, 9, 10, 11, 12, 13, 14, 15, 16, 17, 18, 19, 20, 21] rfl (fun _ => rfl) (fun r_8 u_8 H locs hp_8 hP hD hS => ?_)
              have hP : va_P D vwCl (mdlW ad 0 cy 0 h su st sh fl ic sn bn fm fr cm em (u_6 0) (u_6 1) (u_6 2) (u_6 3) cS cH sea noi pl pw an hd bp bo bw c1 c2 c3 c4 c5 e1 e2 e3 e4 e5) H := hP
              have hD : va_D (zIn (mdlW ad 0 cy th h su st sh fl ic sn bn fm fr cm em lg le lf dl cS cH sea noi pl pw an hd bp bo bw c1 c2 c3 c4 c5 e1 e2 e3 e4 e5)) (mdlW ad 0 cy 0 h su st sh fl ic sn bn fm fr cm em (u_6 0) (u_6 1) (u_6 2) (u_6 3) cS cH sea noi pl pw an hd bp bo bw c1 c2 c3 c4 c5 e1 e2 e3 e4 e5) := hD
              subst hp_8
              refine z_rw (b := 1) rfl ?_
              refine zi_if_ne (tgt := 130) M dX7_path_125 (by decide) ⟨by decide, by decide⟩ (fun _ => ?_) (fun q => absurd q (by decide))
              refine zi_push M dX7_path_130 ?_
              refine lv_istore (lv' := [(10, .int (iI (-1))), (9, .int (iI 1)), (8, .int (iI 1)), (7, .int (iI 1)), (0, .ref (ad 0)), (1, .int (iI q)), (2, .int (iI t)), (3, .int (iI f)), (4, .int (iI w)), (5, .int (iI k)), (6, .int (iI wh))]) M.1 M.2.1 dX7_path_131 hl (by decide) rfl (fun ls hl => ?_)
              refine zi_push M dX7_path_133 ?_
              refine lv_istore (lv' := [(11, .int (iI (-1))), (10, .int (iI (-1))), (9, .int (iI 1)), (8, .int (iI 1)), (7, .int (iI 1)), (0, .ref (ad 0)), (1, .int (iI q)), (2, .int (iI t)), (3, .int (iI f)), (4, .int (iI w)), (5, .int (iI k)), (6, .int (iI wh))]) M.1 M.2.1 dX7_path_134 hl (by decide) rfl (fun ls hl => ?_)
              have L_136 : ∀ (k_136 : Nat) (y : Int) (x : Int) (ur : Nat → Int) (hx : -1 ≤ x ∧ x < 18) (hy : y = cntR (mdE ic h cS) (mdF ic h su st) (mdD ic h fl) sea q t f w (x + 1).toNat - 1) (hyk : y ≤ k) (hpp : y = k → pthP (mdE ic h cS) (mdF ic h su st) (mdD ic h fl) sea q t f w k x (ur 2) (ur 0) (ur 1) (ur 3)) (hm : 18 - x < (k_136 : Int)) (H : Heap) (locs : List Loc) (hP : va_P D vwCl (mdlW ad 0 cy 0 h su st sh fl ic sn bn fm fr cm em (ur 0) (ur 1) (ur 2) (ur 3) cS cH sea noi pl pw an hd bp bo bw c1 c2 c3 c4 c5 e1 e2 e3 e4 e5) H) (hD : va_D (zIn (mdlW ad 0 cy th h su st sh fl ic sn bn fm fr cm em lg le lf dl cS cH sea noi pl pw an hd bp bo bw c1 c2 c3 c4 c5 e1 e2 e3 e4 e5)) (mdlW ad 0 cy 0 h su st sh fl ic sn bn fm fr cm em (ur 0) (ur 1) (ur 2) (ur 3) cS cH sea noi pl pw an hd bp bo bw c1 c2 c3 c4 c5 e1 e2 e3 e4 e5)) (hS : va_S (zIn (mdlW ad 0 cy th h su st sh fl ic sn bn fm fr cm em lg le lf dl cS cH sea noi pl pw an hd bp bo bw c1 c2 c3 c4 c5 e1 e2 e3 e4 e5)) s.heap H locs) (ls : Array Slot) (hl : lv_has ls 12 [(0, .ref (ad 0)), (1, .int (iI q)), (2, .int (iI t)), (3, .int (iI f)), (4, .int (iI w)), (5, .int (iI k)), (6, .int (iI wh)), (10, .int (iI y)), (11, .int (iI x))]), W p l e (zRm 7 0 0 177) s m args below meth c H locs 0 0 (MQ below (zQ1 D (mdlW ad 0 cy th h su st sh fl ic sn bn fm fr cm em lg le lf dl cS cH sea noi pl pw an hd bp bo bw c1 c2 c3 c4 c5 e1 e2 e3 e4 e5) (fun (r : Int32) (u : Nat → Int) => (∃ xa xb xc xd : Int, u = u8 xa xb xc xd 0 0 0 0 ∧ (((0 ≤ q ∧ q < 48) ∧ (0 ≤ t ∧ t < 48)) ∧ ((10 ≤ f ∧ f ≤ 300) ∧ (0 ≤ w ∧ w ≤ 100) ∧ (0 ≤ wh ∧ wh ≤ 5)) ∧ (0 ≤ k ∧ k < cntR (mdE ic h cS) (mdF ic h su st) (mdD ic h fl) sea q t f w 18)) ∧ ∃ n w2 lg2 le2 dl2 : Int, pthP (mdE ic h cS) (mdF ic h su st) (mdD ic h fl) sea q t f w k n w2 lg2 le2 dl2 ∧ r = iI (tell6 (drZ n) (n % 9 + 1) lg2 le2 w2 dl2 wh)) ∨ (u = u8 lg le lf dl 1 0 0 0 ∧ (¬ ((0 ≤ q ∧ q < 48) ∧ (0 ≤ t ∧ t < 48))) ∧ r = iI 0) ∨ (u = u8 lg le lf dl 2 0 0 0 ∧ (((0 ≤ q ∧ q < 48) ∧ (0 ≤ t ∧ t < 48)) ∧ ¬ ((10 ≤ f ∧ f ≤ 300) ∧ (0 ≤ w ∧ w ≤ 100) ∧ (0 ≤ wh ∧ wh ≤ 5))) ∧ r = iI 0) ∨ (∃ xa xb xc xd : Int, u = u8 xa xb xc xd 1 0 0 0 ∧ (((0 ≤ q ∧ q < 48) ∧ (0 ≤ t ∧ t < 48)) ∧ ((10 ≤ f ∧ f ≤ 300) ∧ (0 ≤ w ∧ w ≤ 100) ∧ (0 ≤ wh ∧ wh ≤ 5)) ∧ ¬ (0 ≤ k ∧ k < cntR (mdE ic h cS) (mdF ic h su st) (mdD ic h fl) sea q t f w 18)) ∧ r = iI 0)) (fun (u : Nat → Int) => (mdlW ad 0 cy (u 4) h su st sh fl ic sn bn fm fr cm em (u 0) (u 1) (u 2) (u 3) cS cH sea noi pl pw an hd bp bo bw c1 c2 c3 c4 c5 e1 e2 e3 e4 e5))) args s 0 0 (zIn (mdlW ad 0 cy th h su st sh fl ic sn bn fm fr cm em lg le lf dl cS cH sea noi pl pw an hd bp bo bw c1 c2 c3 c4 c5 e1 e2 e3 e4 e5))) (F0 m 136 ls []) := by
                intro k_136
                induction k_136 with
                | zero =>
                  intro y x ur hx hy hyk hpp hm H locs hP hD hS ls hl
                  exact absurd hm (by omega)
                | succ k_136 ih_136 =>
                  intro y x ur hx hy hyk hpp hm H locs hP hD hS ls hl
                  have hcr2 := cntR_rg (dE := (mdE ic h cS)) (dF := (mdF ic h su st)) (dD := (mdD ic h fl)) (sea := sea) (q := q) (t := t) (f := f) (w := w) (x + 1).toNat
                  refine lv_iload M.1 M.2.1 dX7_path_136 (lv_at hl 7 rfl) ?_
                  refine lv_iload M.1 M.2.1 dX7_path_138 (lv_at hl 5 rfl) ?_
                  refine zi_icmp_ge (tgt := 173) M dX7_path_140 (by decide) (by omega) (by omega) (fun c_9 => ?_) (fun c_9 => ?_)
                  ·
                    refine lv_iload M.1 M.2.1 dX7_path_173 (lv_at hl 6 rfl) ?_
                    refine zi_if_ne (tgt := 186) M dX7_path_175 (by decide) (by omega) (fun c_10 => ?_) (fun c_10 => ?_)
                    ·
                      refine lv_iload M.1 M.2.1 dX7_path_186 (lv_at hl 6 rfl) ?_
                      refine zi_push M dX7_path_188 ?_
                      refine zi_icmp_ne (tgt := 202) M dX7_path_189 (by decide) (by omega) ⟨by decide, by decide⟩ (fun c_11 => ?_) (fun c_11 => ?_)
                      ·
                        refine lv_iload M.1 M.2.1 dX7_path_202 (lv_at hl 6 rfl) ?_
                        refine zi_push M dX7_path_204 ?_
                        refine zi_icmp_ne (tgt := 215) M dX7_path_205 (by decide) (by omega) ⟨by decide, by decide⟩ (fun c_12 => ?_) (fun c_12 => ?_)
                        ·
                          refine lv_iload M.1 M.2.1 dX7_path_215 (lv_at hl 6 rfl) ?_
                          refine zi_push M dX7_path_217 ?_
                          refine zi_icmp_ne (tgt := 228) M dX7_path_218 (by decide) (by omega) ⟨by decide, by decide⟩ (fun c_13 => ?_) (fun c_13 => ?_)
                          ·
                            refine lv_iload M.1 M.2.1 dX7_path_228 (lv_at hl 6 rfl) ?_
                            refine zi_push M dX7_path_230 ?_
                            refine zi_icmp_ne (tgt := 241) M dX7_path_231 (by decide) (by omega) ⟨by decide, by decide⟩ (fun c_14 => ?_) (fun c_14 => ?_)
                            ·
                              refine lv_aload_n M.1 M.2.1 dX7_path_241 rfl (lv_at hl 0 rfl) ?_
                              refine zi_get (ci := 7) (v := .int (iI (ur 3))) M hE hP 0 rfl rfl zu_X7 37 (by decide) zk_fl_RX7_138 rfl rfl dX7_path_242 ?_
                              have hP : va_P D vwCl (mdlW ad 0 cy ((u8 (ur 0) (ur 1) (ur 2) (ur 3) 0 0 0 0) 4) h su st sh fl ic sn bn fm fr cm em ((u8 (ur 0) (ur 1) (ur 2) (ur 3) 0 0 0 0) 0) ((u8 (ur 0) (ur 1) (ur 2) (ur 3) 0 0 0 0) 1) ((u8 (ur 0) (ur 1) (ur 2) (ur 3) 0 0 0 0) 2) ((u8 (ur 0) (ur 1) (ur 2) (ur 3) 0 0 0 0) 3) cS cH sea noi pl pw an hd bp bo bw c1 c2 c3 c4 c5 e1 e2 e3 e4 e5) H := hP
                              exact zw_i M hr hlk (u8 (ur 0) (ur 1) (ur 2) (ur 3) 0 0 0 0) hP hS (by exact Or.inl ⟨_, _, _, _, rfl, by omega, x, ur 2, ur 0, ur 1, ur 3, hpp (by omega), congrArg iI (show ((ur 3) : Int) = tell6 (drZ x) (x % 9 + 1) (ur 0) (ur 1) (ur 2) (ur 3) wh by unfold tell6 drZ; (repeat' split) <;> omega)⟩) (by decide) (by decide) dX7_path_245
                            ·
                              refine lv_aload_n M.1 M.2.1 dX7_path_234 rfl (lv_at hl 0 rfl) ?_
                              refine zi_get (ci := 7) (v := .int (iI (ur 2))) M hE hP 0 rfl rfl zu_X7 36 (by decide) zk_fl_RX7_135 rfl rfl dX7_path_235 ?_
                              refine zi_goto (tgt := 245) M dX7_path_238 (by decide) ?_
                              have hP : va_P D vwCl (mdlW ad 0 cy ((u8 (ur 0) (ur 1) (ur 2) (ur 3) 0 0 0 0) 4) h su st sh fl ic sn bn fm fr cm em ((u8 (ur 0) (ur 1) (ur 2) (ur 3) 0 0 0 0) 0) ((u8 (ur 0) (ur 1) (ur 2) (ur 3) 0 0 0 0) 1) ((u8 (ur 0) (ur 1) (ur 2) (ur 3) 0 0 0 0) 2) ((u8 (ur 0) (ur 1) (ur 2) (ur 3) 0 0 0 0) 3) cS cH sea noi pl pw an hd bp bo bw c1 c2 c3 c4 c5 e1 e2 e3 e4 e5) H := hP
                              exact zw_i M hr hlk (u8 (ur 0) (ur 1) (ur 2) (ur 3) 0 0 0 0) hP hS (by exact Or.inl ⟨_, _, _, _, rfl, by omega, x, ur 2, ur 0, ur 1, ur 3, hpp (by omega), congrArg iI (show ((ur 2) : Int) = tell6 (drZ x) (x % 9 + 1) (ur 0) (ur 1) (ur 2) (ur 3) wh by unfold tell6 drZ; (repeat' split) <;> omega)⟩) (by decide) (by decide) dX7_path_245
                          ·
                            refine lv_aload_n M.1 M.2.1 dX7_path_221 rfl (lv_at hl 0 rfl) ?_
                            refine zi_get (ci := 7) (v := .int (iI (ur 1))) M hE hP 0 rfl rfl zu_X7 35 (by decide) zk_fl_RX7_132 rfl rfl dX7_path_222 ?_
                            refine zi_goto (tgt := 245) M dX7_path_225 (by decide) ?_
                            have hP : va_P D vwCl (mdlW ad 0 cy ((u8 (ur 0) (ur 1) (ur 2) (ur 3) 0 0 0 0) 4) h su st sh fl ic sn bn fm fr cm em ((u8 (ur 0) (ur 1) (ur 2) (ur 3) 0 0 0 0) 0) ((u8 (ur 0) (ur 1) (ur 2) (ur 3) 0 0 0 0) 1) ((u8 (ur 0) (ur 1) (ur 2) (ur 3) 0 0 0 0) 2) ((u8 (ur 0) (ur 1) (ur 2) (ur 3) 0 0 0 0) 3) cS cH sea noi pl pw an hd bp bo bw c1 c2 c3 c4 c5 e1 e2 e3 e4 e5) H := hP
                            exact zw_i M hr hlk (u8 (ur 0) (ur 1) (ur 2) (ur 3) 0 0 0 0) hP hS (by exact Or.inl ⟨_, _, _, _, rfl, by omega, x, ur 2, ur 0, ur 1, ur 3, hpp (by omega), congrArg iI (show ((ur 1) : Int) = tell6 (drZ x) (x % 9 + 1) (ur 0) (ur 1) (ur 2) (ur 3) wh by unfold tell6 drZ; (repeat' split) <;> omega)⟩) (by decide) (by decide) dX7_path_245
                        ·
                          refine lv_aload_n M.1 M.2.1 dX7_path_208 rfl (lv_at hl 0 rfl) ?_
                          refine zi_get (ci := 7) (v := .int (iI (ur 0))) M hE hP 0 rfl rfl zu_X7 34 (by decide) zk_fl_RX7_129 rfl rfl dX7_path_209 ?_
                          refine zi_goto (tgt := 245) M dX7_path_212 (by decide) ?_
                          have hP : va_P D vwCl (mdlW ad 0 cy ((u8 (ur 0) (ur 1) (ur 2) (ur 3) 0 0 0 0) 4) h su st sh fl ic sn bn fm fr cm em ((u8 (ur 0) (ur 1) (ur 2) (ur 3) 0 0 0 0) 0) ((u8 (ur 0) (ur 1) (ur 2) (ur 3) 0 0 0 0) 1) ((u8 (ur 0) (ur 1) (ur 2) (ur 3) 0 0 0 0) 2) ((u8 (ur 0) (ur 1) (ur 2) (ur 3) 0 0 0 0) 3) cS cH sea noi pl pw an hd bp bo bw c1 c2 c3 c4 c5 e1 e2 e3 e4 e5) H := hP
                          exact zw_i M hr hlk (u8 (ur 0) (ur 1) (ur 2) (ur 3) 0 0 0 0) hP hS (by exact Or.inl ⟨_, _, _, _, rfl, by omega, x, ur 2, ur 0, ur 1, ur 3, hpp (by omega), congrArg iI (show ((ur 0) : Int) = tell6 (drZ x) (x % 9 + 1) (ur 0) (ur 1) (ur 2) (ur 3) wh by unfold tell6 drZ; (repeat' split) <;> omega)⟩) (by decide) (by decide) dX7_path_245
                      ·
                        refine lv_iload M.1 M.2.1 dX7_path_192 (lv_at hl 8 rfl) ?_
                        refine zi_bipush M dX7_path_194 ⟨by decide, by decide⟩ ?_
                        refine zi_irem M dX7_path_196 (by omega) (by omega) (by omega) (by omega) ?_
                        refine zi_push M dX7_path_197 ?_
                        refine zi_iadd M dX7_path_198 ?_
                        refine zi_goto (tgt := 245) M dX7_path_199 (by decide) ?_
                        have hP : va_P D vwCl (mdlW ad 0 cy ((u8 (ur 0) (ur 1) (ur 2) (ur 3) 0 0 0 0) 4) h su st sh fl ic sn bn fm fr cm em ((u8 (ur 0) (ur 1) (ur 2) (ur 3) 0 0 0 0) 0) ((u8 (ur 0) (ur 1) (ur 2) (ur 3) 0 0 0 0) 1) ((u8 (ur 0) (ur 1) (ur 2) (ur 3) 0 0 0 0) 2) ((u8 (ur 0) (ur 1) (ur 2) (ur 3) 0 0 0 0) 3) cS cH sea noi pl pw an hd bp bo bw c1 c2 c3 c4 c5 e1 e2 e3 e4 e5) H := hP
                        exact zw_i M hr hlk (u8 (ur 0) (ur 1) (ur 2) (ur 3) 0 0 0 0) hP hS (by exact Or.inl ⟨_, _, _, _, rfl, by omega, x, ur 2, ur 0, ur 1, ur 3, hpp (by omega), congrArg iI (show (((x % 9) + 1) : Int) = tell6 (drZ x) (x % 9 + 1) (ur 0) (ur 1) (ur 2) (ur 3) wh by unfold tell6 drZ; (repeat' split) <;> omega)⟩) (by decide) (by decide) dX7_path_245
                    ·
                      refine lv_iload M.1 M.2.1 dX7_path_178 (lv_at hl 8 rfl) ?_
                      refine zi_bipush M dX7_path_180 ⟨by decide, by decide⟩ ?_
                      refine zi_idiv M dX7_path_182 (by omega) (by omega) (by omega) (by omega) ?_
                      refine zi_goto (tgt := 245) M dX7_path_183 (by decide) ?_
                      have hP : va_P D vwCl (mdlW ad 0 cy ((u8 (ur 0) (ur 1) (ur 2) (ur 3) 0 0 0 0) 4) h su st sh fl ic sn bn fm fr cm em ((u8 (ur 0) (ur 1) (ur 2) (ur 3) 0 0 0 0) 0) ((u8 (ur 0) (ur 1) (ur 2) (ur 3) 0 0 0 0) 1) ((u8 (ur 0) (ur 1) (ur 2) (ur 3) 0 0 0 0) 2) ((u8 (ur 0) (ur 1) (ur 2) (ur 3) 0 0 0 0) 3) cS cH sea noi pl pw an hd bp bo bw c1 c2 c3 c4 c5 e1 e2 e3 e4 e5) H := hP
                      exact zw_i M hr hlk (u8 (ur 0) (ur 1) (ur 2) (ur 3) 0 0 0 0) hP hS (by exact Or.inl ⟨_, _, _, _, rfl, by omega, x, ur 2, ur 0, ur 1, ur 3, hpp (by omega), congrArg iI (show ((x / 9) : Int) = tell6 (drZ x) (x % 9 + 1) (ur 0) (ur 1) (ur 2) (ur 3) wh by unfold tell6 drZ; (repeat' split) <;> omega)⟩) (by decide) (by decide) dX7_path_245
                  ·
                    have hx17 : x + 1 < 18 := by rcases Int.lt_or_le (x + 1) 18 with z | z; exact z; (have z2 : x = 17 := (by omega)); subst z2; (have z3 : cntR (mdE ic h cS) (mdF ic h su st) (mdD ic h fl) sea q t f w ((17 : Int) + 1).toNat = cntR (mdE ic h cS) (mdF ic h su st) (mdD ic h fl) sea q t f w 18 := rfl); omega
                    refine zi_iinc (lv' := [(11, .int (iI (x + 1))), (0, .ref (ad 0)), (1, .int (iI q)), (2, .int (iI t)), (3, .int (iI f)), (4, .int (iI w)), (5, .int (iI k)), (6, .int (iI wh)), (10, .int (iI y))]) M dX7_path_143 hl 8 rfl (by decide) rfl (fun ls hl => ?_)
                    refine lv_iload M.1 M.2.1 dX7_path_146 (lv_at hl 8 rfl) ?_
                    refine lv_aload_n M.1 M.2.1 dX7_path_148 rfl (lv_at hl 1 rfl) ?_
                    refine lv_iload_n M.1 M.2.1 dX7_path_149 rfl (lv_at hl 2 rfl) ?_
                    refine lv_iload_n M.1 M.2.1 dX7_path_150 rfl (lv_at hl 3 rfl) ?_
                    refine lv_iload M.1 M.2.1 dX7_path_151 (lv_at hl 0 rfl) ?_
                    refine lv_iload_n M.1 M.2.1 dX7_path_153 rfl (lv_at hl 4 rfl) ?_
                    refine lv_iload M.1 M.2.1 dX7_path_154 (lv_at hl 5 rfl) ?_
                    refine z_cW (z_runV (As := [.int (iI q), .int (iI t), .int (iI (x + 1)), .int (iI f), .int (iI w)]) (rest := [.int (iI y)]) M (c_X7_followBy l D cy z0 ad 0 h su st sh fl ic sn bn fm fr cm em (ur 0) (ur 1) (ur 2) (ur 3) cS cH sea noi pl pw an hd bp bo bw c1 c2 c3 c4 c5 e1 e2 e3 e4 e5 q t (x + 1) f w (by omega) (by omega) (by omega) (by omega) (by omega) (by omega) g_sea (by omega) (by omega) (by omega) (by omega) (by omega)) hE hS hAz (z_cut hP hD hAz [0, 1, 2, 3, 4, 5, 6, 7, 8, 9, 10, 11, 12, 13, 14, 15, 16, 17, 18, 19, 20, 21] rfl (by decide +kernel)) (zRc.of (ci := 7) (q0 := 0) hE hP rfl rfl) zk_cd_X7_followBy zk_in_RX7 zk_im_X7_followBy zk_se_X7_followBy zk_ml_RX7_159 rfl rfl zd_X7_followBy ⟨by decide, by decide⟩ rfl hl.1 rfl (Nat.le_of_ble_eq_true rfl) dX7_path_156 ⟨by decide, by decide⟩) hP hD hS [0, 1, 2, 3, 4, 5, 6, 7, 8, 9, 10, 11, 12, 13, 14, 15, 16, 17, 18, 19, 20, 21] rfl (fun _ => rfl) (fun r_15 u_15 H locs hp_15 hP hD hS => ?_)
                    have hP : va_P D vwCl (mdlW ad 0 cy 0 h su st sh fl ic sn bn fm fr cm em (u_15 0) (u_15 1) (u_15 2) (u_15 3) cS cH sea noi pl pw an hd bp bo bw c1 c2 c3 c4 c5 e1 e2 e3 e4 e5) H := hP
                    have hD : va_D (zIn (mdlW ad 0 cy th h su st sh fl ic sn bn fm fr cm em lg le lf dl cS cH sea noi pl pw an hd bp bo bw c1 c2 c3 c4 c5 e1 e2 e3 e4 e5)) (mdlW ad 0 cy 0 h su st sh fl ic sn bn fm fr cm em (u_15 0) (u_15 1) (u_15 2) (u_15 3) cS cH sea noi pl pw an hd bp bo bw c1 c2 c3 c4 c5 e1 e2 e3 e4 e5) := hD
                    rcases hp_15 with ⟨w_15, lg_15, le_15, dl_15, hs_15, rfl, rfl⟩ | ⟨hs_15, rfl⟩
                    ·
                      have hP : va_P D vwCl (mdlW ad 0 cy 0 h su st sh fl ic sn bn fm fr cm em lg_15 le_15 w_15 dl_15 cS cH sea noi pl pw an hd bp bo bw c1 c2 c3 c4 c5 e1 e2 e3 e4 e5) H := hP
                      have hD : va_D (zIn (mdlW ad 0 cy th h su st sh fl ic sn bn fm fr cm em lg le lf dl cS cH sea noi pl pw an hd bp bo bw c1 c2 c3 c4 c5 e1 e2 e3 e4 e5)) (mdlW ad 0 cy 0 h su st sh fl ic sn bn fm fr cm em lg_15 le_15 w_15 dl_15 cS cH sea noi pl pw an hd bp bo bw c1 c2 c3 c4 c5 e1 e2 e3 e4 e5) := hD
                      have hb_15 := rayZ_rg (mdD_rg h_fl) (by omega) (by omega) hs_15
                      refine zi_if_eq (tgt := 166) M dX7_path_159 (by decide) ⟨by decide, by decide⟩ (fun q => absurd q (by decide)) (fun _ => ?_)
                      refine zi_push M dX7_path_162 ?_
                      refine zi_goto (tgt := 167) M dX7_path_163 (by decide) ?_
                      refine zi_iadd M dX7_path_167 ?_
                      refine lv_istore (lv' := [(10, .int (iI (y + 1))), (11, .int (iI (x + 1))), (0, .ref (ad 0)), (1, .int (iI q)), (2, .int (iI t)), (3, .int (iI f)), (4, .int (iI w)), (5, .int (iI k)), (6, .int (iI wh))]) M.1 M.2.1 dX7_path_168 hl (by decide) rfl (fun ls hl => ?_)
                      refine zi_goto (tgt := 136) M dX7_path_170 (by decide) ?_
                      exact ih_136 (y + 1) (x + 1) (u8 lg_15 le_15 w_15 dl_15 0 0 0 0) (by omega) (by rw [show x + 1 + 1 = (x + 1) + 1 from rfl, cntR_s (by omega) hs_15]; omega) (by omega) (fun z => ⟨by omega, hs_15, by omega⟩) (by omega) _ _ hP hD hS ls (lv_sub hl [2, 3, 4, 5, 6, 7, 8, 0, 1] rfl)
                    ·
                      refine zi_if_eq (tgt := 166) M dX7_path_159 (by decide) ⟨by decide, by decide⟩ (fun _ => ?_) (fun q => absurd q (by decide))
                      refine zi_push M dX7_path_166 ?_
                      refine zi_iadd M dX7_path_167 ?_
                      refine lv_istore (lv' := [(10, .int (iI (y + 0))), (11, .int (iI (x + 1))), (0, .ref (ad 0)), (1, .int (iI q)), (2, .int (iI t)), (3, .int (iI f)), (4, .int (iI w)), (5, .int (iI k)), (6, .int (iI wh))]) M.1 M.2.1 dX7_path_168 hl (by decide) rfl (fun ls hl => ?_)
                      refine zi_goto (tgt := 136) M dX7_path_170 (by decide) ?_
                      exact ih_136 (y + 0) (x + 1) u_15 (by omega) (by rw [cntR_n (by omega) hs_15]; omega) (by omega) (fun z => absurd z (by omega)) (by omega) _ _ hP hD hS ls (lv_sub hl [2, 3, 4, 5, 6, 7, 8, 0, 1] rfl)
              exact L_136 (Int.toNat (18 - (-1)) + 1) (-1) (-1) u_6 (by omega) rfl (by omega) (fun z => absurd z (by omega)) (by omega) _ _ hP hD hS ls (lv_sub hl [5, 6, 7, 8, 9, 10, 11, 1, 0] rfl)
            ·
              refine zi_if_eq (tgt := 90) M dX7_path_83 (by decide) ⟨by decide, by decide⟩ (fun _ => ?_) (fun q => absurd q (by decide))
              refine zi_push M dX7_path_90 ?_
              refine lv_istore (lv' := [(9, .int (iI 0)), (8, .int (iI 1)), (7, .int (iI 1)), (0, .ref (ad 0)), (1, .int (iI q)), (2, .int (iI t)), (3, .int (iI f)), (4, .int (iI w)), (5, .int (iI k)), (6, .int (iI wh))]) M.1 M.2.1 dX7_path_91 hl (by decide) rfl (fun ls hl => ?_)
              refine lv_aload_n M.1 M.2.1 dX7_path_93 rfl (lv_at hl 3 rfl) ?_
              refine lv_iload M.1 M.2.1 dX7_path_94 (lv_at hl 2 rfl) ?_
              refine zi_if_ne (tgt := 103) M dX7_path_96 (by decide) ⟨by decide, by decide⟩ (fun _ => ?_) (fun q => absurd q (by decide))
              refine lv_iload M.1 M.2.1 dX7_path_103 (lv_at hl 1 rfl) ?_
              refine zi_if_ne (tgt := 112) M dX7_path_105 (by decide) ⟨by decide, by decide⟩ (fun _ => ?_) (fun q => absurd q (by decide))
              refine lv_iload M.1 M.2.1 dX7_path_112 (lv_at hl 0 rfl) ?_
              refine zi_if_eq (tgt := 121) M dX7_path_114 (by decide) ⟨by decide, by decide⟩ (fun _ => ?_) (fun q => absurd q (by decide))
              refine zi_push M dX7_path_121 ?_
              refine z_cW (z_runV (As := [.int (iI 1)]) (rest := []) M (c_X7_goesWell l D cy z0 ad th h su st sh fl ic sn bn fm fr cm em (u_6 0) (u_6 1) (u_6 2) (u_6 3) cS cH sea noi pl pw an hd bp bo bw c1 c2 c3 c4 c5 e1 e2 e3 e4 e5 1 (by omega)) hE hS hAz (z_cut hP hD hAz [0, 1, 2, 3, 4, 5, 6, 7, 8, 9, 10, 11, 12, 13, 14, 15, 16, 17, 18, 19, 20, 21] rfl (by decide +kernel)) (zRc.of (ci := 7) (q0 := 0) hE hP rfl rfl) zk_cd_X7_goesWell zk_in_RX7 zk_im_X7_goesWell zk_se_X7_goesWell zk_ml_RX7_88 rfl rfl zd_X7_goesWell ⟨by decide, by decide⟩ rfl hl.1 rfl (Nat.le_of_ble_eq_true rfl) dX7_path_122 ⟨by decide, by decide⟩) hP hD hS [0, 1, 2, 3, 4, 5, 6, 7, 8, 9, 10, 11, 12, 13, 14, 15, 16, 17, 18, 19, 20, 21] rfl (fun _ => rfl) (fun r_16 u_16 H locs hp_16 hP hD hS => ?_)
              have hP : va_P D vwCl (mdlW ad 0 cy 1 h su st sh fl ic sn bn fm fr cm em (u_6 0) (u_6 1) (u_6 2) (u_6 3) cS cH sea noi pl pw an hd bp bo bw c1 c2 c3 c4 c5 e1 e2 e3 e4 e5) H := hP
              have hD : va_D (zIn (mdlW ad 0 cy th h su st sh fl ic sn bn fm fr cm em lg le lf dl cS cH sea noi pl pw an hd bp bo bw c1 c2 c3 c4 c5 e1 e2 e3 e4 e5)) (mdlW ad 0 cy 1 h su st sh fl ic sn bn fm fr cm em (u_6 0) (u_6 1) (u_6 2) (u_6 3) cS cH sea noi pl pw an hd bp bo bw c1 c2 c3 c4 c5 e1 e2 e3 e4 e5) := hD
              subst hp_16
              refine z_rw (b := 0) rfl ?_
              refine zi_if_ne (tgt := 130) M dX7_path_125 (by decide) ⟨by decide, by decide⟩ (fun q => absurd q (by decide)) (fun _ => ?_)
              refine zi_push M dX7_path_128 ?_
              have hP : va_P D vwCl (mdlW ad 0 cy ((u8 (u_6 0) (u_6 1) (u_6 2) (u_6 3) 1 0 0 0) 4) h su st sh fl ic sn bn fm fr cm em ((u8 (u_6 0) (u_6 1) (u_6 2) (u_6 3) 1 0 0 0) 0) ((u8 (u_6 0) (u_6 1) (u_6 2) (u_6 3) 1 0 0 0) 1) ((u8 (u_6 0) (u_6 1) (u_6 2) (u_6 3) 1 0 0 0) 2) ((u8 (u_6 0) (u_6 1) (u_6 2) (u_6 3) 1 0 0 0) 3) cS cH sea noi pl pw an hd bp bo bw c1 c2 c3 c4 c5 e1 e2 e3 e4 e5) H := hP
              exact zw_i M hr hlk (u8 (u_6 0) (u_6 1) (u_6 2) (u_6 3) 1 0 0 0) hP hS (by first | exact Or.inr (Or.inl (⟨rfl, by omega, rfl⟩)) | exact Or.inr (Or.inr (Or.inr (⟨_, _, _, _, rfl, by omega, rfl⟩)))) (by decide) (by decide) dX7_path_129
          ·
            refine zi_if_eq (tgt := 58) M dX7_path_51 (by decide) ⟨by decide, by decide⟩ (fun _ => ?_) (fun q => absurd q (by decide))
            refine zi_push M dX7_path_58 ?_
            refine lv_istore (lv' := [(8, .int (iI 0)), (7, .int (iI 1)), (0, .ref (ad 0)), (1, .int (iI q)), (2, .int (iI t)), (3, .int (iI f)), (4, .int (iI w)), (5, .int (iI k)), (6, .int (iI wh))]) M.1 M.2.1 dX7_path_59 hl (by decide) rfl (fun ls hl => ?_)
            refine lv_iload M.1 M.2.1 dX7_path_61 (lv_at hl 0 rfl) ?_
            refine zi_if_eq (tgt := 90) M dX7_path_63 (by decide) ⟨by decide, by decide⟩ (fun _ => ?_) (fun q => absurd q (by decide))
            refine zi_push M dX7_path_90 ?_
            refine lv_istore (lv' := [(9, .int (iI 0)), (8, .int (iI 0)), (7, .int (iI 1)), (0, .ref (ad 0)), (1, .int (iI q)), (2, .int (iI t)), (3, .int (iI f)), (4, .int (iI w)), (5, .int (iI k)), (6, .int (iI wh))]) M.1 M.2.1 dX7_path_91 hl (by decide) rfl (fun ls hl => ?_)
            refine lv_aload_n M.1 M.2.1 dX7_path_93 rfl (lv_at hl 3 rfl) ?_
            refine lv_iload M.1 M.2.1 dX7_path_94 (lv_at hl 2 rfl) ?_
            refine zi_if_ne (tgt := 103) M dX7_path_96 (by decide) ⟨by decide, by decide⟩ (fun _ => ?_) (fun q => absurd q (by decide))
            refine lv_iload M.1 M.2.1 dX7_path_103 (lv_at hl 1 rfl) ?_
            refine zi_if_ne (tgt := 112) M dX7_path_105 (by decide) ⟨by decide, by decide⟩ (fun q => absurd q (by decide)) (fun _ => ?_)
            refine zi_push M dX7_path_108 ?_
            refine zi_goto (tgt := 122) M dX7_path_109 (by decide) ?_
            refine z_cW (z_runV (As := [.int (iI 2)]) (rest := []) M (c_X7_goesWell l D cy z0 ad th h su st sh fl ic sn bn fm fr cm em lg le lf dl cS cH sea noi pl pw an hd bp bo bw c1 c2 c3 c4 c5 e1 e2 e3 e4 e5 2 (by omega)) hE hS hAz (z_cut hP hD hAz [0, 1, 2, 3, 4, 5, 6, 7, 8, 9, 10, 11, 12, 13, 14, 15, 16, 17, 18, 19, 20, 21] rfl (by decide +kernel)) (zRc.of (ci := 7) (q0 := 0) hE hP rfl rfl) zk_cd_X7_goesWell zk_in_RX7 zk_im_X7_goesWell zk_se_X7_goesWell zk_ml_RX7_88 rfl rfl zd_X7_goesWell ⟨by decide, by decide⟩ rfl hl.1 rfl (Nat.le_of_ble_eq_true rfl) dX7_path_122 ⟨by decide, by decide⟩) hP hD hS [0, 1, 2, 3, 4, 5, 6, 7, 8, 9, 10, 11, 12, 13, 14, 15, 16, 17, 18, 19, 20, 21] rfl (fun _ => rfl) (fun r_17 u_17 H locs hp_17 hP hD hS => ?_)
            have hP : va_P D vwCl (mdlW ad 0 cy 2 h su st sh fl ic sn bn fm fr cm em lg le lf dl cS cH sea noi pl pw an hd bp bo bw c1 c2 c3 c4 c5 e1 e2 e3 e4 e5) H := hP
            have hD : va_D (zIn (mdlW ad 0 cy th h su st sh fl ic sn bn fm fr cm em lg le lf dl cS cH sea noi pl pw an hd bp bo bw c1 c2 c3 c4 c5 e1 e2 e3 e4 e5)) (mdlW ad 0 cy 2 h su st sh fl ic sn bn fm fr cm em lg le lf dl cS cH sea noi pl pw an hd bp bo bw c1 c2 c3 c4 c5 e1 e2 e3 e4 e5) := hD
            subst hp_17
            refine z_rw (b := 0) rfl ?_
            refine zi_if_ne (tgt := 130) M dX7_path_125 (by decide) ⟨by decide, by decide⟩ (fun q => absurd q (by decide)) (fun _ => ?_)
            refine zi_push M dX7_path_128 ?_
            have hP : va_P D vwCl (mdlW ad 0 cy ((u8 lg le lf dl 2 0 0 0) 4) h su st sh fl ic sn bn fm fr cm em ((u8 lg le lf dl 2 0 0 0) 0) ((u8 lg le lf dl 2 0 0 0) 1) ((u8 lg le lf dl 2 0 0 0) 2) ((u8 lg le lf dl 2 0 0 0) 3) cS cH sea noi pl pw an hd bp bo bw c1 c2 c3 c4 c5 e1 e2 e3 e4 e5) H := hP
            exact zw_i M hr hlk (u8 lg le lf dl 2 0 0 0) hP hS (by exact Or.inr (Or.inr (Or.inl (⟨rfl, by omega, rfl⟩)))) (by decide) (by decide) dX7_path_129
        ·
          refine zi_if_eq (tgt := 58) M dX7_path_41 (by decide) ⟨by decide, by decide⟩ (fun _ => ?_) (fun q => absurd q (by decide))
          refine zi_push M dX7_path_58 ?_
          refine lv_istore (lv' := [(8, .int (iI 0)), (7, .int (iI 1)), (0, .ref (ad 0)), (1, .int (iI q)), (2, .int (iI t)), (3, .int (iI f)), (4, .int (iI w)), (5, .int (iI k)), (6, .int (iI wh))]) M.1 M.2.1 dX7_path_59 hl (by decide) rfl (fun ls hl => ?_)
          refine lv_iload M.1 M.2.1 dX7_path_61 (lv_at hl 0 rfl) ?_
          refine zi_if_eq (tgt := 90) M dX7_path_63 (by decide) ⟨by decide, by decide⟩ (fun _ => ?_) (fun q => absurd q (by decide))
          refine zi_push M dX7_path_90 ?_
          refine lv_istore (lv' := [(9, .int (iI 0)), (8, .int (iI 0)), (7, .int (iI 1)), (0, .ref (ad 0)), (1, .int (iI q)), (2, .int (iI t)), (3, .int (iI f)), (4, .int (iI w)), (5, .int (iI k)), (6, .int (iI wh))]) M.1 M.2.1 dX7_path_91 hl (by decide) rfl (fun ls hl => ?_)
          refine lv_aload_n M.1 M.2.1 dX7_path_93 rfl (lv_at hl 3 rfl) ?_
          refine lv_iload M.1 M.2.1 dX7_path_94 (lv_at hl 2 rfl) ?_
          refine zi_if_ne (tgt := 103) M dX7_path_96 (by decide) ⟨by decide, by decide⟩ (fun _ => ?_) (fun q => absurd q (by decide))
          refine lv_iload M.1 M.2.1 dX7_path_103 (lv_at hl 1 rfl) ?_
          refine zi_if_ne (tgt := 112) M dX7_path_105 (by decide) ⟨by decide, by decide⟩ (fun q => absurd q (by decide)) (fun _ => ?_)
          refine zi_push M dX7_path_108 ?_
          refine zi_goto (tgt := 122) M dX7_path_109 (by decide) ?_
          refine z_cW (z_runV (As := [.int (iI 2)]) (rest := []) M (c_X7_goesWell l D cy z0 ad th h su st sh fl ic sn bn fm fr cm em lg le lf dl cS cH sea noi pl pw an hd bp bo bw c1 c2 c3 c4 c5 e1 e2 e3 e4 e5 2 (by omega)) hE hS hAz (z_cut hP hD hAz [0, 1, 2, 3, 4, 5, 6, 7, 8, 9, 10, 11, 12, 13, 14, 15, 16, 17, 18, 19, 20, 21] rfl (by decide +kernel)) (zRc.of (ci := 7) (q0 := 0) hE hP rfl rfl) zk_cd_X7_goesWell zk_in_RX7 zk_im_X7_goesWell zk_se_X7_goesWell zk_ml_RX7_88 rfl rfl zd_X7_goesWell ⟨by decide, by decide⟩ rfl hl.1 rfl (Nat.le_of_ble_eq_true rfl) dX7_path_122 ⟨by decide, by decide⟩) hP hD hS [0, 1, 2, 3, 4, 5, 6, 7, 8, 9, 10, 11, 12, 13, 14, 15, 16, 17, 18, 19, 20, 21] rfl (fun _ => rfl) (fun r_18 u_18 H locs hp_18 hP hD hS => ?_)
          have hP : va_P D vwCl (mdlW ad 0 cy 2 h su st sh fl ic sn bn fm fr cm em lg le lf dl cS cH sea noi pl pw an hd bp bo bw c1 c2 c3 c4 c5 e1 e2 e3 e4 e5) H := hP
          have hD : va_D (zIn (mdlW ad 0 cy th h su st sh fl ic sn bn fm fr cm em lg le lf dl cS cH sea noi pl pw an hd bp bo bw c1 c2 c3 c4 c5 e1 e2 e3 e4 e5)) (mdlW ad 0 cy 2 h su st sh fl ic sn bn fm fr cm em lg le lf dl cS cH sea noi pl pw an hd bp bo bw c1 c2 c3 c4 c5 e1 e2 e3 e4 e5) := hD
          subst hp_18
          refine z_rw (b := 0) rfl ?_
          refine zi_if_ne (tgt := 130) M dX7_path_125 (by decide) ⟨by decide, by decide⟩ (fun q => absurd q (by decide)) (fun _ => ?_)
          refine zi_push M dX7_path_128 ?_
          have hP : va_P D vwCl (mdlW ad 0 cy ((u8 lg le lf dl 2 0 0 0) 4) h su st sh fl ic sn bn fm fr cm em ((u8 lg le lf dl 2 0 0 0) 0) ((u8 lg le lf dl 2 0 0 0) 1) ((u8 lg le lf dl 2 0 0 0) 2) ((u8 lg le lf dl 2 0 0 0) 3) cS cH sea noi pl pw an hd bp bo bw c1 c2 c3 c4 c5 e1 e2 e3 e4 e5) H := hP
          exact zw_i M hr hlk (u8 lg le lf dl 2 0 0 0) hP hS (by exact Or.inr (Or.inr (Or.inl (⟨rfl, by omega, rfl⟩)))) (by decide) (by decide) dX7_path_129
      ·
        refine zi_if_eq (tgt := 58) M dX7_path_30 (by decide) ⟨by decide, by decide⟩ (fun _ => ?_) (fun q => absurd q (by decide))
        refine zi_push M dX7_path_58 ?_
        refine lv_istore (lv' := [(8, .int (iI 0)), (7, .int (iI 1)), (0, .ref (ad 0)), (1, .int (iI q)), (2, .int (iI t)), (3, .int (iI f)), (4, .int (iI w)), (5, .int (iI k)), (6, .int (iI wh))]) M.1 M.2.1 dX7_path_59 hl (by decide) rfl (fun ls hl => ?_)
        refine lv_iload M.1 M.2.1 dX7_path_61 (lv_at hl 0 rfl) ?_
        refine zi_if_eq (tgt := 90) M dX7_path_63 (by decide) ⟨by decide, by decide⟩ (fun _ => ?_) (fun q => absurd q (by decide))
        refine zi_push M dX7_path_90 ?_
        refine lv_istore (lv' := [(9, .int (iI 0)), (8, .int (iI 0)), (7, .int (iI 1)), (0, .ref (ad 0)), (1, .int (iI q)), (2, .int (iI t)), (3, .int (iI f)), (4, .int (iI w)), (5, .int (iI k)), (6, .int (iI wh))]) M.1 M.2.1 dX7_path_91 hl (by decide) rfl (fun ls hl => ?_)
        refine lv_aload_n M.1 M.2.1 dX7_path_93 rfl (lv_at hl 3 rfl) ?_
        refine lv_iload M.1 M.2.1 dX7_path_94 (lv_at hl 2 rfl) ?_
        refine zi_if_ne (tgt := 103) M dX7_path_96 (by decide) ⟨by decide, by decide⟩ (fun _ => ?_) (fun q => absurd q (by decide))
        refine lv_iload M.1 M.2.1 dX7_path_103 (lv_at hl 1 rfl) ?_
        refine zi_if_ne (tgt := 112) M dX7_path_105 (by decide) ⟨by decide, by decide⟩ (fun q => absurd q (by decide)) (fun _ => ?_)
        refine zi_push M dX7_path_108 ?_
        refine zi_goto (tgt := 122) M dX7_path_109 (by decide) ?_
        refine z_cW (z_runV (As := [.int (iI 2)]) (rest := []) M (c_X7_goesWell l D cy z0 ad th h su st sh fl ic sn bn fm fr cm em lg le lf dl cS cH sea noi pl pw an hd bp bo bw c1 c2 c3 c4 c5 e1 e2 e3 e4 e5 2 (by omega)) hE hS hAz (z_cut hP hD hAz [0, 1, 2, 3, 4, 5, 6, 7, 8, 9, 10, 11, 12, 13, 14, 15, 16, 17, 18, 19, 20, 21] rfl (by decide +kernel)) (zRc.of (ci := 7) (q0 := 0) hE hP rfl rfl) zk_cd_X7_goesWell zk_in_RX7 zk_im_X7_goesWell zk_se_X7_goesWell zk_ml_RX7_88 rfl rfl zd_X7_goesWell ⟨by decide, by decide⟩ rfl hl.1 rfl (Nat.le_of_ble_eq_true rfl) dX7_path_122 ⟨by decide, by decide⟩) hP hD hS [0, 1, 2, 3, 4, 5, 6, 7, 8, 9, 10, 11, 12, 13, 14, 15, 16, 17, 18, 19, 20, 21] rfl (fun _ => rfl) (fun r_19 u_19 H locs hp_19 hP hD hS => ?_)
        have hP : va_P D vwCl (mdlW ad 0 cy 2 h su st sh fl ic sn bn fm fr cm em lg le lf dl cS cH sea noi pl pw an hd bp bo bw c1 c2 c3 c4 c5 e1 e2 e3 e4 e5) H := hP
        have hD : va_D (zIn (mdlW ad 0 cy th h su st sh fl ic sn bn fm fr cm em lg le lf dl cS cH sea noi pl pw an hd bp bo bw c1 c2 c3 c4 c5 e1 e2 e3 e4 e5)) (mdlW ad 0 cy 2 h su st sh fl ic sn bn fm fr cm em lg le lf dl cS cH sea noi pl pw an hd bp bo bw c1 c2 c3 c4 c5 e1 e2 e3 e4 e5) := hD
        subst hp_19
        refine z_rw (b := 0) rfl ?_
        refine zi_if_ne (tgt := 130) M dX7_path_125 (by decide) ⟨by decide, by decide⟩ (fun q => absurd q (by decide)) (fun _ => ?_)
        refine zi_push M dX7_path_128 ?_
        have hP : va_P D vwCl (mdlW ad 0 cy ((u8 lg le lf dl 2 0 0 0) 4) h su st sh fl ic sn bn fm fr cm em ((u8 lg le lf dl 2 0 0 0) 0) ((u8 lg le lf dl 2 0 0 0) 1) ((u8 lg le lf dl 2 0 0 0) 2) ((u8 lg le lf dl 2 0 0 0) 3) cS cH sea noi pl pw an hd bp bo bw c1 c2 c3 c4 c5 e1 e2 e3 e4 e5) H := hP
        exact zw_i M hr hlk (u8 lg le lf dl 2 0 0 0) hP hS (by exact Or.inr (Or.inr (Or.inl (⟨rfl, by omega, rfl⟩)))) (by decide) (by decide) dX7_path_129
    ·
      refine zi_if_eq (tgt := 18) M dX7_path_11 (by decide) ⟨by decide, by decide⟩ (fun _ => ?_) (fun q => absurd q (by decide))
      refine zi_push M dX7_path_18 ?_
      refine lv_istore (lv' := [(7, .int (iI 0)), (0, .ref (ad 0)), (1, .int (iI q)), (2, .int (iI t)), (3, .int (iI f)), (4, .int (iI w)), (5, .int (iI k)), (6, .int (iI wh))]) M.1 M.2.1 dX7_path_19 hl (by decide) rfl (fun ls hl => ?_)
      refine lv_iload M.1 M.2.1 dX7_path_21 (lv_at hl 0 rfl) ?_
      refine zi_if_eq (tgt := 58) M dX7_path_23 (by decide) ⟨by decide, by decide⟩ (fun _ => ?_) (fun q => absurd q (by decide))
      refine zi_push M dX7_path_58 ?_
      refine lv_istore (lv' := [(8, .int (iI 0)), (7, .int (iI 0)), (0, .ref (ad 0)), (1, .int (iI q)), (2, .int (iI t)), (3, .int (iI f)), (4, .int (iI w)), (5, .int (iI k)), (6, .int (iI wh))]) M.1 M.2.1 dX7_path_59 hl (by decide) rfl (fun ls hl => ?_)
      refine lv_iload M.1 M.2.1 dX7_path_61 (lv_at hl 0 rfl) ?_
      refine zi_if_eq (tgt := 90) M dX7_path_63 (by decide) ⟨by decide, by decide⟩ (fun _ => ?_) (fun q => absurd q (by decide))
      refine zi_push M dX7_path_90 ?_
      refine lv_istore (lv' := [(9, .int (iI 0)), (8, .int (iI 0)), (7, .int (iI 0)), (0, .ref (ad 0)), (1, .int (iI q)), (2, .int (iI t)), (3, .int (iI f)), (4, .int (iI w)), (5, .int (iI k)), (6, .int (iI wh))]) M.1 M.2.1 dX7_path_91 hl (by decide) rfl (fun ls hl => ?_)
      refine lv_aload_n M.1 M.2.1 dX7_path_93 rfl (lv_at hl 3 rfl) ?_
      refine lv_iload M.1 M.2.1 dX7_path_94 (lv_at hl 2 rfl) ?_
      refine zi_if_ne (tgt := 103) M dX7_path_96 (by decide) ⟨by decide, by decide⟩ (fun q => absurd q (by decide)) (fun _ => ?_)
      refine zi_push M dX7_path_99 ?_
      refine zi_goto (tgt := 122) M dX7_path_100 (by decide) ?_
      refine z_cW (z_runV (As := [.int (iI 1)]) (rest := []) M (c_X7_goesWell l D cy z0 ad th h su st sh fl ic sn bn fm fr cm em lg le lf dl cS cH sea noi pl pw an hd bp bo bw c1 c2 c3 c4 c5 e1 e2 e3 e4 e5 1 (by omega)) hE hS hAz (z_cut hP hD hAz [0, 1, 2, 3, 4, 5, 6, 7, 8, 9, 10, 11, 12, 13, 14, 15, 16, 17, 18, 19, 20, 21] rfl (by decide +kernel)) (zRc.of (ci := 7) (q0 := 0) hE hP rfl rfl) zk_cd_X7_goesWell zk_in_RX7 zk_im_X7_goesWell zk_se_X7_goesWell zk_ml_RX7_88 rfl rfl zd_X7_goesWell ⟨by decide, by decide⟩ rfl hl.1 rfl (Nat.le_of_ble_eq_true rfl) dX7_path_122 ⟨by decide, by decide⟩) hP hD hS [0, 1, 2, 3, 4, 5, 6, 7, 8, 9, 10, 11, 12, 13, 14, 15, 16, 17, 18, 19, 20, 21] rfl (fun _ => rfl) (fun r_20 u_20 H locs hp_20 hP hD hS => ?_)
      have hP : va_P D vwCl (mdlW ad 0 cy 1 h su st sh fl ic sn bn fm fr cm em lg le lf dl cS cH sea noi pl pw an hd bp bo bw c1 c2 c3 c4 c5 e1 e2 e3 e4 e5) H := hP
      have hD : va_D (zIn (mdlW ad 0 cy th h su st sh fl ic sn bn fm fr cm em lg le lf dl cS cH sea noi pl pw an hd bp bo bw c1 c2 c3 c4 c5 e1 e2 e3 e4 e5)) (mdlW ad 0 cy 1 h su st sh fl ic sn bn fm fr cm em lg le lf dl cS cH sea noi pl pw an hd bp bo bw c1 c2 c3 c4 c5 e1 e2 e3 e4 e5) := hD
      subst hp_20
      refine z_rw (b := 0) rfl ?_
      refine zi_if_ne (tgt := 130) M dX7_path_125 (by decide) ⟨by decide, by decide⟩ (fun q => absurd q (by decide)) (fun _ => ?_)
      refine zi_push M dX7_path_128 ?_
      have hP : va_P D vwCl (mdlW ad 0 cy ((u8 lg le lf dl 1 0 0 0) 4) h su st sh fl ic sn bn fm fr cm em ((u8 lg le lf dl 1 0 0 0) 0) ((u8 lg le lf dl 1 0 0 0) 1) ((u8 lg le lf dl 1 0 0 0) 2) ((u8 lg le lf dl 1 0 0 0) 3) cS cH sea noi pl pw an hd bp bo bw c1 c2 c3 c4 c5 e1 e2 e3 e4 e5) H := hP
      exact zw_i M hr hlk (u8 lg le lf dl 1 0 0 0) hP hS (by first | exact Or.inr (Or.inl (⟨rfl, by omega, rfl⟩)) | exact Or.inr (Or.inr (Or.inr (⟨_, _, _, _, rfl, by omega, rfl⟩)))) (by decide) (by decide) dX7_path_129
  ·
    refine zi_if_eq (tgt := 18) M dX7_path_4 (by decide) ⟨by decide, by decide⟩ (fun _ => ?_) (fun q => absurd q (by decide))
    refine zi_push M dX7_path_18 ?_
    refine lv_istore (lv' := [(7, .int (iI 0)), (0, .ref (ad 0)), (1, .int (iI q)), (2, .int (iI t)), (3, .int (iI f)), (4, .int (iI w)), (5, .int (iI k)), (6, .int (iI wh))]) M.1 M.2.1 dX7_path_19 hl (by decide) rfl (fun ls hl => ?_)
    refine lv_iload M.1 M.2.1 dX7_path_21 (lv_at hl 0 rfl) ?_
    refine zi_if_eq (tgt := 58) M dX7_path_23 (by decide) ⟨by decide, by decide⟩ (fun _ => ?_) (fun q => absurd q (by decide))
    refine zi_push M dX7_path_58 ?_
    refine lv_istore (lv' := [(8, .int (iI 0)), (7, .int (iI 0)), (0, .ref (ad 0)), (1, .int (iI q)), (2, .int (iI t)), (3, .int (iI f)), (4, .int (iI w)), (5, .int (iI k)), (6, .int (iI wh))]) M.1 M.2.1 dX7_path_59 hl (by decide) rfl (fun ls hl => ?_)
    refine lv_iload M.1 M.2.1 dX7_path_61 (lv_at hl 0 rfl) ?_
    refine zi_if_eq (tgt := 90) M dX7_path_63 (by decide) ⟨by decide, by decide⟩ (fun _ => ?_) (fun q => absurd q (by decide))
    refine zi_push M dX7_path_90 ?_
    refine lv_istore (lv' := [(9, .int (iI 0)), (8, .int (iI 0)), (7, .int (iI 0)), (0, .ref (ad 0)), (1, .int (iI q)), (2, .int (iI t)), (3, .int (iI f)), (4, .int (iI w)), (5, .int (iI k)), (6, .int (iI wh))]) M.1 M.2.1 dX7_path_91 hl (by decide) rfl (fun ls hl => ?_)
    refine lv_aload_n M.1 M.2.1 dX7_path_93 rfl (lv_at hl 3 rfl) ?_
    refine lv_iload M.1 M.2.1 dX7_path_94 (lv_at hl 2 rfl) ?_
    refine zi_if_ne (tgt := 103) M dX7_path_96 (by decide) ⟨by decide, by decide⟩ (fun q => absurd q (by decide)) (fun _ => ?_)
    refine zi_push M dX7_path_99 ?_
    refine zi_goto (tgt := 122) M dX7_path_100 (by decide) ?_
    refine z_cW (z_runV (As := [.int (iI 1)]) (rest := []) M (c_X7_goesWell l D cy z0 ad th h su st sh fl ic sn bn fm fr cm em lg le lf dl cS cH sea noi pl pw an hd bp bo bw c1 c2 c3 c4 c5 e1 e2 e3 e4 e5 1 (by omega)) hE hS hAz (z_cut hP hD hAz [0, 1, 2, 3, 4, 5, 6, 7, 8, 9, 10, 11, 12, 13, 14, 15, 16, 17, 18, 19, 20, 21] rfl (by decide +kernel)) (zRc.of (ci := 7) (q0 := 0) hE hP rfl rfl) zk_cd_X7_goesWell zk_in_RX7 zk_im_X7_goesWell zk_se_X7_goesWell zk_ml_RX7_88 rfl rfl zd_X7_goesWell ⟨by decide, by decide⟩ rfl hl.1 rfl (Nat.le_of_ble_eq_true rfl) dX7_path_122 ⟨by decide, by decide⟩) hP hD hS [0, 1, 2, 3, 4, 5, 6, 7, 8, 9, 10, 11, 12, 13, 14, 15, 16, 17, 18, 19, 20, 21] rfl (fun _ => rfl) (fun r_21 u_21 H locs hp_21 hP hD hS => ?_)
    have hP : va_P D vwCl (mdlW ad 0 cy 1 h su st sh fl ic sn bn fm fr cm em lg le lf dl cS cH sea noi pl pw an hd bp bo bw c1 c2 c3 c4 c5 e1 e2 e3 e4 e5) H := hP
    have hD : va_D (zIn (mdlW ad 0 cy th h su st sh fl ic sn bn fm fr cm em lg le lf dl cS cH sea noi pl pw an hd bp bo bw c1 c2 c3 c4 c5 e1 e2 e3 e4 e5)) (mdlW ad 0 cy 1 h su st sh fl ic sn bn fm fr cm em lg le lf dl cS cH sea noi pl pw an hd bp bo bw c1 c2 c3 c4 c5 e1 e2 e3 e4 e5) := hD
    subst hp_21
    refine z_rw (b := 0) rfl ?_
    refine zi_if_ne (tgt := 130) M dX7_path_125 (by decide) ⟨by decide, by decide⟩ (fun q => absurd q (by decide)) (fun _ => ?_)
    refine zi_push M dX7_path_128 ?_
    have hP : va_P D vwCl (mdlW ad 0 cy ((u8 lg le lf dl 1 0 0 0) 4) h su st sh fl ic sn bn fm fr cm em ((u8 lg le lf dl 1 0 0 0) 0) ((u8 lg le lf dl 1 0 0 0) 1) ((u8 lg le lf dl 1 0 0 0) 2) ((u8 lg le lf dl 1 0 0 0) 3) cS cH sea noi pl pw an hd bp bo bw c1 c2 c3 c4 c5 e1 e2 e3 e4 e5) H := hP
    exact zw_i M hr hlk (u8 lg le lf dl 1 0 0 0) hP hS (by first | exact Or.inr (Or.inl (⟨rfl, by omega, rfl⟩)) | exact Or.inr (Or.inr (Or.inr (⟨_, _, _, _, rfl, by omega, rfl⟩)))) (by decide) (by decide) dX7_path_129
