/-! contracts: the model, what everybody may call, 2 -/
set_option maxRecDepth 100000 in
set_option maxHeartbeats 4000000 in
theorem c_X7_landing (l : Launch) (D : va_G) (cy : Nat → ClassId) (z0 : Nat) (ad : Nat → Nat) (th h su st sh fl ic sn bn fm fr cm em lg le lf dl : Int) (cS cH sea noi pl pw an hd bp bo bw c1 c2 c3 c4 c5 e1 e2 e3 e4 e5 : Int → Int) (q : Int) (g : Int) (a : Int) (f : Int) (n : Int) (r_q : r32 q) (r_a : r32 a) (r_f : r32 f) (r_n : r32 n) (hg : 0 ≤ g ∧ g ≤ 1) (h_h : 0 ≤ h ∧ h ≤ 5000) (h_su : 0 ≤ su ∧ su ≤ 100) (h_st : 0 ≤ st ∧ st ≤ 60) (h_fl : 0 ≤ fl ∧ fl ≤ 80) (h_cS : zrg 48 0 100 cS) (h_ic : 0 ≤ ic ∧ ic ≤ 1) : Met l yX7_landing [.code yX7_landing cX7_landing 8 (some .int)] (zRm 5 0 0 124) (zPc [.ref (ad 0), .int (iI q), .int (iI g), .int (iI a), .int (iI f), .int (iI n)] D cy z0 (zWl D z0 (mdlW ad 0 cy th h su st sh fl ic sn bn fm fr cm em lg le lf dl cS cH sea noi pl pw an hd bp bo bw c1 c2 c3 c4 c5 e1 e2 e3 e4 e5))) (zQ1 D (mdlW ad 0 cy th h su st sh fl ic sn bn fm fr cm em lg le lf dl cS cH sea noi pl pw an hd bp bo bw c1 c2 c3 c4 c5 e1 e2 e3 e4 e5) (fun (r : Int32) (u : Int) => (u = 0 ∧ ((0 ≤ q ∧ q < 48) ∧ ((1 ≤ a ∧ a ≤ 9) ∧ (10 ≤ f ∧ f ≤ 300) ∧ (1 ≤ n ∧ n ≤ 10))) ∧ r = iI (landZ (mdE ic h cS) (mdF ic h su st) g a f n.toNat q)) ∨ (u = 1 ∧ (¬ (0 ≤ q ∧ q < 48)) ∧ r = iI 0) ∨ (u = 2 ∧ ((0 ≤ q ∧ q < 48) ∧ ¬ ((1 ≤ a ∧ a ≤ 9) ∧ (10 ≤ f ∧ f ≤ 300) ∧ (1 ≤ n ∧ n ≤ 10))) ∧ r = iI 0)) (fun (u : Int) => (mdlW ad 0 cy u h su st sh fl ic sn bn fm fr cm em lg le lf dl cS cH sea noi pl pw an hd bp bo bw c1 c2 c3 c4 c5 e1 e2 e3 e4 e5))) 0 0 (zIn (mdlW ad 0 cy th h su st sh fl ic sn bn fm fr cm em lg le lf dl cS cH sea noi pl pw an hd bp bo bw c1 c2 c3 c4 c5 e1 e2 e3 e4 e5)) := by
  refine z_of (by decide) (Nat.le_of_ble_eq_true rfl) ?_
  intro p e s m args below meth c M hr hlk hini hargs hP0 hE ls hl
  have hP : va_P D vwCl (mdlW ad 0 cy th h su st sh fl ic sn bn fm fr cm em lg le lf dl cS cH sea noi pl pw an hd bp bo bw c1 c2 c3 c4 c5 e1 e2 e3 e4 e5) s.heap := hP0.1
  have hD : va_D (zIn (mdlW ad 0 cy th h su st sh fl ic sn bn fm fr cm em lg le lf dl cS cH sea noi pl pw an hd bp bo bw c1 c2 c3 c4 c5 e1 e2 e3 e4 e5)) (mdlW ad 0 cy th h su st sh fl ic sn bn fm fr cm em lg le lf dl cS cH sea noi pl pw an hd bp bo bw c1 c2 c3 c4 c5 e1 e2 e3 e4 e5) := hP0.self
  have hAz := hP0.A
  have hS : va_S (zIn (mdlW ad 0 cy th h su st sh fl ic sn bn fm fr cm em lg le lf dl cS cH sea noi pl pw an hd bp bo bw c1 c2 c3 c4 c5 e1 e2 e3 e4 e5)) s.heap s.heap [] := va_S.rf
  have hl : lv_has ls 8 [(0, .ref (ad 0)), (1, .int (iI q)), (2, .int (iI g)), (3, .int (iI a)), (4, .int (iI f)), (5, .int (iI n))] := hl
  refine lv_iload_n M.1 M.2.1 dX7_landing_0 rfl (lv_at hl 1 rfl) ?_
  refine z_cR (z_runS (As := [.int (iI q)]) (rest := []) M (c_X7_isPlace l D cy z0 q (by omega)) hE hS hAz trivial zk_cd_X7_isPlace zk_in_RX7 zk_st_X7_isPlace zk_ml_RX7_101 rfl rfl zd_X7_isPlace ⟨by decide, by decide⟩ rfl hl.1 rfl (Nat.le_of_ble_eq_true rfl) dX7_landing_1 ⟨by decide, by decide⟩) ?_
  refine zi_b (P := 0 ≤ q ∧ q ≤ 47) (g := fun r => F0 m 4 ls (.int r :: [])) (fun b_1 => ?_) (fun b_1 => ?_)
  ·
    refine lv_istore (lv' := [(6, .int (iI 1)), (0, .ref (ad 0)), (1, .int (iI q)), (2, .int (iI g)), (3, .int (iI a)), (4, .int (iI f)), (5, .int (iI n))]) M.1 M.2.1 dX7_landing_4 hl (by decide) rfl (fun ls hl => ?_)
    refine lv_iload_n M.1 M.2.1 dX7_landing_6 rfl (lv_at hl 4 rfl) ?_
    refine zi_push M dX7_landing_7 ?_
    refine zi_bipush M dX7_landing_8 ⟨by decide, by decide⟩ ?_
    refine z_cR (z_runS (As := [.int (iI a), .int (iI 1), .int (iI 9)]) (rest := []) M (c_X7_in l D cy z0 a 1 9 (by omega) (by omega) (by omega)) hE hS hAz trivial zk_cd_X7_in zk_in_RX7 zk_st_X7_in zk_ml_RX7_81 rfl rfl zd_X7_in ⟨by decide, by decide⟩ rfl hl.1 rfl (Nat.le_of_ble_eq_true rfl) dX7_landing_10 ⟨by decide, by decide⟩) ?_
    refine zi_b (P := 1 ≤ a ∧ a ≤ 9) (g := fun r => F0 m 13 ls (.int r :: [])) (fun b_2 => ?_) (fun b_2 => ?_)
    ·
      refine zi_if_eq (tgt := 39) M dX7_landing_13 (by decide) ⟨by decide, by decide⟩ (fun q => absurd q (by decide)) (fun _ => ?_)
      refine lv_iload M.1 M.2.1 dX7_landing_16 (lv_at hl 5 rfl) ?_
      refine z_cR (z_runS (As := [.int (iI f)]) (rest := []) M (c_X7_isOn l D cy z0 f (by omega)) hE hS hAz trivial zk_cd_X7_isOn zk_in_RX7 zk_st_X7_isOn zk_ml_RX7_152 rfl rfl zd_X7_isOn ⟨by decide, by decide⟩ rfl hl.1 rfl (Nat.le_of_ble_eq_true rfl) dX7_landing_18 ⟨by decide, by decide⟩) ?_
      refine zi_b (P := 10 ≤ f ∧ f ≤ 300) (g := fun r => F0 m 21 ls (.int r :: [])) (fun b_3 => ?_) (fun b_3 => ?_)
      ·
        refine zi_if_eq (tgt := 39) M dX7_landing_21 (by decide) ⟨by decide, by decide⟩ (fun q => absurd q (by decide)) (fun _ => ?_)
        refine lv_iload M.1 M.2.1 dX7_landing_24 (lv_at hl 6 rfl) ?_
        refine zi_push M dX7_landing_26 ?_
        refine zi_bipush M dX7_landing_27 ⟨by decide, by decide⟩ ?_
        refine z_cR (z_runS (As := [.int (iI n), .int (iI 1), .int (iI 10)]) (rest := []) M (c_X7_in l D cy z0 n 1 10 (by omega) (by omega) (by omega)) hE hS hAz trivial zk_cd_X7_in zk_in_RX7 zk_st_X7_in zk_ml_RX7_81 rfl rfl zd_X7_in ⟨by decide, by decide⟩ rfl hl.1 rfl (Nat.le_of_ble_eq_true rfl) dX7_landing_29 ⟨by decide, by decide⟩) ?_
        refine zi_b (P := 1 ≤ n ∧ n ≤ 10) (g := fun r => F0 m 32 ls (.int r :: [])) (fun b_4 => ?_) (fun b_4 => ?_)
        ·
          refine zi_if_eq (tgt := 39) M dX7_landing_32 (by decide) ⟨by decide, by decide⟩ (fun q => absurd q (by decide)) (fun _ => ?_)
          refine zi_push M dX7_landing_35 ?_
          refine zi_goto (tgt := 40) M dX7_landing_36 (by decide) ?_
          refine lv_istore (lv' := [(7, .int (iI 1)), (6, .int (iI 1)), (0, .ref (ad 0)), (1, .int (iI q)), (2, .int (iI g)), (3, .int (iI a)), (4, .int (iI f)), (5, .int (iI n))]) M.1 M.2.1 dX7_landing_40 hl (by decide) rfl (fun ls hl => ?_)
          refine lv_aload_n M.1 M.2.1 dX7_landing_42 rfl (lv_at hl 2 rfl) ?_
          refine lv_iload M.1 M.2.1 dX7_landing_43 (lv_at hl 1 rfl) ?_
          refine zi_if_ne (tgt := 52) M dX7_landing_45 (by decide) ⟨by decide, by decide⟩ (fun _ => ?_) (fun q => absurd q (by decide))
          refine lv_iload M.1 M.2.1 dX7_landing_52 (lv_at hl 0 rfl) ?_
          refine zi_if_eq (tgt := 61) M dX7_landing_54 (by decide) ⟨by decide, by decide⟩ (fun q => absurd q (by decide)) (fun _ => ?_)
          refine zi_push M dX7_landing_57 ?_
          refine zi_goto (tgt := 62) M dX7_landing_58 (by decide) ?_
          refine z_cW (z_runV (As := [.int (iI 0)]) (rest := []) M (c_X7_goesWell l D cy z0 ad th h su st sh fl ic sn bn fm fr cm em lg le lf dl cS cH sea noi pl pw an hd bp bo bw c1 c2 c3 c4 c5 e1 e2 e3 e4 e5 0 (by omega)) hE hS hAz (z_cut hP hD hAz [0, 1, 2, 3, 4, 5, 6, 7, 8, 9, 10, 11, 12, 13, 14, 15, 16, 17, 18, 19, 20, 21] rfl (by decide +kernel)) (zRc.of (ci := 7) (q0 := 0) hE hP rfl rfl) zk_cd_X7_goesWell zk_in_RX7 zk_im_X7_goesWell zk_se_X7_goesWell zk_ml_RX7_88 rfl rfl zd_X7_goesWell ⟨by decide, by decide⟩ rfl hl.1 rfl (Nat.le_of_ble_eq_true rfl) dX7_landing_62 ⟨by decide, by decide⟩) hP hD hS [0, 1, 2, 3, 4, 5, 6, 7, 8, 9, 10, 11, 12, 13, 14, 15, 16, 17, 18, 19, 20, 21] rfl (fun _ => rfl) (fun r_5 u_5 H locs hp_5 hP hD hS => ?_)
          have hP : va_P D vwCl (mdlW ad 0 cy 0 h su st sh fl ic sn bn fm fr cm em lg le lf dl cS cH sea noi pl pw an hd bp bo bw c1 c2 c3 c4 c5 e1 e2 e3 e4 e5) H := hP
          have hD : va_D (zIn (mdlW ad 0 cy th h su st sh fl ic sn bn fm fr cm em lg le lf dl cS cH sea noi pl pw an hd bp bo bw c1 c2 c3 c4 c5 e1 e2 e3 e4 e5)) (mdlW ad 0 cy 0 h su st sh fl ic sn bn fm fr cm em lg le lf dl cS cH sea noi pl pw an hd bp bo bw c1 c2 c3 c4 c5 e1 e2 e3 e4 e5) := hD
          subst hp_5
          refine z_rw (b := 1) rfl ?_
          refine zi_if_eq (tgt := 82) M dX7_landing_65 (by decide) ⟨by decide, by decide⟩ (fun q => absurd q (by decide)) (fun _ => ?_)
          refine lv_aload_n M.1 M.2.1 dX7_landing_68 rfl (lv_at hl 2 rfl) ?_
          refine lv_iload_n M.1 M.2.1 dX7_landing_69 rfl (lv_at hl 3 rfl) ?_
          refine lv_iload_n M.1 M.2.1 dX7_landing_70 rfl (lv_at hl 4 rfl) ?_
          refine lv_iload_n M.1 M.2.1 dX7_landing_71 rfl (lv_at hl 5 rfl) ?_
          refine lv_iload M.1 M.2.1 dX7_landing_72 (lv_at hl 6 rfl) ?_
          refine lv_iload M.1 M.2.1 dX7_landing_74 (lv_at hl 7 rfl) ?_
          refine z_cR (z_runV (As := [.int (iI q), .int (iI g), .int (iI a), .int (iI f), .int (iI n)]) (rest := []) M (c_X7_landed l D cy z0 ad 0 h su st sh fl ic sn bn fm fr cm em lg le lf dl cS cH sea noi pl pw an hd bp bo bw c1 c2 c3 c4 c5 e1 e2 e3 e4 e5 q g a f n (by omega) (by omega) (by omega) (by omega) (by omega) (by omega) (by omega) (by omega) (by omega) (by omega) (by omega)) hE hS hAz hP (zRc.of (ci := 7) (q0 := 0) hE hP rfl rfl) zk_cd_X7_landed zk_in_RX7 zk_im_X7_landed zk_se_X7_landed zk_ml_RX7_155 rfl rfl zd_X7_landed ⟨by decide, by decide⟩ rfl hl.1 rfl (Nat.le_of_ble_eq_true rfl) dX7_landing_76 ⟨by decide, by decide⟩) ?_
          refine zi_goto (tgt := 83) M dX7_landing_79 (by decide) ?_
          have hP : va_P D vwCl (mdlW ad 0 cy 0 h su st sh fl ic sn bn fm fr cm em lg le lf dl cS cH sea noi pl pw an hd bp bo bw c1 c2 c3 c4 c5 e1 e2 e3 e4 e5) H := hP
          exact zw_i M hr hlk 0 hP hS (by exact Or.inl ⟨rfl, by omega, congrArg iI (show ((landZ (mdE ic h cS) (mdF ic h su st) g a f n.toNat q) : Int) = landZ (mdE ic h cS) (mdF ic h su st) g a f n.toNat q by rfl)⟩) (by decide) (by decide) dX7_landing_83
        ·
          refine zi_if_eq (tgt := 39) M dX7_landing_32 (by decide) ⟨by decide, by decide⟩ (fun _ => ?_) (fun q => absurd q (by decide))
          refine zi_push M dX7_landing_39 ?_
          refine lv_istore (lv' := [(7, .int (iI 0)), (6, .int (iI 1)), (0, .ref (ad 0)), (1, .int (iI q)), (2, .int (iI g)), (3, .int (iI a)), (4, .int (iI f)), (5, .int (iI n))]) M.1 M.2.1 dX7_landing_40 hl (by decide) rfl (fun ls hl => ?_)
          refine lv_aload_n M.1 M.2.1 dX7_landing_42 rfl (lv_at hl 2 rfl) ?_
          refine lv_iload M.1 M.2.1 dX7_landing_43 (lv_at hl 1 rfl) ?_
          refine zi_if_ne (tgt := 52) M dX7_landing_45 (by decide) ⟨by decide, by decide⟩ (fun _ => ?_) (fun q => absurd q (by decide))
          refine lv_iload M.1 M.2.1 dX7_landing_52 (lv_at hl 0 rfl) ?_
          refine zi_if_eq (tgt := 61) M dX7_landing_54 (by decide) ⟨by decide, by decide⟩ (fun _ => ?_) (fun q => absurd q (by decide))
          refine zi_push M dX7_landing_61 ?_
          refine z_cW (z_runV (As := [.int (iI 2)]) (rest := []) M (c_X7_goesWell l D cy z0 ad th h su st sh fl ic sn bn fm fr cm em lg le lf dl cS cH sea noi pl pw an hd bp bo bw c1 c2 c3 c4 c5 e1 e2 e3 e4 e5 2 (by omega)) hE hS hAz (z_cut hP hD hAz [0, 1, 2, 3, 4, 5, 6, 7, 8, 9, 10, 11, 12, 13, 14, 15, 16, 17, 18, 19, 20, 21] rfl (by decide +kernel)) (zRc.of (ci := 7) (q0 := 0) hE hP rfl rfl) zk_cd_X7_goesWell zk_in_RX7 zk_im_X7_goesWell zk_se_X7_goesWell zk_ml_RX7_88 rfl rfl zd_X7_goesWell ⟨by decide, by decide⟩ rfl hl.1 rfl (Nat.le_of_ble_eq_true rfl) dX7_landing_62 ⟨by decide, by decide⟩) hP hD hS [0, 1, 2, 3, 4, 5, 6, 7, 8, 9, 10, 11, 12, 13, 14, 15, 16, 17, 18, 19, 20, 21] rfl (fun _ => rfl) (fun r_6 u_6 H locs hp_6 hP hD hS => ?_)
          have hP : va_P D vwCl (mdlW ad 0 cy 2 h su st sh fl ic sn bn fm fr cm em lg le lf dl cS cH sea noi pl pw an hd bp bo bw c1 c2 c3 c4 c5 e1 e2 e3 e4 e5) H := hP
          have hD : va_D (zIn (mdlW ad 0 cy th h su st sh fl ic sn bn fm fr cm em lg le lf dl cS cH sea noi pl pw an hd bp bo bw c1 c2 c3 c4 c5 e1 e2 e3 e4 e5)) (mdlW ad 0 cy 2 h su st sh fl ic sn bn fm fr cm em lg le lf dl cS cH sea noi pl pw an hd bp bo bw c1 c2 c3 c4 c5 e1 e2 e3 e4 e5) := hD
          subst hp_6
          refine z_rw (b := 0) rfl ?_
          refine zi_if_eq (tgt := 82) M dX7_landing_65 (by decide) ⟨by decide, by decide⟩ (fun _ => ?_) (fun q => absurd q (by decide))
          refine zi_push M dX7_landing_82 ?_
          have hP : va_P D vwCl (mdlW ad 0 cy 2 h su st sh fl ic sn bn fm fr cm em lg le lf dl cS cH sea noi pl pw an hd bp bo bw c1 c2 c3 c4 c5 e1 e2 e3 e4 e5) H := hP
          exact zw_i M hr hlk 2 hP hS (by exact Or.inr (Or.inr (⟨rfl, by omega, rfl⟩))) (by decide) (by decide) dX7_landing_83
      ·
        refine zi_if_eq (tgt := 39) M dX7_landing_21 (by decide) ⟨by decide, by decide⟩ (fun _ => ?_) (fun q => absurd q (by decide))
        refine zi_push M dX7_landing_39 ?_
        refine lv_istore (lv' := [(7, .int (iI 0)), (6, .int (iI 1)), (0, .ref (ad 0)), (1, .int (iI q)), (2, .int (iI g)), (3, .int (iI a)), (4, .int (iI f)), (5, .int (iI n))]) M.1 M.2.1 dX7_landing_40 hl (by decide) rfl (fun ls hl => ?_)
        refine lv_aload_n M.1 M.2.1 dX7_landing_42 rfl (lv_at hl 2 rfl) ?_
        refine lv_iload M.1 M.2.1 dX7_landing_43 (lv_at hl 1 rfl) ?_
        refine zi_if_ne (tgt := 52) M dX7_landing_45 (by decide) ⟨by decide, by decide⟩ (fun _ => ?_) (fun q => absurd q (by decide))
        refine lv_iload M.1 M.2.1 dX7_landing_52 (lv_at hl 0 rfl) ?_
        refine zi_if_eq (tgt := 61) M dX7_landing_54 (by decide) ⟨by decide, by decide⟩ (fun _ => ?_) (fun q => absurd q (by decide))
        refine zi_push M dX7_landing_61 ?_
        refine z_cW (z_runV (As := [.int (iI 2)]) (rest := []) M (c_X7_goesWell l D cy z0 ad th h su st sh fl ic sn bn fm fr cm em lg le lf dl cS cH sea noi pl pw an hd bp bo bw c1 c2 c3 c4 c5 e1 e2 e3 e4 e5 2 (by omega)) hE hS hAz (z_cut hP hD hAz [0, 1, 2, 3, 4, 5, 6, 7, 8, 9, 10, 11, 12, 13, 14, 15, 16, 17, 18, 19, 20, 21] rfl (by decide +kernel)) (zRc.of (ci := 7) (q0 := 0) hE hP rfl rfl) zk_cd_X7_goesWell zk_in_RX7 zk_im_X7_goesWell zk_se_X7_goesWell zk_ml_RX7_88 rfl rfl zd_X7_goesWell ⟨by decide, by decide⟩ rfl hl.1 rfl (Nat.le_of_ble_eq_true rfl) dX7_landing_62 ⟨by decide, by decide⟩) hP hD hS [0, 1, 2, 3, 4, 5, 6, 7, 8, 9, 10, 11, 12, 13, 14, 15, 16, 17, 18, 19, 20, 21] rfl (fun _ => rfl) (fun r_7 u_7 H locs hp_7 hP hD hS => ?_)
        have hP : va_P D vwCl (mdlW ad 0 cy 2 h su st sh fl ic sn bn fm fr cm em lg le lf dl cS cH sea noi pl pw an hd bp bo bw c1 c2 c3 c4 c5 e1 e2 e3 e4 e5) H := hP
        have hD : va_D (zIn (mdlW ad 0 cy th h su st sh fl ic sn bn fm fr cm em lg le lf dl cS cH sea noi pl pw an hd bp bo bw c1 c2 c3 c4 c5 e1 e2 e3 e4 e5)) (mdlW ad 0 cy 2 h su st sh fl ic sn bn fm fr cm em lg le lf dl cS cH sea noi pl pw an hd bp bo bw c1 c2 c3 c4 c5 e1 e2 e3 e4 e5) := hD
        subst hp_7
        refine z_rw (b := 0) rfl ?_
        refine zi_if_eq (tgt := 82) M dX7_landing_65 (by decide) ⟨by decide, by decide⟩ (fun _ => ?_) (fun q => absurd q (by decide))
        refine zi_push M dX7_landing_82 ?_
        have hP : va_P D vwCl (mdlW ad 0 cy 2 h su st sh fl ic sn bn fm fr cm em lg le lf dl cS cH sea noi pl pw an hd bp bo bw c1 c2 c3 c4 c5 e1 e2 e3 e4 e5) H := hP
        exact zw_i M hr hlk 2 hP hS (by exact Or.inr (Or.inr (⟨rfl, by omega, rfl⟩))) (by decide) (by decide) dX7_landing_83
    ·
      refine zi_if_eq (tgt := 39) M dX7_landing_13 (by decide) ⟨by decide, by decide⟩ (fun _ => ?_) (fun q => absurd q (by decide))
      refine zi_push M dX7_landing_39 ?_
      refine lv_istore (lv' := [(7, .int (iI 0)), (6, .int (iI 1)), (0, .ref (ad 0)), (1, .int (iI q)), (2, .int (iI g)), (3, .int (iI a)), (4, .int (iI f)), (5, .int (iI n))]) M.1 M.2.1 dX7_landing_40 hl (by decide) rfl (fun ls hl => ?_)
      refine lv_aload_n M.1 M.2.1 dX7_landing_42 rfl (lv_at hl 2 rfl) ?_
      refine lv_iload M.1 M.2.1 dX7_landing_43 (lv_at hl 1 rfl) ?_
      refine zi_if_ne (tgt := 52) M dX7_landing_45 (by decide) ⟨by decide, by decide⟩ (fun _ => ?_) (fun q => absurd q (by decide))
      refine lv_iload M.1 M.2.1 dX7_landing_52 (lv_at hl 0 rfl) ?_
      refine zi_if_eq (tgt := 61) M dX7_landing_54 (by decide) ⟨by decide, by decide⟩ (fun _ => ?_) (fun q => absurd q (by decide))
      refine zi_push M dX7_landing_61 ?_
      refine z_cW (z_runV (As := [.int (iI 2)]) (rest := []) M (c_X7_goesWell l D cy z0 ad th h su st sh fl ic sn bn fm fr cm em lg le lf dl cS cH sea noi pl pw an hd bp bo bw c1 c2 c3 c4 c5 e1 e2 e3 e4 e5 2 (by omega)) hE hS hAz (z_cut hP hD hAz [0, 1, 2, 3, 4, 5, 6, 7, 8, 9, 10, 11, 12, 13, 14, 15, 16, 17, 18, 19, 20, 21] rfl (by decide +kernel)) (zRc.of (ci := 7) (q0 := 0) hE hP rfl rfl) zk_cd_X7_goesWell zk_in_RX7 zk_im_X7_goesWell zk_se_X7_goesWell zk_ml_RX7_88 rfl rfl zd_X7_goesWell ⟨by decide, by decide⟩ rfl hl.1 rfl (Nat.le_of_ble_eq_true rfl) dX7_landing_62 ⟨by decide, by decide⟩) hP hD hS [0, 1, 2, 3, 4, 5, 6, 7, 8, 9, 10, 11, 12, 13, 14, 15, 16, 17, 18, 19, 20, 21] rfl (fun _ => rfl) (fun r_8 u_8 H locs hp_8 hP hD hS => ?_)
      have hP : va_P D vwCl (mdlW ad 0 cy 2 h su st sh fl ic sn bn fm fr cm em lg le lf dl cS cH sea noi pl pw an hd bp bo bw c1 c2 c3 c4 c5 e1 e2 e3 e4 e5) H := hP
      have hD : va_D (zIn (mdlW ad 0 cy th h su st sh fl ic sn bn fm fr cm em lg le lf dl cS cH sea noi pl pw an hd bp bo bw c1 c2 c3 c4 c5 e1 e2 e3 e4 e5)) (mdlW ad 0 cy 2 h su st sh fl ic sn bn fm fr cm em lg le lf dl cS cH sea noi pl pw an hd bp bo bw c1 c2 c3 c4 c5 e1 e2 e3 e4 e5) := hD
      subst hp_8
      refine z_rw (b := 0) rfl ?_
      refine zi_if_eq (tgt := 82) M dX7_landing_65 (by decide) ⟨by decide, by decide⟩ (fun _ => ?_) (fun q => absurd q (by decide))
      refine zi_push M dX7_landing_82 ?_
      have hP : va_P D vwCl (mdlW ad 0 cy 2 h su st sh fl ic sn bn fm fr cm em lg le lf dl cS cH sea noi pl pw an hd bp bo bw c1 c2 c3 c4 c5 e1 e2 e3 e4 e5) H := hP
      exact zw_i M hr hlk 2 hP hS (by exact Or.inr (Or.inr (⟨rfl, by omega, rfl⟩))) (by decide) (by decide) dX7_landing_83
  ·
    refine lv_istore (lv' := [(6, .int (iI 0)), (0, .ref (ad 0)), (1, .int (iI q)), (2, .int (iI g)), (3, .int (iI a)), (4, .int (iI f)), (5, .int (iI n))]) M.1 M.2.1 dX7_landing_4 hl (by decide) rfl (fun ls hl => ?_)
    refine lv_iload_n M.1 M.2.1 dX7_landing_6 rfl (lv_at hl 4 rfl) ?_
    refine zi_push M dX7_landing_7 ?_
    refine zi_bipush M dX7_landing_8 ⟨by decide, by decide⟩ ?_
    refine z_cR (z_runS (As := [.int (iI a), .int (iI 1), .int (iI 9)]) (rest := []) M (c_X7_in l D cy z0 a 1 9 (by omega) (by omega) (by omega)) hE hS hAz trivial zk_cd_X7_in zk_in_RX7 zk_st_X7_in zk_ml_RX7_81 rfl rfl zd_X7_in ⟨by decide, by decide⟩ rfl hl.1 rfl (Nat.le_of_ble_eq_true rfl) dX7_landing_10 ⟨by decide, by decide⟩) ?_
    refine zi_b (P := 1 ≤ a ∧ a ≤ 9) (g := fun r => F0 m 13 ls (.int r :: [])) (fun b_9 => ?_) (fun b_9 => ?_)
    ·
      refine zi_if_eq (tgt := 39) M dX7_landing_13 (by decide) ⟨by decide, by decide⟩ (fun q => absurd q (by decide)) (fun _ => ?_)
      refine lv_iload M.1 M.2.1 dX7_landing_16 (lv_at hl 5 rfl) ?_
      refine z_cR (z_runS (As := [.int (iI f)]) (rest := []) M (c_X7_isOn l D cy z0 f (by omega)) hE hS hAz trivial zk_cd_X7_isOn zk_in_RX7 zk_st_X7_isOn zk_ml_RX7_152 rfl rfl zd_X7_isOn ⟨by decide, by decide⟩ rfl hl.1 rfl (Nat.le_of_ble_eq_true rfl) dX7_landing_18 ⟨by decide, by decide⟩) ?_
      refine zi_b (P := 10 ≤ f ∧ f ≤ 300) (g := fun r => F0 m 21 ls (.int r :: [])) (fun b_10 => ?_) (fun b_10 => ?_)
      ·
        refine zi_if_eq (tgt := 39) M dX7_landing_21 (by decide) ⟨by decide, by decide⟩ (fun q => absurd q (by decide)) (fun _ => ?_)
        refine lv_iload M.1 M.2.1 dX7_landing_24 (lv_at hl 6 rfl) ?_
        refine zi_push M dX7_landing_26 ?_
        refine zi_bipush M dX7_landing_27 ⟨by decide, by decide⟩ ?_
        refine z_cR (z_runS (As := [.int (iI n), .int (iI 1), .int (iI 10)]) (rest := []) M (c_X7_in l D cy z0 n 1 10 (by omega) (by omega) (by omega)) hE hS hAz trivial zk_cd_X7_in zk_in_RX7 zk_st_X7_in zk_ml_RX7_81 rfl rfl zd_X7_in ⟨by decide, by decide⟩ rfl hl.1 rfl (Nat.le_of_ble_eq_true rfl) dX7_landing_29 ⟨by decide, by decide⟩) ?_
        refine zi_b (P := 1 ≤ n ∧ n ≤ 10) (g := fun r => F0 m 32 ls (.int r :: [])) (fun b_11 => ?_) (fun b_11 => ?_)
        ·
          refine zi_if_eq (tgt := 39) M dX7_landing_32 (by decide) ⟨by decide, by decide⟩ (fun q => absurd q (by decide)) (fun _ => ?_)
          refine zi_push M dX7_landing_35 ?_
          refine zi_goto (tgt := 40) M dX7_landing_36 (by decide) ?_
          refine lv_istore (lv' := [(7, .int (iI 1)), (6, .int (iI 0)), (0, .ref (ad 0)), (1, .int (iI q)), (2, .int (iI g)), (3, .int (iI a)), (4, .int (iI f)), (5, .int (iI n))]) M.1 M.2.1 dX7_landing_40 hl (by decide) rfl (fun ls hl => ?_)
          refine lv_aload_n M.1 M.2.1 dX7_landing_42 rfl (lv_at hl 2 rfl) ?_
          refine lv_iload M.1 M.2.1 dX7_landing_43 (lv_at hl 1 rfl) ?_
          refine zi_if_ne (tgt := 52) M dX7_landing_45 (by decide) ⟨by decide, by decide⟩ (fun q => absurd q (by decide)) (fun _ => ?_)
          refine zi_push M dX7_landing_48 ?_
          refine zi_goto (tgt := 62) M dX7_landing_49 (by decide) ?_
          refine z_cW (z_runV (As := [.int (iI 1)]) (rest := []) M (c_X7_goesWell l D cy z0 ad th h su st sh fl ic sn bn fm fr cm em lg le lf dl cS cH sea noi pl pw an hd bp bo bw c1 c2 c3 c4 c5 e1 e2 e3 e4 e5 1 (by omega)) hE hS hAz (z_cut hP hD hAz [0, 1, 2, 3, 4, 5, 6, 7, 8, 9, 10, 11, 12, 13, 14, 15, 16, 17, 18, 19, 20, 21] rfl (by decide +kernel)) (zRc.of (ci := 7) (q0 := 0) hE hP rfl rfl) zk_cd_X7_goesWell zk_in_RX7 zk_im_X7_goesWell zk_se_X7_goesWell zk_ml_RX7_88 rfl rfl zd_X7_goesWell ⟨by decide, by decide⟩ rfl hl.1 rfl (Nat.le_of_ble_eq_true rfl) dX7_landing_62 ⟨by decide, by decide⟩) hP hD hS [0, 1, 2, 3, 4, 5, 6, 7, 8, 9, 10, 11, 12, 13, 14, 15, 16, 17, 18, 19, 20, 21] rfl (fun _ => rfl) (fun r_12 u_12 H locs hp_12 hP hD hS => ?_)
          have hP : va_P D vwCl (mdlW ad 0 cy 1 h su st sh fl ic sn bn fm fr cm em lg le lf dl cS cH sea noi pl pw an hd bp bo bw c1 c2 c3 c4 c5 e1 e2 e3 e4 e5) H := hP
          have hD : va_D (zIn (mdlW ad 0 cy th h su st sh fl ic sn bn fm fr cm em lg le lf dl cS cH sea noi pl pw an hd bp bo bw c1 c2 c3 c4 c5 e1 e2 e3 e4 e5)) (mdlW ad 0 cy 1 h su st sh fl ic sn bn fm fr cm em lg le lf dl cS cH sea noi pl pw an hd bp bo bw c1 c2 c3 c4 c5 e1 e2 e3 e4 e5) := hD
          subst hp_12
          refine z_rw (b := 0) rfl ?_
          refine zi_if_eq (tgt := 82) M dX7_landing_65 (by decide) ⟨by decide, by decide⟩ (fun _ => ?_) (fun q => absurd q (by decide))
          refine zi_push M dX7_landing_82 ?_
          have hP : va_P D vwCl (mdlW ad 0 cy 1 h su st sh fl ic sn bn fm fr cm em lg le lf dl cS cH sea noi pl pw an hd bp bo bw c1 c2 c3 c4 c5 e1 e2 e3 e4 e5) H := hP
          exact zw_i M hr hlk 1 hP hS (by exact Or.inr (Or.inl (⟨rfl, by omega, rfl⟩))) (by decide) (by decide) dX7_landing_83
        ·
          refine zi_if_eq (tgt := 39) M dX7_landing_32 (by decide) ⟨by decide, by decide⟩ (fun _ => ?_) (fun q => absurd q (by decide))
          refine zi_push M dX7_landing_39 ?_
          refine lv_istore (lv' := [(7, .int (iI 0)), (6, .int (iI 0)), (0, .ref (ad 0)), (1, .int (iI q)), (2, .int (iI g)), (3, .int (iI a)), (4, .int (iI f)), (5, .int (iI n))]) M.1 M.2.1 dX7_landing_40 hl (by decide) rfl (fun ls hl => ?_)
          refine lv_aload_n M.1 M.2.1 dX7_landing_42 rfl (lv_at hl 2 rfl) ?_
          refine lv_iload M.1 M.2.1 dX7_landing_43 (lv_at hl 1 rfl) ?_
          refine zi_if_ne (tgt := 52) M dX7_landing_45 (by decide) ⟨by decide, by decide⟩ (fun q => absurd q (by decide)) (fun _ => ?_)
          refine zi_push M dX7_landing_48 ?_
          refine zi_goto (tgt := 62) M dX7_landing_49 (by decide) ?_
          refine z_cW (z_runV (As := [.int (iI 1)]) (rest := []) M (c_X7_goesWell l D cy z0 ad th h su st sh fl ic sn bn fm fr cm em lg le lf dl cS cH sea noi pl pw an hd bp bo bw c1 c2 c3 c4 c5 e1 e2 e3 e4 e5 1 (by omega)) hE hS hAz (z_cut hP hD hAz [0, 1, 2, 3, 4, 5, 6, 7, 8, 9, 10, 11, 12, 13, 14, 15, 16, 17, 18, 19, 20, 21] rfl (by decide +kernel)) (zRc.of (ci := 7) (q0 := 0) hE hP rfl rfl) zk_cd_X7_goesWell zk_in_RX7 zk_im_X7_goesWell zk_se_X7_goesWell zk_ml_RX7_88 rfl rfl zd_X7_goesWell ⟨by decide, by decide⟩ rfl hl.1 rfl (Nat.le_of_ble_eq_true rfl) dX7_landing_62 ⟨by decide, by decide⟩) hP hD hS [0, 1, 2, 3, 4, 5, 6, 7, 8, 9, 10, 11, 12, 13, 14, 15, 16, 17, 18, 19, 20, 21] rfl (fun _ => rfl) (fun r_13 u_13 H locs hp_13 hP hD hS => ?_)
          have hP : va_P D vwCl (mdlW ad 0 cy 1 h su st sh fl ic sn bn fm fr cm em lg le lf dl cS cH sea noi pl pw an hd bp bo bw c1 c2 c3 c4 c5 e1 e2 e3 e4 e5) H := hP
          have hD : va_D (zIn (mdlW ad 0 cy th h su st sh fl ic sn bn fm fr cm em lg le lf dl cS cH sea noi pl pw an hd bp bo bw c1 c2 c3 c4 c5 e1 e2 e3 e4 e5)) (mdlW ad 0 cy 1 h su st sh fl ic sn bn fm fr cm em lg le lf dl cS cH sea noi pl pw an hd bp bo bw c1 c2 c3 c4 c5 e1 e2 e3 e4 e5) := hD
          subst hp_13
          refine z_rw (b := 0) rfl ?_
          refine zi_if_eq (tgt := 82) M dX7_landing_65 (by decide) ⟨by decide, by decide⟩ (fun _ => ?_) (fun q => absurd q (by decide))
          refine zi_push M dX7_landing_82 ?_
          have hP : va_P D vwCl (mdlW ad 0 cy 1 h su st sh fl ic sn bn fm fr cm em lg le lf dl cS cH sea noi pl pw an hd bp bo bw c1 c2 c3 c4 c5 e1 e2 e3 e4 e5) H := hP
          exact zw_i M hr hlk 1 hP hS (by exact Or.inr (Or.inl (⟨rfl, by omega, rfl⟩))) (by decide) (by decide) dX7_landing_83
      ·
        refine zi_if_eq (tgt := 39) M dX7_landing_21 (by decide) ⟨by decide, by decide⟩ (fun _ => ?_) (fun q => absurd q (by decide))
        refine zi_push M dX7_landing_39 ?_
        refine lv_istore (lv' := [(7, .int (iI 0)), (6, .int (iI 0)), (0, .ref (ad 0)), (1, .int (iI q)), (2, .int (iI g)), (3, .int (iI a)), (4, .int (iI f)), (5, .int (iI n))]) M.1 M.2.1 dX7_landing_40 hl (by decide) rfl (fun ls hl => ?_)
        refine lv_aload_n M.1 M.2.1 dX7_landing_42 rfl (lv_at hl 2 rfl) ?_
        refine lv_iload M.1 M.2.1 dX7_landing_43 (lv_at hl 1 rfl) ?_
        refine zi_if_ne (tgt := 52) M dX7_landing_45 (by decide) ⟨by decide, by decide⟩ (fun q => absurd q (by decide)) (fun _ => ?_)
        refine zi_push M dX7_landing_48 ?_
        refine zi_goto (tgt := 62) M dX7_landing_49 (by decide) ?_
        refine z_cW (z_runV (As := [.int (iI 1)]) (rest := []) M (c_X7_goesWell l D cy z0 ad th h su st sh fl ic sn bn fm fr cm em lg le lf dl cS cH sea noi pl pw an hd bp bo bw c1 c2 c3 c4 c5 e1 e2 e3 e4 e5 1 (by omega)) hE hS hAz (z_cut hP hD hAz [0, 1, 2, 3, 4, 5, 6, 7, 8, 9, 10, 11, 12, 13, 14, 15, 16, 17, 18, 19, 20, 21] rfl (by decide +kernel)) (zRc.of (ci := 7) (q0 := 0) hE hP rfl rfl) zk_cd_X7_goesWell zk_in_RX7 zk_im_X7_goesWell zk_se_X7_goesWell zk_ml_RX7_88 rfl rfl zd_X7_goesWell ⟨by decide, by decide⟩ rfl hl.1 rfl (Nat.le_of_ble_eq_true rfl) dX7_landing_62 ⟨by decide, by decide⟩) hP hD hS [0, 1, 2, 3, 4, 5, 6, 7, 8, 9, 10, 11, 12, 13, 14, 15, 16, 17, 18, 19, 20, 21] rfl (fun _ => rfl) (fun r_14 u_14 H locs hp_14 hP hD hS => ?_)
        have hP : va_P D vwCl (mdlW ad 0 cy 1 h su st sh fl ic sn bn fm fr cm em lg le lf dl cS cH sea noi pl pw an hd bp bo bw c1 c2 c3 c4 c5 e1 e2 e3 e4 e5) H := hP
        have hD : va_D (zIn (mdlW ad 0 cy th h su st sh fl ic sn bn fm fr cm em lg le lf dl cS cH sea noi pl pw an hd bp bo bw c1 c2 c3 c4 c5 e1 e2 e3 e4 e5)) (mdlW ad 0 cy 1 h su st sh fl ic sn bn fm fr cm em lg le lf dl cS cH sea noi pl pw an hd bp bo bw c1 c2 c3 c4 c5 e1 e2 e3 e4 e5) := hD
        subst hp_14
        refine z_rw (b := 0) rfl ?_
        refine zi_if_eq (tgt := 82) M dX7_landing_65 (by decide) ⟨by decide, by decide⟩ (fun _ => ?_) (fun q => absurd q (by decide))
        refine zi_push M dX7_landing_82 ?_
        have hP : va_P D vwCl (mdlW ad 0 cy 1 h su st sh fl ic sn bn fm fr cm em lg le lf dl cS cH sea noi pl pw an hd bp bo bw c1 c2 c3 c4 c5 e1 e2 e3 e4 e5) H := hP
        exact zw_i M hr hlk 1 hP hS (by exact Or.inr (Or.inl (⟨rfl, by omega, rfl⟩))) (by decide) (by decide) dX7_landing_83
    ·
      refine zi_if_eq (tgt := 39) M dX7_landing_13 (by decide) ⟨by decide, by decide⟩ (fun _ => ?_) (fun q => absurd q (by decide))
      refine zi_push M dX7_landing_39 ?_
      refine lv_istore (lv' := [(7, .int (iI 0)), (6, .int (iI 0)), (0, .ref (ad 0)), (1, .int (iI q)), (2, .int (iI g)), (3, .int (iI a)), (4, .int (iI f)), (5, .int (iI n))]) M.1 M.2.1 dX7_landing_40 hl (by decide) rfl (fun ls hl => ?_)
      refine lv_aload_n M.1 M.2.1 dX7_landing_42 rfl (lv_at hl 2 rfl) ?_
      refine lv_iload M.1 M.2.1 dX7_landing_43 (lv_at hl 1 rfl) ?_
      refine zi_if_ne (tgt := 52) M dX7_landing_45 (by decide) ⟨by decide, by decide⟩ (fun q => absurd q (by decide)) (fun _ => ?_)
      refine zi_push M dX7_landing_48 ?_
      refine zi_goto (tgt := 62) M dX7_landing_49 (by decide) ?_
      refine z_cW (z_runV (As := [.int (iI 1)]) (rest := []) M (c_X7_goesWell l D cy z0 ad th h su st sh fl ic sn bn fm fr cm em lg le lf dl cS cH sea noi pl pw an hd bp bo bw c1 c2 c3 c4 c5 e1 e2 e3 e4 e5 1 (by omega)) hE hS hAz (z_cut hP hD hAz [0, 1, 2, 3, 4, 5, 6, 7, 8, 9, 10, 11, 12, 13, 14, 15, 16, 17, 18, 19, 20, 21] rfl (by decide +kernel)) (zRc.of (ci := 7) (q0 := 0) hE hP rfl rfl) zk_cd_X7_goesWell zk_in_RX7 zk_im_X7_goesWell zk_se_X7_goesWell zk_ml_RX7_88 rfl rfl zd_X7_goesWell ⟨by decide, by decide⟩ rfl hl.1 rfl (Nat.le_of_ble_eq_true rfl) dX7_landing_62 ⟨by decide, by decide⟩) hP hD hS [0, 1, 2, 3, 4, 5, 6, 7, 8, 9, 10, 11, 12, 13, 14, 15, 16, 17, 18, 19, 20, 21] rfl (fun _ => rfl) (fun r_15 u_15 H locs hp_15 hP hD hS => ?_)
      have hP : va_P D vwCl (mdlW ad 0 cy 1 h su st sh fl ic sn bn fm fr cm em lg le lf dl cS cH sea noi pl pw an hd bp bo bw c1 c2 c3 c4 c5 e1 e2 e3 e4 e5) H := hP
      have hD : va_D (zIn (mdlW ad 0 cy th h su st sh fl ic sn bn fm fr cm em lg le lf dl cS cH sea noi pl pw an hd bp bo bw c1 c2 c3 c4 c5 e1 e2 e3 e4 e5)) (mdlW ad 0 cy 1 h su st sh fl ic sn bn fm fr cm em lg le lf dl cS cH sea noi pl pw an hd bp bo bw c1 c2 c3 c4 c5 e1 e2 e3 e4 e5) := hD
      subst hp_15
      refine z_rw (b := 0) rfl ?_
      refine zi_if_eq (tgt := 82) M dX7_landing_65 (by decide) ⟨by decide, by decide⟩ (fun _ => ?_) (fun q => absurd q (by decide))
      refine zi_push M dX7_landing_82 ?_
      have hP : va_P D vwCl (mdlW ad 0 cy 1 h su st sh fl ic sn bn fm fr cm em lg le lf dl cS cH sea noi pl pw an hd bp bo bw c1 c2 c3 c4 c5 e1 e2 e3 e4 e5) H := hP
      exact zw_i M hr hlk 1 hP hS (by exact Or.inr (Or.inl (⟨rfl, by omega, rfl⟩))) (by decide) (by decide) dX7_landing_83

set_option maxRecDepth 100000 in
set_option maxHeartbeats 4000000 in
theorem c_X7_landingAnew (l : Launch) (D : va_G) (cy : Nat → ClassId) (z0 : Nat) (ad : Nat → Nat) (th h su st sh fl ic sn bn fm fr cm em lg le lf dl : Int) (cS cH sea noi pl pw an hd bp bo bw c1 c2 c3 c4 c5 e1 e2 e3 e4 e5 : Int → Int) (q : Int) (g : Int) (a : Int) (f : Int) (n : Int) (r_q : r32 q) (r_a : r32 a) (r_f : r32 f) (r_n : r32 n) (hg : 0 ≤ g ∧ g ≤ 1) (h_h : 0 ≤ h ∧ h ≤ 5000) (h_su : 0 ≤ su ∧ su ≤ 100) (h_st : 0 ≤ st ∧ st ≤ 60) (h_fl : 0 ≤ fl ∧ fl ≤ 80) (h_cS : zrg 48 0 100 cS) (h_ic : 0 ≤ ic ∧ ic ≤ 1) : Met l yX7_landingAnew [.code yX7_landingAnew cX7_landingAnew 8 (some .int)] (zRm 5 0 0 124) (zPc [.ref (ad 0), .int (iI q), .int (iI g), .int (iI a), .int (iI f), .int (iI n)] D cy z0 (zWl D z0 (mdlW ad 0 cy th h su st sh fl ic sn bn fm fr cm em lg le lf dl cS cH sea noi pl pw an hd bp bo bw c1 c2 c3 c4 c5 e1 e2 e3 e4 e5))) (zQ1 D (mdlW ad 0 cy th h su st sh fl ic sn bn fm fr cm em lg le lf dl cS cH sea noi pl pw an hd bp bo bw c1 c2 c3 c4 c5 e1 e2 e3 e4 e5) (fun (r : Int32) (u : Int) => (u = 0 ∧ ((0 ≤ q ∧ q < 48) ∧ ((1 ≤ a ∧ a ≤ 9) ∧ (10 ≤ f ∧ f ≤ 300) ∧ (1 ≤ n ∧ n ≤ 10))) ∧ r = iI (landZ (mdE ic h cS) (mdF ic h su st) g a f n.toNat q)) ∨ (u = 1 ∧ (¬ (0 ≤ q ∧ q < 48)) ∧ r = iI 0) ∨ (u = 2 ∧ ((0 ≤ q ∧ q < 48) ∧ ¬ ((1 ≤ a ∧ a ≤ 9) ∧ (10 ≤ f ∧ f ≤ 300) ∧ (1 ≤ n ∧ n ≤ 10))) ∧ r = iI 0)) (fun (u : Int) => (mdlW ad 0 cy u h su st sh fl ic sn bn fm fr cm em lg le lf dl cS cH sea noi pl pw an hd bp bo bw c1 c2 c3 c4 c5 e1 e2 e3 e4 e5))) 0 0 (zIn (mdlW ad 0 cy th h su st sh fl ic sn bn fm fr cm em lg le lf dl cS cH sea noi pl pw an hd bp bo bw c1 c2 c3 c4 c5 e1 e2 e3 e4 e5)) := by
  refine z_of (by decide) (Nat.le_of_ble_eq_true rfl) ?_
  intro p e s m args below meth c M hr hlk hini hargs hP0 hE ls hl
  have hP : va_P D vwCl (mdlW ad 0 cy th h su st sh fl ic sn bn fm fr cm em lg le lf dl cS cH sea noi pl pw an hd bp bo bw c1 c2 c3 c4 c5 e1 e2 e3 e4 e5) s.heap := hP0.1
  have hD : va_D (zIn (mdlW ad 0 cy th h su st sh fl ic sn bn fm fr cm em lg le lf dl cS cH sea noi pl pw an hd bp bo bw c1 c2 c3 c4 c5 e1 e2 e3 e4 e5)) (mdlW ad 0 cy th h su st sh fl ic sn bn fm fr cm em lg le lf dl cS cH sea noi pl pw an hd bp bo bw c1 c2 c3 c4 c5 e1 e2 e3 e4 e5) := hP0.self
  have hAz := hP0.A
  have hS : va_S (zIn (mdlW ad 0 cy th h su st sh fl ic sn bn fm fr cm em lg le lf dl cS cH sea noi pl pw an hd bp bo bw c1 c2 c3 c4 c5 e1 e2 e3 e4 e5)) s.heap s.heap [] := va_S.rf
  have hl : lv_has ls 8 [(0, .ref (ad 0)), (1, .int (iI q)), (2, .int (iI g)), (3, .int (iI a)), (4, .int (iI f)), (5, .int (iI n))] := hl
  refine lv_iload_n M.1 M.2.1 dX7_landingAnew_0 rfl (lv_at hl 1 rfl) ?_
  refine z_cR (z_runS (As := [.int (iI q)]) (rest := []) M (c_X7_isPlace l D cy z0 q (by omega)) hE hS hAz trivial zk_cd_X7_isPlace zk_in_RX7 zk_st_X7_isPlace zk_ml_RX7_101 rfl rfl zd_X7_isPlace ⟨by decide, by decide⟩ rfl hl.1 rfl (Nat.le_of_ble_eq_true rfl) dX7_landingAnew_1 ⟨by decide, by decide⟩) ?_
  refine zi_b (P := 0 ≤ q ∧ q ≤ 47) (g := fun r => F0 m 4 ls (.int r :: [])) (fun b_1 => ?_) (fun b_1 => ?_)
  ·
    refine lv_istore (lv' := [(6, .int (iI 1)), (0, .ref (ad 0)), (1, .int (iI q)), (2, .int (iI g)), (3, .int (iI a)), (4, .int (iI f)), (5, .int (iI n))]) M.1 M.2.1 dX7_landingAnew_4 hl (by decide) rfl (fun ls hl => ?_)
    refine lv_iload_n M.1 M.2.1 dX7_landingAnew_6 rfl (lv_at hl 4 rfl) ?_
    refine zi_push M dX7_landingAnew_7 ?_
    refine zi_bipush M dX7_landingAnew_8 ⟨by decide, by decide⟩ ?_
    refine z_cR (z_runS (As := [.int (iI a), .int (iI 1), .int (iI 9)]) (rest := []) M (c_X7_in l D cy z0 a 1 9 (by omega) (by omega) (by omega)) hE hS hAz trivial zk_cd_X7_in zk_in_RX7 zk_st_X7_in zk_ml_RX7_81 rfl rfl zd_X7_in ⟨by decide, by decide⟩ rfl hl.1 rfl (Nat.le_of_ble_eq_true rfl) dX7_landingAnew_10 ⟨by decide, by decide⟩) ?_
    refine zi_b (P := 1 ≤ a ∧ a ≤ 9) (g := fun r => F0 m 13 ls (.int r :: [])) (fun b_2 => ?_) (fun b_2 => ?_)
    ·
      refine zi_if_eq (tgt := 39) M dX7_landingAnew_13 (by decide) ⟨by decide, by decide⟩ (fun q => absurd q (by decide)) (fun _ => ?_)
      refine lv_iload M.1 M.2.1 dX7_landingAnew_16 (lv_at hl 5 rfl) ?_
      refine z_cR (z_runS (As := [.int (iI f)]) (rest := []) M (c_X7_isOn l D cy z0 f (by omega)) hE hS hAz trivial zk_cd_X7_isOn zk_in_RX7 zk_st_X7_isOn zk_ml_RX7_152 rfl rfl zd_X7_isOn ⟨by decide, by decide⟩ rfl hl.1 rfl (Nat.le_of_ble_eq_true rfl) dX7_landingAnew_18 ⟨by decide, by decide⟩) ?_
      refine zi_b (P := 10 ≤ f ∧ f ≤ 300) (g := fun r => F0 m 21 ls (.int r :: [])) (fun b_3 => ?_) (fun b_3 => ?_)
      ·
        refine zi_if_eq (tgt := 39) M dX7_landingAnew_21 (by decide) ⟨by decide, by decide⟩ (fun q => absurd q (by decide)) (fun _ => ?_)
        refine lv_iload M.1 M.2.1 dX7_landingAnew_24 (lv_at hl 6 rfl) ?_
        refine zi_push M dX7_landingAnew_26 ?_
        refine zi_bipush M dX7_landingAnew_27 ⟨by decide, by decide⟩ ?_
        refine z_cR (z_runS (As := [.int (iI n), .int (iI 1), .int (iI 10)]) (rest := []) M (c_X7_in l D cy z0 n 1 10 (by omega) (by omega) (by omega)) hE hS hAz trivial zk_cd_X7_in zk_in_RX7 zk_st_X7_in zk_ml_RX7_81 rfl rfl zd_X7_in ⟨by decide, by decide⟩ rfl hl.1 rfl (Nat.le_of_ble_eq_true rfl) dX7_landingAnew_29 ⟨by decide, by decide⟩) ?_
        refine zi_b (P := 1 ≤ n ∧ n ≤ 10) (g := fun r => F0 m 32 ls (.int r :: [])) (fun b_4 => ?_) (fun b_4 => ?_)
        ·
          refine zi_if_eq (tgt := 39) M dX7_landingAnew_32 (by decide) ⟨by decide, by decide⟩ (fun q => absurd q (by decide)) (fun _ => ?_)
          refine zi_push M dX7_landingAnew_35 ?_
          refine zi_goto (tgt := 40) M dX7_landingAnew_36 (by decide) ?_
          refine lv_istore (lv' := [(7, .int (iI 1)), (6, .int (iI 1)), (0, .ref (ad 0)), (1, .int (iI q)), (2, .int (iI g)), (3, .int (iI a)), (4, .int (iI f)), (5, .int (iI n))]) M.1 M.2.1 dX7_landingAnew_40 hl (by decide) rfl (fun ls hl => ?_)
          refine lv_aload_n M.1 M.2.1 dX7_landingAnew_42 rfl (lv_at hl 2 rfl) ?_
          refine lv_iload M.1 M.2.1 dX7_landingAnew_43 (lv_at hl 1 rfl) ?_
          refine zi_if_ne (tgt := 52) M dX7_landingAnew_45 (by decide) ⟨by decide, by decide⟩ (fun _ => ?_) (fun q => absurd q (by decide))
          refine lv_iload M.1 M.2.1 dX7_landingAnew_52 (lv_at hl 0 rfl) ?_
          refine zi_if_eq (tgt := 61) M dX7_landingAnew_54 (by decide) ⟨by decide, by decide⟩ (fun q => absurd q (by decide)) (fun _ => ?_)
          refine zi_push M dX7_landingAnew_57 ?_
          refine zi_goto (tgt := 62) M dX7_landingAnew_58 (by decide) ?_
          refine z_cW (z_runV (As := [.int (iI 0)]) (rest := []) M (c_X7_goesWell l D cy z0 ad th h su st sh fl ic sn bn fm fr cm em lg le lf dl cS cH sea noi pl pw an hd bp bo bw c1 c2 c3 c4 c5 e1 e2 e3 e4 e5 0 (by omega)) hE hS hAz (z_cut hP hD hAz [0, 1, 2, 3, 4, 5, 6, 7, 8, 9, 10, 11, 12, 13, 14, 15, 16, 17, 18, 19, 20, 21] rfl (by decide +kernel)) (zRc.of (ci := 7) (q0 := 0) hE hP rfl rfl) zk_cd_X7_goesWell zk_in_RX7 zk_im_X7_goesWell zk_se_X7_goesWell zk_ml_RX7_88 rfl rfl zd_X7_goesWell ⟨by decide, by decide⟩ rfl hl.1 rfl (Nat.le_of_ble_eq_true rfl) dX7_landingAnew_62 ⟨by decide, by decide⟩) hP hD hS [0, 1, 2, 3, 4, 5, 6, 7, 8, 9, 10, 11, 12, 13, 14, 15, 16, 17, 18, 19, 20, 21] rfl (fun _ => rfl) (fun r_5 u_5 H locs hp_5 hP hD hS => ?_)
          have hP : va_P D vwCl (mdlW ad 0 cy 0 h su st sh fl ic sn bn fm fr cm em lg le lf dl cS cH sea noi pl pw an hd bp bo bw c1 c2 c3 c4 c5 e1 e2 e3 e4 e5) H := hP
          have hD : va_D (zIn (mdlW ad 0 cy th h su st sh fl ic sn bn fm fr cm em lg le lf dl cS cH sea noi pl pw an hd bp bo bw c1 c2 c3 c4 c5 e1 e2 e3 e4 e5)) (mdlW ad 0 cy 0 h su st sh fl ic sn bn fm fr cm em lg le lf dl cS cH sea noi pl pw an hd bp bo bw c1 c2 c3 c4 c5 e1 e2 e3 e4 e5) := hD
          subst hp_5
          refine z_rw (b := 1) rfl ?_
          refine zi_if_eq (tgt := 82) M dX7_landingAnew_65 (by decide) ⟨by decide, by decide⟩ (fun q => absurd q (by decide)) (fun _ => ?_)
          refine lv_aload_n M.1 M.2.1 dX7_landingAnew_68 rfl (lv_at hl 2 rfl) ?_
          refine lv_iload_n M.1 M.2.1 dX7_landingAnew_69 rfl (lv_at hl 3 rfl) ?_
          refine lv_iload_n M.1 M.2.1 dX7_landingAnew_70 rfl (lv_at hl 4 rfl) ?_
          refine lv_iload_n M.1 M.2.1 dX7_landingAnew_71 rfl (lv_at hl 5 rfl) ?_
          refine lv_iload M.1 M.2.1 dX7_landingAnew_72 (lv_at hl 6 rfl) ?_
          refine lv_iload M.1 M.2.1 dX7_landingAnew_74 (lv_at hl 7 rfl) ?_
          refine z_cR (z_runV (As := [.int (iI q), .int (iI g), .int (iI a), .int (iI f), .int (iI n)]) (rest := []) M (c_X7_landed l D cy z0 ad 0 h su st sh fl ic sn bn fm fr cm em lg le lf dl cS cH sea noi pl pw an hd bp bo bw c1 c2 c3 c4 c5 e1 e2 e3 e4 e5 q g a f n (by omega) (by omega) (by omega) (by omega) (by omega) (by omega) (by omega) (by omega) (by omega) (by omega) (by omega)) hE hS hAz hP (zRc.of (ci := 7) (q0 := 0) hE hP rfl rfl) zk_cd_X7_landed zk_in_RX7 zk_im_X7_landed zk_se_X7_landed zk_ml_RX7_155 rfl rfl zd_X7_landed ⟨by decide, by decide⟩ rfl hl.1 rfl (Nat.le_of_ble_eq_true rfl) dX7_landingAnew_76 ⟨by decide, by decide⟩) ?_
          refine zi_goto (tgt := 83) M dX7_landingAnew_79 (by decide) ?_
          have hP : va_P D vwCl (mdlW ad 0 cy 0 h su st sh fl ic sn bn fm fr cm em lg le lf dl cS cH sea noi pl pw an hd bp bo bw c1 c2 c3 c4 c5 e1 e2 e3 e4 e5) H := hP
          exact zw_i M hr hlk 0 hP hS (by exact Or.inl ⟨rfl, by omega, congrArg iI (show ((landZ (mdE ic h cS) (mdF ic h su st) g a f n.toNat q) : Int) = landZ (mdE ic h cS) (mdF ic h su st) g a f n.toNat q by rfl)⟩) (by decide) (by decide) dX7_landingAnew_83
        ·
          refine zi_if_eq (tgt := 39) M dX7_landingAnew_32 (by decide) ⟨by decide, by decide⟩ (fun _ => ?_) (fun q => absurd q (by decide))
          refine zi_push M dX7_landingAnew_39 ?_
          refine lv_istore (lv' := [(7, .int (iI 0)), (6, .int (iI 1)), (0, .ref (ad 0)), (1, .int (iI q)), (2, .int (iI g)), (3, .int (iI a)), (4, .int (iI f)), (5, .int (iI n))]) M.1 M.2.1 dX7_landingAnew_40 hl (by decide) rfl (fun ls hl => ?_)
          refine lv_aload_n M.1 M.2.1 dX7_landingAnew_42 rfl (lv_at hl 2 rfl) ?_
          refine lv_iload M.1 M.2.1 dX7_landingAnew_43 (lv_at hl 1 rfl) ?_
          refine zi_if_ne (tgt := 52) M dX7_landingAnew_45 (by decide) ⟨by decide, by decide⟩ (fun _ => ?_) (fun q => absurd q (by decide))
          refine lv_iload M.1 M.2.1 dX7_landingAnew_52 (lv_at hl 0 rfl) ?_
          refine zi_if_eq (tgt := 61) M dX7_landingAnew_54 (by decide) ⟨by decide, by decide⟩ (fun _ => ?_) (fun q => absurd q (by decide))
          refine zi_push M dX7_landingAnew_61 ?_
          refine z_cW (z_runV (As := [.int (iI 2)]) (rest := []) M (c_X7_goesWell l D cy z0 ad th h su st sh fl ic sn bn fm fr cm em lg le lf dl cS cH sea noi pl pw an hd bp bo bw c1 c2 c3 c4 c5 e1 e2 e3 e4 e5 2 (by omega)) hE hS hAz (z_cut hP hD hAz [0, 1, 2, 3, 4, 5, 6, 7, 8, 9, 10, 11, 12, 13, 14, 15, 16, 17, 18, 19, 20, 21] rfl (by decide +kernel)) (zRc.of (ci := 7) (q0 := 0) hE hP rfl rfl) zk_cd_X7_goesWell zk_in_RX7 zk_im_X7_goesWell zk_se_X7_goesWell zk_ml_RX7_88 rfl rfl zd_X7_goesWell ⟨by decide, by decide⟩ rfl hl.1 rfl (Nat.le_of_ble_eq_true rfl) dX7_landingAnew_62 ⟨by decide, by decide⟩) hP hD hS [0, 1, 2, 3, 4, 5, 6, 7, 8, 9, 10, 11, 12, 13, 14, 15, 16, 17, 18, 19, 20, 21] rfl (fun _ => rfl) (fun r_6 u_6 H locs hp_6 hP hD hS => ?_)
          have hP : va_P D vwCl (mdlW ad 0 cy 2 h su st sh fl ic sn bn fm fr cm em lg le lf dl cS cH sea noi pl pw an hd bp bo bw c1 c2 c3 c4 c5 e1 e2 e3 e4 e5) H := hP
          have hD : va_D (zIn (mdlW ad 0 cy th h su st sh fl ic sn bn fm fr cm em lg le lf dl cS cH sea noi pl pw an hd bp bo bw c1 c2 c3 c4 c5 e1 e2 e3 e4 e5)) (mdlW ad 0 cy 2 h su st sh fl ic sn bn fm fr cm em lg le lf dl cS cH sea noi pl pw an hd bp bo bw c1 c2 c3 c4 c5 e1 e2 e3 e4 e5) := hD
          subst hp_6
          refine z_rw (b := 0) rfl ?_
          refine zi_if_eq (tgt := 82) M dX7_landingAnew_65 (by decide) ⟨by decide, by decide⟩ (fun _ => ?_) (fun q => absurd q (by decide))
          refine zi_push M dX7_landingAnew_82 ?_
          have hP : va_P D vwCl (mdlW ad 0 cy 2 h su st sh fl ic sn bn fm fr cm em lg le lf dl cS cH sea noi pl pw an hd bp bo bw c1 c2 c3 c4 c5 e1 e2 e3 e4 e5) H := hP
          exact zw_i M hr hlk 2 hP hS (by exact Or.inr (Or.inr (⟨rfl, by omega, rfl⟩))) (by decide) (by decide) dX7_landingAnew_83
      ·
        refine zi_if_eq (tgt := 39) M dX7_landingAnew_21 (by decide) ⟨by decide, by decide⟩ (fun _ => ?_) (fun q => absurd q (by decide))
        refine zi_push M dX7_landingAnew_39 ?_
        refine lv_istore (lv' := [(7, .int (iI 0)), (6, .int (iI 1)), (0, .ref (ad 0)), (1, .int (iI q)), (2, .int (iI g)), (3, .int (iI a)), (4, .int (iI f)), (5, .int (iI n))]) M.1 M.2.1 dX7_landingAnew_40 hl (by decide) rfl (fun ls hl => ?_)
        refine lv_aload_n M.1 M.2.1 dX7_landingAnew_42 rfl (lv_at hl 2 rfl) ?_
        refine lv_iload M.1 M.2.1 dX7_landingAnew_43 (lv_at hl 1 rfl) ?_
        refine zi_if_ne (tgt := 52) M dX7_landingAnew_45 (by decide) ⟨by decide, by decide⟩ (fun _ => ?_) (fun q => absurd q (by decide))
        refine lv_iload M.1 M.2.1 dX7_landingAnew_52 (lv_at hl 0 rfl) ?_
        refine zi_if_eq (tgt := 61) M dX7_landingAnew_54 (by decide) ⟨by decide, by decide⟩ (fun _ => ?_) (fun q => absurd q (by decide))
        refine zi_push M dX7_landingAnew_61 ?_
        refine z_cW (z_runV (As := [.int (iI 2)]) (rest := []) M (c_X7_goesWell l D cy z0 ad th h su st sh fl ic sn bn fm fr cm em lg le lf dl cS cH sea noi pl pw an hd bp bo bw c1 c2 c3 c4 c5 e1 e2 e3 e4 e5 2 (by omega)) hE hS hAz (z_cut hP hD hAz [0, 1, 2, 3, 4, 5, 6, 7, 8, 9, 10, 11, 12, 13, 14, 15, 16, 17, 18, 19, 20, 21] rfl (by decide +kernel)) (zRc.of (ci := 7) (q0 := 0) hE hP rfl rfl) zk_cd_X7_goesWell zk_in_RX7 zk_im_X7_goesWell zk_se_X7_goesWell zk_ml_RX7_88 rfl rfl zd_X7_goesWell ⟨by decide, by decide⟩ rfl hl.1 rfl (Nat.le_of_ble_eq_true rfl) dX7_landingAnew_62 ⟨by decide, by decide⟩) hP hD hS [0, 1, 2, 3, 4, 5, 6, 7, 8, 9, 10, 11, 12, 13, 14, 15, 16, 17, 18, 19, 20, 21] rfl (fun _ => rfl) (fun r_7 u_7 H locs hp_7 hP hD hS => ?_)
        have hP : va_P D vwCl (mdlW ad 0 cy 2 h su st sh fl ic sn bn fm fr cm em lg le lf dl cS cH sea noi pl pw an hd bp bo bw c1 c2 c3 c4 c5 e1 e2 e3 e4 e5) H := hP
        have hD : va_D (zIn (mdlW ad 0 cy th h su st sh fl ic sn bn fm fr cm em lg le lf dl cS cH sea noi pl pw an hd bp bo bw c1 c2 c3 c4 c5 e1 e2 e3 e4 e5)) (mdlW ad 0 cy 2 h su st sh fl ic sn bn fm fr cm em lg le lf dl cS cH sea noi pl pw an hd bp bo bw c1 c2 c3 c4 c5 e1 e2 e3 e4 e5) := hD
        subst hp_7
        refine z_rw (b := 0) rfl ?_
        refine zi_if_eq (tgt := 82) M dX7_landingAnew_65 (by decide) ⟨by decide, by decide⟩ (fun _ => ?_) (fun q => absurd q (by decide))
        refine zi_push M dX7_landingAnew_82 ?_
        have hP : va_P D vwCl (mdlW ad 0 cy 2 h su st sh fl ic sn bn fm fr cm em lg le lf dl cS cH sea noi pl pw an hd bp bo bw c1 c2 c3 c4 c5 e1 e2 e3 e4 e5) H := hP
        exact zw_i M hr hlk 2 hP hS (by exact Or.inr (Or.inr (⟨rfl, by omega, rfl⟩))) (by decide) (by decide) dX7_landingAnew_83
    ·
      refine zi_if_eq (tgt := 39) M dX7_landingAnew_13 (by decide) ⟨by decide, by decide⟩ (fun _ => ?_) (fun q => absurd q (by decide))
      refine zi_push M dX7_landingAnew_39 ?_
      refine lv_istore (lv' := [(7, .int (iI 0)), (6, .int (iI 1)), (0, .ref (ad 0)), (1, .int (iI q)), (2, .int (iI g)), (3, .int (iI a)), (4, .int (iI f)), (5, .int (iI n))]) M.1 M.2.1 dX7_landingAnew_40 hl (by decide) rfl (fun ls hl => ?_)
      refine lv_aload_n M.1 M.2.1 dX7_landingAnew_42 rfl (lv_at hl 2 rfl) ?_
      refine lv_iload M.1 M.2.1 dX7_landingAnew_43 (lv_at hl 1 rfl) ?_
      refine zi_if_ne (tgt := 52) M dX7_landingAnew_45 (by decide) ⟨by decide, by decide⟩ (fun _ => ?_) (fun q => absurd q (by decide))
      refine lv_iload M.1 M.2.1 dX7_landingAnew_52 (lv_at hl 0 rfl) ?_
      refine zi_if_eq (tgt := 61) M dX7_landingAnew_54 (by decide) ⟨by decide, by decide⟩ (fun _ => ?_) (fun q => absurd q (by decide))
      refine zi_push M dX7_landingAnew_61 ?_
      refine z_cW (z_runV (As := [.int (iI 2)]) (rest := []) M (c_X7_goesWell l D cy z0 ad th h su st sh fl ic sn bn fm fr cm em lg le lf dl cS cH sea noi pl pw an hd bp bo bw c1 c2 c3 c4 c5 e1 e2 e3 e4 e5 2 (by omega)) hE hS hAz (z_cut hP hD hAz [0, 1, 2, 3, 4, 5, 6, 7, 8, 9, 10, 11, 12, 13, 14, 15, 16, 17, 18, 19, 20, 21] rfl (by decide +kernel)) (zRc.of (ci := 7) (q0 := 0) hE hP rfl rfl) zk_cd_X7_goesWell zk_in_RX7 zk_im_X7_goesWell zk_se_X7_goesWell zk_ml_RX7_88 rfl rfl zd_X7_goesWell ⟨by decide, by decide⟩ rfl hl.1 rfl (Nat.le_of_ble_eq_true rfl) dX7_landingAnew_62 ⟨by decide, by decide⟩) hP hD hS [0, 1, 2, 3, 4, 5, 6, 7, 8, 9, 10, 11, 12, 13, 14, 15, 16, 17, 18, 19, 20, 21] rfl (fun _ => rfl) (fun r_8 u_8 H locs hp_8 hP hD hS => ?_)
      have hP : va_P D vwCl (mdlW ad 0 cy 2 h su st sh fl ic sn bn fm fr cm em lg le lf dl cS cH sea noi pl pw an hd bp bo bw c1 c2 c3 c4 c5 e1 e2 e3 e4 e5) H := hP
      have hD : va_D (zIn (mdlW ad 0 cy th h su st sh fl ic sn bn fm fr cm em lg le lf dl cS cH sea noi pl pw an hd bp bo bw c1 c2 c3 c4 c5 e1 e2 e3 e4 e5)) (mdlW ad 0 cy 2 h su st sh fl ic sn bn fm fr cm em lg le lf dl cS cH sea noi pl pw an hd bp bo bw c1 c2 c3 c4 c5 e1 e2 e3 e4 e5) := hD
      subst hp_8
      refine z_rw (b := 0) rfl ?_
      refine zi_if_eq (tgt := 82) M dX7_landingAnew_65 (by decide) ⟨by decide, by decide⟩ (fun _ => ?_) (fun q => absurd q (by decide))
      refine zi_push M dX7_landingAnew_82 ?_
      have hP : va_P D vwCl (mdlW ad 0 cy 2 h su st sh fl ic sn bn fm fr cm em lg le lf dl cS cH sea noi pl pw an hd bp bo bw c1 c2 c3 c4 c5 e1 e2 e3 e4 e5) H := hP
      exact zw_i M hr hlk 2 hP hS (by exact Or.inr (Or.inr (⟨rfl, by omega, rfl⟩))) (by decide) (by decide) dX7_landingAnew_83
  ·
    refine lv_istore (lv' := [(6, .int (iI 0)), (0, .ref (ad 0)), (1, .int (iI q)), (2, .int (iI g)), (3, .int (iI a)), (4, .int (iI f)), (5, .int (iI n))]) M.1 M.2.1 dX7_landingAnew_4 hl (by decide) rfl (fun ls hl => ?_)
    refine lv_iload_n M.1 M.2.1 dX7_landingAnew_6 rfl (lv_at hl 4 rfl) ?_
    refine zi_push M dX7_landingAnew_7 ?_
    refine zi_bipush M dX7_landingAnew_8 ⟨by decide, by decide⟩ ?_
    refine z_cR (z_runS (As := [.int (iI a), .int (iI 1), .int (iI 9)]) (rest := []) M (c_X7_in l D cy z0 a 1 9 (by omega) (by omega) (by omega)) hE hS hAz trivial zk_cd_X7_in zk_in_RX7 zk_st_X7_in zk_ml_RX7_81 rfl rfl zd_X7_in ⟨by decide, by decide⟩ rfl hl.1 rfl (Nat.le_of_ble_eq_true rfl) dX7_landingAnew_10 ⟨by decide, by decide⟩) ?_
    refine zi_b (P := 1 ≤ a ∧ a ≤ 9) (g := fun r => F0 m 13 ls (.int r :: [])) (fun b_9 => ?_) (fun b_9 => ?_)
    ·
      refine zi_if_eq (tgt := 39) M dX7_landingAnew_13 (by decide) ⟨by decide, by decide⟩ (fun q => absurd q (by decide)) (fun _ => ?_)
      refine lv_iload M.1 M.2.1 dX7_landingAnew_16 (lv_at hl 5 rfl) ?_
      refine z_cR (z_runS (As := [.int (iI f)]) (rest := []) M (c_X7_isOn l D cy z0 f (by omega)) hE hS hAz trivial zk_cd_X7_isOn zk_in_RX7 zk_st_X7_isOn zk_ml_RX7_152 rfl rfl zd_X7_isOn ⟨by decide, by decide⟩ rfl hl.1 rfl (Nat.le_of_ble_eq_true rfl) dX7_landingAnew_18 ⟨by decide, by decide⟩) ?_
      refine zi_b (P := 10 ≤ f ∧ f ≤ 300) (g := fun r => F0 m 21 ls (.int r :: [])) (fun b_10 => ?_) (fun b_10 => ?_)
      ·
        refine zi_if_eq (tgt := 39) M dX7_landingAnew_21 (by decide) ⟨by decide, by decide⟩ (fun q => absurd q (by decide)) (fun _ => ?_)
        refine lv_iload M.1 M.2.1 dX7_landingAnew_24 (lv_at hl 6 rfl) ?_
        refine zi_push M dX7_landingAnew_26 ?_
        refine zi_bipush M dX7_landingAnew_27 ⟨by decide, by decide⟩ ?_
        refine z_cR (z_runS (As := [.int (iI n), .int (iI 1), .int (iI 10)]) (rest := []) M (c_X7_in l D cy z0 n 1 10 (by omega) (by omega) (by omega)) hE hS hAz trivial zk_cd_X7_in zk_in_RX7 zk_st_X7_in zk_ml_RX7_81 rfl rfl zd_X7_in ⟨by decide, by decide⟩ rfl hl.1 rfl (Nat.le_of_ble_eq_true rfl) dX7_landingAnew_29 ⟨by decide, by decide⟩) ?_
        refine zi_b (P := 1 ≤ n ∧ n ≤ 10) (g := fun r => F0 m 32 ls (.int r :: [])) (fun b_11 => ?_) (fun b_11 => ?_)
        ·
          refine zi_if_eq (tgt := 39) M dX7_landingAnew_32 (by decide) ⟨by decide, by decide⟩ (fun q => absurd q (by decide)) (fun _ => ?_)
          refine zi_push M dX7_landingAnew_35 ?_
          refine zi_goto (tgt := 40) M dX7_landingAnew_36 (by decide) ?_
          refine lv_istore (lv' := [(7, .int (iI 1)), (6, .int (iI 0)), (0, .ref (ad 0)), (1, .int (iI q)), (2, .int (iI g)), (3, .int (iI a)), (4, .int (iI f)), (5, .int (iI n))]) M.1 M.2.1 dX7_landingAnew_40 hl (by decide) rfl (fun ls hl => ?_)
          refine lv_aload_n M.1 M.2.1 dX7_landingAnew_42 rfl (lv_at hl 2 rfl) ?_
          refine lv_iload M.1 M.2.1 dX7_landingAnew_43 (lv_at hl 1 rfl) ?_
          refine zi_if_ne (tgt := 52) M dX7_landingAnew_45 (by decide) ⟨by decide, by decide⟩ (fun q => absurd q (by decide)) (fun _ => ?_)
          refine zi_push M dX7_landingAnew_48 ?_
          refine zi_goto (tgt := 62) M dX7_landingAnew_49 (by decide) ?_
          refine z_cW (z_runV (As := [.int (iI 1)]) (rest := []) M (c_X7_goesWell l D cy z0 ad th h su st sh fl ic sn bn fm fr cm em lg le lf dl cS cH sea noi pl pw an hd bp bo bw c1 c2 c3 c4 c5 e1 e2 e3 e4 e5 1 (by omega)) hE hS hAz (z_cut hP hD hAz [0, 1, 2, 3, 4, 5, 6, 7, 8, 9, 10, 11, 12, 13, 14, 15, 16, 17, 18, 19, 20, 21] rfl (by decide +kernel)) (zRc.of (ci := 7) (q0 := 0) hE hP rfl rfl) zk_cd_X7_goesWell zk_in_RX7 zk_im_X7_goesWell zk_se_X7_goesWell zk_ml_RX7_88 rfl rfl zd_X7_goesWell ⟨by decide, by decide⟩ rfl hl.1 rfl (Nat.le_of_ble_eq_true rfl) dX7_landingAnew_62 ⟨by decide, by decide⟩) hP hD hS [0, 1, 2, 3, 4, 5, 6, 7, 8, 9, 10, 11, 12, 13, 14, 15, 16, 17, 18, 19, 20, 21] rfl (fun _ => rfl) (fun r_12 u_12 H locs hp_12 hP hD hS => ?_)
          have hP : va_P D vwCl (mdlW ad 0 cy 1 h su st sh fl ic sn bn fm fr cm em lg le lf dl cS cH sea noi pl pw an hd bp bo bw c1 c2 c3 c4 c5 e1 e2 e3 e4 e5) H := hP
          have hD : va_D (zIn (mdlW ad 0 cy th h su st sh fl ic sn bn fm fr cm em lg le lf dl cS cH sea noi pl pw an hd bp bo bw c1 c2 c3 c4 c5 e1 e2 e3 e4 e5)) (mdlW ad 0 cy 1 h su st sh fl ic sn bn fm fr cm em lg le lf dl cS cH sea noi pl pw an hd bp bo bw c1 c2 c3 c4 c5 e1 e2 e3 e4 e5) := hD
          subst hp_12
          refine z_rw (b := 0) rfl ?_
          refine zi_if_eq (tgt := 82) M dX7_landingAnew_65 (by decide) ⟨by decide, by decide⟩ (fun _ => ?_) (fun q => absurd q (by decide))
          refine zi_push M dX7_landingAnew_82 ?_
          have hP : va_P D vwCl (mdlW ad 0 cy 1 h su st sh fl ic sn bn fm fr cm em lg le lf dl cS cH sea noi pl pw an hd bp bo bw c1 c2 c3 c4 c5 e1 e2 e3 e4 e5) H := hP
          exact zw_i M hr hlk 1 hP hS (by exact Or.inr (Or.inl (⟨rfl, by omega, rfl⟩))) (by decide) (by decide) dX7_landingAnew_83
        ·
          refine zi_if_eq (tgt := 39) M dX7_landingAnew_32 (by decide) ⟨by decide, by decide⟩ (fun _ => ?_) (fun q => absurd q (by decide))
          refine zi_push M dX7_landingAnew_39 ?_
          refine lv_istore (lv' := [(7, .int (iI 0)), (6, .int (iI 0)), (0, .ref (ad 0)), (1, .int (iI q)), (2, .int (iI g)), (3, .int (iI a)), (4, .int (iI f)), (5, .int (iI n))]) M.1 M.2.1 dX7_landingAnew_40 hl (by decide) rfl (fun ls hl => ?_)
          refine lv_aload_n M.1 M.2.1 dX7_landingAnew_42 rfl (lv_at hl 2 rfl) ?_
          refine lv_iload M.1 M.2.1 dX7_landingAnew_43 (lv_at hl 1 rfl) ?_
          refine zi_if_ne (tgt := 52) M dX7_landingAnew_45 (by decide) ⟨by decide, by decide⟩ (fun q => absurd q (by decide)) (fun _ => ?_)
          refine zi_push M dX7_landingAnew_48 ?_
          refine zi_goto (tgt := 62) M dX7_landingAnew_49 (by decide) ?_
          refine z_cW (z_runV (As := [.int (iI 1)]) (rest := []) M (c_X7_goesWell l D cy z0 ad th h su st sh fl ic sn bn fm fr cm em lg le lf dl cS cH sea noi pl pw an hd bp bo bw c1 c2 c3 c4 c5 e1 e2 e3 e4 e5 1 (by omega)) hE hS hAz (z_cut hP hD hAz [0, 1, 2, 3, 4, 5, 6, 7, 8, 9, 10, 11, 12, 13, 14, 15, 16, 17, 18, 19, 20, 21] rfl (by decide +kernel)) (zRc.of (ci := 7) (q0 := 0) hE hP rfl rfl) zk_cd_X7_goesWell zk_in_RX7 zk_im_X7_goesWell zk_se_X7_goesWell zk_ml_RX7_88 rfl rfl zd_X7_goesWell ⟨by decide, by decide⟩ rfl hl.1 rfl (Nat.le_of_ble_eq_true rfl) dX7_landingAnew_62 ⟨by decide, by decide⟩) hP hD hS [0, 1, 2, 3, 4, 5, 6, 7, 8, 9, 10, 11, 12, 13, 14, 15, 16, 17, 18, 19, 20, 21] rfl (fun _ => rfl) (fun r_13 u_13 H locs hp_13 hP hD hS => ?_)
          have hP : va_P D vwCl (mdlW ad 0 cy 1 h su st sh fl ic sn bn fm fr cm em lg le lf dl cS cH sea noi pl pw an hd bp bo bw c1 c2 c3 c4 c5 e1 e2 e3 e4 e5) H := hP
          have hD : va_D (zIn (mdlW ad 0 cy th h su st sh fl ic sn bn fm fr cm em lg le lf dl cS cH sea noi pl pw an hd bp bo bw c1 c2 c3 c4 c5 e1 e2 e3 e4 e5)) (mdlW ad 0 cy 1 h su st sh fl ic sn bn fm fr cm em lg le lf dl cS cH sea noi pl pw an hd bp bo bw c1 c2 c3 c4 c5 e1 e2 e3 e4 e5) := hD
          subst hp_13
          refine z_rw (b := 0) rfl ?_
          refine zi_if_eq (tgt := 82) M dX7_landingAnew_65 (by decide) ⟨by decide, by decide⟩ (fun _ => ?_) (fun q => absurd q (by decide))
          refine zi_push M dX7_landingAnew_82 ?_
          have hP : va_P D vwCl (mdlW ad 0 cy 1 h su st sh fl ic sn bn fm fr cm em lg le lf dl cS cH sea noi pl pw an hd bp bo bw c1 c2 c3 c4 c5 e1 e2 e3 e4 e5) H := hP
          exact zw_i M hr hlk 1 hP hS (by exact Or.inr (Or.inl (⟨rfl, by omega, rfl⟩))) (by decide) (by decide) dX7_landingAnew_83
      ·
        refine zi_if_eq (tgt := 39) M dX7_landingAnew_21 (by decide) ⟨by decide, by decide⟩ (fun _ => ?_) (fun q => absurd q (by decide))
        refine zi_push M dX7_landingAnew_39 ?_
        refine lv_istore (lv' := [(7, .int (iI 0)), (6, .int (iI 0)), (0, .ref (ad 0)), (1, .int (iI q)), (2, .int (iI g)), (3, .int (iI a)), (4, .int (iI f)), (5, .int (iI n))]) M.1 M.2.1 dX7_landingAnew_40 hl (by decide) rfl (fun ls hl => ?_)
        refine lv_aload_n M.1 M.2.1 dX7_landingAnew_42 rfl (lv_at hl 2 rfl) ?_
        refine lv_iload M.1 M.2.1 dX7_landingAnew_43 (lv_at hl 1 rfl) ?_
        refine zi_if_ne (tgt := 52) M dX7_landingAnew_45 (by decide) ⟨by decide, by decide⟩ (fun q => absurd q (by decide)) (fun _ => ?_)
        refine zi_push M dX7_landingAnew_48 ?_
        refine zi_goto (tgt := 62) M dX7_landingAnew_49 (by decide) ?_
        refine z_cW (z_runV (As := [.int (iI 1)]) (rest := []) M (c_X7_goesWell l D cy z0 ad th h su st sh fl ic sn bn fm fr cm em lg le lf dl cS cH sea noi pl pw an hd bp bo bw c1 c2 c3 c4 c5 e1 e2 e3 e4 e5 1 (by omega)) hE hS hAz (z_cut hP hD hAz [0, 1, 2, 3, 4, 5, 6, 7, 8, 9, 10, 11, 12, 13, 14, 15, 16, 17, 18, 19, 20, 21] rfl (by decide +kernel)) (zRc.of (ci := 7) (q0 := 0) hE hP rfl rfl) zk_cd_X7_goesWell zk_in_RX7 zk_im_X7_goesWell zk_se_X7_goesWell zk_ml_RX7_88 rfl rfl zd_X7_goesWell ⟨by decide, by decide⟩ rfl hl.1 rfl (Nat.le_of_ble_eq_true rfl) dX7_landingAnew_62 ⟨by decide, by decide⟩) hP hD hS [0, 1, 2, 3, 4, 5, 6, 7, 8, 9, 10, 11, 12, 13, 14, 15, 16, 17, 18, 19, 20, 21] rfl (fun _ => rfl) (fun r_14 u_14 H locs hp_14 hP hD hS => ?_)
        have hP : va_P D vwCl (mdlW ad 0 cy 1 h su st sh fl ic sn bn fm fr cm em lg le lf dl cS cH sea noi pl pw an hd bp bo bw c1 c2 c3 c4 c5 e1 e2 e3 e4 e5) H := hP
        have hD : va_D (zIn (mdlW ad 0 cy th h su st sh fl ic sn bn fm fr cm em lg le lf dl cS cH sea noi pl pw an hd bp bo bw c1 c2 c3 c4 c5 e1 e2 e3 e4 e5)) (mdlW ad 0 cy 1 h su st sh fl ic sn bn fm fr cm em lg le lf dl cS cH sea noi pl pw an hd bp bo bw c1 c2 c3 c4 c5 e1 e2 e3 e4 e5) := hD
        subst hp_14
        refine z_rw (b := 0) rfl ?_
        refine zi_if_eq (tgt := 82) M dX7_landingAnew_65 (by decide) ⟨by decide, by decide⟩ (fun _ => ?_) (fun q => absurd q (by decide))
        refine zi_push M dX7_landingAnew_82 ?_
        have hP : va_P D vwCl (mdlW ad 0 cy 1 h su st sh fl ic sn bn fm fr cm em lg le lf dl cS cH sea noi pl pw an hd bp bo bw c1 c2 c3 c4 c5 e1 e2 e3 e4 e5) H := hP
        exact zw_i M hr hlk 1 hP hS (by exact Or.inr (Or.inl (⟨rfl, by omega, rfl⟩))) (by decide) (by decide) dX7_landingAnew_83
    ·
      refine zi_if_eq (tgt := 39) M dX7_landingAnew_13 (by decide) ⟨by decide, by decide⟩ (fun _ => ?_) (fun q => absurd q (by decide))
      refine zi_push M dX7_landingAnew_39 ?_
      refine lv_istore (lv' := [(7, .int (iI 0)), (6, .int (iI 0)), (0, .ref (ad 0)), (1, .int (iI q)), (2, .int (iI g)), (3, .int (iI a)), (4, .int (iI f)), (5, .int (iI n))]) M.1 M.2.1 dX7_landingAnew_40 hl (by decide) rfl (fun ls hl => ?_)
      refine lv_aload_n M.1 M.2.1 dX7_landingAnew_42 rfl (lv_at hl 2 rfl) ?_
      refine lv_iload M.1 M.2.1 dX7_landingAnew_43 (lv_at hl 1 rfl) ?_
      refine zi_if_ne (tgt := 52) M dX7_landingAnew_45 (by decide) ⟨by decide, by decide⟩ (fun q => absurd q (by decide)) (fun _ => ?_)
      refine zi_push M dX7_landingAnew_48 ?_
      refine zi_goto (tgt := 62) M dX7_landingAnew_49 (by decide) ?_
      refine z_cW (z_runV (As := [.int (iI 1)]) (rest := []) M (c_X7_goesWell l D cy z0 ad th h su st sh fl ic sn bn fm fr cm em lg le lf dl cS cH sea noi pl pw an hd bp bo bw c1 c2 c3 c4 c5 e1 e2 e3 e4 e5 1 (by omega)) hE hS hAz (z_cut hP hD hAz [0, 1, 2, 3, 4, 5, 6, 7, 8, 9, 10, 11, 12, 13, 14, 15, 16, 17, 18, 19, 20, 21] rfl (by decide +kernel)) (zRc.of (ci := 7) (q0 := 0) hE hP rfl rfl) zk_cd_X7_goesWell zk_in_RX7 zk_im_X7_goesWell zk_se_X7_goesWell zk_ml_RX7_88 rfl rfl zd_X7_goesWell ⟨by decide, by decide⟩ rfl hl.1 rfl (Nat.le_of_ble_eq_true rfl) dX7_landingAnew_62 ⟨by decide, by decide⟩) hP hD hS [0, 1, 2, 3, 4, 5, 6, 7, 8, 9, 10, 11, 12, 13, 14, 15, 16, 17, 18, 19, 20, 21] rfl (fun _ => rfl) (fun r_15 u_15 H locs hp_15 hP hD hS => ?_)
      have hP : va_P D vwCl (mdlW ad 0 cy 1 h su st sh fl ic sn bn fm fr cm em lg le lf dl cS cH sea noi pl pw an hd bp bo bw c1 c2 c3 c4 c5 e1 e2 e3 e4 e5) H := hP
      have hD : va_D (zIn (mdlW ad 0 cy th h su st sh fl ic sn bn fm fr cm em lg le lf dl cS cH sea noi pl pw an hd bp bo bw c1 c2 c3 c4 c5 e1 e2 e3 e4 e5)) (mdlW ad 0 cy 1 h su st sh fl ic sn bn fm fr cm em lg le lf dl cS cH sea noi pl pw an hd bp bo bw c1 c2 c3 c4 c5 e1 e2 e3 e4 e5) := hD
      subst hp_15
      refine z_rw (b := 0) rfl ?_
      refine zi_if_eq (tgt := 82) M dX7_landingAnew_65 (by decide) ⟨by decide, by decide⟩ (fun _ => ?_) (fun q => absurd q (by decide))
      refine zi_push M dX7_landingAnew_82 ?_
      have hP : va_P D vwCl (mdlW ad 0 cy 1 h su st sh fl ic sn bn fm fr cm em lg le lf dl cS cH sea noi pl pw an hd bp bo bw c1 c2 c3 c4 c5 e1 e2 e3 e4 e5) H := hP
      exact zw_i M hr hlk 1 hP hS (by exact Or.inr (Or.inl (⟨rfl, by omega, rfl⟩))) (by decide) (by decide) dX7_landingAnew_83

set_option maxRecDepth 100000 in
set_option maxHeartbeats 4000000 in
theorem c_X7_paths (l : Launch) (D : va_G) (cy : Nat → ClassId) (z0 : Nat) (ad : Nat → Nat) (th h su st sh fl ic sn bn fm fr cm em lg le lf dl : Int) (cS cH sea noi pl pw an hd bp bo bw c1 c2 c3 c4 c5 e1 e2 e3 e4 e5 : Int → Int) (q : Int) (t : Int) (f : Int) (w : Int) (r_q : r32 q) (r_t : r32 t) (r_f : r32 f) (r_w : r32 w) (h_h : 0 ≤ h ∧ h ≤ 5000) (h_su : 0 ≤ su ∧ su ≤ 100) (h_st : 0 ≤ st ∧ st ≤ 60) (h_fl : 0 ≤ fl ∧ fl ≤ 80) (h_cS : zrg 48 0 100 cS) (h_ic : 0 ≤ ic ∧ ic ≤ 1) (g_sea : zrg 48 0 1 sea) : Met l yX7_paths [.code yX7_paths cX7_paths 6 (some .int)] (zRm 7 0 0 177) (zPc [.ref (ad 0), .int (iI q), .int (iI t), .int (iI f), .int (iI w)] D cy z0 (zWl D z0 (mdlW ad 0 cy th h su st sh fl ic sn bn fm fr cm em lg le lf dl cS cH sea noi pl pw an hd bp bo bw c1 c2 c3 c4 c5 e1 e2 e3 e4 e5))) (zQ1 D (mdlW ad 0 cy th h su st sh fl ic sn bn fm fr cm em lg le lf dl cS cH sea noi pl pw an hd bp bo bw c1 c2 c3 c4 c5 e1 e2 e3 e4 e5) (fun (r : Int32) (u : Nat → Int) => (∃ xa xb xc xd : Int, u = u8 xa xb xc xd 0 0 0 0 ∧ (((0 ≤ q ∧ q < 48) ∧ (0 ≤ t ∧ t < 48)) ∧ ((10 ≤ f ∧ f ≤ 300) ∧ (0 ≤ w ∧ w ≤ 100))) ∧ r = iI (cntR (mdE ic h cS) (mdF ic h su st) (mdD ic h fl) sea q t f w 18)) ∨ (u = u8 lg le lf dl 1 0 0 0 ∧ (¬ ((0 ≤ q ∧ q < 48) ∧ (0 ≤ t ∧ t < 48))) ∧ r = iI 0) ∨ (u = u8 lg le lf dl 2 0 0 0 ∧ (((0 ≤ q ∧ q < 48) ∧ (0 ≤ t ∧ t < 48)) ∧ ¬ ((10 ≤ f ∧ f ≤ 300) ∧ (0 ≤ w ∧ w ≤ 100))) ∧ r = iI 0)) (fun (u : Nat → Int) => (mdlW ad 0 cy (u 4) h su st sh fl ic sn bn fm fr cm em (u 0) (u 1) (u 2) (u 3) cS cH sea noi pl pw an hd bp bo bw c1 c2 c3 c4 c5 e1 e2 e3 e4 e5))) 0 0 (zIn (mdlW ad 0 cy th h su st sh fl ic sn bn fm fr cm em lg le lf dl cS cH sea noi pl pw an hd bp bo bw c1 c2 c3 c4 c5 e1 e2 e3 e4 e5)) := by
  refine z_of (by decide) (Nat.le_of_ble_eq_true rfl) ?_
  intro p e s m args below meth c M hr hlk hini hargs hP0 hE ls hl
  have hP : va_P D vwCl (mdlW ad 0 cy th h su st sh fl ic sn bn fm fr cm em lg le lf dl cS cH sea noi pl pw an hd bp bo bw c1 c2 c3 c4 c5 e1 e2 e3 e4 e5) s.heap := hP0.1
  have hD : va_D (zIn (mdlW ad 0 cy th h su st sh fl ic sn bn fm fr cm em lg le lf dl cS cH sea noi pl pw an hd bp bo bw c1 c2 c3 c4 c5 e1 e2 e3 e4 e5)) (mdlW ad 0 cy th h su st sh fl ic sn bn fm fr cm em lg le lf dl cS cH sea noi pl pw an hd bp bo bw c1 c2 c3 c4 c5 e1 e2 e3 e4 e5) := hP0.self
  have hAz := hP0.A
  have hS : va_S (zIn (mdlW ad 0 cy th h su st sh fl ic sn bn fm fr cm em lg le lf dl cS cH sea noi pl pw an hd bp bo bw c1 c2 c3 c4 c5 e1 e2 e3 e4 e5)) s.heap s.heap [] := va_S.rf
  have hl : lv_has ls 6 [(0, .ref (ad 0)), (1, .int (iI q)), (2, .int (iI t)), (3, .int (iI f)), (4, .int (iI w))] := hl
  refine lv_iload_n M.1 M.2.1 dX7_paths_0 rfl (lv_at hl 1 rfl) ?_
  refine z_cR (z_runS (As := [.int (iI q)]) (rest := []) M (c_X7_isPlace l D cy z0 q (by omega)) hE hS hAz trivial zk_cd_X7_isPlace zk_in_RX7 zk_st_X7_isPlace zk_ml_RX7_101 rfl rfl zd_X7_isPlace ⟨by decide, by decide⟩ rfl hl.1 rfl (Nat.le_of_ble_eq_true rfl) dX7_paths_1 ⟨by decide, by decide⟩) ?_
  refine zi_b (P := 0 ≤ q ∧ q ≤ 47) (g := fun r => F0 m 4 ls (.int r :: [])) (fun b_1 => ?_) (fun b_1 => ?_)
  ·
    refine zi_if_eq (tgt := 18) M dX7_paths_4 (by decide) ⟨by decide, by decide⟩ (fun q => absurd q (by decide)) (fun _ => ?_)
    refine lv_iload_n M.1 M.2.1 dX7_paths_7 rfl (lv_at hl 2 rfl) ?_
    refine z_cR (z_runS (As := [.int (iI t)]) (rest := []) M (c_X7_isPlace l D cy z0 t (by omega)) hE hS hAz trivial zk_cd_X7_isPlace zk_in_RX7 zk_st_X7_isPlace zk_ml_RX7_101 rfl rfl zd_X7_isPlace ⟨by decide, by decide⟩ rfl hl.1 rfl (Nat.le_of_ble_eq_true rfl) dX7_paths_8 ⟨by decide, by decide⟩) ?_
    refine zi_b (P := 0 ≤ t ∧ t ≤ 47) (g := fun r => F0 m 11 ls (.int r :: [])) (fun b_2 => ?_) (fun b_2 => ?_)
    ·
      refine zi_if_eq (tgt := 18) M dX7_paths_11 (by decide) ⟨by decide, by decide⟩ (fun q => absurd q (by decide)) (fun _ => ?_)
      refine zi_push M dX7_paths_14 ?_
      refine zi_goto (tgt := 19) M dX7_paths_15 (by decide) ?_
      refine lv_istore (lv' := [(5, .int (iI 1)), (0, .ref (ad 0)), (1, .int (iI q)), (2, .int (iI t)), (3, .int (iI f)), (4, .int (iI w))]) M.1 M.2.1 dX7_paths_19 hl (by decide) rfl (fun ls hl => ?_)
      refine lv_aload_n M.1 M.2.1 dX7_paths_21 rfl (lv_at hl 1 rfl) ?_
      refine lv_iload M.1 M.2.1 dX7_paths_22 (lv_at hl 0 rfl) ?_
      refine zi_if_ne (tgt := 31) M dX7_paths_24 (by decide) ⟨by decide, by decide⟩ (fun _ => ?_) (fun q => absurd q (by decide))
      refine lv_iload_n M.1 M.2.1 dX7_paths_31 rfl (lv_at hl 4 rfl) ?_
      refine z_cR (z_runS (As := [.int (iI f)]) (rest := [.ref (ad 0)]) M (c_X7_isOn l D cy z0 f (by omega)) hE hS hAz trivial zk_cd_X7_isOn zk_in_RX7 zk_st_X7_isOn zk_ml_RX7_152 rfl rfl zd_X7_isOn ⟨by decide, by decide⟩ rfl hl.1 rfl (Nat.le_of_ble_eq_true rfl) dX7_paths_32 ⟨by decide, by decide⟩) ?_
      refine zi_b (P := 10 ≤ f ∧ f ≤ 300) (g := fun r => F0 m 35 ls (.int r :: [.ref (ad 0)])) (fun b_3 => ?_) (fun b_3 => ?_)
      ·
        refine zi_if_eq (tgt := 53) M dX7_paths_35 (by decide) ⟨by decide, by decide⟩ (fun q => absurd q (by decide)) (fun _ => ?_)
        refine lv_iload M.1 M.2.1 dX7_paths_38 (lv_at hl 5 rfl) ?_
        refine zi_push M dX7_paths_40 ?_
        refine zi_bipush M dX7_paths_41 ⟨by decide, by decide⟩ ?_
        refine z_cR (z_runS (As := [.int (iI w), .int (iI 0), .int (iI 100)]) (rest := [.ref (ad 0)]) M (c_X7_in l D cy z0 w 0 100 (by omega) (by omega) (by omega)) hE hS hAz trivial zk_cd_X7_in zk_in_RX7 zk_st_X7_in zk_ml_RX7_81 rfl rfl zd_X7_in ⟨by decide, by decide⟩ rfl hl.1 rfl (Nat.le_of_ble_eq_true rfl) dX7_paths_43 ⟨by decide, by decide⟩) ?_
        refine zi_b (P := 0 ≤ w ∧ w ≤ 100) (g := fun r => F0 m 46 ls (.int r :: [.ref (ad 0)])) (fun b_4 => ?_) (fun b_4 => ?_)
        ·
          refine zi_if_eq (tgt := 53) M dX7_paths_46 (by decide) ⟨by decide, by decide⟩ (fun q => absurd q (by decide)) (fun _ => ?_)
          refine zi_push M dX7_paths_49 ?_
          refine zi_goto (tgt := 54) M dX7_paths_50 (by decide) ?_
          refine z_cW (z_runV (As := [.int (iI 0)]) (rest := []) M (c_X7_goesWell l D cy z0 ad th h su st sh fl ic sn bn fm fr cm em lg le lf dl cS cH sea noi pl pw an hd bp bo bw c1 c2 c3 c4 c5 e1 e2 e3 e4 e5 0 (by omega)) hE hS hAz (z_cut hP hD hAz [0, 1, 2, 3, 4, 5, 6, 7, 8, 9, 10, 11, 12, 13, 14, 15, 16, 17, 18, 19, 20, 21] rfl (by decide +kernel)) (zRc.of (ci := 7) (q0 := 0) hE hP rfl rfl) zk_cd_X7_goesWell zk_in_RX7 zk_im_X7_goesWell zk_se_X7_goesWell zk_ml_RX7_88 rfl rfl zd_X7_goesWell ⟨by decide, by decide⟩ rfl hl.1 rfl (Nat.le_of_ble_eq_true rfl) dX7_paths_54 ⟨by decide, by decide⟩) hP hD hS [0, 1, 2, 3, 4, 5, 6, 7, 8, 9, 10, 11, 12, 13, 14, 15, 16, 17, 18, 19, 20, 21] rfl (fun _ => rfl) (fun r_5 u_5 H locs hp_5 hP hD hS => ?_)
          have hP : va_P D vwCl (mdlW ad 0 cy 0 h su st sh fl ic sn bn fm fr cm em lg le lf dl cS cH sea noi pl pw an hd bp bo bw c1 c2 c3 c4 c5 e1 e2 e3 e4 e5) H := hP
          have hD : va_D (zIn (mdlW ad 0 cy th h su st sh fl ic sn bn fm fr cm em lg le lf dl cS cH sea noi pl pw an hd bp bo bw c1 c2 c3 c4 c5 e1 e2 e3 e4 e5)) (mdlW ad 0 cy 0 h su st sh fl ic sn bn fm fr cm em lg le lf dl cS cH sea noi pl pw an hd bp bo bw c1 c2 c3 c4 c5 e1 e2 e3 e4 e5) := hD
          subst hp_5
          refine z_rw (b := 1) rfl ?_
          refine zi_if_eq (tgt := 72) M dX7_paths_57 (by decide) ⟨by decide, by decide⟩ (fun q => absurd q (by decide)) (fun _ => ?_)
          refine lv_aload_n M.1 M.2.1 dX7_paths_60 rfl (lv_at hl 1 rfl) ?_
          refine lv_iload_n M.1 M.2.1 dX7_paths_61 rfl (lv_at hl 2 rfl) ?_
          refine lv_iload_n M.1 M.2.1 dX7_paths_62 rfl (lv_at hl 3 rfl) ?_
          refine lv_iload_n M.1 M.2.1 dX7_paths_63 rfl (lv_at hl 4 rfl) ?_
          refine lv_iload M.1 M.2.1 dX7_paths_64 (lv_at hl 5 rfl) ?_
          refine z_cW (z_runV (As := [.int (iI q), .int (iI t), .int (iI f), .int (iI w)]) (rest := []) M (c_X7_pathsOf l D cy z0 ad 0 h su st sh fl ic sn bn fm fr cm em lg le lf dl cS cH sea noi pl pw an hd bp bo bw c1 c2 c3 c4 c5 e1 e2 e3 e4 e5 q t f w (by omega) (by omega) (by omega) (by omega) (by omega) (by omega) g_sea (by omega) (by omega) (by omega) (by omega)) hE hS hAz (z_cut hP hD hAz [0, 1, 2, 3, 4, 5, 6, 7, 8, 9, 10, 11, 12, 13, 14, 15, 16, 17, 18, 19, 20, 21] rfl (by decide +kernel)) (zRc.of (ci := 7) (q0 := 0) hE hP rfl rfl) zk_cd_X7_pathsOf zk_in_RX7 zk_im_X7_pathsOf zk_se_X7_pathsOf zk_ml_RX7_163 rfl rfl zd_X7_pathsOf ⟨by decide, by decide⟩ rfl hl.1 rfl (Nat.le_of_ble_eq_true rfl) dX7_paths_66 ⟨by decide, by decide⟩) hP hD hS [0, 1, 2, 3, 4, 5, 6, 7, 8, 9, 10, 11, 12, 13, 14, 15, 16, 17, 18, 19, 20, 21] rfl (fun _ => rfl) (fun r_6 u_6 H locs hp_6 hP hD hS => ?_)
          have hP : va_P D vwCl (mdlW ad 0 cy 0 h su st sh fl ic sn bn fm fr cm em (u_6 0) (u_6 1) (u_6 2) (u_6 3) cS cH sea noi pl pw an hd bp bo bw c1 c2 c3 c4 c5 e1 e2 e3 e4 e5) H := hP
          have hD : va_D (zIn (mdlW ad 0 cy th h su st sh fl ic sn bn fm fr cm em lg le lf dl cS cH sea noi pl pw an hd bp bo bw c1 c2 c3 c4 c5 e1 e2 e3 e4 e5)) (mdlW ad 0 cy 0 h su st sh fl ic sn bn fm fr cm em (u_6 0) (u_6 1) (u_6 2) (u_6 3) cS cH sea noi pl pw an hd bp bo bw c1 c2 c3 c4 c5 e1 e2 e3 e4 e5) := hD
          subst hp_6
          have hcr_6 : 0 ≤ cntR (mdE ic h cS) (mdF ic h su st) (mdD ic h fl) sea q t f w 18 ∧ cntR (mdE ic h cS) (mdF ic h su st) (mdD ic h fl) sea q t f w 18 ≤ ((18 : Nat) : Int) := cntR_rg 18
          refine zi_goto (tgt := 73) M dX7_paths_69 (by decide) ?_
          have hP : va_P D vwCl (mdlW ad 0 cy ((u8 (u_6 0) (u_6 1) (u_6 2) (u_6 3) 0 0 0 0) 4) h su st sh fl ic sn bn fm fr cm em ((u8 (u_6 0) (u_6 1) (u_6 2) (u_6 3) 0 0 0 0) 0) ((u8 (u_6 0) (u_6 1) (u_6 2) (u_6 3) 0 0 0 0) 1) ((u8 (u_6 0) (u_6 1) (u_6 2) (u_6 3) 0 0 0 0) 2) ((u8 (u_6 0) (u_6 1) (u_6 2) (u_6 3) 0 0 0 0) 3) cS cH sea noi pl pw an hd bp bo bw c1 c2 c3 c4 c5 e1 e2 e3 e4 e5) H := hP
          exact zw_i M hr hlk (u8 (u_6 0) (u_6 1) (u_6 2) (u_6 3) 0 0 0 0) hP hS (by exact Or.inl ⟨_, _, _, _, rfl, by omega, congrArg iI (show (cntR (mdE ic h cS) (mdF ic h su st) (mdD ic h fl) sea q t f w 18 : Int) = cntR (mdE ic h cS) (mdF ic h su st) (mdD ic h fl) sea q t f w 18 by rfl)⟩) (by decide) (by decide) dX7_paths_73
        ·
          refine zi_if_eq (tgt := 53) M dX7_paths_46 (by decide) ⟨by decide, by decide⟩ (fun _ => ?_) (fun q => absurd q (by decide))
          refine zi_push M dX7_paths_53 ?_
          refine z_cW (z_runV (As := [.int (iI 2)]) (rest := []) M (c_X7_goesWell l D cy z0 ad th h su st sh fl ic sn bn fm fr cm em lg le lf dl cS cH sea noi pl pw an hd bp bo bw c1 c2 c3 c4 c5 e1 e2 e3 e4 e5 2 (by omega)) hE hS hAz (z_cut hP hD hAz [0, 1, 2, 3, 4, 5, 6, 7, 8, 9, 10, 11, 12, 13, 14, 15, 16, 17, 18, 19, 20, 21] rfl (by decide +kernel)) (zRc.of (ci := 7) (q0 := 0) hE hP rfl rfl) zk_cd_X7_goesWell zk_in_RX7 zk_im_X7_goesWell zk_se_X7_goesWell zk_ml_RX7_88 rfl rfl zd_X7_goesWell ⟨by decide, by decide⟩ rfl hl.1 rfl (Nat.le_of_ble_eq_true rfl) dX7_paths_54 ⟨by decide, by decide⟩) hP hD hS [0, 1, 2, 3, 4, 5, 6, 7, 8, 9, 10, 11, 12, 13, 14, 15, 16, 17, 18, 19, 20, 21] rfl (fun _ => rfl) (fun r_7 u_7 H locs hp_7 hP hD hS => ?_)
          have hP : va_P D vwCl (mdlW ad 0 cy 2 h su st sh fl ic sn bn fm fr cm em lg le lf dl cS cH sea noi pl pw an hd bp bo bw c1 c2 c3 c4 c5 e1 e2 e3 e4 e5) H := hP
          have hD : va_D (zIn (mdlW ad 0 cy th h su st sh fl ic sn bn fm fr cm em lg le lf dl cS cH sea noi pl pw an hd bp bo bw c1 c2 c3 c4 c5 e1 e2 e3 e4 e5)) (mdlW ad 0 cy 2 h su st sh fl ic sn bn fm fr cm em lg le lf dl cS cH sea noi pl pw an hd bp bo bw c1 c2 c3 c4 c5 e1 e2 e3 e4 e5) := hD
          subst hp_7
          refine z_rw (b := 0) rfl ?_
          refine zi_if_eq (tgt := 72) M dX7_paths_57 (by decide) ⟨by decide, by decide⟩ (fun _ => ?_) (fun q => absurd q (by decide))
          refine zi_push M dX7_paths_72 ?_
          have hP : va_P D vwCl (mdlW ad 0 cy ((u8 lg le lf dl 2 0 0 0) 4) h su st sh fl ic sn bn fm fr cm em ((u8 lg le lf dl 2 0 0 0) 0) ((u8 lg le lf dl 2 0 0 0) 1) ((u8 lg le lf dl 2 0 0 0) 2) ((u8 lg le lf dl 2 0 0 0) 3) cS cH sea noi pl pw an hd bp bo bw c1 c2 c3 c4 c5 e1 e2 e3 e4 e5) H := hP
          exact zw_i M hr hlk (u8 lg le lf dl 2 0 0 0) hP hS (by exact Or.inr (Or.inr (⟨rfl, by omega, rfl⟩))) (by decide) (by decide) dX7_paths_73
      ·
        refine zi_if_eq (tgt := 53) M dX7_paths_35 (by decide) ⟨by decide, by decide⟩ (fun _ => ?_) (fun q => absurd q (by decide))
        refine zi_push M dX7_paths_53 ?_
        refine z_cW (z_runV (As := [.int (iI 2)]) (rest := []) M (c_X7_goesWell l D cy z0 ad th h su st sh fl ic sn bn fm fr cm em lg le lf dl cS cH sea noi pl pw an hd bp bo bw c1 c2 c3 c4 c5 e1 e2 e3 e4 e5 2 (by omega)) hE hS hAz (z_cut hP hD hAz [0, 1, 2, 3, 4, 5, 6, 7, 8, 9, 10, 11, 12, 13, 14, 15, 16, 17, 18, 19, 20, 21] rfl (by decide +kernel)) (zRc.of (ci := 7) (q0 := 0) hE hP rfl rfl) zk_cd_X7_goesWell zk_in_RX7 zk_im_X7_goesWell zk_se_X7_goesWell zk_ml_RX7_88 rfl rfl zd_X7_goesWell ⟨by decide, by decide⟩ rfl hl.1 rfl (Nat.le_of_ble_eq_true rfl) dX7_paths_54 ⟨by decide, by decide⟩) hP hD hS [0, 1, 2, 3, 4, 5, 6, 7, 8, 9, 10, 11, 12, 13, 14, 15, 16, 17, 18, 19, 20, 21] rfl (fun _ => rfl) (fun r_8 u_8 H locs hp_8 hP hD hS => ?_)
        have hP : va_P D vwCl (mdlW ad 0 cy 2 h su st sh fl ic sn bn fm fr cm em lg le lf dl cS cH sea noi pl pw an hd bp bo bw c1 c2 c3 c4 c5 e1 e2 e3 e4 e5) H := hP
        have hD : va_D (zIn (mdlW ad 0 cy th h su st sh fl ic sn bn fm fr cm em lg le lf dl cS cH sea noi pl pw an hd bp bo bw c1 c2 c3 c4 c5 e1 e2 e3 e4 e5)) (mdlW ad 0 cy 2 h su st sh fl ic sn bn fm fr cm em lg le lf dl cS cH sea noi pl pw an hd bp bo bw c1 c2 c3 c4 c5 e1 e2 e3 e4 e5) := hD
        subst hp_8
        refine z_rw (b := 0) rfl ?_
        refine zi_if_eq (tgt := 72) M dX7_paths_57 (by decide) ⟨by decide, by decide⟩ (fun _ => ?_) (fun q => absurd q (by decide))
        refine zi_push M dX7_paths_72 ?_
        have hP : va_P D vwCl (mdlW ad 0 cy ((u8 lg le lf dl 2 0 0 0) 4) h su st sh fl ic sn bn fm fr cm em ((u8 lg le lf dl 2 0 0 0) 0) ((u8 lg le lf dl 2 0 0 0) 1) ((u8 lg le lf dl 2 0 0 0) 2) ((u8 lg le lf dl 2 0 0 0) 3) cS cH sea noi pl pw an hd bp bo bw c1 c2 c3 c4 c5 e1 e2 e3 e4 e5) H := hP
        exact zw_i M hr hlk (u8 lg le lf dl 2 0 0 0) hP hS (by exact Or.inr (Or.inr (⟨rfl, by omega, rfl⟩))) (by decide) (by decide) dX7_paths_73
    ·
      refine zi_if_eq (tgt := 18) M dX7_paths_11 (by decide) ⟨by decide, by decide⟩ (fun _ => ?_) (fun q => absurd q (by decide))
      refine zi_push M dX7_paths_18 ?_
      refine lv_istore (lv' := [(5, .int (iI 0)), (0, .ref (ad 0)), (1, .int (iI q)), (2, .int (iI t)), (3, .int (iI f)), (4, .int (iI w))]) M.1 M.2.1 dX7_paths_19 hl (by decide) rfl (fun ls hl => ?_)
      refine lv_aload_n M.1 M.2.1 dX7_paths_21 rfl (lv_at hl 1 rfl) ?_
      refine lv_iload M.1 M.2.1 dX7_paths_22 (lv_at hl 0 rfl) ?_
      refine zi_if_ne (tgt := 31) M dX7_paths_24 (by decide) ⟨by decide, by decide⟩ (fun q => absurd q (by decide)) (fun _ => ?_)
      refine zi_push M dX7_paths_27 ?_
      refine zi_goto (tgt := 54) M dX7_paths_28 (by decide) ?_
      refine z_cW (z_runV (As := [.int (iI 1)]) (rest := []) M (c_X7_goesWell l D cy z0 ad th h su st sh fl ic sn bn fm fr cm em lg le lf dl cS cH sea noi pl pw an hd bp bo bw c1 c2 c3 c4 c5 e1 e2 e3 e4 e5 1 (by omega)) hE hS hAz (z_cut hP hD hAz [0, 1, 2, 3, 4, 5, 6, 7, 8, 9, 10, 11, 12, 13, 14, 15, 16, 17, 18, 19, 20, 21] rfl (by decide +kernel)) (zRc.of (ci := 7) (q0 := 0) hE hP rfl rfl) zk_cd_X7_goesWell zk_in_RX7 zk_im_X7_goesWell zk_se_X7_goesWell zk_ml_RX7_88 rfl rfl zd_X7_goesWell ⟨by decide, by decide⟩ rfl hl.1 rfl (Nat.le_of_ble_eq_true rfl) dX7_paths_54 ⟨by decide, by decide⟩) hP hD hS [0, 1, 2, 3, 4, 5, 6, 7, 8, 9, 10, 11, 12, 13, 14, 15, 16, 17, 18, 19, 20, 21] rfl (fun _ => rfl) (fun r_9 u_9 H locs hp_9 hP hD hS => ?_)
      have hP : va_P D vwCl (mdlW ad 0 cy 1 h su st sh fl ic sn bn fm fr cm em lg le lf dl cS cH sea noi pl pw an hd bp bo bw c1 c2 c3 c4 c5 e1 e2 e3 e4 e5) H := hP
      have hD : va_D (zIn (mdlW ad 0 cy th h su st sh fl ic sn bn fm fr cm em lg le lf dl cS cH sea noi pl pw an hd bp bo bw c1 c2 c3 c4 c5 e1 e2 e3 e4 e5)) (mdlW ad 0 cy 1 h su st sh fl ic sn bn fm fr cm em lg le lf dl cS cH sea noi pl pw an hd bp bo bw c1 c2 c3 c4 c5 e1 e2 e3 e4 e5) := hD
      subst hp_9
      refine z_rw (b := 0) rfl ?_
      refine zi_if_eq (tgt := 72) M dX7_paths_57 (by decide) ⟨by decide, by decide⟩ (fun _ => ?_) (fun q => absurd q (by decide))
      refine zi_push M dX7_paths_72 ?_
      have hP : va_P D vwCl (mdlW ad 0 cy ((u8 lg le lf dl 1 0 0 0) 4) h su st sh fl ic sn bn fm fr cm em ((u8 lg le lf dl 1 0 0 0) 0) ((u8 lg le lf dl 1 0 0 0) 1) ((u8 lg le lf dl 1 0 0 0) 2) ((u8 lg le lf dl 1 0 0 0) 3) cS cH sea noi pl pw an hd bp bo bw c1 c2 c3 c4 c5 e1 e2 e3 e4 e5) H := hP
      exact zw_i M hr hlk (u8 lg le lf dl 1 0 0 0) hP hS (by exact Or.inr (Or.inl (⟨rfl, by omega, rfl⟩))) (by decide) (by decide) dX7_paths_73
  ·
    refine zi_if_eq (tgt := 18) M dX7_paths_4 (by decide) ⟨by decide, by decide⟩ (fun _ => ?_) (fun q => absurd q (by decide))
    refine zi_push M dX7_paths_18 ?_
    refine lv_istore (lv' := [(5, .int (iI 0)), (0, .ref (ad 0)), (1, .int (iI q)), (2, .int (iI t)), (3, .int (iI f)), (4, .int (iI w))]) M.1 M.2.1 dX7_paths_19 hl (by decide) rfl (fun ls hl => ?_)
    refine lv_aload_n M.1 M.2.1 dX7_paths_21 rfl (lv_at hl 1 rfl) ?_
    refine lv_iload M.1 M.2.1 dX7_paths_22 (lv_at hl 0 rfl) ?_
    refine zi_if_ne (tgt := 31) M dX7_paths_24 (by decide) ⟨by decide, by decide⟩ (fun q => absurd q (by decide)) (fun _ => ?_)
    refine zi_push M dX7_paths_27 ?_
    refine zi_goto (tgt := 54) M dX7_paths_28 (by decide) ?_
    refine z_cW (z_runV (As := [.int (iI 1)]) (rest := []) M (c_X7_goesWell l D cy z0 ad th h su st sh fl ic sn bn fm fr cm em lg le lf dl cS cH sea noi pl pw an hd bp bo bw c1 c2 c3 c4 c5 e1 e2 e3 e4 e5 1 (by omega)) hE hS hAz (z_cut hP hD hAz [0, 1, 2, 3, 4, 5, 6, 7, 8, 9, 10, 11, 12, 13, 14, 15, 16, 17, 18, 19, 20, 21] rfl (by decide +kernel)) (zRc.of (ci := 7) (q0 := 0) hE hP rfl rfl) zk_cd_X7_goesWell zk_in_RX7 zk_im_X7_goesWell zk_se_X7_goesWell zk_ml_RX7_88 rfl rfl zd_X7_goesWell ⟨by decide, by decide⟩ rfl hl.1 rfl (Nat.le_of_ble_eq_true rfl) dX7_paths_54 ⟨by decide, by decide⟩) hP hD hS [0, 1, 2, 3, 4, 5, 6, 7, 8, 9, 10, 11, 12, 13, 14, 15, 16, 17, 18, 19, 20, 21] rfl (fun _ => rfl) (fun r_10 u_10 H locs hp_10 hP hD hS => ?_)
    have hP : va_P D vwCl (mdlW ad 0 cy 1 h su st sh fl ic sn bn fm fr cm em lg le lf dl cS cH sea noi pl pw an hd bp bo bw c1 c2 c3 c4 c5 e1 e2 e3 e4 e5) H := hP
    have hD : va_D (zIn (mdlW ad 0 cy th h su st sh fl ic sn bn fm fr cm em lg le lf dl cS cH sea noi pl pw an hd bp bo bw c1 c2 c3 c4 c5 e1 e2 e3 e4 e5)) (mdlW ad 0 cy 1 h su st sh fl ic sn bn fm fr cm em lg le lf dl cS cH sea noi pl pw an hd bp bo bw c1 c2 c3 c4 c5 e1 e2 e3 e4 e5) := hD
    subst hp_10
    refine z_rw (b := 0) rfl ?_
    refine zi_if_eq (tgt := 72) M dX7_paths_57 (by decide) ⟨by decide, by decide⟩ (fun _ => ?_) (fun q => absurd q (by decide))
    refine zi_push M dX7_paths_72 ?_
    have hP : va_P D vwCl (mdlW ad 0 cy ((u8 lg le lf dl 1 0 0 0) 4) h su st sh fl ic sn bn fm fr cm em ((u8 lg le lf dl 1 0 0 0) 0) ((u8 lg le lf dl 1 0 0 0) 1) ((u8 lg le lf dl 1 0 0 0) 2) ((u8 lg le lf dl 1 0 0 0) 3) cS cH sea noi pl pw an hd bp bo bw c1 c2 c3 c4 c5 e1 e2 e3 e4 e5) H := hP
    exact zw_i M hr hlk (u8 lg le lf dl 1 0 0 0) hP hS (by exact Or.inr (Or.inl (⟨rfl, by omega, rfl⟩))) (by decide) (by decide) dX7_paths_73
