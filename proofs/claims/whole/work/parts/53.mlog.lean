/-! contracts: the model, what everybody may call, 3 -/
set_option maxRecDepth 100000 in
set_option maxHeartbeats 4000000 in
theorem c_X7_log (l : Launch) (D : va_G) (cy : Nat → ClassId) (z0 : Nat) (ad : Nat → Nat) (th h su st sh fl ic sn bn fm fr cm em lg le lf dl : Int) (cS cH sea noi pl pw an hd bp bo bw c1 c2 c3 c4 c5 e1 e2 e3 e4 e5 : Int → Int) (x : Int) (y : Int) (f : Int) (r_x : r32 x) (r_y : r32 y) (r_f : r32 f) (h_h : 0 ≤ h ∧ h ≤ 5000) (hsm : 0 ≤ sn ∧ sn ≤ 12) (hem : 0 ≤ em ∧ em ≤ 80) (g_e1 : zrg 80 0 11 e1) (g_e2 : zrg 80 0 11 e2) (g_e3 : zrg 80 0 300 e3) (g_e4 : zrg 80 0 5000 e4) (g_e5 : zrg 80 (-1) 79 e5) : Met l yX7_log [.code yX7_log cX7_log 9 (some .int)] (zRm 2 0 0 43) (zPc [.ref (ad 0), .int (iI x), .int (iI y), .int (iI f)] D cy z0 (zWl D z0 (mdlW ad 0 cy th h su st sh fl ic sn bn fm fr cm em lg le lf dl cS cH sea noi pl pw an hd bp bo bw c1 c2 c3 c4 c5 e1 e2 e3 e4 e5))) (zQ1 D (mdlW ad 0 cy th h su st sh fl ic sn bn fm fr cm em lg le lf dl cS cH sea noi pl pw an hd bp bo bw c1 c2 c3 c4 c5 e1 e2 e3 e4 e5) (fun (r : Int32) (u : Int) => (u = 0 ∧ (((0 ≤ x ∧ x < sn) ∧ (0 ≤ y ∧ y < sn)) ∧ ((10 ≤ f ∧ f ≤ 300) ∧ (¬ x = y)) ∧ (em < 80)) ∧ r = iI em) ∨ (u = 1 ∧ (¬ ((0 ≤ x ∧ x < sn) ∧ (0 ≤ y ∧ y < sn))) ∧ r = iI 0) ∨ (u = 2 ∧ (((0 ≤ x ∧ x < sn) ∧ (0 ≤ y ∧ y < sn)) ∧ ¬ ((10 ≤ f ∧ f ≤ 300) ∧ (¬ x = y))) ∧ r = iI 0) ∨ (u = 3 ∧ (((0 ≤ x ∧ x < sn) ∧ (0 ≤ y ∧ y < sn)) ∧ ((10 ≤ f ∧ f ≤ 300) ∧ (¬ x = y)) ∧ ¬ (em < 80)) ∧ r = iI 0)) (fun (u : Int) => (mdlW ad 0 cy u h su st sh fl ic sn bn fm fr cm (if u = 0 then (em + 1) else em) lg le lf dl cS cH sea noi pl pw an hd bp bo bw c1 c2 c3 c4 c5 (if u = 0 then (zu e1 em x) else e1) (if u = 0 then (zu e2 em y) else e2) (if u = 0 then (zu e3 em f) else e3) (if u = 0 then (zu e4 em h) else e4) (if u = 0 then (zpair (zu e5 em (lowZ (parP e1 e2 e3 e4 e5 x y f h) em)) em (lowZ (parP e1 e2 e3 e4 e5 x y f h) em)) else e5)))) 0 0 (zIn (mdlW ad 0 cy th h su st sh fl ic sn bn fm fr cm em lg le lf dl cS cH sea noi pl pw an hd bp bo bw c1 c2 c3 c4 c5 e1 e2 e3 e4 e5)) := by
  refine z_of (by decide) (Nat.le_of_ble_eq_true rfl) ?_
  intro p e s m args below meth c M hr hlk hini hargs hP0 hE ls hl
  have hP : va_P D vwCl (mdlW ad 0 cy th h su st sh fl ic sn bn fm fr cm em lg le lf dl cS cH sea noi pl pw an hd bp bo bw c1 c2 c3 c4 c5 e1 e2 e3 e4 e5) s.heap := hP0.1
  have hD : va_D (zIn (mdlW ad 0 cy th h su st sh fl ic sn bn fm fr cm em lg le lf dl cS cH sea noi pl pw an hd bp bo bw c1 c2 c3 c4 c5 e1 e2 e3 e4 e5)) (mdlW ad 0 cy th h su st sh fl ic sn bn fm fr cm em lg le lf dl cS cH sea noi pl pw an hd bp bo bw c1 c2 c3 c4 c5 e1 e2 e3 e4 e5) := hP0.self
  have hAz := hP0.A
  have hS : va_S (zIn (mdlW ad 0 cy th h su st sh fl ic sn bn fm fr cm em lg le lf dl cS cH sea noi pl pw an hd bp bo bw c1 c2 c3 c4 c5 e1 e2 e3 e4 e5)) s.heap s.heap [] := va_S.rf
  have hl : lv_has ls 9 [(0, .ref (ad 0)), (1, .int (iI x)), (2, .int (iI y)), (3, .int (iI f))] := hl
  refine lv_aload_n M.1 M.2.1 dX7_log_0 rfl (lv_at hl 0 rfl) ?_
  refine lv_iload_n M.1 M.2.1 dX7_log_1 rfl (lv_at hl 1 rfl) ?_
  refine z_cR (z_runV (As := [.int (iI x)]) (rest := []) M (c_X7_isStation l D cy z0 ad th h su st sh fl ic sn bn fm fr cm em lg le lf dl cS cH sea noi pl pw an hd bp bo bw c1 c2 c3 c4 c5 e1 e2 e3 e4 e5 x (by omega) (by omega)) hE hS hAz hP (zRc.of (ci := 7) (q0 := 0) hE hP rfl rfl) zk_cd_X7_isStation zk_in_RX7 zk_im_X7_isStation zk_se_X7_isStation zk_ml_RX7_177 rfl rfl zd_X7_isStation ⟨by decide, by decide⟩ rfl hl.1 rfl (Nat.le_of_ble_eq_true rfl) dX7_log_2 ⟨by decide, by decide⟩) ?_
  refine zi_b (P := 0 ≤ x ∧ x ≤ sn - 1) (g := fun r => F0 m 5 ls (.int r :: [])) (fun b_1 => ?_) (fun b_1 => ?_)
  ·
    refine zi_if_eq (tgt := 20) M dX7_log_5 (by decide) ⟨by decide, by decide⟩ (fun q => absurd q (by decide)) (fun _ => ?_)
    refine lv_aload_n M.1 M.2.1 dX7_log_8 rfl (lv_at hl 0 rfl) ?_
    refine lv_iload_n M.1 M.2.1 dX7_log_9 rfl (lv_at hl 2 rfl) ?_
    refine z_cR (z_runV (As := [.int (iI y)]) (rest := []) M (c_X7_isStation l D cy z0 ad th h su st sh fl ic sn bn fm fr cm em lg le lf dl cS cH sea noi pl pw an hd bp bo bw c1 c2 c3 c4 c5 e1 e2 e3 e4 e5 y (by omega) (by omega)) hE hS hAz hP (zRc.of (ci := 7) (q0 := 0) hE hP rfl rfl) zk_cd_X7_isStation zk_in_RX7 zk_im_X7_isStation zk_se_X7_isStation zk_ml_RX7_177 rfl rfl zd_X7_isStation ⟨by decide, by decide⟩ rfl hl.1 rfl (Nat.le_of_ble_eq_true rfl) dX7_log_10 ⟨by decide, by decide⟩) ?_
    refine zi_b (P := 0 ≤ y ∧ y ≤ sn - 1) (g := fun r => F0 m 13 ls (.int r :: [])) (fun b_2 => ?_) (fun b_2 => ?_)
    ·
      refine zi_if_eq (tgt := 20) M dX7_log_13 (by decide) ⟨by decide, by decide⟩ (fun q => absurd q (by decide)) (fun _ => ?_)
      refine zi_push M dX7_log_16 ?_
      refine zi_goto (tgt := 21) M dX7_log_17 (by decide) ?_
      refine lv_istore (lv' := [(4, .int (iI 1)), (0, .ref (ad 0)), (1, .int (iI x)), (2, .int (iI y)), (3, .int (iI f))]) M.1 M.2.1 dX7_log_21 hl (by decide) rfl (fun ls hl => ?_)
      refine lv_iload_n M.1 M.2.1 dX7_log_23 rfl (lv_at hl 4 rfl) ?_
      refine z_cR (z_runS (As := [.int (iI f)]) (rest := []) M (c_X7_isOn l D cy z0 f (by omega)) hE hS hAz trivial zk_cd_X7_isOn zk_in_RX7 zk_st_X7_isOn zk_ml_RX7_152 rfl rfl zd_X7_isOn ⟨by decide, by decide⟩ rfl hl.1 rfl (Nat.le_of_ble_eq_true rfl) dX7_log_24 ⟨by decide, by decide⟩) ?_
      refine zi_b (P := 10 ≤ f ∧ f ≤ 300) (g := fun r => F0 m 27 ls (.int r :: [])) (fun b_3 => ?_) (fun b_3 => ?_)
      ·
        refine zi_if_eq (tgt := 39) M dX7_log_27 (by decide) ⟨by decide, by decide⟩ (fun q => absurd q (by decide)) (fun _ => ?_)
        refine lv_iload_n M.1 M.2.1 dX7_log_30 rfl (lv_at hl 2 rfl) ?_
        refine lv_iload_n M.1 M.2.1 dX7_log_31 rfl (lv_at hl 3 rfl) ?_
        refine zi_icmp_eq (tgt := 39) M dX7_log_32 (by decide) (by omega) (by omega) (fun c_4 => ?_) (fun c_4 => ?_)
        ·
          refine zi_push M dX7_log_39 ?_
          refine lv_istore (lv' := [(5, .int (iI 0)), (4, .int (iI 1)), (0, .ref (ad 0)), (1, .int (iI x)), (2, .int (iI y)), (3, .int (iI f))]) M.1 M.2.1 dX7_log_40 hl (by decide) rfl (fun ls hl => ?_)
          refine lv_aload_n M.1 M.2.1 dX7_log_42 rfl (lv_at hl 2 rfl) ?_
          refine lv_iload M.1 M.2.1 dX7_log_43 (lv_at hl 1 rfl) ?_
          refine zi_if_ne (tgt := 52) M dX7_log_45 (by decide) ⟨by decide, by decide⟩ (fun _ => ?_) (fun q => absurd q (by decide))
          refine lv_iload M.1 M.2.1 dX7_log_52 (lv_at hl 0 rfl) ?_
          refine zi_if_ne (tgt := 61) M dX7_log_54 (by decide) ⟨by decide, by decide⟩ (fun q => absurd q (by decide)) (fun _ => ?_)
          refine zi_push M dX7_log_57 ?_
          refine zi_goto (tgt := 75) M dX7_log_58 (by decide) ?_
          refine z_cW (z_runV (As := [.int (iI 2)]) (rest := []) M (c_X7_goesWell l D cy z0 ad th h su st sh fl ic sn bn fm fr cm em lg le lf dl cS cH sea noi pl pw an hd bp bo bw c1 c2 c3 c4 c5 e1 e2 e3 e4 e5 2 (by omega)) hE hS hAz (z_cut hP hD hAz [0, 1, 2, 3, 4, 5, 6, 7, 8, 9, 10, 11, 12, 13, 14, 15, 16, 17, 18, 19, 20, 21] rfl (by decide +kernel)) (zRc.of (ci := 7) (q0 := 0) hE hP rfl rfl) zk_cd_X7_goesWell zk_in_RX7 zk_im_X7_goesWell zk_se_X7_goesWell zk_ml_RX7_88 rfl rfl zd_X7_goesWell ⟨by decide, by decide⟩ rfl hl.1 rfl (Nat.le_of_ble_eq_true rfl) dX7_log_75 ⟨by decide, by decide⟩) hP hD hS [0, 1, 2, 3, 4, 5, 6, 7, 8, 9, 10, 11, 12, 13, 14, 15, 16, 17, 18, 19, 20, 21] rfl (fun _ => rfl) (fun r_5 u_5 H locs hp_5 hP hD hS => ?_)
          have hP : va_P D vwCl (mdlW ad 0 cy 2 h su st sh fl ic sn bn fm fr cm em lg le lf dl cS cH sea noi pl pw an hd bp bo bw c1 c2 c3 c4 c5 e1 e2 e3 e4 e5) H := hP
          have hD : va_D (zIn (mdlW ad 0 cy th h su st sh fl ic sn bn fm fr cm em lg le lf dl cS cH sea noi pl pw an hd bp bo bw c1 c2 c3 c4 c5 e1 e2 e3 e4 e5)) (mdlW ad 0 cy 2 h su st sh fl ic sn bn fm fr cm em lg le lf dl cS cH sea noi pl pw an hd bp bo bw c1 c2 c3 c4 c5 e1 e2 e3 e4 e5) := hD
          subst hp_5
          refine z_rw (b := 0) rfl ?_
          refine zi_if_ne (tgt := 83) M dX7_log_78 (by decide) ⟨by decide, by decide⟩ (fun q => absurd q (by decide)) (fun _ => ?_)
          refine zi_push M dX7_log_81 ?_
          have hP : va_P D vwCl (mdlW ad 0 cy 2 h su st sh fl ic sn bn fm fr cm (if 2 = 0 then (em + 1) else em) lg le lf dl cS cH sea noi pl pw an hd bp bo bw c1 c2 c3 c4 c5 (if 2 = 0 then (zu e1 em x) else e1) (if 2 = 0 then (zu e2 em y) else e2) (if 2 = 0 then (zu e3 em f) else e3) (if 2 = 0 then (zu e4 em h) else e4) (if 2 = 0 then (zpair (zu e5 em (lowZ (parP e1 e2 e3 e4 e5 x y f h) em)) em (lowZ (parP e1 e2 e3 e4 e5 x y f h) em)) else e5)) H := hP
          exact zw_i M hr hlk 2 hP hS (by exact Or.inr (Or.inr (Or.inl (⟨rfl, by omega, rfl⟩)))) (by decide) (by decide) dX7_log_82
        ·
          refine zi_push M dX7_log_35 ?_
          refine zi_goto (tgt := 40) M dX7_log_36 (by decide) ?_
          refine lv_istore (lv' := [(5, .int (iI 1)), (4, .int (iI 1)), (0, .ref (ad 0)), (1, .int (iI x)), (2, .int (iI y)), (3, .int (iI f))]) M.1 M.2.1 dX7_log_40 hl (by decide) rfl (fun ls hl => ?_)
          refine lv_aload_n M.1 M.2.1 dX7_log_42 rfl (lv_at hl 2 rfl) ?_
          refine lv_iload M.1 M.2.1 dX7_log_43 (lv_at hl 1 rfl) ?_
          refine zi_if_ne (tgt := 52) M dX7_log_45 (by decide) ⟨by decide, by decide⟩ (fun _ => ?_) (fun q => absurd q (by decide))
          refine lv_iload M.1 M.2.1 dX7_log_52 (lv_at hl 0 rfl) ?_
          refine zi_if_ne (tgt := 61) M dX7_log_54 (by decide) ⟨by decide, by decide⟩ (fun _ => ?_) (fun q => absurd q (by decide))
          refine lv_aload_n M.1 M.2.1 dX7_log_61 rfl (lv_at hl 2 rfl) ?_
          refine zi_get (ci := 7) (v := .int (iI em)) M hE hP 0 rfl rfl zu_X7 28 (by decide) zk_fl_RX7_187 rfl rfl dX7_log_62 ?_
          refine zi_bipush M dX7_log_65 ⟨by decide, by decide⟩ ?_
          refine zi_icmp_ne (tgt := 74) M dX7_log_67 (by decide) (by omega) ⟨by decide, by decide⟩ (fun c_6 => ?_) (fun c_6 => ?_)
          ·
            refine zi_push M dX7_log_74 ?_
            refine z_cW (z_runV (As := [.int (iI 0)]) (rest := []) M (c_X7_goesWell l D cy z0 ad th h su st sh fl ic sn bn fm fr cm em lg le lf dl cS cH sea noi pl pw an hd bp bo bw c1 c2 c3 c4 c5 e1 e2 e3 e4 e5 0 (by omega)) hE hS hAz (z_cut hP hD hAz [0, 1, 2, 3, 4, 5, 6, 7, 8, 9, 10, 11, 12, 13, 14, 15, 16, 17, 18, 19, 20, 21] rfl (by decide +kernel)) (zRc.of (ci := 7) (q0 := 0) hE hP rfl rfl) zk_cd_X7_goesWell zk_in_RX7 zk_im_X7_goesWell zk_se_X7_goesWell zk_ml_RX7_88 rfl rfl zd_X7_goesWell ⟨by decide, by decide⟩ rfl hl.1 rfl (Nat.le_of_ble_eq_true rfl) dX7_log_75 ⟨by decide, by decide⟩) hP hD hS [0, 1, 2, 3, 4, 5, 6, 7, 8, 9, 10, 11, 12, 13, 14, 15, 16, 17, 18, 19, 20, 21] rfl (fun _ => rfl) (fun r_7 u_7 H locs hp_7 hP hD hS => ?_)
            have hP : va_P D vwCl (mdlW ad 0 cy 0 h su st sh fl ic sn bn fm fr cm em lg le lf dl cS cH sea noi pl pw an hd bp bo bw c1 c2 c3 c4 c5 e1 e2 e3 e4 e5) H := hP
            have hD : va_D (zIn (mdlW ad 0 cy th h su st sh fl ic sn bn fm fr cm em lg le lf dl cS cH sea noi pl pw an hd bp bo bw c1 c2 c3 c4 c5 e1 e2 e3 e4 e5)) (mdlW ad 0 cy 0 h su st sh fl ic sn bn fm fr cm em lg le lf dl cS cH sea noi pl pw an hd bp bo bw c1 c2 c3 c4 c5 e1 e2 e3 e4 e5) := hD
            subst hp_7
            refine z_rw (b := 1) rfl ?_
            refine zi_if_ne (tgt := 83) M dX7_log_78 (by decide) ⟨by decide, by decide⟩ (fun _ => ?_) (fun q => absurd q (by decide))
            refine zi_push M dX7_log_83 ?_
            refine lv_istore (lv' := [(6, .int (iI (-1))), (5, .int (iI 1)), (4, .int (iI 1)), (0, .ref (ad 0)), (1, .int (iI x)), (2, .int (iI y)), (3, .int (iI f))]) M.1 M.2.1 dX7_log_84 hl (by decide) rfl (fun ls hl => ?_)
            refine lv_aload_n M.1 M.2.1 dX7_log_86 rfl (lv_at hl 3 rfl) ?_
            refine zi_get (ci := 7) (v := .int (iI em)) M hE hP 0 rfl rfl zu_X7 28 (by decide) zk_fl_RX7_187 rfl rfl dX7_log_87 ?_
            refine zi_push M dX7_log_90 ?_
            refine zi_isub M dX7_log_91 ?_
            refine lv_istore (lv' := [(7, .int (iI (em - 1))), (6, .int (iI (-1))), (5, .int (iI 1)), (4, .int (iI 1)), (0, .ref (ad 0)), (1, .int (iI x)), (2, .int (iI y)), (3, .int (iI f))]) M.1 M.2.1 dX7_log_92 hl (by decide) rfl (fun ls hl => ?_)
            have L_94 : ∀ (k_94 : Nat) (fd : Int) (i : Int) (hi : -1 ≤ i ∧ i < em) (hdn : dnL (parP e1 e2 e3 e4 e5 x y f h) em i fd) (hm : i + 1 < (k_94 : Int)) (H : Heap) (locs : List Loc) (hP : va_P D vwCl (mdlW ad 0 cy 0 h su st sh fl ic sn bn fm fr cm em lg le lf dl cS cH sea noi pl pw an hd bp bo bw c1 c2 c3 c4 c5 e1 e2 e3 e4 e5) H) (hD : va_D (zIn (mdlW ad 0 cy th h su st sh fl ic sn bn fm fr cm em lg le lf dl cS cH sea noi pl pw an hd bp bo bw c1 c2 c3 c4 c5 e1 e2 e3 e4 e5)) (mdlW ad 0 cy 0 h su st sh fl ic sn bn fm fr cm em lg le lf dl cS cH sea noi pl pw an hd bp bo bw c1 c2 c3 c4 c5 e1 e2 e3 e4 e5)) (hS : va_S (zIn (mdlW ad 0 cy th h su st sh fl ic sn bn fm fr cm em lg le lf dl cS cH sea noi pl pw an hd bp bo bw c1 c2 c3 c4 c5 e1 e2 e3 e4 e5)) s.heap H locs) (ls : Array Slot) (hl : lv_has ls 9 [(0, .ref (ad 0)), (1, .int (iI x)), (2, .int (iI y)), (3, .int (iI f)), (6, .int (iI fd)), (7, .int (iI i))]), W p l e (zRm 2 0 0 43) s m args below meth c H locs 0 0 (MQ below (zQ1 D (mdlW ad 0 cy th h su st sh fl ic sn bn fm fr cm em lg le lf dl cS cH sea noi pl pw an hd bp bo bw c1 c2 c3 c4 c5 e1 e2 e3 e4 e5) (fun (r : Int32) (u : Int) => (u = 0 ∧ (((0 ≤ x ∧ x < sn) ∧ (0 ≤ y ∧ y < sn)) ∧ ((10 ≤ f ∧ f ≤ 300) ∧ (¬ x = y)) ∧ (em < 80)) ∧ r = iI em) ∨ (u = 1 ∧ (¬ ((0 ≤ x ∧ x < sn) ∧ (0 ≤ y ∧ y < sn))) ∧ r = iI 0) ∨ (u = 2 ∧ (((0 ≤ x ∧ x < sn) ∧ (0 ≤ y ∧ y < sn)) ∧ ¬ ((10 ≤ f ∧ f ≤ 300) ∧ (¬ x = y))) ∧ r = iI 0) ∨ (u = 3 ∧ (((0 ≤ x ∧ x < sn) ∧ (0 ≤ y ∧ y < sn)) ∧ ((10 ≤ f ∧ f ≤ 300) ∧ (¬ x = y)) ∧ ¬ (em < 80)) ∧ r = iI 0)) (fun (u : Int) => (mdlW ad 0 cy u h su st sh fl ic sn bn fm fr cm (if u = 0 then (em + 1) else em) lg le lf dl cS cH sea noi pl pw an hd bp bo bw c1 c2 c3 c4 c5 (if u = 0 then (zu e1 em x) else e1) (if u = 0 then (zu e2 em y) else e2) (if u = 0 then (zu e3 em f) else e3) (if u = 0 then (zu e4 em h) else e4) (if u = 0 then (zpair (zu e5 em (lowZ (parP e1 e2 e3 e4 e5 x y f h) em)) em (lowZ (parP e1 e2 e3 e4 e5 x y f h) em)) else e5)))) args s 0 0 (zIn (mdlW ad 0 cy th h su st sh fl ic sn bn fm fr cm em lg le lf dl cS cH sea noi pl pw an hd bp bo bw c1 c2 c3 c4 c5 e1 e2 e3 e4 e5))) (F0 m 94 ls []) := by
              intro k_94
              induction k_94 with
              | zero =>
                intro fd i hi hdn hm H locs hP hD hS ls hl
                exact absurd hm (by omega)
              | succ k_94 ih_94 =>
                intro fd i hi hdn hm H locs hP hD hS ls hl
                have hfr := dnL_rg hi.1 hdn
                refine lv_iload M.1 M.2.1 dX7_log_94 (lv_at hl 5 rfl) ?_
                refine zi_if_lt (tgt := 186) M dX7_log_96 (by decide) (by omega) (fun c_8 => ?_) (fun c_8 => ?_)
                ·
                  have hpar := dnL_e (by omega) hdn
                  have hdr := dnL_rg hi.1 hdn
                  subst hpar
                  refine lv_aload_n M.1 M.2.1 dX7_log_186 rfl (lv_at hl 0 rfl) ?_
                  refine zi_get (ci := 7) (v := .ref (ad (0 + 17))) M hE hP 0 rfl rfl zu_X7 29 (by decide) zk_fl_RX7_63 rfl rfl dX7_log_187 ?_
                  refine lv_aload_n M.1 M.2.1 dX7_log_190 rfl (lv_at hl 0 rfl) ?_
                  refine zi_get (ci := 7) (v := .int (iI em)) M hE hP 0 rfl rfl zu_X7 28 (by decide) zk_fl_RX7_187 rfl rfl dX7_log_191 ?_
                  refine lv_iload_n M.1 M.2.1 dX7_log_194 rfl (lv_at hl 1 rfl) ?_
                  refine zi_iast (ws' := (mdlW ad 0 cy 0 h su st sh fl ic sn bn fm fr cm em lg le lf dl cS cH sea noi pl pw an hd bp bo bw c1 c2 c3 c4 c5 (zu e1 em x) e2 e3 e4 e5)) M hE hP hD hS 17 (n := 80) (g := e1) rfl (Nat.le_of_ble_eq_true rfl) (by omega) (by omega) rfl dX7_log_195 (fun H locs hP hD hS => ?_)
                  refine lv_aload_n M.1 M.2.1 dX7_log_196 rfl (lv_at hl 0 rfl) ?_
                  refine zi_get (ci := 7) (v := .ref (ad (0 + 18))) M hE hP 0 rfl rfl zu_X7 30 (by decide) zk_fl_RX7_66 rfl rfl dX7_log_197 ?_
                  refine lv_aload_n M.1 M.2.1 dX7_log_200 rfl (lv_at hl 0 rfl) ?_
                  refine zi_get (ci := 7) (v := .int (iI em)) M hE hP 0 rfl rfl zu_X7 28 (by decide) zk_fl_RX7_187 rfl rfl dX7_log_201 ?_
                  refine lv_iload_n M.1 M.2.1 dX7_log_204 rfl (lv_at hl 2 rfl) ?_
                  refine zi_iast (ws' := (mdlW ad 0 cy 0 h su st sh fl ic sn bn fm fr cm em lg le lf dl cS cH sea noi pl pw an hd bp bo bw c1 c2 c3 c4 c5 (zu e1 em x) (zu e2 em y) e3 e4 e5)) M hE hP hD hS 18 (n := 80) (g := e2) rfl (Nat.le_of_ble_eq_true rfl) (by omega) (by omega) rfl dX7_log_205 (fun H locs hP hD hS => ?_)
                  refine lv_aload_n M.1 M.2.1 dX7_log_206 rfl (lv_at hl 0 rfl) ?_
                  refine zi_get (ci := 7) (v := .ref (ad (0 + 19))) M hE hP 0 rfl rfl zu_X7 31 (by decide) zk_fl_RX7_69 rfl rfl dX7_log_207 ?_
                  refine lv_aload_n M.1 M.2.1 dX7_log_210 rfl (lv_at hl 0 rfl) ?_
                  refine zi_get (ci := 7) (v := .int (iI em)) M hE hP 0 rfl rfl zu_X7 28 (by decide) zk_fl_RX7_187 rfl rfl dX7_log_211 ?_
                  refine lv_iload_n M.1 M.2.1 dX7_log_214 rfl (lv_at hl 3 rfl) ?_
                  refine zi_iast (ws' := (mdlW ad 0 cy 0 h su st sh fl ic sn bn fm fr cm em lg le lf dl cS cH sea noi pl pw an hd bp bo bw c1 c2 c3 c4 c5 (zu e1 em x) (zu e2 em y) (zu e3 em f) e4 e5)) M hE hP hD hS 19 (n := 80) (g := e3) rfl (Nat.le_of_ble_eq_true rfl) (by omega) (by omega) rfl dX7_log_215 (fun H locs hP hD hS => ?_)
                  refine lv_aload_n M.1 M.2.1 dX7_log_216 rfl (lv_at hl 0 rfl) ?_
                  refine zi_get (ci := 7) (v := .ref (ad (0 + 20))) M hE hP 0 rfl rfl zu_X7 32 (by decide) zk_fl_RX7_72 rfl rfl dX7_log_217 ?_
                  refine lv_aload_n M.1 M.2.1 dX7_log_220 rfl (lv_at hl 0 rfl) ?_
                  refine zi_get (ci := 7) (v := .int (iI em)) M hE hP 0 rfl rfl zu_X7 28 (by decide) zk_fl_RX7_187 rfl rfl dX7_log_221 ?_
                  refine lv_aload_n M.1 M.2.1 dX7_log_224 rfl (lv_at hl 0 rfl) ?_
                  refine zi_get (ci := 7) (v := .int (iI h)) M hE hP 0 rfl rfl zu_X7 1 (by decide) zk_fl_RX7_104 rfl rfl dX7_log_225 ?_
                  refine zi_iast (ws' := (mdlW ad 0 cy 0 h su st sh fl ic sn bn fm fr cm em lg le lf dl cS cH sea noi pl pw an hd bp bo bw c1 c2 c3 c4 c5 (zu e1 em x) (zu e2 em y) (zu e3 em f) (zu e4 em h) e5)) M hE hP hD hS 20 (n := 80) (g := e4) rfl (Nat.le_of_ble_eq_true rfl) (by omega) (by omega) rfl dX7_log_228 (fun H locs hP hD hS => ?_)
                  refine lv_aload_n M.1 M.2.1 dX7_log_229 rfl (lv_at hl 0 rfl) ?_
                  refine zi_get (ci := 7) (v := .ref (ad (0 + 21))) M hE hP 0 rfl rfl zu_X7 33 (by decide) zk_fl_RX7_75 rfl rfl dX7_log_230 ?_
                  refine lv_aload_n M.1 M.2.1 dX7_log_233 rfl (lv_at hl 0 rfl) ?_
                  refine zi_get (ci := 7) (v := .int (iI em)) M hE hP 0 rfl rfl zu_X7 28 (by decide) zk_fl_RX7_187 rfl rfl dX7_log_234 ?_
                  refine lv_iload M.1 M.2.1 dX7_log_237 (lv_at hl 4 rfl) ?_
                  refine zi_iast (ws' := (mdlW ad 0 cy 0 h su st sh fl ic sn bn fm fr cm em lg le lf dl cS cH sea noi pl pw an hd bp bo bw c1 c2 c3 c4 c5 (zu e1 em x) (zu e2 em y) (zu e3 em f) (zu e4 em h) (zu e5 em (lowZ (parP e1 e2 e3 e4 e5 x y f h) em)))) M hE hP hD hS 21 (n := 80) (g := e5) rfl (Nat.le_of_ble_eq_true rfl) (by omega) (by omega) rfl dX7_log_239 (fun H locs hP hD hS => ?_)
                  refine lv_iload M.1 M.2.1 dX7_log_240 (lv_at hl 4 rfl) ?_
                  refine zi_push M dX7_log_242 ?_
                  refine zi_icmp_eq (tgt := 257) M dX7_log_243 (by decide) (by omega) ⟨by decide, by decide⟩ (fun c_9 => ?_) (fun c_9 => ?_)
                  ·
                    refine lv_aload_n M.1 M.2.1 dX7_log_257 rfl (lv_at hl 0 rfl) ?_
                    refine lv_dup M.1 M.2.1 dX7_log_258 rfl ?_
                    refine zi_get (ci := 7) (v := .int (iI em)) M hE hP 0 rfl rfl zu_X7 28 (by decide) zk_fl_RX7_187 rfl rfl dX7_log_259 ?_
                    refine zi_push M dX7_log_262 ?_
                    refine zi_iadd M dX7_log_263 ?_
                    refine zi_put (ci := 7) (ws' := (mdlW ad 0 cy 0 h su st sh fl ic sn bn fm fr cm (em + 1) lg le lf dl cS cH sea noi pl pw an hd bp bo bw c1 c2 c3 c4 c5 (zu e1 em x) (zu e2 em y) (zu e3 em f) (zu e4 em h) (zu e5 em (lowZ (parP e1 e2 e3 e4 e5 x y f h) em)))) M hE hP hD hS 0 rfl rfl zu_X7 28 (by decide) zk_fl_RX7_187 rfl rfl tyX7_ok nmX7 rfl rfl (Nat.le_of_ble_eq_true rfl) rfl dX7_log_264 (fun H locs hP hD hS => ?_)
                    refine lv_aload_n M.1 M.2.1 dX7_log_267 rfl (lv_at hl 0 rfl) ?_
                    refine zi_get (ci := 7) (v := .int (iI (em + 1))) M hE hP 0 rfl rfl zu_X7 28 (by decide) zk_fl_RX7_187 rfl rfl dX7_log_268 ?_
                    refine zi_push M dX7_log_271 ?_
                    refine zi_isub M dX7_log_272 ?_
                    have q1 : zpair (zu e5 em (lowZ (parP e1 e2 e3 e4 e5 x y f h) em)) em (lowZ (parP e1 e2 e3 e4 e5 x y f h) em) = (zu e5 em (lowZ (parP e1 e2 e3 e4 e5 x y f h) em)) := if_pos (by omega)
                    have hP : va_P D vwCl (mdlW ad 0 cy 0 h su st sh fl ic sn bn fm fr cm (em + 1) lg le lf dl cS cH sea noi pl pw an hd bp bo bw c1 c2 c3 c4 c5 (zu e1 em x) (zu e2 em y) (zu e3 em f) (zu e4 em h) (zpair (zu e5 em (lowZ (parP e1 e2 e3 e4 e5 x y f h) em)) em (lowZ (parP e1 e2 e3 e4 e5 x y f h) em))) H := by rw [q1]; exact hP
                    have hP : va_P D vwCl (mdlW ad 0 cy 0 h su st sh fl ic sn bn fm fr cm (if 0 = 0 then (em + 1) else em) lg le lf dl cS cH sea noi pl pw an hd bp bo bw c1 c2 c3 c4 c5 (if 0 = 0 then (zu e1 em x) else e1) (if 0 = 0 then (zu e2 em y) else e2) (if 0 = 0 then (zu e3 em f) else e3) (if 0 = 0 then (zu e4 em h) else e4) (if 0 = 0 then (zpair (zu e5 em (lowZ (parP e1 e2 e3 e4 e5 x y f h) em)) em (lowZ (parP e1 e2 e3 e4 e5 x y f h) em)) else e5)) H := hP
                    exact zw_i M hr hlk 0 hP hS (by exact Or.inl ⟨rfl, by omega, congrArg iI (show (((em + 1) - 1) : Int) = em by omega)⟩) (by decide) (by decide) dX7_log_273
                  ·
                    refine lv_aload_n M.1 M.2.1 dX7_log_246 rfl (lv_at hl 0 rfl) ?_
                    refine zi_get (ci := 7) (v := .ref (ad (0 + 21))) M hE hP 0 rfl rfl zu_X7 33 (by decide) zk_fl_RX7_75 rfl rfl dX7_log_247 ?_
                    refine lv_iload M.1 M.2.1 dX7_log_250 (lv_at hl 4 rfl) ?_
                    refine lv_aload_n M.1 M.2.1 dX7_log_252 rfl (lv_at hl 0 rfl) ?_
                    refine zi_get (ci := 7) (v := .int (iI em)) M hE hP 0 rfl rfl zu_X7 28 (by decide) zk_fl_RX7_187 rfl rfl dX7_log_253 ?_
                    refine zi_iast (ws' := (mdlW ad 0 cy 0 h su st sh fl ic sn bn fm fr cm em lg le lf dl cS cH sea noi pl pw an hd bp bo bw c1 c2 c3 c4 c5 (zu e1 em x) (zu e2 em y) (zu e3 em f) (zu e4 em h) (zu (zu e5 em (lowZ (parP e1 e2 e3 e4 e5 x y f h) em)) (lowZ (parP e1 e2 e3 e4 e5 x y f h) em) em))) M hE hP hD hS 21 (n := 80) (g := (zu e5 em (lowZ (parP e1 e2 e3 e4 e5 x y f h) em))) rfl (Nat.le_of_ble_eq_true rfl) (by omega) (by omega) rfl dX7_log_256 (fun H locs hP hD hS => ?_)
                    refine lv_aload_n M.1 M.2.1 dX7_log_257 rfl (lv_at hl 0 rfl) ?_
                    refine lv_dup M.1 M.2.1 dX7_log_258 rfl ?_
                    refine zi_get (ci := 7) (v := .int (iI em)) M hE hP 0 rfl rfl zu_X7 28 (by decide) zk_fl_RX7_187 rfl rfl dX7_log_259 ?_
                    refine zi_push M dX7_log_262 ?_
                    refine zi_iadd M dX7_log_263 ?_
                    refine zi_put (ci := 7) (ws' := (mdlW ad 0 cy 0 h su st sh fl ic sn bn fm fr cm (em + 1) lg le lf dl cS cH sea noi pl pw an hd bp bo bw c1 c2 c3 c4 c5 (zu e1 em x) (zu e2 em y) (zu e3 em f) (zu e4 em h) (zu (zu e5 em (lowZ (parP e1 e2 e3 e4 e5 x y f h) em)) (lowZ (parP e1 e2 e3 e4 e5 x y f h) em) em))) M hE hP hD hS 0 rfl rfl zu_X7 28 (by decide) zk_fl_RX7_187 rfl rfl tyX7_ok nmX7 rfl rfl (Nat.le_of_ble_eq_true rfl) rfl dX7_log_264 (fun H locs hP hD hS => ?_)
                    refine lv_aload_n M.1 M.2.1 dX7_log_267 rfl (lv_at hl 0 rfl) ?_
                    refine zi_get (ci := 7) (v := .int (iI (em + 1))) M hE hP 0 rfl rfl zu_X7 28 (by decide) zk_fl_RX7_187 rfl rfl dX7_log_268 ?_
                    refine zi_push M dX7_log_271 ?_
                    refine zi_isub M dX7_log_272 ?_
                    have q1 : zpair (zu e5 em (lowZ (parP e1 e2 e3 e4 e5 x y f h) em)) em (lowZ (parP e1 e2 e3 e4 e5 x y f h) em) = zu (zu e5 em (lowZ (parP e1 e2 e3 e4 e5 x y f h) em)) (lowZ (parP e1 e2 e3 e4 e5 x y f h) em) em := if_neg (by omega)
                    have hP : va_P D vwCl (mdlW ad 0 cy 0 h su st sh fl ic sn bn fm fr cm (em + 1) lg le lf dl cS cH sea noi pl pw an hd bp bo bw c1 c2 c3 c4 c5 (zu e1 em x) (zu e2 em y) (zu e3 em f) (zu e4 em h) (zpair (zu e5 em (lowZ (parP e1 e2 e3 e4 e5 x y f h) em)) em (lowZ (parP e1 e2 e3 e4 e5 x y f h) em))) H := by rw [q1]; exact hP
                    have hP : va_P D vwCl (mdlW ad 0 cy 0 h su st sh fl ic sn bn fm fr cm (if 0 = 0 then (em + 1) else em) lg le lf dl cS cH sea noi pl pw an hd bp bo bw c1 c2 c3 c4 c5 (if 0 = 0 then (zu e1 em x) else e1) (if 0 = 0 then (zu e2 em y) else e2) (if 0 = 0 then (zu e3 em f) else e3) (if 0 = 0 then (zu e4 em h) else e4) (if 0 = 0 then (zpair (zu e5 em (lowZ (parP e1 e2 e3 e4 e5 x y f h) em)) em (lowZ (parP e1 e2 e3 e4 e5 x y f h) em)) else e5)) H := hP
                    exact zw_i M hr hlk 0 hP hS (by exact Or.inl ⟨rfl, by omega, congrArg iI (show (((em + 1) - 1) : Int) = em by omega)⟩) (by decide) (by decide) dX7_log_273
                ·
                  refine lv_aload_n M.1 M.2.1 dX7_log_99 rfl (lv_at hl 0 rfl) ?_
                  refine zi_get (ci := 7) (v := .ref (ad (0 + 21))) M hE hP 0 rfl rfl zu_X7 33 (by decide) zk_fl_RX7_75 rfl rfl dX7_log_100 ?_
                  refine lv_iload M.1 M.2.1 dX7_log_103 (lv_at hl 5 rfl) ?_
                  refine zi_iald M hE hP 21 (n := 80) (g := e5) rfl (Nat.le_of_ble_eq_true rfl) (by omega) (by omega) dX7_log_105 ?_
                  have hr_10 := g_e5 i (by omega) (by omega)
                  refine zi_push M dX7_log_106 ?_
                  refine zi_icmp_ne (tgt := 163) M dX7_log_107 (by decide) (by omega) ⟨by decide, by decide⟩ (fun c_11 => ?_) (fun c_11 => ?_)
                  ·
                    refine zi_push M dX7_log_163 ?_
                    refine lv_istore (lv' := [(8, .int (iI 0)), (0, .ref (ad 0)), (1, .int (iI x)), (2, .int (iI y)), (3, .int (iI f)), (6, .int (iI fd)), (7, .int (iI i))]) M.1 M.2.1 dX7_log_164 hl (by decide) rfl (fun ls hl => ?_)
                    refine lv_iload M.1 M.2.1 dX7_log_166 (lv_at hl 0 rfl) ?_
                    refine zi_if_eq (tgt := 176) M dX7_log_168 (by decide) ⟨by decide, by decide⟩ (fun _ => ?_) (fun q => absurd q (by decide))
                    refine lv_iload M.1 M.2.1 dX7_log_176 (lv_at hl 5 rfl) ?_
                    refine lv_istore (lv' := [(6, .int (iI fd)), (8, .int (iI 0)), (0, .ref (ad 0)), (1, .int (iI x)), (2, .int (iI y)), (3, .int (iI f)), (7, .int (iI i))]) M.1 M.2.1 dX7_log_178 hl (by decide) rfl (fun ls hl => ?_)
                    refine zi_iinc (lv' := [(7, .int (iI (i + (-1)))), (6, .int (iI fd)), (8, .int (iI 0)), (0, .ref (ad 0)), (1, .int (iI x)), (2, .int (iI y)), (3, .int (iI f))]) M dX7_log_180 hl 6 rfl (by decide) rfl (fun ls hl => ?_)
                    refine zi_goto (tgt := 94) M dX7_log_183 (by decide) ?_
                    exact ih_94 fd (i + (-1)) (by omega) (dnL_n hdn (by unfold parP; omega)) (by omega) _ _ hP hD hS ls (lv_sub hl [3, 4, 5, 6, 1, 0] rfl)
                  ·
                    refine lv_aload_n M.1 M.2.1 dX7_log_110 rfl (lv_at hl 0 rfl) ?_
                    refine zi_get (ci := 7) (v := .ref (ad (0 + 17))) M hE hP 0 rfl rfl zu_X7 29 (by decide) zk_fl_RX7_63 rfl rfl dX7_log_111 ?_
                    refine lv_iload M.1 M.2.1 dX7_log_114 (lv_at hl 5 rfl) ?_
                    refine zi_iald M hE hP 17 (n := 80) (g := e1) rfl (Nat.le_of_ble_eq_true rfl) (by omega) (by omega) dX7_log_116 ?_
                    have hr_12 := g_e1 i (by omega) (by omega)
                    refine lv_iload_n M.1 M.2.1 dX7_log_117 rfl (lv_at hl 2 rfl) ?_
                    refine zi_icmp_ne (tgt := 163) M dX7_log_118 (by decide) (by omega) (by omega) (fun c_13 => ?_) (fun c_13 => ?_)
                    ·
                      refine zi_push M dX7_log_163 ?_
                      refine lv_istore (lv' := [(8, .int (iI 0)), (0, .ref (ad 0)), (1, .int (iI x)), (2, .int (iI y)), (3, .int (iI f)), (6, .int (iI fd)), (7, .int (iI i))]) M.1 M.2.1 dX7_log_164 hl (by decide) rfl (fun ls hl => ?_)
                      refine lv_iload M.1 M.2.1 dX7_log_166 (lv_at hl 0 rfl) ?_
                      refine zi_if_eq (tgt := 176) M dX7_log_168 (by decide) ⟨by decide, by decide⟩ (fun _ => ?_) (fun q => absurd q (by decide))
                      refine lv_iload M.1 M.2.1 dX7_log_176 (lv_at hl 5 rfl) ?_
                      refine lv_istore (lv' := [(6, .int (iI fd)), (8, .int (iI 0)), (0, .ref (ad 0)), (1, .int (iI x)), (2, .int (iI y)), (3, .int (iI f)), (7, .int (iI i))]) M.1 M.2.1 dX7_log_178 hl (by decide) rfl (fun ls hl => ?_)
                      refine zi_iinc (lv' := [(7, .int (iI (i + (-1)))), (6, .int (iI fd)), (8, .int (iI 0)), (0, .ref (ad 0)), (1, .int (iI x)), (2, .int (iI y)), (3, .int (iI f))]) M dX7_log_180 hl 6 rfl (by decide) rfl (fun ls hl => ?_)
                      refine zi_goto (tgt := 94) M dX7_log_183 (by decide) ?_
                      exact ih_94 fd (i + (-1)) (by omega) (dnL_n hdn (by unfold parP; omega)) (by omega) _ _ hP hD hS ls (lv_sub hl [3, 4, 5, 6, 1, 0] rfl)
                    ·
                      refine lv_aload_n M.1 M.2.1 dX7_log_121 rfl (lv_at hl 0 rfl) ?_
                      refine zi_get (ci := 7) (v := .ref (ad (0 + 18))) M hE hP 0 rfl rfl zu_X7 30 (by decide) zk_fl_RX7_66 rfl rfl dX7_log_122 ?_
                      refine lv_iload M.1 M.2.1 dX7_log_125 (lv_at hl 5 rfl) ?_
                      refine zi_iald M hE hP 18 (n := 80) (g := e2) rfl (Nat.le_of_ble_eq_true rfl) (by omega) (by omega) dX7_log_127 ?_
                      have hr_14 := g_e2 i (by omega) (by omega)
                      refine lv_iload_n M.1 M.2.1 dX7_log_128 rfl (lv_at hl 1 rfl) ?_
                      refine zi_icmp_ne (tgt := 163) M dX7_log_129 (by decide) (by omega) (by omega) (fun c_15 => ?_) (fun c_15 => ?_)
                      ·
                        refine zi_push M dX7_log_163 ?_
                        refine lv_istore (lv' := [(8, .int (iI 0)), (0, .ref (ad 0)), (1, .int (iI x)), (2, .int (iI y)), (3, .int (iI f)), (6, .int (iI fd)), (7, .int (iI i))]) M.1 M.2.1 dX7_log_164 hl (by decide) rfl (fun ls hl => ?_)
                        refine lv_iload M.1 M.2.1 dX7_log_166 (lv_at hl 0 rfl) ?_
                        refine zi_if_eq (tgt := 176) M dX7_log_168 (by decide) ⟨by decide, by decide⟩ (fun _ => ?_) (fun q => absurd q (by decide))
                        refine lv_iload M.1 M.2.1 dX7_log_176 (lv_at hl 5 rfl) ?_
                        refine lv_istore (lv' := [(6, .int (iI fd)), (8, .int (iI 0)), (0, .ref (ad 0)), (1, .int (iI x)), (2, .int (iI y)), (3, .int (iI f)), (7, .int (iI i))]) M.1 M.2.1 dX7_log_178 hl (by decide) rfl (fun ls hl => ?_)
                        refine zi_iinc (lv' := [(7, .int (iI (i + (-1)))), (6, .int (iI fd)), (8, .int (iI 0)), (0, .ref (ad 0)), (1, .int (iI x)), (2, .int (iI y)), (3, .int (iI f))]) M dX7_log_180 hl 6 rfl (by decide) rfl (fun ls hl => ?_)
                        refine zi_goto (tgt := 94) M dX7_log_183 (by decide) ?_
                        exact ih_94 fd (i + (-1)) (by omega) (dnL_n hdn (by unfold parP; omega)) (by omega) _ _ hP hD hS ls (lv_sub hl [3, 4, 5, 6, 1, 0] rfl)
                      ·
                        refine lv_aload_n M.1 M.2.1 dX7_log_132 rfl (lv_at hl 0 rfl) ?_
                        refine zi_get (ci := 7) (v := .ref (ad (0 + 19))) M hE hP 0 rfl rfl zu_X7 31 (by decide) zk_fl_RX7_69 rfl rfl dX7_log_133 ?_
                        refine lv_iload M.1 M.2.1 dX7_log_136 (lv_at hl 5 rfl) ?_
                        refine zi_iald M hE hP 19 (n := 80) (g := e3) rfl (Nat.le_of_ble_eq_true rfl) (by omega) (by omega) dX7_log_138 ?_
                        have hr_16 := g_e3 i (by omega) (by omega)
                        refine lv_iload_n M.1 M.2.1 dX7_log_139 rfl (lv_at hl 3 rfl) ?_
                        refine zi_icmp_ne (tgt := 163) M dX7_log_140 (by decide) (by omega) (by omega) (fun c_17 => ?_) (fun c_17 => ?_)
                        ·
                          refine zi_push M dX7_log_163 ?_
                          refine lv_istore (lv' := [(8, .int (iI 0)), (0, .ref (ad 0)), (1, .int (iI x)), (2, .int (iI y)), (3, .int (iI f)), (6, .int (iI fd)), (7, .int (iI i))]) M.1 M.2.1 dX7_log_164 hl (by decide) rfl (fun ls hl => ?_)
                          refine lv_iload M.1 M.2.1 dX7_log_166 (lv_at hl 0 rfl) ?_
                          refine zi_if_eq (tgt := 176) M dX7_log_168 (by decide) ⟨by decide, by decide⟩ (fun _ => ?_) (fun q => absurd q (by decide))
                          refine lv_iload M.1 M.2.1 dX7_log_176 (lv_at hl 5 rfl) ?_
                          refine lv_istore (lv' := [(6, .int (iI fd)), (8, .int (iI 0)), (0, .ref (ad 0)), (1, .int (iI x)), (2, .int (iI y)), (3, .int (iI f)), (7, .int (iI i))]) M.1 M.2.1 dX7_log_178 hl (by decide) rfl (fun ls hl => ?_)
                          refine zi_iinc (lv' := [(7, .int (iI (i + (-1)))), (6, .int (iI fd)), (8, .int (iI 0)), (0, .ref (ad 0)), (1, .int (iI x)), (2, .int (iI y)), (3, .int (iI f))]) M dX7_log_180 hl 6 rfl (by decide) rfl (fun ls hl => ?_)
                          refine zi_goto (tgt := 94) M dX7_log_183 (by decide) ?_
                          exact ih_94 fd (i + (-1)) (by omega) (dnL_n hdn (by unfold parP; omega)) (by omega) _ _ hP hD hS ls (lv_sub hl [3, 4, 5, 6, 1, 0] rfl)
                        ·
                          refine lv_aload_n M.1 M.2.1 dX7_log_143 rfl (lv_at hl 0 rfl) ?_
                          refine zi_get (ci := 7) (v := .int (iI h)) M hE hP 0 rfl rfl zu_X7 1 (by decide) zk_fl_RX7_104 rfl rfl dX7_log_144 ?_
                          refine lv_aload_n M.1 M.2.1 dX7_log_147 rfl (lv_at hl 0 rfl) ?_
                          refine zi_get (ci := 7) (v := .ref (ad (0 + 20))) M hE hP 0 rfl rfl zu_X7 32 (by decide) zk_fl_RX7_72 rfl rfl dX7_log_148 ?_
                          refine lv_iload M.1 M.2.1 dX7_log_151 (lv_at hl 5 rfl) ?_
                          refine zi_iald M hE hP 20 (n := 80) (g := e4) rfl (Nat.le_of_ble_eq_true rfl) (by omega) (by omega) dX7_log_153 ?_
                          have hr_18 := g_e4 i (by omega) (by omega)
                          refine zi_isub M dX7_log_154 ?_
                          refine zi_push M dX7_log_155 ?_
                          refine zi_icmp_ge (tgt := 163) M dX7_log_156 (by decide) (by omega) ⟨by decide, by decide⟩ (fun c_19 => ?_) (fun c_19 => ?_)
                          ·
                            refine zi_push M dX7_log_163 ?_
                            refine lv_istore (lv' := [(8, .int (iI 0)), (0, .ref (ad 0)), (1, .int (iI x)), (2, .int (iI y)), (3, .int (iI f)), (6, .int (iI fd)), (7, .int (iI i))]) M.1 M.2.1 dX7_log_164 hl (by decide) rfl (fun ls hl => ?_)
                            refine lv_iload M.1 M.2.1 dX7_log_166 (lv_at hl 0 rfl) ?_
                            refine zi_if_eq (tgt := 176) M dX7_log_168 (by decide) ⟨by decide, by decide⟩ (fun _ => ?_) (fun q => absurd q (by decide))
                            refine lv_iload M.1 M.2.1 dX7_log_176 (lv_at hl 5 rfl) ?_
                            refine lv_istore (lv' := [(6, .int (iI fd)), (8, .int (iI 0)), (0, .ref (ad 0)), (1, .int (iI x)), (2, .int (iI y)), (3, .int (iI f)), (7, .int (iI i))]) M.1 M.2.1 dX7_log_178 hl (by decide) rfl (fun ls hl => ?_)
                            refine zi_iinc (lv' := [(7, .int (iI (i + (-1)))), (6, .int (iI fd)), (8, .int (iI 0)), (0, .ref (ad 0)), (1, .int (iI x)), (2, .int (iI y)), (3, .int (iI f))]) M dX7_log_180 hl 6 rfl (by decide) rfl (fun ls hl => ?_)
                            refine zi_goto (tgt := 94) M dX7_log_183 (by decide) ?_
                            exact ih_94 fd (i + (-1)) (by omega) (dnL_n hdn (by unfold parP; omega)) (by omega) _ _ hP hD hS ls (lv_sub hl [3, 4, 5, 6, 1, 0] rfl)
                          ·
                            refine zi_push M dX7_log_159 ?_
                            refine zi_goto (tgt := 164) M dX7_log_160 (by decide) ?_
                            refine lv_istore (lv' := [(8, .int (iI 1)), (0, .ref (ad 0)), (1, .int (iI x)), (2, .int (iI y)), (3, .int (iI f)), (6, .int (iI fd)), (7, .int (iI i))]) M.1 M.2.1 dX7_log_164 hl (by decide) rfl (fun ls hl => ?_)
                            refine lv_iload M.1 M.2.1 dX7_log_166 (lv_at hl 0 rfl) ?_
                            refine zi_if_eq (tgt := 176) M dX7_log_168 (by decide) ⟨by decide, by decide⟩ (fun q => absurd q (by decide)) (fun _ => ?_)
                            refine lv_iload M.1 M.2.1 dX7_log_171 (lv_at hl 6 rfl) ?_
                            refine zi_goto (tgt := 178) M dX7_log_173 (by decide) ?_
                            refine lv_istore (lv' := [(6, .int (iI i)), (8, .int (iI 1)), (0, .ref (ad 0)), (1, .int (iI x)), (2, .int (iI y)), (3, .int (iI f)), (7, .int (iI i))]) M.1 M.2.1 dX7_log_178 hl (by decide) rfl (fun ls hl => ?_)
                            refine zi_iinc (lv' := [(7, .int (iI (i + (-1)))), (6, .int (iI i)), (8, .int (iI 1)), (0, .ref (ad 0)), (1, .int (iI x)), (2, .int (iI y)), (3, .int (iI f))]) M dX7_log_180 hl 6 rfl (by decide) rfl (fun ls hl => ?_)
                            refine zi_goto (tgt := 94) M dX7_log_183 (by decide) ?_
                            exact ih_94 i (i + (-1)) (by omega) (dnL_h hdn (by omega) (by unfold parP; omega)) (by omega) _ _ hP hD hS ls (lv_sub hl [3, 4, 5, 6, 1, 0] rfl)
            exact L_94 (Int.toNat ((em - 1) + 1) + 1) (-1) (em - 1) (by omega) (Or.inl ⟨rfl, fun j h1 h2 => absurd h1 (by omega)⟩) (by omega) _ _ hP hD hS ls (lv_sub hl [4, 5, 6, 7, 1, 0] rfl)
          ·
            refine zi_push M dX7_log_70 ?_
            refine zi_goto (tgt := 75) M dX7_log_71 (by decide) ?_
            refine z_cW (z_runV (As := [.int (iI 3)]) (rest := []) M (c_X7_goesWell l D cy z0 ad th h su st sh fl ic sn bn fm fr cm em lg le lf dl cS cH sea noi pl pw an hd bp bo bw c1 c2 c3 c4 c5 e1 e2 e3 e4 e5 3 (by omega)) hE hS hAz (z_cut hP hD hAz [0, 1, 2, 3, 4, 5, 6, 7, 8, 9, 10, 11, 12, 13, 14, 15, 16, 17, 18, 19, 20, 21] rfl (by decide +kernel)) (zRc.of (ci := 7) (q0 := 0) hE hP rfl rfl) zk_cd_X7_goesWell zk_in_RX7 zk_im_X7_goesWell zk_se_X7_goesWell zk_ml_RX7_88 rfl rfl zd_X7_goesWell ⟨by decide, by decide⟩ rfl hl.1 rfl (Nat.le_of_ble_eq_true rfl) dX7_log_75 ⟨by decide, by decide⟩) hP hD hS [0, 1, 2, 3, 4, 5, 6, 7, 8, 9, 10, 11, 12, 13, 14, 15, 16, 17, 18, 19, 20, 21] rfl (fun _ => rfl) (fun r_20 u_20 H locs hp_20 hP hD hS => ?_)
            have hP : va_P D vwCl (mdlW ad 0 cy 3 h su st sh fl ic sn bn fm fr cm em lg le lf dl cS cH sea noi pl pw an hd bp bo bw c1 c2 c3 c4 c5 e1 e2 e3 e4 e5) H := hP
            have hD : va_D (zIn (mdlW ad 0 cy th h su st sh fl ic sn bn fm fr cm em lg le lf dl cS cH sea noi pl pw an hd bp bo bw c1 c2 c3 c4 c5 e1 e2 e3 e4 e5)) (mdlW ad 0 cy 3 h su st sh fl ic sn bn fm fr cm em lg le lf dl cS cH sea noi pl pw an hd bp bo bw c1 c2 c3 c4 c5 e1 e2 e3 e4 e5) := hD
            subst hp_20
            refine z_rw (b := 0) rfl ?_
            refine zi_if_ne (tgt := 83) M dX7_log_78 (by decide) ⟨by decide, by decide⟩ (fun q => absurd q (by decide)) (fun _ => ?_)
            refine zi_push M dX7_log_81 ?_
            have hP : va_P D vwCl (mdlW ad 0 cy 3 h su st sh fl ic sn bn fm fr cm (if 3 = 0 then (em + 1) else em) lg le lf dl cS cH sea noi pl pw an hd bp bo bw c1 c2 c3 c4 c5 (if 3 = 0 then (zu e1 em x) else e1) (if 3 = 0 then (zu e2 em y) else e2) (if 3 = 0 then (zu e3 em f) else e3) (if 3 = 0 then (zu e4 em h) else e4) (if 3 = 0 then (zpair (zu e5 em (lowZ (parP e1 e2 e3 e4 e5 x y f h) em)) em (lowZ (parP e1 e2 e3 e4 e5 x y f h) em)) else e5)) H := hP
            exact zw_i M hr hlk 3 hP hS (by exact Or.inr (Or.inr (Or.inr (⟨rfl, by omega, rfl⟩)))) (by decide) (by decide) dX7_log_82
      ·
        refine zi_if_eq (tgt := 39) M dX7_log_27 (by decide) ⟨by decide, by decide⟩ (fun _ => ?_) (fun q => absurd q (by decide))
        refine zi_push M dX7_log_39 ?_
        refine lv_istore (lv' := [(5, .int (iI 0)), (4, .int (iI 1)), (0, .ref (ad 0)), (1, .int (iI x)), (2, .int (iI y)), (3, .int (iI f))]) M.1 M.2.1 dX7_log_40 hl (by decide) rfl (fun ls hl => ?_)
        refine lv_aload_n M.1 M.2.1 dX7_log_42 rfl (lv_at hl 2 rfl) ?_
        refine lv_iload M.1 M.2.1 dX7_log_43 (lv_at hl 1 rfl) ?_
        refine zi_if_ne (tgt := 52) M dX7_log_45 (by decide) ⟨by decide, by decide⟩ (fun _ => ?_) (fun q => absurd q (by decide))
        refine lv_iload M.1 M.2.1 dX7_log_52 (lv_at hl 0 rfl) ?_
        refine zi_if_ne (tgt := 61) M dX7_log_54 (by decide) ⟨by decide, by decide⟩ (fun q => absurd q (by decide)) (fun _ => ?_)
        refine zi_push M dX7_log_57 ?_
        refine zi_goto (tgt := 75) M dX7_log_58 (by decide) ?_
        refine z_cW (z_runV (As := [.int (iI 2)]) (rest := []) M (c_X7_goesWell l D cy z0 ad th h su st sh fl ic sn bn fm fr cm em lg le lf dl cS cH sea noi pl pw an hd bp bo bw c1 c2 c3 c4 c5 e1 e2 e3 e4 e5 2 (by omega)) hE hS hAz (z_cut hP hD hAz [0, 1, 2, 3, 4, 5, 6, 7, 8, 9, 10, 11, 12, 13, 14, 15, 16, 17, 18, 19, 20, 21] rfl (by decide +kernel)) (zRc.of (ci := 7) (q0 := 0) hE hP rfl rfl) zk_cd_X7_goesWell zk_in_RX7 zk_im_X7_goesWell zk_se_X7_goesWell zk_ml_RX7_88 rfl rfl zd_X7_goesWell ⟨by decide, by decide⟩ rfl hl.1 rfl (Nat.le_of_ble_eq_true rfl) dX7_log_75 ⟨by decide, by decide⟩) hP hD hS [0, 1, 2, 3, 4, 5, 6, 7, 8, 9, 10, 11, 12, 13, 14, 15, 16, 17, 18, 19, 20, 21] rfl (fun _ => rfl) (fun r_21 u_21 H locs hp_21 hP hD hS => ?_)
        have hP : va_P D vwCl (mdlW ad 0 cy 2 h su st sh fl ic sn bn fm fr cm em lg le lf dl cS cH sea noi pl pw an hd bp bo bw c1 c2 c3 c4 c5 e1 e2 e3 e4 e5) H := hP
        have hD : va_D (zIn (mdlW ad 0 cy th h su st sh fl ic sn bn fm fr cm em lg le lf dl cS cH sea noi pl pw an hd bp bo bw c1 c2 c3 c4 c5 e1 e2 e3 e4 e5)) (mdlW ad 0 cy 2 h su st sh fl ic sn bn fm fr cm em lg le lf dl cS cH sea noi pl pw an hd bp bo bw c1 c2 c3 c4 c5 e1 e2 e3 e4 e5) := hD
        subst hp_21
        refine z_rw (b := 0) rfl ?_
        refine zi_if_ne (tgt := 83) M dX7_log_78 (by decide) ⟨by decide, by decide⟩ (fun q => absurd q (by decide)) (fun _ => ?_)
        refine zi_push M dX7_log_81 ?_
        have hP : va_P D vwCl (mdlW ad 0 cy 2 h su st sh fl ic sn bn fm fr cm (if 2 = 0 then (em + 1) else em) lg le lf dl cS cH sea noi pl pw an hd bp bo bw c1 c2 c3 c4 c5 (if 2 = 0 then (zu e1 em x) else e1) (if 2 = 0 then (zu e2 em y) else e2) (if 2 = 0 then (zu e3 em f) else e3) (if 2 = 0 then (zu e4 em h) else e4) (if 2 = 0 then (zpair (zu e5 em (lowZ (parP e1 e2 e3 e4 e5 x y f h) em)) em (lowZ (parP e1 e2 e3 e4 e5 x y f h) em)) else e5)) H := hP
        exact zw_i M hr hlk 2 hP hS (by exact Or.inr (Or.inr (Or.inl (⟨rfl, by omega, rfl⟩)))) (by decide) (by decide) dX7_log_82
    ·
      refine zi_if_eq (tgt := 20) M dX7_log_13 (by decide) ⟨by decide, by decide⟩ (fun _ => ?_) (fun q => absurd q (by decide))
      refine zi_push M dX7_log_20 ?_
      refine lv_istore (lv' := [(4, .int (iI 0)), (0, .ref (ad 0)), (1, .int (iI x)), (2, .int (iI y)), (3, .int (iI f))]) M.1 M.2.1 dX7_log_21 hl (by decide) rfl (fun ls hl => ?_)
      refine lv_iload_n M.1 M.2.1 dX7_log_23 rfl (lv_at hl 4 rfl) ?_
      refine z_cR (z_runS (As := [.int (iI f)]) (rest := []) M (c_X7_isOn l D cy z0 f (by omega)) hE hS hAz trivial zk_cd_X7_isOn zk_in_RX7 zk_st_X7_isOn zk_ml_RX7_152 rfl rfl zd_X7_isOn ⟨by decide, by decide⟩ rfl hl.1 rfl (Nat.le_of_ble_eq_true rfl) dX7_log_24 ⟨by decide, by decide⟩) ?_
      refine zi_b (P := 10 ≤ f ∧ f ≤ 300) (g := fun r => F0 m 27 ls (.int r :: [])) (fun b_22 => ?_) (fun b_22 => ?_)
      ·
        refine zi_if_eq (tgt := 39) M dX7_log_27 (by decide) ⟨by decide, by decide⟩ (fun q => absurd q (by decide)) (fun _ => ?_)
        refine lv_iload_n M.1 M.2.1 dX7_log_30 rfl (lv_at hl 2 rfl) ?_
        refine lv_iload_n M.1 M.2.1 dX7_log_31 rfl (lv_at hl 3 rfl) ?_
        refine zi_icmp_eq (tgt := 39) M dX7_log_32 (by decide) (by omega) (by omega) (fun c_23 => ?_) (fun c_23 => ?_)
        ·
          refine zi_push M dX7_log_39 ?_
          refine lv_istore (lv' := [(5, .int (iI 0)), (4, .int (iI 0)), (0, .ref (ad 0)), (1, .int (iI x)), (2, .int (iI y)), (3, .int (iI f))]) M.1 M.2.1 dX7_log_40 hl (by decide) rfl (fun ls hl => ?_)
          refine lv_aload_n M.1 M.2.1 dX7_log_42 rfl (lv_at hl 2 rfl) ?_
          refine lv_iload M.1 M.2.1 dX7_log_43 (lv_at hl 1 rfl) ?_
          refine zi_if_ne (tgt := 52) M dX7_log_45 (by decide) ⟨by decide, by decide⟩ (fun q => absurd q (by decide)) (fun _ => ?_)
          refine zi_push M dX7_log_48 ?_
          refine zi_goto (tgt := 75) M dX7_log_49 (by decide) ?_
          refine z_cW (z_runV (As := [.int (iI 1)]) (rest := []) M (c_X7_goesWell l D cy z0 ad th h su st sh fl ic sn bn fm fr cm em lg le lf dl cS cH sea noi pl pw an hd bp bo bw c1 c2 c3 c4 c5 e1 e2 e3 e4 e5 1 (by omega)) hE hS hAz (z_cut hP hD hAz [0, 1, 2, 3, 4, 5, 6, 7, 8, 9, 10, 11, 12, 13, 14, 15, 16, 17, 18, 19, 20, 21] rfl (by decide +kernel)) (zRc.of (ci := 7) (q0 := 0) hE hP rfl rfl) zk_cd_X7_goesWell zk_in_RX7 zk_im_X7_goesWell zk_se_X7_goesWell zk_ml_RX7_88 rfl rfl zd_X7_goesWell ⟨by decide, by decide⟩ rfl hl.1 rfl (Nat.le_of_ble_eq_true rfl) dX7_log_75 ⟨by decide, by decide⟩) hP hD hS [0, 1, 2, 3, 4, 5, 6, 7, 8, 9, 10, 11, 12, 13, 14, 15, 16, 17, 18, 19, 20, 21] rfl (fun _ => rfl) (fun r_24 u_24 H locs hp_24 hP hD hS => ?_)
          have hP : va_P D vwCl (mdlW ad 0 cy 1 h su st sh fl ic sn bn fm fr cm em lg le lf dl cS cH sea noi pl pw an hd bp bo bw c1 c2 c3 c4 c5 e1 e2 e3 e4 e5) H := hP
          have hD : va_D (zIn (mdlW ad 0 cy th h su st sh fl ic sn bn fm fr cm em lg le lf dl cS cH sea noi pl pw an hd bp bo bw c1 c2 c3 c4 c5 e1 e2 e3 e4 e5)) (mdlW ad 0 cy 1 h su st sh fl ic sn bn fm fr cm em lg le lf dl cS cH sea noi pl pw an hd bp bo bw c1 c2 c3 c4 c5 e1 e2 e3 e4 e5) := hD
          subst hp_24
          refine z_rw (b := 0) rfl ?_
          refine zi_if_ne (tgt := 83) M dX7_log_78 (by decide) ⟨by decide, by decide⟩ (fun q => absurd q (by decide)) (fun _ => ?_)
          refine zi_push M dX7_log_81 ?_
          have hP : va_P D vwCl (mdlW ad 0 cy 1 h su st sh fl ic sn bn fm fr cm (if 1 = 0 then (em + 1) else em) lg le lf dl cS cH sea noi pl pw an hd bp bo bw c1 c2 c3 c4 c5 (if 1 = 0 then (zu e1 em x) else e1) (if 1 = 0 then (zu e2 em y) else e2) (if 1 = 0 then (zu e3 em f) else e3) (if 1 = 0 then (zu e4 em h) else e4) (if 1 = 0 then (zpair (zu e5 em (lowZ (parP e1 e2 e3 e4 e5 x y f h) em)) em (lowZ (parP e1 e2 e3 e4 e5 x y f h) em)) else e5)) H := hP
          exact zw_i M hr hlk 1 hP hS (by exact Or.inr (Or.inl (⟨rfl, by omega, rfl⟩))) (by decide) (by decide) dX7_log_82
        ·
          refine zi_push M dX7_log_35 ?_
          refine zi_goto (tgt := 40) M dX7_log_36 (by decide) ?_
          refine lv_istore (lv' := [(5, .int (iI 1)), (4, .int (iI 0)), (0, .ref (ad 0)), (1, .int (iI x)), (2, .int (iI y)), (3, .int (iI f))]) M.1 M.2.1 dX7_log_40 hl (by decide) rfl (fun ls hl => ?_)
          refine lv_aload_n M.1 M.2.1 dX7_log_42 rfl (lv_at hl 2 rfl) ?_
          refine lv_iload M.1 M.2.1 dX7_log_43 (lv_at hl 1 rfl) ?_
          refine zi_if_ne (tgt := 52) M dX7_log_45 (by decide) ⟨by decide, by decide⟩ (fun q => absurd q (by decide)) (fun _ => ?_)
          refine zi_push M dX7_log_48 ?_
          refine zi_goto (tgt := 75) M dX7_log_49 (by decide) ?_
          refine z_cW (z_runV (As := [.int (iI 1)]) (rest := []) M (c_X7_goesWell l D cy z0 ad th h su st sh fl ic sn bn fm fr cm em lg le lf dl cS cH sea noi pl pw an hd bp bo bw c1 c2 c3 c4 c5 e1 e2 e3 e4 e5 1 (by omega)) hE hS hAz (z_cut hP hD hAz [0, 1, 2, 3, 4, 5, 6, 7, 8, 9, 10, 11, 12, 13, 14, 15, 16, 17, 18, 19, 20, 21] rfl (by decide +kernel)) (zRc.of (ci := 7) (q0 := 0) hE hP rfl rfl) zk_cd_X7_goesWell zk_in_RX7 zk_im_X7_goesWell zk_se_X7_goesWell zk_ml_RX7_88 rfl rfl zd_X7_goesWell ⟨by decide, by decide⟩ rfl hl.1 rfl (Nat.le_of_ble_eq_true rfl) dX7_log_75 ⟨by decide, by decide⟩) hP hD hS [0, 1, 2, 3, 4, 5, 6, 7, 8, 9, 10, 11, 12, 13, 14, 15, 16, 17, 18, 19, 20, 21] rfl (fun _ => rfl) (fun r_25 u_25 H locs hp_25 hP hD hS => ?_)
          have hP : va_P D vwCl (mdlW ad 0 cy 1 h su st sh fl ic sn bn fm fr cm em lg le lf dl cS cH sea noi pl pw an hd bp bo bw c1 c2 c3 c4 c5 e1 e2 e3 e4 e5) H := hP
          have hD : va_D (zIn (mdlW ad 0 cy th h su st sh fl ic sn bn fm fr cm em lg le lf dl cS cH sea noi pl pw an hd bp bo bw c1 c2 c3 c4 c5 e1 e2 e3 e4 e5)) (mdlW ad 0 cy 1 h su st sh fl ic sn bn fm fr cm em lg le lf dl cS cH sea noi pl pw an hd bp bo bw c1 c2 c3 c4 c5 e1 e2 e3 e4 e5) := hD
          subst hp_25
          refine z_rw (b := 0) rfl ?_
          refine zi_if_ne (tgt := 83) M dX7_log_78 (by decide) ⟨by decide, by decide⟩ (fun q => absurd q (by decide)) (fun _ => ?_)
          refine zi_push M dX7_log_81 ?_
          have hP : va_P D vwCl (mdlW ad 0 cy 1 h su st sh fl ic sn bn fm fr cm (if 1 = 0 then (em + 1) else em) lg le lf dl cS cH sea noi pl pw an hd bp bo bw c1 c2 c3 c4 c5 (if 1 = 0 then (zu e1 em x) else e1) (if 1 = 0 then (zu e2 em y) else e2) (if 1 = 0 then (zu e3 em f) else e3) (if 1 = 0 then (zu e4 em h) else e4) (if 1 = 0 then (zpair (zu e5 em (lowZ (parP e1 e2 e3 e4 e5 x y f h) em)) em (lowZ (parP e1 e2 e3 e4 e5 x y f h) em)) else e5)) H := hP
          exact zw_i M hr hlk 1 hP hS (by exact Or.inr (Or.inl (⟨rfl, by omega, rfl⟩))) (by decide) (by decide) dX7_log_82
      ·
        refine zi_if_eq (tgt := 39) M dX7_log_27 (by decide) ⟨by decide, by decide⟩ (fun _ => ?_) (fun q => absurd q (by decide))
        refine zi_push M dX7_log_39 ?_
        refine lv_istore (lv' := [(5, .int (iI 0)), (4, .int (iI 0)), (0, .ref (ad 0)), (1, .int (iI x)), (2, .int (iI y)), (3, .int (iI f))]) M.1 M.2.1 dX7_log_40 hl (by decide) rfl (fun ls hl => ?_)
        refine lv_aload_n M.1 M.2.1 dX7_log_42 rfl (lv_at hl 2 rfl) ?_
        refine lv_iload M.1 M.2.1 dX7_log_43 (lv_at hl 1 rfl) ?_
        refine zi_if_ne (tgt := 52) M dX7_log_45 (by decide) ⟨by decide, by decide⟩ (fun q => absurd q (by decide)) (fun _ => ?_)
        refine zi_push M dX7_log_48 ?_
        refine zi_goto (tgt := 75) M dX7_log_49 (by decide) ?_
        refine z_cW (z_runV (As := [.int (iI 1)]) (rest := []) M (c_X7_goesWell l D cy z0 ad th h su st sh fl ic sn bn fm fr cm em lg le lf dl cS cH sea noi pl pw an hd bp bo bw c1 c2 c3 c4 c5 e1 e2 e3 e4 e5 1 (by omega)) hE hS hAz (z_cut hP hD hAz [0, 1, 2, 3, 4, 5, 6, 7, 8, 9, 10, 11, 12, 13, 14, 15, 16, 17, 18, 19, 20, 21] rfl (by decide +kernel)) (zRc.of (ci := 7) (q0 := 0) hE hP rfl rfl) zk_cd_X7_goesWell zk_in_RX7 zk_im_X7_goesWell zk_se_X7_goesWell zk_ml_RX7_88 rfl rfl zd_X7_goesWell ⟨by decide, by decide⟩ rfl hl.1 rfl (Nat.le_of_ble_eq_true rfl) dX7_log_75 ⟨by decide, by decide⟩) hP hD hS [0, 1, 2, 3, 4, 5, 6, 7, 8, 9, 10, 11, 12, 13, 14, 15, 16, 17, 18, 19, 20, 21] rfl (fun _ => rfl) (fun r_26 u_26 H locs hp_26 hP hD hS => ?_)
        have hP : va_P D vwCl (mdlW ad 0 cy 1 h su st sh fl ic sn bn fm fr cm em lg le lf dl cS cH sea noi pl pw an hd bp bo bw c1 c2 c3 c4 c5 e1 e2 e3 e4 e5) H := hP
        have hD : va_D (zIn (mdlW ad 0 cy th h su st sh fl ic sn bn fm fr cm em lg le lf dl cS cH sea noi pl pw an hd bp bo bw c1 c2 c3 c4 c5 e1 e2 e3 e4 e5)) (mdlW ad 0 cy 1 h su st sh fl ic sn bn fm fr cm em lg le lf dl cS cH sea noi pl pw an hd bp bo bw c1 c2 c3 c4 c5 e1 e2 e3 e4 e5) := hD
        subst hp_26
        refine z_rw (b := 0) rfl ?_
        refine zi_if_ne (tgt := 83) M dX7_log_78 (by decide) ⟨by decide, by decide⟩ (fun q => absurd q (by decide)) (fun _ => ?_)
        refine zi_push M dX7_log_81 ?_
        have hP : va_P D vwCl (mdlW ad 0 cy 1 h su st sh fl ic sn bn fm fr cm (if 1 = 0 then (em + 1) else em) lg le lf dl cS cH sea noi pl pw an hd bp bo bw c1 c2 c3 c4 c5 (if 1 = 0 then (zu e1 em x) else e1) (if 1 = 0 then (zu e2 em y) else e2) (if 1 = 0 then (zu e3 em f) else e3) (if 1 = 0 then (zu e4 em h) else e4) (if 1 = 0 then (zpair (zu e5 em (lowZ (parP e1 e2 e3 e4 e5 x y f h) em)) em (lowZ (parP e1 e2 e3 e4 e5 x y f h) em)) else e5)) H := hP
        exact zw_i M hr hlk 1 hP hS (by exact Or.inr (Or.inl (⟨rfl, by omega, rfl⟩))) (by decide) (by decide) dX7_log_82
  ·
    refine zi_if_eq (tgt := 20) M dX7_log_5 (by decide) ⟨by decide, by decide⟩ (fun _ => ?_) (fun q => absurd q (by decide))
    refine zi_push M dX7_log_20 ?_
    refine lv_istore (lv' := [(4, .int (iI 0)), (0, .ref (ad 0)), (1, .int (iI x)), (2, .int (iI y)), (3, .int (iI f))]) M.1 M.2.1 dX7_log_21 hl (by decide) rfl (fun ls hl => ?_)
    refine lv_iload_n M.1 M.2.1 dX7_log_23 rfl (lv_at hl 4 rfl) ?_
    refine z_cR (z_runS (As := [.int (iI f)]) (rest := []) M (c_X7_isOn l D cy z0 f (by omega)) hE hS hAz trivial zk_cd_X7_isOn zk_in_RX7 zk_st_X7_isOn zk_ml_RX7_152 rfl rfl zd_X7_isOn ⟨by decide, by decide⟩ rfl hl.1 rfl (Nat.le_of_ble_eq_true rfl) dX7_log_24 ⟨by decide, by decide⟩) ?_
    refine zi_b (P := 10 ≤ f ∧ f ≤ 300) (g := fun r => F0 m 27 ls (.int r :: [])) (fun b_27 => ?_) (fun b_27 => ?_)
    ·
      refine zi_if_eq (tgt := 39) M dX7_log_27 (by decide) ⟨by decide, by decide⟩ (fun q => absurd q (by decide)) (fun _ => ?_)
      refine lv_iload_n M.1 M.2.1 dX7_log_30 rfl (lv_at hl 2 rfl) ?_
      refine lv_iload_n M.1 M.2.1 dX7_log_31 rfl (lv_at hl 3 rfl) ?_
      refine zi_icmp_eq (tgt := 39) M dX7_log_32 (by decide) (by omega) (by omega) (fun c_28 => ?_) (fun c_28 => ?_)
      ·
        refine zi_push M dX7_log_39 ?_
        refine lv_istore (lv' := [(5, .int (iI 0)), (4, .int (iI 0)), (0, .ref (ad 0)), (1, .int (iI x)), (2, .int (iI y)), (3, .int (iI f))]) M.1 M.2.1 dX7_log_40 hl (by decide) rfl (fun ls hl => ?_)
        refine lv_aload_n M.1 M.2.1 dX7_log_42 rfl (lv_at hl 2 rfl) ?_
        refine lv_iload M.1 M.2.1 dX7_log_43 (lv_at hl 1 rfl) ?_
        refine zi_if_ne (tgt := 52) M dX7_log_45 (by decide) ⟨by decide, by decide⟩ (fun q => absurd q (by decide)) (fun _ => ?_)
        refine zi_push M dX7_log_48 ?_
        refine zi_goto (tgt := 75) M dX7_log_49 (by decide) ?_
        refine z_cW (z_runV (As := [.int (iI 1)]) (rest := []) M (c_X7_goesWell l D cy z0 ad th h su st sh fl ic sn bn fm fr cm em lg le lf dl cS cH sea noi pl pw an hd bp bo bw c1 c2 c3 c4 c5 e1 e2 e3 e4 e5 1 (by omega)) hE hS hAz (z_cut hP hD hAz [0, 1, 2, 3, 4, 5, 6, 7, 8, 9, 10, 11, 12, 13, 14, 15, 16, 17, 18, 19, 20, 21] rfl (by decide +kernel)) (zRc.of (ci := 7) (q0 := 0) hE hP rfl rfl) zk_cd_X7_goesWell zk_in_RX7 zk_im_X7_goesWell zk_se_X7_goesWell zk_ml_RX7_88 rfl rfl zd_X7_goesWell ⟨by decide, by decide⟩ rfl hl.1 rfl (Nat.le_of_ble_eq_true rfl) dX7_log_75 ⟨by decide, by decide⟩) hP hD hS [0, 1, 2, 3, 4, 5, 6, 7, 8, 9, 10, 11, 12, 13, 14, 15, 16, 17, 18, 19, 20, 21] rfl (fun _ => rfl) (fun r_29 u_29 H locs hp_29 hP hD hS => ?_)
        have hP : va_P D vwCl (mdlW ad 0 cy 1 h su st sh fl ic sn bn fm fr cm em lg le lf dl cS cH sea noi pl pw an hd bp bo bw c1 c2 c3 c4 c5 e1 e2 e3 e4 e5) H := hP
        have hD : va_D (zIn (mdlW ad 0 cy th h su st sh fl ic sn bn fm fr cm em lg le lf dl cS cH sea noi pl pw an hd bp bo bw c1 c2 c3 c4 c5 e1 e2 e3 e4 e5)) (mdlW ad 0 cy 1 h su st sh fl ic sn bn fm fr cm em lg le lf dl cS cH sea noi pl pw an hd bp bo bw c1 c2 c3 c4 c5 e1 e2 e3 e4 e5) := hD
        subst hp_29
        refine z_rw (b := 0) rfl ?_
        refine zi_if_ne (tgt := 83) M dX7_log_78 (by decide) ⟨by decide, by decide⟩ (fun q => absurd q (by decide)) (fun _ => ?_)
        refine zi_push M dX7_log_81 ?_
        have hP : va_P D vwCl (mdlW ad 0 cy 1 h su st sh fl ic sn bn fm fr cm (if 1 = 0 then (em + 1) else em) lg le lf dl cS cH sea noi pl pw an hd bp bo bw c1 c2 c3 c4 c5 (if 1 = 0 then (zu e1 em x) else e1) (if 1 = 0 then (zu e2 em y) else e2) (if 1 = 0 then (zu e3 em f) else e3) (if 1 = 0 then (zu e4 em h) else e4) (if 1 = 0 then (zpair (zu e5 em (lowZ (parP e1 e2 e3 e4 e5 x y f h) em)) em (lowZ (parP e1 e2 e3 e4 e5 x y f h) em)) else e5)) H := hP
        exact zw_i M hr hlk 1 hP hS (by exact Or.inr (Or.inl (⟨rfl, by omega, rfl⟩))) (by decide) (by decide) dX7_log_82
      ·
        refine zi_push M dX7_log_35 ?_
        refine zi_goto (tgt := 40) M dX7_log_36 (by decide) ?_
        refine lv_istore (lv' := [(5, .int (iI 1)), (4, .int (iI 0)), (0, .ref (ad 0)), (1, .int (iI x)), (2, .int (iI y)), (3, .int (iI f))]) M.1 M.2.1 dX7_log_40 hl (by decide) rfl (fun ls hl => ?_)
        refine lv_aload_n M.1 M.2.1 dX7_log_42 rfl (lv_at hl 2 rfl) ?_
        refine lv_iload M.1 M.2.1 dX7_log_43 (lv_at hl 1 rfl) ?_
        refine zi_if_ne (tgt := 52) M dX7_log_45 (by decide) ⟨by decide, by decide⟩ (fun q => absurd q (by decide)) (fun _ => ?_)
        refine zi_push M dX7_log_48 ?_
        refine zi_goto (tgt := 75) M dX7_log_49 (by decide) ?_
        refine z_cW (z_runV (As := [.int (iI 1)]) (rest := []) M (c_X7_goesWell l D cy z0 ad th h su st sh fl ic sn bn fm fr cm em lg le lf dl cS cH sea noi pl pw an hd bp bo bw c1 c2 c3 c4 c5 e1 e2 e3 e4 e5 1 (by omega)) hE hS hAz (z_cut hP hD hAz [0, 1, 2, 3, 4, 5, 6, 7, 8, 9, 10, 11, 12, 13, 14, 15, 16, 17, 18, 19, 20, 21] rfl (by decide +kernel)) (zRc.of (ci := 7) (q0 := 0) hE hP rfl rfl) zk_cd_X7_goesWell zk_in_RX7 zk_im_X7_goesWell zk_se_X7_goesWell zk_ml_RX7_88 rfl rfl zd_X7_goesWell ⟨by decide, by decide⟩ rfl hl.1 rfl (Nat.le_of_ble_eq_true rfl) dX7_log_75 ⟨by decide, by decide⟩) hP hD hS [0, 1, 2, 3, 4, 5, 6, 7, 8, 9, 10, 11, 12, 13, 14, 15, 16, 17, 18, 19, 20, 21] rfl (fun _ => rfl) (fun r_30 u_30 H locs hp_30 hP hD hS => ?_)
        have hP : va_P D vwCl (mdlW ad 0 cy 1 h su st sh fl ic sn bn fm fr cm em lg le lf dl cS cH sea noi pl pw an hd bp bo bw c1 c2 c3 c4 c5 e1 e2 e3 e4 e5) H := hP
        have hD : va_D (zIn (mdlW ad 0 cy th h su st sh fl ic sn bn fm fr cm em lg le lf dl cS cH sea noi pl pw an hd bp bo bw c1 c2 c3 c4 c5 e1 e2 e3 e4 e5)) (mdlW ad 0 cy 1 h su st sh fl ic sn bn fm fr cm em lg le lf dl cS cH sea noi pl pw an hd bp bo bw c1 c2 c3 c4 c5 e1 e2 e3 e4 e5) := hD
        subst hp_30
        refine z_rw (b := 0) rfl ?_
        refine zi_if_ne (tgt := 83) M dX7_log_78 (by decide) ⟨by decide, by decide⟩ (fun q => absurd q (by decide)) (fun _ => ?_)
        refine zi_push M dX7_log_81 ?_
        have hP : va_P D vwCl (mdlW ad 0 cy 1 h su st sh fl ic sn bn fm fr cm (if 1 = 0 then (em + 1) else em) lg le lf dl cS cH sea noi pl pw an hd bp bo bw c1 c2 c3 c4 c5 (if 1 = 0 then (zu e1 em x) else e1) (if 1 = 0 then (zu e2 em y) else e2) (if 1 = 0 then (zu e3 em f) else e3) (if 1 = 0 then (zu e4 em h) else e4) (if 1 = 0 then (zpair (zu e5 em (lowZ (parP e1 e2 e3 e4 e5 x y f h) em)) em (lowZ (parP e1 e2 e3 e4 e5 x y f h) em)) else e5)) H := hP
        exact zw_i M hr hlk 1 hP hS (by exact Or.inr (Or.inl (⟨rfl, by omega, rfl⟩))) (by decide) (by decide) dX7_log_82
    ·
      refine zi_if_eq (tgt := 39) M dX7_log_27 (by decide) ⟨by decide, by decide⟩ (fun _ => ?_) (fun q => absurd q (by decide))
      refine zi_push M dX7_log_39 ?_
      refine lv_istore (lv' := [(5, .int (iI 0)), (4, .int (iI 0)), (0, .ref (ad 0)), (1, .int (iI x)), (2, .int (iI y)), (3, .int (iI f))]) M.1 M.2.1 dX7_log_40 hl (by decide) rfl (fun ls hl => ?_)
      refine lv_aload_n M.1 M.2.1 dX7_log_42 rfl (lv_at hl 2 rfl) ?_
      refine lv_iload M.1 M.2.1 dX7_log_43 (lv_at hl 1 rfl) ?_
      refine zi_if_ne (tgt := 52) M dX7_log_45 (by decide) ⟨by decide, by decide⟩ (fun q => absurd q (by decide)) (fun _ => ?_)
      refine zi_push M dX7_log_48 ?_
      refine zi_goto (tgt := 75) M dX7_log_49 (by decide) ?_
      refine z_cW (z_runV (As := [.int (iI 1)]) (rest := []) M (c_X7_goesWell l D cy z0 ad th h su st sh fl ic sn bn fm fr cm em lg le lf dl cS cH sea noi pl pw an hd bp bo bw c1 c2 c3 c4 c5 e1 e2 e3 e4 e5 1 (by omega)) hE hS hAz (z_cut hP hD hAz [0, 1, 2, 3, 4, 5, 6, 7, 8, 9, 10, 11, 12, 13, 14, 15, 16, 17, 18, 19, 20, 21] rfl (by decide +kernel)) (zRc.of (ci := 7) (q0 := 0) hE hP rfl rfl) zk_cd_X7_goesWell zk_in_RX7 zk_im_X7_goesWell zk_se_X7_goesWell zk_ml_RX7_88 rfl rfl zd_X7_goesWell ⟨by decide, by decide⟩ rfl hl.1 rfl (Nat.le_of_ble_eq_true rfl) dX7_log_75 ⟨by decide, by decide⟩) hP hD hS [0, 1, 2, 3, 4, 5, 6, 7, 8, 9, 10, 11, 12, 13, 14, 15, 16, 17, 18, 19, 20, 21] rfl (fun _ => rfl) (fun r_31 u_31 H locs hp_31 hP hD hS => ?_)
      have hP : va_P D vwCl (mdlW ad 0 cy 1 h su st sh fl ic sn bn fm fr cm em lg le lf dl cS cH sea noi pl pw an hd bp bo bw c1 c2 c3 c4 c5 e1 e2 e3 e4 e5) H := hP
      have hD : va_D (zIn (mdlW ad 0 cy th h su st sh fl ic sn bn fm fr cm em lg le lf dl cS cH sea noi pl pw an hd bp bo bw c1 c2 c3 c4 c5 e1 e2 e3 e4 e5)) (mdlW ad 0 cy 1 h su st sh fl ic sn bn fm fr cm em lg le lf dl cS cH sea noi pl pw an hd bp bo bw c1 c2 c3 c4 c5 e1 e2 e3 e4 e5) := hD
      subst hp_31
      refine z_rw (b := 0) rfl ?_
      refine zi_if_ne (tgt := 83) M dX7_log_78 (by decide) ⟨by decide, by decide⟩ (fun q => absurd q (by decide)) (fun _ => ?_)
      refine zi_push M dX7_log_81 ?_
      have hP : va_P D vwCl (mdlW ad 0 cy 1 h su st sh fl ic sn bn fm fr cm (if 1 = 0 then (em + 1) else em) lg le lf dl cS cH sea noi pl pw an hd bp bo bw c1 c2 c3 c4 c5 (if 1 = 0 then (zu e1 em x) else e1) (if 1 = 0 then (zu e2 em y) else e2) (if 1 = 0 then (zu e3 em f) else e3) (if 1 = 0 then (zu e4 em h) else e4) (if 1 = 0 then (zpair (zu e5 em (lowZ (parP e1 e2 e3 e4 e5 x y f h) em)) em (lowZ (parP e1 e2 e3 e4 e5 x y f h) em)) else e5)) H := hP
      exact zw_i M hr hlk 1 hP hS (by exact Or.inr (Or.inl (⟨rfl, by omega, rfl⟩))) (by decide) (by decide) dX7_log_82
