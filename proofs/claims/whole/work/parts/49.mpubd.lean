/-! contracts: the model, what everybody may call, 2 -/
set_option maxRecDepth 100000 in
set_option maxHeartbeats 4000000 in
theorem c_X7_explain (l : Launch) (D : va_G) (cy : Nat → ClassId) (z0 : Nat) (ad : Nat → Nat) (th h su st sh fl ic sn bn fm fr cm em lg le lf dl : Int) (cS cH sea noi pl pw an hd bp bo bw c1 c2 c3 c4 c5 e1 e2 e3 e4 e5 : Int → Int) (q : Int) (t : Int) (f : Int) (w : Int) (mm : Int) (r_q : r32 q) (r_t : r32 t) (r_f : r32 f) (r_w : r32 w) (r_mm : r32 mm) (h_h : 0 ≤ h ∧ h ≤ 5000) (h_su : 0 ≤ su ∧ su ≤ 100) (h_st : 0 ≤ st ∧ st ≤ 60) (h_fl : 0 ≤ fl ∧ fl ≤ 80) (h_cS : zrg 48 0 100 cS) (h_ic : 0 ≤ ic ∧ ic ≤ 1) (g_sea : zrg 48 0 1 sea) : Met l yX7_explain [.code yX7_explain cX7_explain 13 (some .int)] (zRm 6 0 0 151) (zPc [.ref (ad 0), .int (iI q), .int (iI t), .int (iI f), .int (iI w), .int (iI mm)] D cy z0 (zWl D z0 (mdlW ad 0 cy th h su st sh fl ic sn bn fm fr cm em lg le lf dl cS cH sea noi pl pw an hd bp bo bw c1 c2 c3 c4 c5 e1 e2 e3 e4 e5))) (zQ1 D (mdlW ad 0 cy th h su st sh fl ic sn bn fm fr cm em lg le lf dl cS cH sea noi pl pw an hd bp bo bw c1 c2 c3 c4 c5 e1 e2 e3 e4 e5) (fun (r : Int32) (u : Nat → Int) => (∃ xa xb xc xd : Int, u = u8 xa xb xc xd 0 0 0 0 ∧ (((0 ≤ q ∧ q < 48) ∧ (0 ≤ t ∧ t < 48)) ∧ ((10 ≤ f ∧ f ≤ 300) ∧ (0 ≤ w ∧ w ≤ 100) ∧ (0 ≤ mm ∧ mm ≤ 1000))) ∧ r = iI ((exF (mdE ic h cS) (mdF ic h su st) (mdD ic h fl) sea q t f w mm 18).2.1)) ∨ (u = u8 lg le lf dl 1 0 0 0 ∧ (¬ ((0 ≤ q ∧ q < 48) ∧ (0 ≤ t ∧ t < 48))) ∧ r = iI 0) ∨ (u = u8 lg le lf dl 2 0 0 0 ∧ (((0 ≤ q ∧ q < 48) ∧ (0 ≤ t ∧ t < 48)) ∧ ¬ ((10 ≤ f ∧ f ≤ 300) ∧ (0 ≤ w ∧ w ≤ 100) ∧ (0 ≤ mm ∧ mm ≤ 1000))) ∧ r = iI 0)) (fun (u : Nat → Int) => (mdlW ad 0 cy (u 4) h su st sh fl ic sn bn fm fr cm em (u 0) (u 1) (u 2) (u 3) cS cH sea noi pl pw an hd bp bo bw c1 c2 c3 c4 c5 e1 e2 e3 e4 e5))) 0 0 (zIn (mdlW ad 0 cy th h su st sh fl ic sn bn fm fr cm em lg le lf dl cS cH sea noi pl pw an hd bp bo bw c1 c2 c3 c4 c5 e1 e2 e3 e4 e5)) := by
  refine z_of (by decide) (Nat.le_of_ble_eq_true rfl) ?_
  intro p e s m args below meth c M hr hlk hini hargs hP0 hE ls hl
  have hP : va_P D vwCl (mdlW ad 0 cy th h su st sh fl ic sn bn fm fr cm em lg le lf dl cS cH sea noi pl pw an hd bp bo bw c1 c2 c3 c4 c5 e1 e2 e3 e4 e5) s.heap := hP0.1
  have hD : va_D (zIn (mdlW ad 0 cy th h su st sh fl ic sn bn fm fr cm em lg le lf dl cS cH sea noi pl pw an hd bp bo bw c1 c2 c3 c4 c5 e1 e2 e3 e4 e5)) (mdlW ad 0 cy th h su st sh fl ic sn bn fm fr cm em lg le lf dl cS cH sea noi pl pw an hd bp bo bw c1 c2 c3 c4 c5 e1 e2 e3 e4 e5) := hP0.self
  have hAz := hP0.A
  have hS : va_S (zIn (mdlW ad 0 cy th h su st sh fl ic sn bn fm fr cm em lg le lf dl cS cH sea noi pl pw an hd bp bo bw c1 c2 c3 c4 c5 e1 e2 e3 e4 e5)) s.heap s.heap [] := va_S.rf
  have hl : lv_has ls 13 [(0, .ref (ad 0)), (1, .int (iI q)), (2, .int (iI t)), (3, .int (iI f)), (4, .int (iI w)), (5, .int (iI mm))] := hl
  refine lv_iload_n M.1 M.2.1 dX7_explain_0 rfl (lv_at hl 1 rfl) ?_
  refine z_cR (z_runS (As := [.int (iI q)]) (rest := []) M (c_X7_isPlace l D cy z0 q (by omega)) hE hS hAz trivial zk_cd_X7_isPlace zk_in_RX7 zk_st_X7_isPlace zk_ml_RX7_101 rfl rfl zd_X7_isPlace ⟨by decide, by decide⟩ rfl hl.1 rfl (Nat.le_of_ble_eq_true rfl) dX7_explain_1 ⟨by decide, by decide⟩) ?_
  refine zi_b (P := 0 ≤ q ∧ q ≤ 47) (g := fun r => F0 m 4 ls (.int r :: [])) (fun b_1 => ?_) (fun b_1 => ?_)
  ·
    refine zi_if_eq (tgt := 18) M dX7_explain_4 (by decide) ⟨by decide, by decide⟩ (fun q => absurd q (by decide)) (fun _ => ?_)
    refine lv_iload_n M.1 M.2.1 dX7_explain_7 rfl (lv_at hl 2 rfl) ?_
    refine z_cR (z_runS (As := [.int (iI t)]) (rest := []) M (c_X7_isPlace l D cy z0 t (by omega)) hE hS hAz trivial zk_cd_X7_isPlace zk_in_RX7 zk_st_X7_isPlace zk_ml_RX7_101 rfl rfl zd_X7_isPlace ⟨by decide, by decide⟩ rfl hl.1 rfl (Nat.le_of_ble_eq_true rfl) dX7_explain_8 ⟨by decide, by decide⟩) ?_
    refine zi_b (P := 0 ≤ t ∧ t ≤ 47) (g := fun r => F0 m 11 ls (.int r :: [])) (fun b_2 => ?_) (fun b_2 => ?_)
    ·
      refine zi_if_eq (tgt := 18) M dX7_explain_11 (by decide) ⟨by decide, by decide⟩ (fun q => absurd q (by decide)) (fun _ => ?_)
      refine zi_push M dX7_explain_14 ?_
      refine zi_goto (tgt := 19) M dX7_explain_15 (by decide) ?_
      refine lv_istore (lv' := [(6, .int (iI 1)), (0, .ref (ad 0)), (1, .int (iI q)), (2, .int (iI t)), (3, .int (iI f)), (4, .int (iI w)), (5, .int (iI mm))]) M.1 M.2.1 dX7_explain_19 hl (by decide) rfl (fun ls hl => ?_)
      refine lv_iload_n M.1 M.2.1 dX7_explain_21 rfl (lv_at hl 4 rfl) ?_
      refine z_cR (z_runS (As := [.int (iI f)]) (rest := []) M (c_X7_isOn l D cy z0 f (by omega)) hE hS hAz trivial zk_cd_X7_isOn zk_in_RX7 zk_st_X7_isOn zk_ml_RX7_152 rfl rfl zd_X7_isOn ⟨by decide, by decide⟩ rfl hl.1 rfl (Nat.le_of_ble_eq_true rfl) dX7_explain_22 ⟨by decide, by decide⟩) ?_
      refine zi_b (P := 10 ≤ f ∧ f ≤ 300) (g := fun r => F0 m 25 ls (.int r :: [])) (fun b_3 => ?_) (fun b_3 => ?_)
      ·
        refine zi_if_eq (tgt := 55) M dX7_explain_25 (by decide) ⟨by decide, by decide⟩ (fun q => absurd q (by decide)) (fun _ => ?_)
        refine lv_iload M.1 M.2.1 dX7_explain_28 (lv_at hl 5 rfl) ?_
        refine zi_push M dX7_explain_30 ?_
        refine zi_bipush M dX7_explain_31 ⟨by decide, by decide⟩ ?_
        refine z_cR (z_runS (As := [.int (iI w), .int (iI 0), .int (iI 100)]) (rest := []) M (c_X7_in l D cy z0 w 0 100 (by omega) (by omega) (by omega)) hE hS hAz trivial zk_cd_X7_in zk_in_RX7 zk_st_X7_in zk_ml_RX7_81 rfl rfl zd_X7_in ⟨by decide, by decide⟩ rfl hl.1 rfl (Nat.le_of_ble_eq_true rfl) dX7_explain_33 ⟨by decide, by decide⟩) ?_
        refine zi_b (P := 0 ≤ w ∧ w ≤ 100) (g := fun r => F0 m 36 ls (.int r :: [])) (fun b_4 => ?_) (fun b_4 => ?_)
        ·
          refine zi_if_eq (tgt := 55) M dX7_explain_36 (by decide) ⟨by decide, by decide⟩ (fun q => absurd q (by decide)) (fun _ => ?_)
          refine lv_iload M.1 M.2.1 dX7_explain_39 (lv_at hl 6 rfl) ?_
          refine zi_push M dX7_explain_41 ?_
          refine zi_sipush M dX7_explain_42 ⟨by decide, by decide⟩ ?_
          refine z_cR (z_runS (As := [.int (iI mm), .int (iI 0), .int (iI 1000)]) (rest := []) M (c_X7_in l D cy z0 mm 0 1000 (by omega) (by omega) (by omega)) hE hS hAz trivial zk_cd_X7_in zk_in_RX7 zk_st_X7_in zk_ml_RX7_81 rfl rfl zd_X7_in ⟨by decide, by decide⟩ rfl hl.1 rfl (Nat.le_of_ble_eq_true rfl) dX7_explain_45 ⟨by decide, by decide⟩) ?_
          refine zi_b (P := 0 ≤ mm ∧ mm ≤ 1000) (g := fun r => F0 m 48 ls (.int r :: [])) (fun b_5 => ?_) (fun b_5 => ?_)
          ·
            refine zi_if_eq (tgt := 55) M dX7_explain_48 (by decide) ⟨by decide, by decide⟩ (fun q => absurd q (by decide)) (fun _ => ?_)
            refine zi_push M dX7_explain_51 ?_
            refine zi_goto (tgt := 56) M dX7_explain_52 (by decide) ?_
            refine lv_istore (lv' := [(7, .int (iI 1)), (6, .int (iI 1)), (0, .ref (ad 0)), (1, .int (iI q)), (2, .int (iI t)), (3, .int (iI f)), (4, .int (iI w)), (5, .int (iI mm))]) M.1 M.2.1 dX7_explain_56 hl (by decide) rfl (fun ls hl => ?_)
            refine lv_aload_n M.1 M.2.1 dX7_explain_58 rfl (lv_at hl 2 rfl) ?_
            refine lv_iload M.1 M.2.1 dX7_explain_59 (lv_at hl 1 rfl) ?_
            refine zi_if_ne (tgt := 68) M dX7_explain_61 (by decide) ⟨by decide, by decide⟩ (fun _ => ?_) (fun q => absurd q (by decide))
            refine lv_iload M.1 M.2.1 dX7_explain_68 (lv_at hl 0 rfl) ?_
            refine zi_if_eq (tgt := 77) M dX7_explain_70 (by decide) ⟨by decide, by decide⟩ (fun q => absurd q (by decide)) (fun _ => ?_)
            refine zi_push M dX7_explain_73 ?_
            refine zi_goto (tgt := 78) M dX7_explain_74 (by decide) ?_
            refine z_cW (z_runV (As := [.int (iI 0)]) (rest := []) M (c_X7_goesWell l D cy z0 ad th h su st sh fl ic sn bn fm fr cm em lg le lf dl cS cH sea noi pl pw an hd bp bo bw c1 c2 c3 c4 c5 e1 e2 e3 e4 e5 0 (by omega)) hE hS hAz (z_cut hP hD hAz [0, 1, 2, 3, 4, 5, 6, 7, 8, 9, 10, 11, 12, 13, 14, 15, 16, 17, 18, 19, 20, 21] rfl (by decide +kernel)) (zRc.of (ci := 7) (q0 := 0) hE hP rfl rfl) zk_cd_X7_goesWell zk_in_RX7 zk_im_X7_goesWell zk_se_X7_goesWell zk_ml_RX7_88 rfl rfl zd_X7_goesWell ⟨by decide, by decide⟩ rfl hl.1 rfl (Nat.le_of_ble_eq_true rfl) dX7_explain_78 ⟨by decide, by decide⟩) hP hD hS [0, 1, 2, 3, 4, 5, 6, 7, 8, 9, 10, 11, 12, 13, 14, 15, 16, 17, 18, 19, 20, 21] rfl (fun _ => rfl) (fun r_6 u_6 H locs hp_6 hP hD hS => ?_)
            have hP : va_P D vwCl (mdlW ad 0 cy 0 h su st sh fl ic sn bn fm fr cm em lg le lf dl cS cH sea noi pl pw an hd bp bo bw c1 c2 c3 c4 c5 e1 e2 e3 e4 e5) H := hP
            have hD : va_D (zIn (mdlW ad 0 cy th h su st sh fl ic sn bn fm fr cm em lg le lf dl cS cH sea noi pl pw an hd bp bo bw c1 c2 c3 c4 c5 e1 e2 e3 e4 e5)) (mdlW ad 0 cy 0 h su st sh fl ic sn bn fm fr cm em lg le lf dl cS cH sea noi pl pw an hd bp bo bw c1 c2 c3 c4 c5 e1 e2 e3 e4 e5) := hD
            subst hp_6
            refine z_rw (b := 1) rfl ?_
            refine zi_if_ne (tgt := 86) M dX7_explain_81 (by decide) ⟨by decide, by decide⟩ (fun _ => ?_) (fun q => absurd q (by decide))
            refine zi_push M dX7_explain_86 ?_
            refine lv_istore (lv' := [(8, .int (iI 0)), (7, .int (iI 1)), (6, .int (iI 1)), (0, .ref (ad 0)), (1, .int (iI q)), (2, .int (iI t)), (3, .int (iI f)), (4, .int (iI w)), (5, .int (iI mm))]) M.1 M.2.1 dX7_explain_87 hl (by decide) rfl (fun ls hl => ?_)
            refine zi_push M dX7_explain_89 ?_
            refine lv_istore (lv' := [(9, .int (iI (-1))), (8, .int (iI 0)), (7, .int (iI 1)), (6, .int (iI 1)), (0, .ref (ad 0)), (1, .int (iI q)), (2, .int (iI t)), (3, .int (iI f)), (4, .int (iI w)), (5, .int (iI mm))]) M.1 M.2.1 dX7_explain_90 hl (by decide) rfl (fun ls hl => ?_)
            refine zi_push M dX7_explain_92 ?_
            refine lv_istore (lv' := [(10, .int (iI 0)), (9, .int (iI (-1))), (8, .int (iI 0)), (7, .int (iI 1)), (6, .int (iI 1)), (0, .ref (ad 0)), (1, .int (iI q)), (2, .int (iI t)), (3, .int (iI f)), (4, .int (iI w)), (5, .int (iI mm))]) M.1 M.2.1 dX7_explain_93 hl (by decide) rfl (fun ls hl => ?_)
            refine zi_push M dX7_explain_95 ?_
            refine lv_istore (lv' := [(11, .int (iI 0)), (10, .int (iI 0)), (9, .int (iI (-1))), (8, .int (iI 0)), (7, .int (iI 1)), (6, .int (iI 1)), (0, .ref (ad 0)), (1, .int (iI q)), (2, .int (iI t)), (3, .int (iI f)), (4, .int (iI w)), (5, .int (iI mm))]) M.1 M.2.1 dX7_explain_96 hl (by decide) rfl (fun ls hl => ?_)
            have L_98 : ∀ (k_98 : Nat) (x : Int) (y : Int) (z : Int) (i : Int) (ur : Nat → Int) (hi : 0 ≤ i ∧ i ≤ 18) (hx : (x, y, z) = exF (mdE ic h cS) (mdF ic h su st) (mdD ic h fl) sea q t f w mm i.toNat) (hy : -1 ≤ y ∧ y ≤ x ∧ x ≤ i) (hz : 0 ≤ z ∧ z ≤ 1000) (hm : 18 - i < (k_98 : Int)) (H : Heap) (locs : List Loc) (hP : va_P D vwCl (mdlW ad 0 cy 0 h su st sh fl ic sn bn fm fr cm em (ur 0) (ur 1) (ur 2) (ur 3) cS cH sea noi pl pw an hd bp bo bw c1 c2 c3 c4 c5 e1 e2 e3 e4 e5) H) (hD : va_D (zIn (mdlW ad 0 cy th h su st sh fl ic sn bn fm fr cm em lg le lf dl cS cH sea noi pl pw an hd bp bo bw c1 c2 c3 c4 c5 e1 e2 e3 e4 e5)) (mdlW ad 0 cy 0 h su st sh fl ic sn bn fm fr cm em (ur 0) (ur 1) (ur 2) (ur 3) cS cH sea noi pl pw an hd bp bo bw c1 c2 c3 c4 c5 e1 e2 e3 e4 e5)) (hS : va_S (zIn (mdlW ad 0 cy th h su st sh fl ic sn bn fm fr cm em lg le lf dl cS cH sea noi pl pw an hd bp bo bw c1 c2 c3 c4 c5 e1 e2 e3 e4 e5)) s.heap H locs) (ls : Array Slot) (hl : lv_has ls 13 [(0, .ref (ad 0)), (1, .int (iI q)), (2, .int (iI t)), (3, .int (iI f)), (4, .int (iI w)), (5, .int (iI mm)), (8, .int (iI x)), (9, .int (iI y)), (10, .int (iI z)), (11, .int (iI i))]), W p l e (zRm 6 0 0 151) s m args below meth c H locs 0 0 (MQ below (zQ1 D (mdlW ad 0 cy th h su st sh fl ic sn bn fm fr cm em lg le lf dl cS cH sea noi pl pw an hd bp bo bw c1 c2 c3 c4 c5 e1 e2 e3 e4 e5) (fun (r : Int32) (u : Nat → Int) => (∃ xa xb xc xd : Int, u = u8 xa xb xc xd 0 0 0 0 ∧ (((0 ≤ q ∧ q < 48) ∧ (0 ≤ t ∧ t < 48)) ∧ ((10 ≤ f ∧ f ≤ 300) ∧ (0 ≤ w ∧ w ≤ 100) ∧ (0 ≤ mm ∧ mm ≤ 1000))) ∧ r = iI ((exF (mdE ic h cS) (mdF ic h su st) (mdD ic h fl) sea q t f w mm 18).2.1)) ∨ (u = u8 lg le lf dl 1 0 0 0 ∧ (¬ ((0 ≤ q ∧ q < 48) ∧ (0 ≤ t ∧ t < 48))) ∧ r = iI 0) ∨ (u = u8 lg le lf dl 2 0 0 0 ∧ (((0 ≤ q ∧ q < 48) ∧ (0 ≤ t ∧ t < 48)) ∧ ¬ ((10 ≤ f ∧ f ≤ 300) ∧ (0 ≤ w ∧ w ≤ 100) ∧ (0 ≤ mm ∧ mm ≤ 1000))) ∧ r = iI 0)) (fun (u : Nat → Int) => (mdlW ad 0 cy (u 4) h su st sh fl ic sn bn fm fr cm em (u 0) (u 1) (u 2) (u 3) cS cH sea noi pl pw an hd bp bo bw c1 c2 c3 c4 c5 e1 e2 e3 e4 e5))) args s 0 0 (zIn (mdlW ad 0 cy th h su st sh fl ic sn bn fm fr cm em lg le lf dl cS cH sea noi pl pw an hd bp bo bw c1 c2 c3 c4 c5 e1 e2 e3 e4 e5))) (F0 m 98 ls []) := by
              intro k_98
              induction k_98 with
              | zero =>
                intro x y z i ur hi hx hy hz hm H locs hP hD hS ls hl
                exact absurd hm (by omega)
              | succ k_98 ih_98 =>
                intro x y z i ur hi hx hy hz hm H locs hP hD hS ls hl
                refine lv_iload M.1 M.2.1 dX7_explain_98 (lv_at hl 9 rfl) ?_
                refine zi_bipush M dX7_explain_100 ⟨by decide, by decide⟩ ?_
                refine zi_icmp_ge (tgt := 177) M dX7_explain_102 (by decide) (by omega) ⟨by decide, by decide⟩ (fun c_7 => ?_) (fun c_7 => ?_)
                ·
                  refine lv_iload M.1 M.2.1 dX7_explain_177 (lv_at hl 7 rfl) ?_
                  have hP : va_P D vwCl (mdlW ad 0 cy ((u8 (ur 0) (ur 1) (ur 2) (ur 3) 0 0 0 0) 4) h su st sh fl ic sn bn fm fr cm em ((u8 (ur 0) (ur 1) (ur 2) (ur 3) 0 0 0 0) 0) ((u8 (ur 0) (ur 1) (ur 2) (ur 3) 0 0 0 0) 1) ((u8 (ur 0) (ur 1) (ur 2) (ur 3) 0 0 0 0) 2) ((u8 (ur 0) (ur 1) (ur 2) (ur 3) 0 0 0 0) 3) cS cH sea noi pl pw an hd bp bo bw c1 c2 c3 c4 c5 e1 e2 e3 e4 e5) H := hP
                  exact zw_i M hr hlk (u8 (ur 0) (ur 1) (ur 2) (ur 3) 0 0 0 0) hP hS (by exact Or.inl ⟨_, _, _, _, rfl, by omega, congrArg iI (show (y : Int) = (exF (mdE ic h cS) (mdF ic h su st) (mdD ic h fl) sea q t f w mm 18).2.1 by (have h18 : i = 18 := (by omega); subst h18; exact congrArg (fun v : Int × Int × Int => v.2.1) hx))⟩) (by decide) (by decide) dX7_explain_179
                ·
                  refine lv_aload_n M.1 M.2.1 dX7_explain_105 rfl (lv_at hl 0 rfl) ?_
                  refine lv_iload_n M.1 M.2.1 dX7_explain_106 rfl (lv_at hl 1 rfl) ?_
                  refine lv_iload_n M.1 M.2.1 dX7_explain_107 rfl (lv_at hl 2 rfl) ?_
                  refine lv_iload M.1 M.2.1 dX7_explain_108 (lv_at hl 9 rfl) ?_
                  refine lv_iload_n M.1 M.2.1 dX7_explain_110 rfl (lv_at hl 3 rfl) ?_
                  refine lv_iload M.1 M.2.1 dX7_explain_111 (lv_at hl 4 rfl) ?_
                  refine z_cW (z_runV (As := [.int (iI q), .int (iI t), .int (iI i), .int (iI f), .int (iI w)]) (rest := []) M (c_X7_followBy l D cy z0 ad 0 h su st sh fl ic sn bn fm fr cm em (ur 0) (ur 1) (ur 2) (ur 3) cS cH sea noi pl pw an hd bp bo bw c1 c2 c3 c4 c5 e1 e2 e3 e4 e5 q t i f w (by omega) (by omega) (by omega) (by omega) (by omega) (by omega) g_sea (by omega) (by omega) (by omega) (by omega) (by omega)) hE hS hAz (z_cut hP hD hAz [0, 1, 2, 3, 4, 5, 6, 7, 8, 9, 10, 11, 12, 13, 14, 15, 16, 17, 18, 19, 20, 21] rfl (by decide +kernel)) (zRc.of (ci := 7) (q0 := 0) hE hP rfl rfl) zk_cd_X7_followBy zk_in_RX7 zk_im_X7_followBy zk_se_X7_followBy zk_ml_RX7_159 rfl rfl zd_X7_followBy ⟨by decide, by decide⟩ rfl hl.1 rfl (Nat.le_of_ble_eq_true rfl) dX7_explain_113 ⟨by decide, by decide⟩) hP hD hS [0, 1, 2, 3, 4, 5, 6, 7, 8, 9, 10, 11, 12, 13, 14, 15, 16, 17, 18, 19, 20, 21] rfl (fun _ => rfl) (fun r_8 u_8 H locs hp_8 hP hD hS => ?_)
                  have hP : va_P D vwCl (mdlW ad 0 cy 0 h su st sh fl ic sn bn fm fr cm em (u_8 0) (u_8 1) (u_8 2) (u_8 3) cS cH sea noi pl pw an hd bp bo bw c1 c2 c3 c4 c5 e1 e2 e3 e4 e5) H := hP
                  have hD : va_D (zIn (mdlW ad 0 cy th h su st sh fl ic sn bn fm fr cm em lg le lf dl cS cH sea noi pl pw an hd bp bo bw c1 c2 c3 c4 c5 e1 e2 e3 e4 e5)) (mdlW ad 0 cy 0 h su st sh fl ic sn bn fm fr cm em (u_8 0) (u_8 1) (u_8 2) (u_8 3) cS cH sea noi pl pw an hd bp bo bw c1 c2 c3 c4 c5 e1 e2 e3 e4 e5) := hD
                  rcases hp_8 with ⟨w_8, lg_8, le_8, dl_8, hs_8, rfl, rfl⟩ | ⟨hs_8, rfl⟩
                  ·
                    have hP : va_P D vwCl (mdlW ad 0 cy 0 h su st sh fl ic sn bn fm fr cm em lg_8 le_8 w_8 dl_8 cS cH sea noi pl pw an hd bp bo bw c1 c2 c3 c4 c5 e1 e2 e3 e4 e5) H := hP
                    have hD : va_D (zIn (mdlW ad 0 cy th h su st sh fl ic sn bn fm fr cm em lg le lf dl cS cH sea noi pl pw an hd bp bo bw c1 c2 c3 c4 c5 e1 e2 e3 e4 e5)) (mdlW ad 0 cy 0 h su st sh fl ic sn bn fm fr cm em lg_8 le_8 w_8 dl_8 cS cH sea noi pl pw an hd bp bo bw c1 c2 c3 c4 c5 e1 e2 e3 e4 e5) := hD
                    have hb_8 := rayZ_rg (mdD_rg h_fl) (by omega) (by omega) hs_8
                    refine zi_if_eq (tgt := 171) M dX7_explain_116 (by decide) ⟨by decide, by decide⟩ (fun q => absurd q (by decide)) (fun _ => ?_)
                    refine lv_aload_n M.1 M.2.1 dX7_explain_119 rfl (lv_at hl 0 rfl) ?_
                    refine zi_get (ci := 7) (v := .int (iI dl_8)) M hE hP 0 rfl rfl zu_X7 37 (by decide) zk_fl_RX7_138 rfl rfl dX7_explain_120 ?_
                    refine lv_iload M.1 M.2.1 dX7_explain_123 (lv_at hl 5 rfl) ?_
                    refine zi_icmp_le (tgt := 138) M dX7_explain_125 (by decide) (by omega) (by omega) (fun c_9 => ?_) (fun c_9 => ?_)
                    ·
                      refine lv_iload M.1 M.2.1 dX7_explain_138 (lv_at hl 5 rfl) ?_
                      refine lv_aload_n M.1 M.2.1 dX7_explain_140 rfl (lv_at hl 0 rfl) ?_
                      refine zi_get (ci := 7) (v := .int (iI dl_8)) M hE hP 0 rfl rfl zu_X7 37 (by decide) zk_fl_RX7_138 rfl rfl dX7_explain_141 ?_
                      refine zi_isub M dX7_explain_144 ?_
                      refine lv_istore (lv' := [(12, .int (iI (mm - dl_8))), (0, .ref (ad 0)), (1, .int (iI q)), (2, .int (iI t)), (3, .int (iI f)), (4, .int (iI w)), (5, .int (iI mm)), (8, .int (iI x)), (9, .int (iI y)), (10, .int (iI z)), (11, .int (iI i))]) M.1 M.2.1 dX7_explain_145 hl (by decide) rfl (fun ls hl => ?_)
                      refine lv_iload M.1 M.2.1 dX7_explain_147 (lv_at hl 8 rfl) ?_
                      refine zi_push M dX7_explain_149 ?_
                      refine zi_icmp_eq (tgt := 160) M dX7_explain_150 (by decide) (by omega) ⟨by decide, by decide⟩ (fun c_10 => ?_) (fun c_10 => ?_)
                      ·
                        refine lv_iload M.1 M.2.1 dX7_explain_160 (lv_at hl 7 rfl) ?_
                        refine lv_istore (lv' := [(9, .int (iI x)), (12, .int (iI (mm - dl_8))), (0, .ref (ad 0)), (1, .int (iI q)), (2, .int (iI t)), (3, .int (iI f)), (4, .int (iI w)), (5, .int (iI mm)), (8, .int (iI x)), (10, .int (iI z)), (11, .int (iI i))]) M.1 M.2.1 dX7_explain_162 hl (by decide) rfl (fun ls hl => ?_)
                        refine lv_iload M.1 M.2.1 dX7_explain_164 (lv_at hl 1 rfl) ?_
                        refine lv_istore (lv' := [(10, .int (iI (mm - dl_8))), (9, .int (iI x)), (12, .int (iI (mm - dl_8))), (0, .ref (ad 0)), (1, .int (iI q)), (2, .int (iI t)), (3, .int (iI f)), (4, .int (iI w)), (5, .int (iI mm)), (8, .int (iI x)), (11, .int (iI i))]) M.1 M.2.1 dX7_explain_166 hl (by decide) rfl (fun ls hl => ?_)
                        refine zi_iinc (lv' := [(8, .int (iI (x + 1))), (10, .int (iI (mm - dl_8))), (9, .int (iI x)), (12, .int (iI (mm - dl_8))), (0, .ref (ad 0)), (1, .int (iI q)), (2, .int (iI t)), (3, .int (iI f)), (4, .int (iI w)), (5, .int (iI mm)), (11, .int (iI i))]) M dX7_explain_168 hl 9 rfl (by decide) rfl (fun ls hl => ?_)
                        refine zi_iinc (lv' := [(11, .int (iI (i + 1))), (8, .int (iI (x + 1))), (10, .int (iI (mm - dl_8))), (9, .int (iI x)), (12, .int (iI (mm - dl_8))), (0, .ref (ad 0)), (1, .int (iI q)), (2, .int (iI t)), (3, .int (iI f)), (4, .int (iI w)), (5, .int (iI mm))]) M dX7_explain_171 hl 10 rfl (by decide) rfl (fun ls hl => ?_)
                        refine zi_goto (tgt := 98) M dX7_explain_174 (by decide) ?_
                        exact ih_98 (x + 1) x (mm - dl_8) (i + 1) (u8 lg_8 le_8 w_8 dl_8 0 0 0 0) (by omega) (exF_a hi.1 hx hs_8 (by omega) (by omega)) (by omega) (by omega) (by omega) _ _ hP hD hS ls (lv_sub hl [5, 6, 7, 8, 9, 10, 1, 3, 2, 0] rfl)
                      ·
                        refine lv_iload M.1 M.2.1 dX7_explain_153 (lv_at hl 0 rfl) ?_
                        refine lv_iload M.1 M.2.1 dX7_explain_155 (lv_at hl 9 rfl) ?_
                        refine zi_icmp_ge (tgt := 168) M dX7_explain_157 (by decide) (by omega) (by omega) (fun c_11 => ?_) (fun c_11 => ?_)
                        ·
                          refine zi_iinc (lv' := [(8, .int (iI (x + 1))), (12, .int (iI (mm - dl_8))), (0, .ref (ad 0)), (1, .int (iI q)), (2, .int (iI t)), (3, .int (iI f)), (4, .int (iI w)), (5, .int (iI mm)), (9, .int (iI y)), (10, .int (iI z)), (11, .int (iI i))]) M dX7_explain_168 hl 7 rfl (by decide) rfl (fun ls hl => ?_)
                          refine zi_iinc (lv' := [(11, .int (iI (i + 1))), (8, .int (iI (x + 1))), (12, .int (iI (mm - dl_8))), (0, .ref (ad 0)), (1, .int (iI q)), (2, .int (iI t)), (3, .int (iI f)), (4, .int (iI w)), (5, .int (iI mm)), (9, .int (iI y)), (10, .int (iI z))]) M dX7_explain_171 hl 10 rfl (by decide) rfl (fun ls hl => ?_)
                          refine zi_goto (tgt := 98) M dX7_explain_174 (by decide) ?_
                          exact ih_98 (x + 1) y z (i + 1) (u8 lg_8 le_8 w_8 dl_8 0 0 0 0) (by omega) (exF_b hi.1 hx hs_8 rfl (by omega)) (by omega) (by omega) (by omega) _ _ hP hD hS ls (lv_sub hl [3, 4, 5, 6, 7, 8, 1, 9, 10, 0] rfl)
                        ·
                          refine lv_iload M.1 M.2.1 dX7_explain_160 (lv_at hl 7 rfl) ?_
                          refine lv_istore (lv' := [(9, .int (iI x)), (12, .int (iI (mm - dl_8))), (0, .ref (ad 0)), (1, .int (iI q)), (2, .int (iI t)), (3, .int (iI f)), (4, .int (iI w)), (5, .int (iI mm)), (8, .int (iI x)), (10, .int (iI z)), (11, .int (iI i))]) M.1 M.2.1 dX7_explain_162 hl (by decide) rfl (fun ls hl => ?_)
                          refine lv_iload M.1 M.2.1 dX7_explain_164 (lv_at hl 1 rfl) ?_
                          refine lv_istore (lv' := [(10, .int (iI (mm - dl_8))), (9, .int (iI x)), (12, .int (iI (mm - dl_8))), (0, .ref (ad 0)), (1, .int (iI q)), (2, .int (iI t)), (3, .int (iI f)), (4, .int (iI w)), (5, .int (iI mm)), (8, .int (iI x)), (11, .int (iI i))]) M.1 M.2.1 dX7_explain_166 hl (by decide) rfl (fun ls hl => ?_)
                          refine zi_iinc (lv' := [(8, .int (iI (x + 1))), (10, .int (iI (mm - dl_8))), (9, .int (iI x)), (12, .int (iI (mm - dl_8))), (0, .ref (ad 0)), (1, .int (iI q)), (2, .int (iI t)), (3, .int (iI f)), (4, .int (iI w)), (5, .int (iI mm)), (11, .int (iI i))]) M dX7_explain_168 hl 9 rfl (by decide) rfl (fun ls hl => ?_)
                          refine zi_iinc (lv' := [(11, .int (iI (i + 1))), (8, .int (iI (x + 1))), (10, .int (iI (mm - dl_8))), (9, .int (iI x)), (12, .int (iI (mm - dl_8))), (0, .ref (ad 0)), (1, .int (iI q)), (2, .int (iI t)), (3, .int (iI f)), (4, .int (iI w)), (5, .int (iI mm))]) M dX7_explain_171 hl 10 rfl (by decide) rfl (fun ls hl => ?_)
                          refine zi_goto (tgt := 98) M dX7_explain_174 (by decide) ?_
                          exact ih_98 (x + 1) x (mm - dl_8) (i + 1) (u8 lg_8 le_8 w_8 dl_8 0 0 0 0) (by omega) (exF_a hi.1 hx hs_8 (by omega) (by omega)) (by omega) (by omega) (by omega) _ _ hP hD hS ls (lv_sub hl [5, 6, 7, 8, 9, 10, 1, 3, 2, 0] rfl)
                    ·
                      refine lv_aload_n M.1 M.2.1 dX7_explain_128 rfl (lv_at hl 0 rfl) ?_
                      refine zi_get (ci := 7) (v := .int (iI dl_8)) M hE hP 0 rfl rfl zu_X7 37 (by decide) zk_fl_RX7_138 rfl rfl dX7_explain_129 ?_
                      refine lv_iload M.1 M.2.1 dX7_explain_132 (lv_at hl 5 rfl) ?_
                      refine zi_isub M dX7_explain_134 ?_
                      refine zi_goto (tgt := 145) M dX7_explain_135 (by decide) ?_
                      refine lv_istore (lv' := [(12, .int (iI (dl_8 - mm))), (0, .ref (ad 0)), (1, .int (iI q)), (2, .int (iI t)), (3, .int (iI f)), (4, .int (iI w)), (5, .int (iI mm)), (8, .int (iI x)), (9, .int (iI y)), (10, .int (iI z)), (11, .int (iI i))]) M.1 M.2.1 dX7_explain_145 hl (by decide) rfl (fun ls hl => ?_)
                      refine lv_iload M.1 M.2.1 dX7_explain_147 (lv_at hl 8 rfl) ?_
                      refine zi_push M dX7_explain_149 ?_
                      refine zi_icmp_eq (tgt := 160) M dX7_explain_150 (by decide) (by omega) ⟨by decide, by decide⟩ (fun c_12 => ?_) (fun c_12 => ?_)
                      ·
                        refine lv_iload M.1 M.2.1 dX7_explain_160 (lv_at hl 7 rfl) ?_
                        refine lv_istore (lv' := [(9, .int (iI x)), (12, .int (iI (dl_8 - mm))), (0, .ref (ad 0)), (1, .int (iI q)), (2, .int (iI t)), (3, .int (iI f)), (4, .int (iI w)), (5, .int (iI mm)), (8, .int (iI x)), (10, .int (iI z)), (11, .int (iI i))]) M.1 M.2.1 dX7_explain_162 hl (by decide) rfl (fun ls hl => ?_)
                        refine lv_iload M.1 M.2.1 dX7_explain_164 (lv_at hl 1 rfl) ?_
                        refine lv_istore (lv' := [(10, .int (iI (dl_8 - mm))), (9, .int (iI x)), (12, .int (iI (dl_8 - mm))), (0, .ref (ad 0)), (1, .int (iI q)), (2, .int (iI t)), (3, .int (iI f)), (4, .int (iI w)), (5, .int (iI mm)), (8, .int (iI x)), (11, .int (iI i))]) M.1 M.2.1 dX7_explain_166 hl (by decide) rfl (fun ls hl => ?_)
                        refine zi_iinc (lv' := [(8, .int (iI (x + 1))), (10, .int (iI (dl_8 - mm))), (9, .int (iI x)), (12, .int (iI (dl_8 - mm))), (0, .ref (ad 0)), (1, .int (iI q)), (2, .int (iI t)), (3, .int (iI f)), (4, .int (iI w)), (5, .int (iI mm)), (11, .int (iI i))]) M dX7_explain_168 hl 9 rfl (by decide) rfl (fun ls hl => ?_)
                        refine zi_iinc (lv' := [(11, .int (iI (i + 1))), (8, .int (iI (x + 1))), (10, .int (iI (dl_8 - mm))), (9, .int (iI x)), (12, .int (iI (dl_8 - mm))), (0, .ref (ad 0)), (1, .int (iI q)), (2, .int (iI t)), (3, .int (iI f)), (4, .int (iI w)), (5, .int (iI mm))]) M dX7_explain_171 hl 10 rfl (by decide) rfl (fun ls hl => ?_)
                        refine zi_goto (tgt := 98) M dX7_explain_174 (by decide) ?_
                        exact ih_98 (x + 1) x (dl_8 - mm) (i + 1) (u8 lg_8 le_8 w_8 dl_8 0 0 0 0) (by omega) (exF_a hi.1 hx hs_8 (by omega) (by omega)) (by omega) (by omega) (by omega) _ _ hP hD hS ls (lv_sub hl [5, 6, 7, 8, 9, 10, 1, 3, 2, 0] rfl)
                      ·
                        refine lv_iload M.1 M.2.1 dX7_explain_153 (lv_at hl 0 rfl) ?_
                        refine lv_iload M.1 M.2.1 dX7_explain_155 (lv_at hl 9 rfl) ?_
                        refine zi_icmp_ge (tgt := 168) M dX7_explain_157 (by decide) (by omega) (by omega) (fun c_13 => ?_) (fun c_13 => ?_)
                        ·
                          refine zi_iinc (lv' := [(8, .int (iI (x + 1))), (12, .int (iI (dl_8 - mm))), (0, .ref (ad 0)), (1, .int (iI q)), (2, .int (iI t)), (3, .int (iI f)), (4, .int (iI w)), (5, .int (iI mm)), (9, .int (iI y)), (10, .int (iI z)), (11, .int (iI i))]) M dX7_explain_168 hl 7 rfl (by decide) rfl (fun ls hl => ?_)
                          refine zi_iinc (lv' := [(11, .int (iI (i + 1))), (8, .int (iI (x + 1))), (12, .int (iI (dl_8 - mm))), (0, .ref (ad 0)), (1, .int (iI q)), (2, .int (iI t)), (3, .int (iI f)), (4, .int (iI w)), (5, .int (iI mm)), (9, .int (iI y)), (10, .int (iI z))]) M dX7_explain_171 hl 10 rfl (by decide) rfl (fun ls hl => ?_)
                          refine zi_goto (tgt := 98) M dX7_explain_174 (by decide) ?_
                          exact ih_98 (x + 1) y z (i + 1) (u8 lg_8 le_8 w_8 dl_8 0 0 0 0) (by omega) (exF_b hi.1 hx hs_8 rfl (by omega)) (by omega) (by omega) (by omega) _ _ hP hD hS ls (lv_sub hl [3, 4, 5, 6, 7, 8, 1, 9, 10, 0] rfl)
                        ·
                          refine lv_iload M.1 M.2.1 dX7_explain_160 (lv_at hl 7 rfl) ?_
                          refine lv_istore (lv' := [(9, .int (iI x)), (12, .int (iI (dl_8 - mm))), (0, .ref (ad 0)), (1, .int (iI q)), (2, .int (iI t)), (3, .int (iI f)), (4, .int (iI w)), (5, .int (iI mm)), (8, .int (iI x)), (10, .int (iI z)), (11, .int (iI i))]) M.1 M.2.1 dX7_explain_162 hl (by decide) rfl (fun ls hl => ?_)
                          refine lv_iload M.1 M.2.1 dX7_explain_164 (lv_at hl 1 rfl) ?_
                          refine lv_istore (lv' := [(10, .int (iI (dl_8 - mm))), (9, .int (iI x)), (12, .int (iI (dl_8 - mm))), (0, .ref (ad 0)), (1, .int (iI q)), (2, .int (iI t)), (3, .int (iI f)), (4, .int (iI w)), (5, .int (iI mm)), (8, .int (iI x)), (11, .int (iI i))]) M.1 M.2.1 dX7_explain_166 hl (by decide) rfl (fun ls hl => ?_)
                          refine zi_iinc (lv' := [(8, .int (iI (x + 1))), (10, .int (iI (dl_8 - mm))), (9, .int (iI x)), (12, .int (iI (dl_8 - mm))), (0, .ref (ad 0)), (1, .int (iI q)), (2, .int (iI t)), (3, .int (iI f)), (4, .int (iI w)), (5, .int (iI mm)), (11, .int (iI i))]) M dX7_explain_168 hl 9 rfl (by decide) rfl (fun ls hl => ?_)
                          refine zi_iinc (lv' := [(11, .int (iI (i + 1))), (8, .int (iI (x + 1))), (10, .int (iI (dl_8 - mm))), (9, .int (iI x)), (12, .int (iI (dl_8 - mm))), (0, .ref (ad 0)), (1, .int (iI q)), (2, .int (iI t)), (3, .int (iI f)), (4, .int (iI w)), (5, .int (iI mm))]) M dX7_explain_171 hl 10 rfl (by decide) rfl (fun ls hl => ?_)
                          refine zi_goto (tgt := 98) M dX7_explain_174 (by decide) ?_
                          exact ih_98 (x + 1) x (dl_8 - mm) (i + 1) (u8 lg_8 le_8 w_8 dl_8 0 0 0 0) (by omega) (exF_a hi.1 hx hs_8 (by omega) (by omega)) (by omega) (by omega) (by omega) _ _ hP hD hS ls (lv_sub hl [5, 6, 7, 8, 9, 10, 1, 3, 2, 0] rfl)
                  ·
                    refine zi_if_eq (tgt := 171) M dX7_explain_116 (by decide) ⟨by decide, by decide⟩ (fun _ => ?_) (fun q => absurd q (by decide))
                    refine zi_iinc (lv' := [(11, .int (iI (i + 1))), (0, .ref (ad 0)), (1, .int (iI q)), (2, .int (iI t)), (3, .int (iI f)), (4, .int (iI w)), (5, .int (iI mm)), (8, .int (iI x)), (9, .int (iI y)), (10, .int (iI z))]) M dX7_explain_171 hl 9 rfl (by decide) rfl (fun ls hl => ?_)
                    refine zi_goto (tgt := 98) M dX7_explain_174 (by decide) ?_
                    exact ih_98 x y z (i + 1) u_8 (by omega) (exF_n hi.1 hx hs_8) (by omega) (by omega) (by omega) _ _ hP hD hS ls (lv_sub hl [1, 2, 3, 4, 5, 6, 7, 8, 9, 0] rfl)
            exact L_98 (Int.toNat (18 - 0) + 1) 0 (-1) 0 0 (u8 lg le lf dl 0 0 0 0) (by omega) rfl (by omega) (by omega) (by omega) _ _ hP hD hS ls (lv_sub hl [6, 7, 8, 9, 10, 11, 3, 2, 1, 0] rfl)
          ·
            refine zi_if_eq (tgt := 55) M dX7_explain_48 (by decide) ⟨by decide, by decide⟩ (fun _ => ?_) (fun q => absurd q (by decide))
            refine zi_push M dX7_explain_55 ?_
            refine lv_istore (lv' := [(7, .int (iI 0)), (6, .int (iI 1)), (0, .ref (ad 0)), (1, .int (iI q)), (2, .int (iI t)), (3, .int (iI f)), (4, .int (iI w)), (5, .int (iI mm))]) M.1 M.2.1 dX7_explain_56 hl (by decide) rfl (fun ls hl => ?_)
            refine lv_aload_n M.1 M.2.1 dX7_explain_58 rfl (lv_at hl 2 rfl) ?_
            refine lv_iload M.1 M.2.1 dX7_explain_59 (lv_at hl 1 rfl) ?_
            refine zi_if_ne (tgt := 68) M dX7_explain_61 (by decide) ⟨by decide, by decide⟩ (fun _ => ?_) (fun q => absurd q (by decide))
            refine lv_iload M.1 M.2.1 dX7_explain_68 (lv_at hl 0 rfl) ?_
            refine zi_if_eq (tgt := 77) M dX7_explain_70 (by decide) ⟨by decide, by decide⟩ (fun _ => ?_) (fun q => absurd q (by decide))
            refine zi_push M dX7_explain_77 ?_
            refine z_cW (z_runV (As := [.int (iI 2)]) (rest := []) M (c_X7_goesWell l D cy z0 ad th h su st sh fl ic sn bn fm fr cm em lg le lf dl cS cH sea noi pl pw an hd bp bo bw c1 c2 c3 c4 c5 e1 e2 e3 e4 e5 2 (by omega)) hE hS hAz (z_cut hP hD hAz [0, 1, 2, 3, 4, 5, 6, 7, 8, 9, 10, 11, 12, 13, 14, 15, 16, 17, 18, 19, 20, 21] rfl (by decide +kernel)) (zRc.of (ci := 7) (q0 := 0) hE hP rfl rfl) zk_cd_X7_goesWell zk_in_RX7 zk_im_X7_goesWell zk_se_X7_goesWell zk_ml_RX7_88 rfl rfl zd_X7_goesWell ⟨by decide, by decide⟩ rfl hl.1 rfl (Nat.le_of_ble_eq_true rfl) dX7_explain_78 ⟨by decide, by decide⟩) hP hD hS [0, 1, 2, 3, 4, 5, 6, 7, 8, 9, 10, 11, 12, 13, 14, 15, 16, 17, 18, 19, 20, 21] rfl (fun _ => rfl) (fun r_14 u_14 H locs hp_14 hP hD hS => ?_)
            have hP : va_P D vwCl (mdlW ad 0 cy 2 h su st sh fl ic sn bn fm fr cm em lg le lf dl cS cH sea noi pl pw an hd bp bo bw c1 c2 c3 c4 c5 e1 e2 e3 e4 e5) H := hP
            have hD : va_D (zIn (mdlW ad 0 cy th h su st sh fl ic sn bn fm fr cm em lg le lf dl cS cH sea noi pl pw an hd bp bo bw c1 c2 c3 c4 c5 e1 e2 e3 e4 e5)) (mdlW ad 0 cy 2 h su st sh fl ic sn bn fm fr cm em lg le lf dl cS cH sea noi pl pw an hd bp bo bw c1 c2 c3 c4 c5 e1 e2 e3 e4 e5) := hD
            subst hp_14
            refine z_rw (b := 0) rfl ?_
            refine zi_if_ne (tgt := 86) M dX7_explain_81 (by decide) ⟨by decide, by decide⟩ (fun q => absurd q (by decide)) (fun _ => ?_)
            refine zi_push M dX7_explain_84 ?_
            have hP : va_P D vwCl (mdlW ad 0 cy ((u8 lg le lf dl 2 0 0 0) 4) h su st sh fl ic sn bn fm fr cm em ((u8 lg le lf dl 2 0 0 0) 0) ((u8 lg le lf dl 2 0 0 0) 1) ((u8 lg le lf dl 2 0 0 0) 2) ((u8 lg le lf dl 2 0 0 0) 3) cS cH sea noi pl pw an hd bp bo bw c1 c2 c3 c4 c5 e1 e2 e3 e4 e5) H := hP
            exact zw_i M hr hlk (u8 lg le lf dl 2 0 0 0) hP hS (by exact Or.inr (Or.inr (⟨rfl, by omega, rfl⟩))) (by decide) (by decide) dX7_explain_85
        ·
          refine zi_if_eq (tgt := 55) M dX7_explain_36 (by decide) ⟨by decide, by decide⟩ (fun _ => ?_) (fun q => absurd q (by decide))
          refine zi_push M dX7_explain_55 ?_
          refine lv_istore (lv' := [(7, .int (iI 0)), (6, .int (iI 1)), (0, .ref (ad 0)), (1, .int (iI q)), (2, .int (iI t)), (3, .int (iI f)), (4, .int (iI w)), (5, .int (iI mm))]) M.1 M.2.1 dX7_explain_56 hl (by decide) rfl (fun ls hl => ?_)
          refine lv_aload_n M.1 M.2.1 dX7_explain_58 rfl (lv_at hl 2 rfl) ?_
          refine lv_iload M.1 M.2.1 dX7_explain_59 (lv_at hl 1 rfl) ?_
          refine zi_if_ne (tgt := 68) M dX7_explain_61 (by decide) ⟨by decide, by decide⟩ (fun _ => ?_) (fun q => absurd q (by decide))
          refine lv_iload M.1 M.2.1 dX7_explain_68 (lv_at hl 0 rfl) ?_
          refine zi_if_eq (tgt := 77) M dX7_explain_70 (by decide) ⟨by decide, by decide⟩ (fun _ => ?_) (fun q => absurd q (by decide))
          refine zi_push M dX7_explain_77 ?_
          refine z_cW (z_runV (As := [.int (iI 2)]) (rest := []) M (c_X7_goesWell l D cy z0 ad th h su st sh fl ic sn bn fm fr cm em lg le lf dl cS cH sea noi pl pw an hd bp bo bw c1 c2 c3 c4 c5 e1 e2 e3 e4 e5 2 (by omega)) hE hS hAz (z_cut hP hD hAz [0, 1, 2, 3, 4, 5, 6, 7, 8, 9, 10, 11, 12, 13, 14, 15, 16, 17, 18, 19, 20, 21] rfl (by decide +kernel)) (zRc.of (ci := 7) (q0 := 0) hE hP rfl rfl) zk_cd_X7_goesWell zk_in_RX7 zk_im_X7_goesWell zk_se_X7_goesWell zk_ml_RX7_88 rfl rfl zd_X7_goesWell ⟨by decide, by decide⟩ rfl hl.1 rfl (Nat.le_of_ble_eq_true rfl) dX7_explain_78 ⟨by decide, by decide⟩) hP hD hS [0, 1, 2, 3, 4, 5, 6, 7, 8, 9, 10, 11, 12, 13, 14, 15, 16, 17, 18, 19, 20, 21] rfl (fun _ => rfl) (fun r_15 u_15 H locs hp_15 hP hD hS => ?_)
          have hP : va_P D vwCl (mdlW ad 0 cy 2 h su st sh fl ic sn bn fm fr cm em lg le lf dl cS cH sea noi pl pw an hd bp bo bw c1 c2 c3 c4 c5 e1 e2 e3 e4 e5) H := hP
          have hD : va_D (zIn (mdlW ad 0 cy th h su st sh fl ic sn bn fm fr cm em lg le lf dl cS cH sea noi pl pw an hd bp bo bw c1 c2 c3 c4 c5 e1 e2 e3 e4 e5)) (mdlW ad 0 cy 2 h su st sh fl ic sn bn fm fr cm em lg le lf dl cS cH sea noi pl pw an hd bp bo bw c1 c2 c3 c4 c5 e1 e2 e3 e4 e5) := hD
          subst hp_15
          refine z_rw (b := 0) rfl ?_
          refine zi_if_ne (tgt := 86) M dX7_explain_81 (by decide) ⟨by decide, by decide⟩ (fun q => absurd q (by decide)) (fun _ => ?_)
          refine zi_push M dX7_explain_84 ?_
          have hP : va_P D vwCl (mdlW ad 0 cy ((u8 lg le lf dl 2 0 0 0) 4) h su st sh fl ic sn bn fm fr cm em ((u8 lg le lf dl 2 0 0 0) 0) ((u8 lg le lf dl 2 0 0 0) 1) ((u8 lg le lf dl 2 0 0 0) 2) ((u8 lg le lf dl 2 0 0 0) 3) cS cH sea noi pl pw an hd bp bo bw c1 c2 c3 c4 c5 e1 e2 e3 e4 e5) H := hP
          exact zw_i M hr hlk (u8 lg le lf dl 2 0 0 0) hP hS (by exact Or.inr (Or.inr (⟨rfl, by omega, rfl⟩))) (by decide) (by decide) dX7_explain_85
      ·
        refine zi_if_eq (tgt := 55) M dX7_explain_25 (by decide) ⟨by decide, by decide⟩ (fun _ => ?_) (fun q => absurd q (by decide))
        refine zi_push M dX7_explain_55 ?_
        refine lv_istore (lv' := [(7, .int (iI 0)), (6, .int (iI 1)), (0, .ref (ad 0)), (1, .int (iI q)), (2, .int (iI t)), (3, .int (iI f)), (4, .int (iI w)), (5, .int (iI mm))]) M.1 M.2.1 dX7_explain_56 hl (by decide) rfl (fun ls hl => ?_)
        refine lv_aload_n M.1 M.2.1 dX7_explain_58 rfl (lv_at hl 2 rfl) ?_
        refine lv_iload M.1 M.2.1 dX7_explain_59 (lv_at hl 1 rfl) ?_
        refine zi_if_ne (tgt := 68) M dX7_explain_61 (by decide) ⟨by decide, by decide⟩ (fun _ => ?_) (fun q => absurd q (by decide))
        refine lv_iload M.1 M.2.1 dX7_explain_68 (lv_at hl 0 rfl) ?_
        refine zi_if_eq (tgt := 77) M dX7_explain_70 (by decide) ⟨by decide, by decide⟩ (fun _ => ?_) (fun q => absurd q (by decide))
        refine zi_push M dX7_explain_77 ?_
        refine z_cW (z_runV (As := [.int (iI 2)]) (rest := []) M (c_X7_goesWell l D cy z0 ad th h su st sh fl ic sn bn fm fr cm em lg le lf dl cS cH sea noi pl pw an hd bp bo bw c1 c2 c3 c4 c5 e1 e2 e3 e4 e5 2 (by omega)) hE hS hAz (z_cut hP hD hAz [0, 1, 2, 3, 4, 5, 6, 7, 8, 9, 10, 11, 12, 13, 14, 15, 16, 17, 18, 19, 20, 21] rfl (by decide +kernel)) (zRc.of (ci := 7) (q0 := 0) hE hP rfl rfl) zk_cd_X7_goesWell zk_in_RX7 zk_im_X7_goesWell zk_se_X7_goesWell zk_ml_RX7_88 rfl rfl zd_X7_goesWell ⟨by decide, by decide⟩ rfl hl.1 rfl (Nat.le_of_ble_eq_true rfl) dX7_explain_78 ⟨by decide, by decide⟩) hP hD hS [0, 1, 2, 3, 4, 5, 6, 7, 8, 9, 10, 11, 12, 13, 14, 15, 16, 17, 18, 19, 20, 21] rfl (fun _ => rfl) (fun r_16 u_16 H locs hp_16 hP hD hS => ?_)
        have hP : va_P D vwCl (mdlW ad 0 cy 2 h su st sh fl ic sn bn fm fr cm em lg le lf dl cS cH sea noi pl pw an hd bp bo bw c1 c2 c3 c4 c5 e1 e2 e3 e4 e5) H := hP
        have hD : va_D (zIn (mdlW ad 0 cy th h su st sh fl ic sn bn fm fr cm em lg le lf dl cS cH sea noi pl pw an hd bp bo bw c1 c2 c3 c4 c5 e1 e2 e3 e4 e5)) (mdlW ad 0 cy 2 h su st sh fl ic sn bn fm fr cm em lg le lf dl cS cH sea noi pl pw an hd bp bo bw c1 c2 c3 c4 c5 e1 e2 e3 e4 e5) := hD
        subst hp_16
        refine z_rw (b := 0) rfl ?_
        refine zi_if_ne (tgt := 86) M dX7_explain_81 (by decide) ⟨by decide, by decide⟩ (fun q => absurd q (by decide)) (fun _ => ?_)
        refine zi_push M dX7_explain_84 ?_
        have hP : va_P D vwCl (mdlW ad 0 cy ((u8 lg le lf dl 2 0 0 0) 4) h su st sh fl ic sn bn fm fr cm em ((u8 lg le lf dl 2 0 0 0) 0) ((u8 lg le lf dl 2 0 0 0) 1) ((u8 lg le lf dl 2 0 0 0) 2) ((u8 lg le lf dl 2 0 0 0) 3) cS cH sea noi pl pw an hd bp bo bw c1 c2 c3 c4 c5 e1 e2 e3 e4 e5) H := hP
        exact zw_i M hr hlk (u8 lg le lf dl 2 0 0 0) hP hS (by exact Or.inr (Or.inr (⟨rfl, by omega, rfl⟩))) (by decide) (by decide) dX7_explain_85
    ·
      refine zi_if_eq (tgt := 18) M dX7_explain_11 (by decide) ⟨by decide, by decide⟩ (fun _ => ?_) (fun q => absurd q (by decide))
      refine zi_push M dX7_explain_18 ?_
      refine lv_istore (lv' := [(6, .int (iI 0)), (0, .ref (ad 0)), (1, .int (iI q)), (2, .int (iI t)), (3, .int (iI f)), (4, .int (iI w)), (5, .int (iI mm))]) M.1 M.2.1 dX7_explain_19 hl (by decide) rfl (fun ls hl => ?_)
      refine lv_iload_n M.1 M.2.1 dX7_explain_21 rfl (lv_at hl 4 rfl) ?_
      refine z_cR (z_runS (As := [.int (iI f)]) (rest := []) M (c_X7_isOn l D cy z0 f (by omega)) hE hS hAz trivial zk_cd_X7_isOn zk_in_RX7 zk_st_X7_isOn zk_ml_RX7_152 rfl rfl zd_X7_isOn ⟨by decide, by decide⟩ rfl hl.1 rfl (Nat.le_of_ble_eq_true rfl) dX7_explain_22 ⟨by decide, by decide⟩) ?_
      refine zi_b (P := 10 ≤ f ∧ f ≤ 300) (g := fun r => F0 m 25 ls (.int r :: [])) (fun b_17 => ?_) (fun b_17 => ?_)
      ·
        refine zi_if_eq (tgt := 55) M dX7_explain_25 (by decide) ⟨by decide, by decide⟩ (fun q => absurd q (by decide)) (fun _ => ?_)
        refine lv_iload M.1 M.2.1 dX7_explain_28 (lv_at hl 5 rfl) ?_
        refine zi_push M dX7_explain_30 ?_
        refine zi_bipush M dX7_explain_31 ⟨by decide, by decide⟩ ?_
        refine z_cR (z_runS (As := [.int (iI w), .int (iI 0), .int (iI 100)]) (rest := []) M (c_X7_in l D cy z0 w 0 100 (by omega) (by omega) (by omega)) hE hS hAz trivial zk_cd_X7_in zk_in_RX7 zk_st_X7_in zk_ml_RX7_81 rfl rfl zd_X7_in ⟨by decide, by decide⟩ rfl hl.1 rfl (Nat.le_of_ble_eq_true rfl) dX7_explain_33 ⟨by decide, by decide⟩) ?_
        refine zi_b (P := 0 ≤ w ∧ w ≤ 100) (g := fun r => F0 m 36 ls (.int r :: [])) (fun b_18 => ?_) (fun b_18 => ?_)
        ·
          refine zi_if_eq (tgt := 55) M dX7_explain_36 (by decide) ⟨by decide, by decide⟩ (fun q => absurd q (by decide)) (fun _ => ?_)
          refine lv_iload M.1 M.2.1 dX7_explain_39 (lv_at hl 6 rfl) ?_
          refine zi_push M dX7_explain_41 ?_
          refine zi_sipush M dX7_explain_42 ⟨by decide, by decide⟩ ?_
          refine z_cR (z_runS (As := [.int (iI mm), .int (iI 0), .int (iI 1000)]) (rest := []) M (c_X7_in l D cy z0 mm 0 1000 (by omega) (by omega) (by omega)) hE hS hAz trivial zk_cd_X7_in zk_in_RX7 zk_st_X7_in zk_ml_RX7_81 rfl rfl zd_X7_in ⟨by decide, by decide⟩ rfl hl.1 rfl (Nat.le_of_ble_eq_true rfl) dX7_explain_45 ⟨by decide, by decide⟩) ?_
          refine zi_b (P := 0 ≤ mm ∧ mm ≤ 1000) (g := fun r => F0 m 48 ls (.int r :: [])) (fun b_19 => ?_) (fun b_19 => ?_)
          ·
            refine zi_if_eq (tgt := 55) M dX7_explain_48 (by decide) ⟨by decide, by decide⟩ (fun q => absurd q (by decide)) (fun _ => ?_)
            refine zi_push M dX7_explain_51 ?_
            refine zi_goto (tgt := 56) M dX7_explain_52 (by decide) ?_
            refine lv_istore (lv' := [(7, .int (iI 1)), (6, .int (iI 0)), (0, .ref (ad 0)), (1, .int (iI q)), (2, .int (iI t)), (3, .int (iI f)), (4, .int (iI w)), (5, .int (iI mm))]) M.1 M.2.1 dX7_explain_56 hl (by decide) rfl (fun ls hl => ?_)
            refine lv_aload_n M.1 M.2.1 dX7_explain_58 rfl (lv_at hl 2 rfl) ?_
            refine lv_iload M.1 M.2.1 dX7_explain_59 (lv_at hl 1 rfl) ?_
            refine zi_if_ne (tgt := 68) M dX7_explain_61 (by decide) ⟨by decide, by decide⟩ (fun q => absurd q (by decide)) (fun _ => ?_)
            refine zi_push M dX7_explain_64 ?_
            refine zi_goto (tgt := 78) M dX7_explain_65 (by decide) ?_
            refine z_cW (z_runV (As := [.int (iI 1)]) (rest := []) M (c_X7_goesWell l D cy z0 ad th h su st sh fl ic sn bn fm fr cm em lg le lf dl cS cH sea noi pl pw an hd bp bo bw c1 c2 c3 c4 c5 e1 e2 e3 e4 e5 1 (by omega)) hE hS hAz (z_cut hP hD hAz [0, 1, 2, 3, 4, 5, 6, 7, 8, 9, 10, 11, 12, 13, 14, 15, 16, 17, 18, 19, 20, 21] rfl (by decide +kernel)) (zRc.of (ci := 7) (q0 := 0) hE hP rfl rfl) zk_cd_X7_goesWell zk_in_RX7 zk_im_X7_goesWell zk_se_X7_goesWell zk_ml_RX7_88 rfl rfl zd_X7_goesWell ⟨by decide, by decide⟩ rfl hl.1 rfl (Nat.le_of_ble_eq_true rfl) dX7_explain_78 ⟨by decide, by decide⟩) hP hD hS [0, 1, 2, 3, 4, 5, 6, 7, 8, 9, 10, 11, 12, 13, 14, 15, 16, 17, 18, 19, 20, 21] rfl (fun _ => rfl) (fun r_20 u_20 H locs hp_20 hP hD hS => ?_)
            have hP : va_P D vwCl (mdlW ad 0 cy 1 h su st sh fl ic sn bn fm fr cm em lg le lf dl cS cH sea noi pl pw an hd bp bo bw c1 c2 c3 c4 c5 e1 e2 e3 e4 e5) H := hP
            have hD : va_D (zIn (mdlW ad 0 cy th h su st sh fl ic sn bn fm fr cm em lg le lf dl cS cH sea noi pl pw an hd bp bo bw c1 c2 c3 c4 c5 e1 e2 e3 e4 e5)) (mdlW ad 0 cy 1 h su st sh fl ic sn bn fm fr cm em lg le lf dl cS cH sea noi pl pw an hd bp bo bw c1 c2 c3 c4 c5 e1 e2 e3 e4 e5) := hD
            subst hp_20
            refine z_rw (b := 0) rfl ?_
            refine zi_if_ne (tgt := 86) M dX7_explain_81 (by decide) ⟨by decide, by decide⟩ (fun q => absurd q (by decide)) (fun _ => ?_)
            refine zi_push M dX7_explain_84 ?_
            have hP : va_P D vwCl (mdlW ad 0 cy ((u8 lg le lf dl 1 0 0 0) 4) h su st sh fl ic sn bn fm fr cm em ((u8 lg le lf dl 1 0 0 0) 0) ((u8 lg le lf dl 1 0 0 0) 1) ((u8 lg le lf dl 1 0 0 0) 2) ((u8 lg le lf dl 1 0 0 0) 3) cS cH sea noi pl pw an hd bp bo bw c1 c2 c3 c4 c5 e1 e2 e3 e4 e5) H := hP
            exact zw_i M hr hlk (u8 lg le lf dl 1 0 0 0) hP hS (by exact Or.inr (Or.inl (⟨rfl, by omega, rfl⟩))) (by decide) (by decide) dX7_explain_85
          ·
            refine zi_if_eq (tgt := 55) M dX7_explain_48 (by decide) ⟨by decide, by decide⟩ (fun _ => ?_) (fun q => absurd q (by decide))
            refine zi_push M dX7_explain_55 ?_
            refine lv_istore (lv' := [(7, .int (iI 0)), (6, .int (iI 0)), (0, .ref (ad 0)), (1, .int (iI q)), (2, .int (iI t)), (3, .int (iI f)), (4, .int (iI w)), (5, .int (iI mm))]) M.1 M.2.1 dX7_explain_56 hl (by decide) rfl (fun ls hl => ?_)
            refine lv_aload_n M.1 M.2.1 dX7_explain_58 rfl (lv_at hl 2 rfl) ?_
            refine lv_iload M.1 M.2.1 dX7_explain_59 (lv_at hl 1 rfl) ?_
            refine zi_if_ne (tgt := 68) M dX7_explain_61 (by decide) ⟨by decide, by decide⟩ (fun q => absurd q (by decide)) (fun _ => ?_)
            refine zi_push M dX7_explain_64 ?_
            refine zi_goto (tgt := 78) M dX7_explain_65 (by decide) ?_
            refine z_cW (z_runV (As := [.int (iI 1)]) (rest := []) M (c_X7_goesWell l D cy z0 ad th h su st sh fl ic sn bn fm fr cm em lg le lf dl cS cH sea noi pl pw an hd bp bo bw c1 c2 c3 c4 c5 e1 e2 e3 e4 e5 1 (by omega)) hE hS hAz (z_cut hP hD hAz [0, 1, 2, 3, 4, 5, 6, 7, 8, 9, 10, 11, 12, 13, 14, 15, 16, 17, 18, 19, 20, 21] rfl (by decide +kernel)) (zRc.of (ci := 7) (q0 := 0) hE hP rfl rfl) zk_cd_X7_goesWell zk_in_RX7 zk_im_X7_goesWell zk_se_X7_goesWell zk_ml_RX7_88 rfl rfl zd_X7_goesWell ⟨by decide, by decide⟩ rfl hl.1 rfl (Nat.le_of_ble_eq_true rfl) dX7_explain_78 ⟨by decide, by decide⟩) hP hD hS [0, 1, 2, 3, 4, 5, 6, 7, 8, 9, 10, 11, 12, 13, 14, 15, 16, 17, 18, 19, 20, 21] rfl (fun _ => rfl) (fun r_21 u_21 H locs hp_21 hP hD hS => ?_)
            have hP : va_P D vwCl (mdlW ad 0 cy 1 h su st sh fl ic sn bn fm fr cm em lg le lf dl cS cH sea noi pl pw an hd bp bo bw c1 c2 c3 c4 c5 e1 e2 e3 e4 e5) H := hP
            have hD : va_D (zIn (mdlW ad 0 cy th h su st sh fl ic sn bn fm fr cm em lg le lf dl cS cH sea noi pl pw an hd bp bo bw c1 c2 c3 c4 c5 e1 e2 e3 e4 e5)) (mdlW ad 0 cy 1 h su st sh fl ic sn bn fm fr cm em lg le lf dl cS cH sea noi pl pw an hd bp bo bw c1 c2 c3 c4 c5 e1 e2 e3 e4 e5) := hD
            subst hp_21
            refine z_rw (b := 0) rfl ?_
            refine zi_if_ne (tgt := 86) M dX7_explain_81 (by decide) ⟨by decide, by decide⟩ (fun q => absurd q (by decide)) (fun _ => ?_)
            refine zi_push M dX7_explain_84 ?_
            have hP : va_P D vwCl (mdlW ad 0 cy ((u8 lg le lf dl 1 0 0 0) 4) h su st sh fl ic sn bn fm fr cm em ((u8 lg le lf dl 1 0 0 0) 0) ((u8 lg le lf dl 1 0 0 0) 1) ((u8 lg le lf dl 1 0 0 0) 2) ((u8 lg le lf dl 1 0 0 0) 3) cS cH sea noi pl pw an hd bp bo bw c1 c2 c3 c4 c5 e1 e2 e3 e4 e5) H := hP
            exact zw_i M hr hlk (u8 lg le lf dl 1 0 0 0) hP hS (by exact Or.inr (Or.inl (⟨rfl, by omega, rfl⟩))) (by decide) (by decide) dX7_explain_85
        ·
          refine zi_if_eq (tgt := 55) M dX7_explain_36 (by decide) ⟨by decide, by decide⟩ (fun _ => ?_) (fun q => absurd q (by decide))
          refine zi_push M dX7_explain_55 ?_
          refine lv_istore (lv' := [(7, .int (iI 0)), (6, .int (iI 0)), (0, .ref (ad 0)), (1, .int (iI q)), (2, .int (iI t)), (3, .int (iI f)), (4, .int (iI w)), (5, .int (iI mm))]) M.1 M.2.1 dX7_explain_56 hl (by decide) rfl (fun ls hl => ?_)
          refine lv_aload_n M.1 M.2.1 dX7_explain_58 rfl (lv_at hl 2 rfl) ?_
          refine lv_iload M.1 M.2.1 dX7_explain_59 (lv_at hl 1 rfl) ?_
          refine zi_if_ne (tgt := 68) M dX7_explain_61 (by decide) ⟨by decide, by decide⟩ (fun q => absurd q (by decide)) (fun _ => ?_)
          refine zi_push M dX7_explain_64 ?_
          refine zi_goto (tgt := 78) M dX7_explain_65 (by decide) ?_
          refine z_cW (z_runV (As := [.int (iI 1)]) (rest := []) M (c_X7_goesWell l D cy z0 ad th h su st sh fl ic sn bn fm fr cm em lg le lf dl cS cH sea noi pl pw an hd bp bo bw c1 c2 c3 c4 c5 e1 e2 e3 e4 e5 1 (by omega)) hE hS hAz (z_cut hP hD hAz [0, 1, 2, 3, 4, 5, 6, 7, 8, 9, 10, 11, 12, 13, 14, 15, 16, 17, 18, 19, 20, 21] rfl (by decide +kernel)) (zRc.of (ci := 7) (q0 := 0) hE hP rfl rfl) zk_cd_X7_goesWell zk_in_RX7 zk_im_X7_goesWell zk_se_X7_goesWell zk_ml_RX7_88 rfl rfl zd_X7_goesWell ⟨by decide, by decide⟩ rfl hl.1 rfl (Nat.le_of_ble_eq_true rfl) dX7_explain_78 ⟨by decide, by decide⟩) hP hD hS [0, 1, 2, 3, 4, 5, 6, 7, 8, 9, 10, 11, 12, 13, 14, 15, 16, 17, 18, 19, 20, 21] rfl (fun _ => rfl) (fun r_22 u_22 H locs hp_22 hP hD hS => ?_)
          have hP : va_P D vwCl (mdlW ad 0 cy 1 h su st sh fl ic sn bn fm fr cm em lg le lf dl cS cH sea noi pl pw an hd bp bo bw c1 c2 c3 c4 c5 e1 e2 e3 e4 e5) H := hP
          have hD : va_D (zIn (mdlW ad 0 cy th h su st sh fl ic sn bn fm fr cm em lg le lf dl cS cH sea noi pl pw an hd bp bo bw c1 c2 c3 c4 c5 e1 e2 e3 e4 e5)) (mdlW ad 0 cy 1 h su st sh fl ic sn bn fm fr cm em lg le lf dl cS cH sea noi pl pw an hd bp bo bw c1 c2 c3 c4 c5 e1 e2 e3 e4 e5) := hD
          subst hp_22
          refine z_rw (b := 0) rfl ?_
          refine zi_if_ne (tgt := 86) M dX7_explain_81 (by decide) ⟨by decide, by decide⟩ (fun q => absurd q (by decide)) (fun _ => ?_)
          refine zi_push M dX7_explain_84 ?_
          have hP : va_P D vwCl (mdlW ad 0 cy ((u8 lg le lf dl 1 0 0 0) 4) h su st sh fl ic sn bn fm fr cm em ((u8 lg le lf dl 1 0 0 0) 0) ((u8 lg le lf dl 1 0 0 0) 1) ((u8 lg le lf dl 1 0 0 0) 2) ((u8 lg le lf dl 1 0 0 0) 3) cS cH sea noi pl pw an hd bp bo bw c1 c2 c3 c4 c5 e1 e2 e3 e4 e5) H := hP
          exact zw_i M hr hlk (u8 lg le lf dl 1 0 0 0) hP hS (by exact Or.inr (Or.inl (⟨rfl, by omega, rfl⟩))) (by decide) (by decide) dX7_explain_85
      ·
        refine zi_if_eq (tgt := 55) M dX7_explain_25 (by decide) ⟨by decide, by decide⟩ (fun _ => ?_) (fun q => absurd q (by decide))
        refine zi_push M dX7_explain_55 ?_
        refine lv_istore (lv' := [(7, .int (iI 0)), (6, .int (iI 0)), (0, .ref (ad 0)), (1, .int (iI q)), (2, .int (iI t)), (3, .int (iI f)), (4, .int (iI w)), (5, .int (iI mm))]) M.1 M.2.1 dX7_explain_56 hl (by decide) rfl (fun ls hl => ?_)
        refine lv_aload_n M.1 M.2.1 dX7_explain_58 rfl (lv_at hl 2 rfl) ?_
        refine lv_iload M.1 M.2.1 dX7_explain_59 (lv_at hl 1 rfl) ?_
        refine zi_if_ne (tgt := 68) M dX7_explain_61 (by decide) ⟨by decide, by decide⟩ (fun q => absurd q (by decide)) (fun _ => ?_)
        refine zi_push M dX7_explain_64 ?_
        refine zi_goto (tgt := 78) M dX7_explain_65 (by decide) ?_
        refine z_cW (z_runV (As := [.int (iI 1)]) (rest := []) M (c_X7_goesWell l D cy z0 ad th h su st sh fl ic sn bn fm fr cm em lg le lf dl cS cH sea noi pl pw an hd bp bo bw c1 c2 c3 c4 c5 e1 e2 e3 e4 e5 1 (by omega)) hE hS hAz (z_cut hP hD hAz [0, 1, 2, 3, 4, 5, 6, 7, 8, 9, 10, 11, 12, 13, 14, 15, 16, 17, 18, 19, 20, 21] rfl (by decide +kernel)) (zRc.of (ci := 7) (q0 := 0) hE hP rfl rfl) zk_cd_X7_goesWell zk_in_RX7 zk_im_X7_goesWell zk_se_X7_goesWell zk_ml_RX7_88 rfl rfl zd_X7_goesWell ⟨by decide, by decide⟩ rfl hl.1 rfl (Nat.le_of_ble_eq_true rfl) dX7_explain_78 ⟨by decide, by decide⟩) hP hD hS [0, 1, 2, 3, 4, 5, 6, 7, 8, 9, 10, 11, 12, 13, 14, 15, 16, 17, 18, 19, 20, 21] rfl (fun _ => rfl) (fun r_23 u_23 H locs hp_23 hP hD hS => ?_)
        have hP : va_P D vwCl (mdlW ad 0 cy 1 h su st sh fl ic sn bn fm fr cm em lg le lf dl cS cH sea noi pl pw an hd bp bo bw c1 c2 c3 c4 c5 e1 e2 e3 e4 e5) H := hP
        have hD : va_D (zIn (mdlW ad 0 cy th h su st sh fl ic sn bn fm fr cm em lg le lf dl cS cH sea noi pl pw an hd bp bo bw c1 c2 c3 c4 c5 e1 e2 e3 e4 e5)) (mdlW ad 0 cy 1 h su st sh fl ic sn bn fm fr cm em lg le lf dl cS cH sea noi pl pw an hd bp bo bw c1 c2 c3 c4 c5 e1 e2 e3 e4 e5) := hD
        subst hp_23
        refine z_rw (b := 0) rfl ?_
        refine zi_if_ne (tgt := 86) M dX7_explain_81 (by decide) ⟨by decide, by decide⟩ (fun q => absurd q (by decide)) (fun _ => ?_)
        refine zi_push M dX7_explain_84 ?_
        have hP : va_P D vwCl (mdlW ad 0 cy ((u8 lg le lf dl 1 0 0 0) 4) h su st sh fl ic sn bn fm fr cm em ((u8 lg le lf dl 1 0 0 0) 0) ((u8 lg le lf dl 1 0 0 0) 1) ((u8 lg le lf dl 1 0 0 0) 2) ((u8 lg le lf dl 1 0 0 0) 3) cS cH sea noi pl pw an hd bp bo bw c1 c2 c3 c4 c5 e1 e2 e3 e4 e5) H := hP
        exact zw_i M hr hlk (u8 lg le lf dl 1 0 0 0) hP hS (by exact Or.inr (Or.inl (⟨rfl, by omega, rfl⟩))) (by decide) (by decide) dX7_explain_85
  ·
    refine zi_if_eq (tgt := 18) M dX7_explain_4 (by decide) ⟨by decide, by decide⟩ (fun _ => ?_) (fun q => absurd q (by decide))
    refine zi_push M dX7_explain_18 ?_
    refine lv_istore (lv' := [(6, .int (iI 0)), (0, .ref (ad 0)), (1, .int (iI q)), (2, .int (iI t)), (3, .int (iI f)), (4, .int (iI w)), (5, .int (iI mm))]) M.1 M.2.1 dX7_explain_19 hl (by decide) rfl (fun ls hl => ?_)
    refine lv_iload_n M.1 M.2.1 dX7_explain_21 rfl (lv_at hl 4 rfl) ?_
    refine z_cR (z_runS (As := [.int (iI f)]) (rest := []) M (c_X7_isOn l D cy z0 f (by omega)) hE hS hAz trivial zk_cd_X7_isOn zk_in_RX7 zk_st_X7_isOn zk_ml_RX7_152 rfl rfl zd_X7_isOn ⟨by decide, by decide⟩ rfl hl.1 rfl (Nat.le_of_ble_eq_true rfl) dX7_explain_22 ⟨by decide, by decide⟩) ?_
    refine zi_b (P := 10 ≤ f ∧ f ≤ 300) (g := fun r => F0 m 25 ls (.int r :: [])) (fun b_24 => ?_) (fun b_24 => ?_)
    ·
      refine zi_if_eq (tgt := 55) M dX7_explain_25 (by decide) ⟨by decide, by decide⟩ (fun q => absurd q (by decide)) (fun _ => ?_)
      refine lv_iload M.1 M.2.1 dX7_explain_28 (lv_at hl 5 rfl) ?_
      refine zi_push M dX7_explain_30 ?_
      refine zi_bipush M dX7_explain_31 ⟨by decide, by decide⟩ ?_
      refine z_cR (z_runS (As := [.int (iI w), .int (iI 0), .int (iI 100)]) (rest := []) M (c_X7_in l D cy z0 w 0 100 (by omega) (by omega) (by omega)) hE hS hAz trivial zk_cd_X7_in zk_in_RX7 zk_st_X7_in zk_ml_RX7_81 rfl rfl zd_X7_in ⟨by decide, by decide⟩ rfl hl.1 rfl (Nat.le_of_ble_eq_true rfl) dX7_explain_33 ⟨by decide, by decide⟩) ?_
      refine zi_b (P := 0 ≤ w ∧ w ≤ 100) (g := fun r => F0 m 36 ls (.int r :: [])) (fun b_25 => ?_) (fun b_25 => ?_)
      ·
        refine zi_if_eq (tgt := 55) M dX7_explain_36 (by decide) ⟨by decide, by decide⟩ (fun q => absurd q (by decide)) (fun _ => ?_)
        refine lv_iload M.1 M.2.1 dX7_explain_39 (lv_at hl 6 rfl) ?_
        refine zi_push M dX7_explain_41 ?_
        refine zi_sipush M dX7_explain_42 ⟨by decide, by decide⟩ ?_
        refine z_cR (z_runS (As := [.int (iI mm), .int (iI 0), .int (iI 1000)]) (rest := []) M (c_X7_in l D cy z0 mm 0 1000 (by omega) (by omega) (by omega)) hE hS hAz trivial zk_cd_X7_in zk_in_RX7 zk_st_X7_in zk_ml_RX7_81 rfl rfl zd_X7_in ⟨by decide, by decide⟩ rfl hl.1 rfl (Nat.le_of_ble_eq_true rfl) dX7_explain_45 ⟨by decide, by decide⟩) ?_
        refine zi_b (P := 0 ≤ mm ∧ mm ≤ 1000) (g := fun r => F0 m 48 ls (.int r :: [])) (fun b_26 => ?_) (fun b_26 => ?_)
        ·
          refine zi_if_eq (tgt := 55) M dX7_explain_48 (by decide) ⟨by decide, by decide⟩ (fun q => absurd q (by decide)) (fun _ => ?_)
          refine zi_push M dX7_explain_51 ?_
          refine zi_goto (tgt := 56) M dX7_explain_52 (by decide) ?_
          refine lv_istore (lv' := [(7, .int (iI 1)), (6, .int (iI 0)), (0, .ref (ad 0)), (1, .int (iI q)), (2, .int (iI t)), (3, .int (iI f)), (4, .int (iI w)), (5, .int (iI mm))]) M.1 M.2.1 dX7_explain_56 hl (by decide) rfl (fun ls hl => ?_)
          refine lv_aload_n M.1 M.2.1 dX7_explain_58 rfl (lv_at hl 2 rfl) ?_
          refine lv_iload M.1 M.2.1 dX7_explain_59 (lv_at hl 1 rfl) ?_
          refine zi_if_ne (tgt := 68) M dX7_explain_61 (by decide) ⟨by decide, by decide⟩ (fun q => absurd q (by decide)) (fun _ => ?_)
          refine zi_push M dX7_explain_64 ?_
          refine zi_goto (tgt := 78) M dX7_explain_65 (by decide) ?_
          refine z_cW (z_runV (As := [.int (iI 1)]) (rest := []) M (c_X7_goesWell l D cy z0 ad th h su st sh fl ic sn bn fm fr cm em lg le lf dl cS cH sea noi pl pw an hd bp bo bw c1 c2 c3 c4 c5 e1 e2 e3 e4 e5 1 (by omega)) hE hS hAz (z_cut hP hD hAz [0, 1, 2, 3, 4, 5, 6, 7, 8, 9, 10, 11, 12, 13, 14, 15, 16, 17, 18, 19, 20, 21] rfl (by decide +kernel)) (zRc.of (ci := 7) (q0 := 0) hE hP rfl rfl) zk_cd_X7_goesWell zk_in_RX7 zk_im_X7_goesWell zk_se_X7_goesWell zk_ml_RX7_88 rfl rfl zd_X7_goesWell ⟨by decide, by decide⟩ rfl hl.1 rfl (Nat.le_of_ble_eq_true rfl) dX7_explain_78 ⟨by decide, by decide⟩) hP hD hS [0, 1, 2, 3, 4, 5, 6, 7, 8, 9, 10, 11, 12, 13, 14, 15, 16, 17, 18, 19, 20, 21] rfl (fun _ => rfl) (fun r_27 u_27 H locs hp_27 hP hD hS => ?_)
          have hP : va_P D vwCl (mdlW ad 0 cy 1 h su st sh fl ic sn bn fm fr cm em lg le lf dl cS cH sea noi pl pw an hd bp bo bw c1 c2 c3 c4 c5 e1 e2 e3 e4 e5) H := hP
          have hD : va_D (zIn (mdlW ad 0 cy th h su st sh fl ic sn bn fm fr cm em lg le lf dl cS cH sea noi pl pw an hd bp bo bw c1 c2 c3 c4 c5 e1 e2 e3 e4 e5)) (mdlW ad 0 cy 1 h su st sh fl ic sn bn fm fr cm em lg le lf dl cS cH sea noi pl pw an hd bp bo bw c1 c2 c3 c4 c5 e1 e2 e3 e4 e5) := hD
          subst hp_27
          refine z_rw (b := 0) rfl ?_
          refine zi_if_ne (tgt := 86) M dX7_explain_81 (by decide) ⟨by decide, by decide⟩ (fun q => absurd q (by decide)) (fun _ => ?_)
          refine zi_push M dX7_explain_84 ?_
          have hP : va_P D vwCl (mdlW ad 0 cy ((u8 lg le lf dl 1 0 0 0) 4) h su st sh fl ic sn bn fm fr cm em ((u8 lg le lf dl 1 0 0 0) 0) ((u8 lg le lf dl 1 0 0 0) 1) ((u8 lg le lf dl 1 0 0 0) 2) ((u8 lg le lf dl 1 0 0 0) 3) cS cH sea noi pl pw an hd bp bo bw c1 c2 c3 c4 c5 e1 e2 e3 e4 e5) H := hP
          exact zw_i M hr hlk (u8 lg le lf dl 1 0 0 0) hP hS (by exact Or.inr (Or.inl (⟨rfl, by omega, rfl⟩))) (by decide) (by decide) dX7_explain_85
        ·
          refine zi_if_eq (tgt := 55) M dX7_explain_48 (by decide) ⟨by decide, by decide⟩ (fun _ => ?_) (fun q => absurd q (by decide))
          refine zi_push M dX7_explain_55 ?_
          refine lv_istore (lv' := [(7, .int (iI 0)), (6, .int (iI 0)), (0, .ref (ad 0)), (1, .int (iI q)), (2, .int (iI t)), (3, .int (iI f)), (4, .int (iI w)), (5, .int (iI mm))]) M.1 M.2.1 dX7_explain_56 hl (by decide) rfl (fun ls hl => ?_)
          refine lv_aload_n M.1 M.2.1 dX7_explain_58 rfl (lv_at hl 2 rfl) ?_
          refine lv_iload M.1 M.2.1 dX7_explain_59 (lv_at hl 1 rfl) ?_
          refine zi_if_ne (tgt := 68) M dX7_explain_61 (by decide) ⟨by decide, by decide⟩ (fun q => absurd q (by decide)) (fun _ => ?_)
          refine zi_push M dX7_explain_64 ?_
          refine zi_goto (tgt := 78) M dX7_explain_65 (by decide) ?_
          refine z_cW (z_runV (As := [.int (iI 1)]) (rest := []) M (c_X7_goesWell l D cy z0 ad th h su st sh fl ic sn bn fm fr cm em lg le lf dl cS cH sea noi pl pw an hd bp bo bw c1 c2 c3 c4 c5 e1 e2 e3 e4 e5 1 (by omega)) hE hS hAz (z_cut hP hD hAz [0, 1, 2, 3, 4, 5, 6, 7, 8, 9, 10, 11, 12, 13, 14, 15, 16, 17, 18, 19, 20, 21] rfl (by decide +kernel)) (zRc.of (ci := 7) (q0 := 0) hE hP rfl rfl) zk_cd_X7_goesWell zk_in_RX7 zk_im_X7_goesWell zk_se_X7_goesWell zk_ml_RX7_88 rfl rfl zd_X7_goesWell ⟨by decide, by decide⟩ rfl hl.1 rfl (Nat.le_of_ble_eq_true rfl) dX7_explain_78 ⟨by decide, by decide⟩) hP hD hS [0, 1, 2, 3, 4, 5, 6, 7, 8, 9, 10, 11, 12, 13, 14, 15, 16, 17, 18, 19, 20, 21] rfl (fun _ => rfl) (fun r_28 u_28 H locs hp_28 hP hD hS => ?_)
          have hP : va_P D vwCl (mdlW ad 0 cy 1 h su st sh fl ic sn bn fm fr cm em lg le lf dl cS cH sea noi pl pw an hd bp bo bw c1 c2 c3 c4 c5 e1 e2 e3 e4 e5) H := hP
          have hD : va_D (zIn (mdlW ad 0 cy th h su st sh fl ic sn bn fm fr cm em lg le lf dl cS cH sea noi pl pw an hd bp bo bw c1 c2 c3 c4 c5 e1 e2 e3 e4 e5)) (mdlW ad 0 cy 1 h su st sh fl ic sn bn fm fr cm em lg le lf dl cS cH sea noi pl pw an hd bp bo bw c1 c2 c3 c4 c5 e1 e2 e3 e4 e5) := hD
          subst hp_28
          refine z_rw (b := 0) rfl ?_
          refine zi_if_ne (tgt := 86) M dX7_explain_81 (by decide) ⟨by decide, by decide⟩ (fun q => absurd q (by decide)) (fun _ => ?_)
          refine zi_push M dX7_explain_84 ?_
          have hP : va_P D vwCl (mdlW ad 0 cy ((u8 lg le lf dl 1 0 0 0) 4) h su st sh fl ic sn bn fm fr cm em ((u8 lg le lf dl 1 0 0 0) 0) ((u8 lg le lf dl 1 0 0 0) 1) ((u8 lg le lf dl 1 0 0 0) 2) ((u8 lg le lf dl 1 0 0 0) 3) cS cH sea noi pl pw an hd bp bo bw c1 c2 c3 c4 c5 e1 e2 e3 e4 e5) H := hP
          exact zw_i M hr hlk (u8 lg le lf dl 1 0 0 0) hP hS (by exact Or.inr (Or.inl (⟨rfl, by omega, rfl⟩))) (by decide) (by decide) dX7_explain_85
      ·
        refine zi_if_eq (tgt := 55) M dX7_explain_36 (by decide) ⟨by decide, by decide⟩ (fun _ => ?_) (fun q => absurd q (by decide))
        refine zi_push M dX7_explain_55 ?_
        refine lv_istore (lv' := [(7, .int (iI 0)), (6, .int (iI 0)), (0, .ref (ad 0)), (1, .int (iI q)), (2, .int (iI t)), (3, .int (iI f)), (4, .int (iI w)), (5, .int (iI mm))]) M.1 M.2.1 dX7_explain_56 hl (by decide) rfl (fun ls hl => ?_)
        refine lv_aload_n M.1 M.2.1 dX7_explain_58 rfl (lv_at hl 2 rfl) ?_
        refine lv_iload M.1 M.2.1 dX7_explain_59 (lv_at hl 1 rfl) ?_
        refine zi_if_ne (tgt := 68) M dX7_explain_61 (by decide) ⟨by decide, by decide⟩ (fun q => absurd q (by decide)) (fun _ => ?_)
        refine zi_push M dX7_explain_64 ?_
        refine zi_goto (tgt := 78) M dX7_explain_65 (by decide) ?_
        refine z_cW (z_runV (As := [.int (iI 1)]) (rest := []) M (c_X7_goesWell l D cy z0 ad th h su st sh fl ic sn bn fm fr cm em lg le lf dl cS cH sea noi pl pw an hd bp bo bw c1 c2 c3 c4 c5 e1 e2 e3 e4 e5 1 (by omega)) hE hS hAz (z_cut hP hD hAz [0, 1, 2, 3, 4, 5, 6, 7, 8, 9, 10, 11, 12, 13, 14, 15, 16, 17, 18, 19, 20, 21] rfl (by decide +kernel)) (zRc.of (ci := 7) (q0 := 0) hE hP rfl rfl) zk_cd_X7_goesWell zk_in_RX7 zk_im_X7_goesWell zk_se_X7_goesWell zk_ml_RX7_88 rfl rfl zd_X7_goesWell ⟨by decide, by decide⟩ rfl hl.1 rfl (Nat.le_of_ble_eq_true rfl) dX7_explain_78 ⟨by decide, by decide⟩) hP hD hS [0, 1, 2, 3, 4, 5, 6, 7, 8, 9, 10, 11, 12, 13, 14, 15, 16, 17, 18, 19, 20, 21] rfl (fun _ => rfl) (fun r_29 u_29 H locs hp_29 hP hD hS => ?_)
        have hP : va_P D vwCl (mdlW ad 0 cy 1 h su st sh fl ic sn bn fm fr cm em lg le lf dl cS cH sea noi pl pw an hd bp bo bw c1 c2 c3 c4 c5 e1 e2 e3 e4 e5) H := hP
        have hD : va_D (zIn (mdlW ad 0 cy th h su st sh fl ic sn bn fm fr cm em lg le lf dl cS cH sea noi pl pw an hd bp bo bw c1 c2 c3 c4 c5 e1 e2 e3 e4 e5)) (mdlW ad 0 cy 1 h su st sh fl ic sn bn fm fr cm em lg le lf dl cS cH sea noi pl pw an hd bp bo bw c1 c2 c3 c4 c5 e1 e2 e3 e4 e5) := hD
        subst hp_29
        refine z_rw (b := 0) rfl ?_
        refine zi_if_ne (tgt := 86) M dX7_explain_81 (by decide) ⟨by decide, by decide⟩ (fun q => absurd q (by decide)) (fun _ => ?_)
        refine zi_push M dX7_explain_84 ?_
        have hP : va_P D vwCl (mdlW ad 0 cy ((u8 lg le lf dl 1 0 0 0) 4) h su st sh fl ic sn bn fm fr cm em ((u8 lg le lf dl 1 0 0 0) 0) ((u8 lg le lf dl 1 0 0 0) 1) ((u8 lg le lf dl 1 0 0 0) 2) ((u8 lg le lf dl 1 0 0 0) 3) cS cH sea noi pl pw an hd bp bo bw c1 c2 c3 c4 c5 e1 e2 e3 e4 e5) H := hP
        exact zw_i M hr hlk (u8 lg le lf dl 1 0 0 0) hP hS (by exact Or.inr (Or.inl (⟨rfl, by omega, rfl⟩))) (by decide) (by decide) dX7_explain_85
    ·
      refine zi_if_eq (tgt := 55) M dX7_explain_25 (by decide) ⟨by decide, by decide⟩ (fun _ => ?_) (fun q => absurd q (by decide))
      refine zi_push M dX7_explain_55 ?_
      refine lv_istore (lv' := [(7, .int (iI 0)), (6, .int (iI 0)), (0, .ref (ad 0)), (1, .int (iI q)), (2, .int (iI t)), (3, .int (iI f)), (4, .int (iI w)), (5, .int (iI mm))]) M.1 M.2.1 dX7_explain_56 hl (by decide) rfl (fun ls hl => ?_)
      refine lv_aload_n M.1 M.2.1 dX7_explain_58 rfl (lv_at hl 2 rfl) ?_
      refine lv_iload M.1 M.2.1 dX7_explain_59 (lv_at hl 1 rfl) ?_
      refine zi_if_ne (tgt := 68) M dX7_explain_61 (by decide) ⟨by decide, by decide⟩ (fun q => absurd q (by decide)) (fun _ => ?_)
      refine zi_push M dX7_explain_64 ?_
      refine zi_goto (tgt := 78) M dX7_explain_65 (by decide) ?_
      refine z_cW (z_runV (As := [.int (iI 1)]) (rest := []) M (c_X7_goesWell l D cy z0 ad th h su st sh fl ic sn bn fm fr cm em lg le lf dl cS cH sea noi pl pw an hd bp bo bw c1 c2 c3 c4 c5 e1 e2 e3 e4 e5 1 (by omega)) hE hS hAz (z_cut hP hD hAz [0, 1, 2, 3, 4, 5, 6, 7, 8, 9, 10, 11, 12, 13, 14, 15, 16, 17, 18, 19, 20, 21] rfl (by decide +kernel)) (zRc.of (ci := 7) (q0 := 0) hE hP rfl rfl) zk_cd_X7_goesWell zk_in_RX7 zk_im_X7_goesWell zk_se_X7_goesWell zk_ml_RX7_88 rfl rfl zd_X7_goesWell ⟨by decide, by decide⟩ rfl hl.1 rfl (Nat.le_of_ble_eq_true rfl) dX7_explain_78 ⟨by decide, by decide⟩) hP hD hS [0, 1, 2, 3, 4, 5, 6, 7, 8, 9, 10, 11, 12, 13, 14, 15, 16, 17, 18, 19, 20, 21] rfl (fun _ => rfl) (fun r_30 u_30 H locs hp_30 hP hD hS => ?_)
      have hP : va_P D vwCl (mdlW ad 0 cy 1 h su st sh fl ic sn bn fm fr cm em lg le lf dl cS cH sea noi pl pw an hd bp bo bw c1 c2 c3 c4 c5 e1 e2 e3 e4 e5) H := hP
      have hD : va_D (zIn (mdlW ad 0 cy th h su st sh fl ic sn bn fm fr cm em lg le lf dl cS cH sea noi pl pw an hd bp bo bw c1 c2 c3 c4 c5 e1 e2 e3 e4 e5)) (mdlW ad 0 cy 1 h su st sh fl ic sn bn fm fr cm em lg le lf dl cS cH sea noi pl pw an hd bp bo bw c1 c2 c3 c4 c5 e1 e2 e3 e4 e5) := hD
      subst hp_30
      refine z_rw (b := 0) rfl ?_
      refine zi_if_ne (tgt := 86) M dX7_explain_81 (by decide) ⟨by decide, by decide⟩ (fun q => absurd q (by decide)) (fun _ => ?_)
      refine zi_push M dX7_explain_84 ?_
      have hP : va_P D vwCl (mdlW ad 0 cy ((u8 lg le lf dl 1 0 0 0) 4) h su st sh fl ic sn bn fm fr cm em ((u8 lg le lf dl 1 0 0 0) 0) ((u8 lg le lf dl 1 0 0 0) 1) ((u8 lg le lf dl 1 0 0 0) 2) ((u8 lg le lf dl 1 0 0 0) 3) cS cH sea noi pl pw an hd bp bo bw c1 c2 c3 c4 c5 e1 e2 e3 e4 e5) H := hP
      exact zw_i M hr hlk (u8 lg le lf dl 1 0 0 0) hP hS (by exact Or.inr (Or.inl (⟨rfl, by omega, rfl⟩))) (by decide) (by decide) dX7_explain_85

set_option maxRecDepth 100000 in
set_option maxHeartbeats 4000000 in
theorem c_X7_usable (l : Launch) (D : va_G) (cy : Nat → ClassId) (z0 : Nat) (ad : Nat → Nat) (th h su st sh fl ic sn bn fm fr cm em lg le lf dl : Int) (cS cH sea noi pl pw an hd bp bo bw c1 c2 c3 c4 c5 e1 e2 e3 e4 e5 : Int → Int) (q : Int) (t : Int) (w : Int) (g : Int) (r_q : r32 q) (r_t : r32 t) (r_w : r32 w) (hg : 0 ≤ g ∧ g ≤ 1) (h_h : 0 ≤ h ∧ h ≤ 5000) (h_su : 0 ≤ su ∧ su ≤ 100) (h_st : 0 ≤ st ∧ st ≤ 60) (h_fl : 0 ≤ fl ∧ fl ≤ 80) (h_cS : zrg 48 0 100 cS) (h_ic : 0 ≤ ic ∧ ic ≤ 1) (g_sea : zrg 48 0 1 sea) : Met l yX7_usable [.code yX7_usable cX7_usable 8 (some .int)] (zRm 7 0 0 177) (zPc [.ref (ad 0), .int (iI q), .int (iI t), .int (iI w), .int (iI g)] D cy z0 (zWl D z0 (mdlW ad 0 cy th h su st sh fl ic sn bn fm fr cm em lg le lf dl cS cH sea noi pl pw an hd bp bo bw c1 c2 c3 c4 c5 e1 e2 e3 e4 e5))) (zQ1 D (mdlW ad 0 cy th h su st sh fl ic sn bn fm fr cm em lg le lf dl cS cH sea noi pl pw an hd bp bo bw c1 c2 c3 c4 c5 e1 e2 e3 e4 e5) (fun (r : Int32) (u : Nat → Int) => (∃ xa xb xc xd : Int, u = u8 xa xb xc xd 0 0 0 0 ∧ (((0 ≤ q ∧ q < 48) ∧ (0 ≤ t ∧ t < 48)) ∧ (0 ≤ w ∧ w ≤ 100)) ∧ ∃ v : Int, isUse (mdE ic h cS) (mdF ic h su st) (mdD ic h fl) sea q t w g v ∧ r = iI v) ∨ (u = u8 lg le lf dl 1 0 0 0 ∧ (¬ ((0 ≤ q ∧ q < 48) ∧ (0 ≤ t ∧ t < 48))) ∧ r = iI 0) ∨ (u = u8 lg le lf dl 2 0 0 0 ∧ (((0 ≤ q ∧ q < 48) ∧ (0 ≤ t ∧ t < 48)) ∧ ¬ (0 ≤ w ∧ w ≤ 100)) ∧ r = iI 0)) (fun (u : Nat → Int) => (mdlW ad 0 cy (u 4) h su st sh fl ic sn bn fm fr cm em (u 0) (u 1) (u 2) (u 3) cS cH sea noi pl pw an hd bp bo bw c1 c2 c3 c4 c5 e1 e2 e3 e4 e5))) 0 0 (zIn (mdlW ad 0 cy th h su st sh fl ic sn bn fm fr cm em lg le lf dl cS cH sea noi pl pw an hd bp bo bw c1 c2 c3 c4 c5 e1 e2 e3 e4 e5)) := by
  refine z_of (by decide) (Nat.le_of_ble_eq_true rfl) ?_
  intro p e s m args below meth c M hr hlk hini hargs hP0 hE ls hl
  have hP : va_P D vwCl (mdlW ad 0 cy th h su st sh fl ic sn bn fm fr cm em lg le lf dl cS cH sea noi pl pw an hd bp bo bw c1 c2 c3 c4 c5 e1 e2 e3 e4 e5) s.heap := hP0.1
  have hD : va_D (zIn (mdlW ad 0 cy th h su st sh fl ic sn bn fm fr cm em lg le lf dl cS cH sea noi pl pw an hd bp bo bw c1 c2 c3 c4 c5 e1 e2 e3 e4 e5)) (mdlW ad 0 cy th h su st sh fl ic sn bn fm fr cm em lg le lf dl cS cH sea noi pl pw an hd bp bo bw c1 c2 c3 c4 c5 e1 e2 e3 e4 e5) := hP0.self
  have hAz := hP0.A
  have hS : va_S (zIn (mdlW ad 0 cy th h su st sh fl ic sn bn fm fr cm em lg le lf dl cS cH sea noi pl pw an hd bp bo bw c1 c2 c3 c4 c5 e1 e2 e3 e4 e5)) s.heap s.heap [] := va_S.rf
  have hl : lv_has ls 8 [(0, .ref (ad 0)), (1, .int (iI q)), (2, .int (iI t)), (3, .int (iI w)), (4, .int (iI g))] := hl
  refine lv_iload_n M.1 M.2.1 dX7_usable_0 rfl (lv_at hl 1 rfl) ?_
  refine z_cR (z_runS (As := [.int (iI q)]) (rest := []) M (c_X7_isPlace l D cy z0 q (by omega)) hE hS hAz trivial zk_cd_X7_isPlace zk_in_RX7 zk_st_X7_isPlace zk_ml_RX7_101 rfl rfl zd_X7_isPlace ⟨by decide, by decide⟩ rfl hl.1 rfl (Nat.le_of_ble_eq_true rfl) dX7_usable_1 ⟨by decide, by decide⟩) ?_
  refine zi_b (P := 0 ≤ q ∧ q ≤ 47) (g := fun r => F0 m 4 ls (.int r :: [])) (fun b_1 => ?_) (fun b_1 => ?_)
  ·
    refine zi_if_eq (tgt := 18) M dX7_usable_4 (by decide) ⟨by decide, by decide⟩ (fun q => absurd q (by decide)) (fun _ => ?_)
    refine lv_iload_n M.1 M.2.1 dX7_usable_7 rfl (lv_at hl 2 rfl) ?_
    refine z_cR (z_runS (As := [.int (iI t)]) (rest := []) M (c_X7_isPlace l D cy z0 t (by omega)) hE hS hAz trivial zk_cd_X7_isPlace zk_in_RX7 zk_st_X7_isPlace zk_ml_RX7_101 rfl rfl zd_X7_isPlace ⟨by decide, by decide⟩ rfl hl.1 rfl (Nat.le_of_ble_eq_true rfl) dX7_usable_8 ⟨by decide, by decide⟩) ?_
    refine zi_b (P := 0 ≤ t ∧ t ≤ 47) (g := fun r => F0 m 11 ls (.int r :: [])) (fun b_2 => ?_) (fun b_2 => ?_)
    ·
      refine zi_if_eq (tgt := 18) M dX7_usable_11 (by decide) ⟨by decide, by decide⟩ (fun q => absurd q (by decide)) (fun _ => ?_)
      refine zi_push M dX7_usable_14 ?_
      refine zi_goto (tgt := 19) M dX7_usable_15 (by decide) ?_
      refine lv_istore (lv' := [(5, .int (iI 1)), (0, .ref (ad 0)), (1, .int (iI q)), (2, .int (iI t)), (3, .int (iI w)), (4, .int (iI g))]) M.1 M.2.1 dX7_usable_19 hl (by decide) rfl (fun ls hl => ?_)
      refine lv_aload_n M.1 M.2.1 dX7_usable_21 rfl (lv_at hl 1 rfl) ?_
      refine lv_iload M.1 M.2.1 dX7_usable_22 (lv_at hl 0 rfl) ?_
      refine zi_if_ne (tgt := 31) M dX7_usable_24 (by decide) ⟨by decide, by decide⟩ (fun _ => ?_) (fun q => absurd q (by decide))
      refine lv_iload_n M.1 M.2.1 dX7_usable_31 rfl (lv_at hl 4 rfl) ?_
      refine zi_push M dX7_usable_32 ?_
      refine zi_bipush M dX7_usable_33 ⟨by decide, by decide⟩ ?_
      refine z_cR (z_runS (As := [.int (iI w), .int (iI 0), .int (iI 100)]) (rest := [.ref (ad 0)]) M (c_X7_in l D cy z0 w 0 100 (by omega) (by omega) (by omega)) hE hS hAz trivial zk_cd_X7_in zk_in_RX7 zk_st_X7_in zk_ml_RX7_81 rfl rfl zd_X7_in ⟨by decide, by decide⟩ rfl hl.1 rfl (Nat.le_of_ble_eq_true rfl) dX7_usable_35 ⟨by decide, by decide⟩) ?_
      refine zi_b (P := 0 ≤ w ∧ w ≤ 100) (g := fun r => F0 m 38 ls (.int r :: [.ref (ad 0)])) (fun b_3 => ?_) (fun b_3 => ?_)
      ·
        refine zi_if_eq (tgt := 45) M dX7_usable_38 (by decide) ⟨by decide, by decide⟩ (fun q => absurd q (by decide)) (fun _ => ?_)
        refine zi_push M dX7_usable_41 ?_
        refine zi_goto (tgt := 46) M dX7_usable_42 (by decide) ?_
        refine z_cW (z_runV (As := [.int (iI 0)]) (rest := []) M (c_X7_goesWell l D cy z0 ad th h su st sh fl ic sn bn fm fr cm em lg le lf dl cS cH sea noi pl pw an hd bp bo bw c1 c2 c3 c4 c5 e1 e2 e3 e4 e5 0 (by omega)) hE hS hAz (z_cut hP hD hAz [0, 1, 2, 3, 4, 5, 6, 7, 8, 9, 10, 11, 12, 13, 14, 15, 16, 17, 18, 19, 20, 21] rfl (by decide +kernel)) (zRc.of (ci := 7) (q0 := 0) hE hP rfl rfl) zk_cd_X7_goesWell zk_in_RX7 zk_im_X7_goesWell zk_se_X7_goesWell zk_ml_RX7_88 rfl rfl zd_X7_goesWell ⟨by decide, by decide⟩ rfl hl.1 rfl (Nat.le_of_ble_eq_true rfl) dX7_usable_46 ⟨by decide, by decide⟩) hP hD hS [0, 1, 2, 3, 4, 5, 6, 7, 8, 9, 10, 11, 12, 13, 14, 15, 16, 17, 18, 19, 20, 21] rfl (fun _ => rfl) (fun r_4 u_4 H locs hp_4 hP hD hS => ?_)
        have hP : va_P D vwCl (mdlW ad 0 cy 0 h su st sh fl ic sn bn fm fr cm em lg le lf dl cS cH sea noi pl pw an hd bp bo bw c1 c2 c3 c4 c5 e1 e2 e3 e4 e5) H := hP
        have hD : va_D (zIn (mdlW ad 0 cy th h su st sh fl ic sn bn fm fr cm em lg le lf dl cS cH sea noi pl pw an hd bp bo bw c1 c2 c3 c4 c5 e1 e2 e3 e4 e5)) (mdlW ad 0 cy 0 h su st sh fl ic sn bn fm fr cm em lg le lf dl cS cH sea noi pl pw an hd bp bo bw c1 c2 c3 c4 c5 e1 e2 e3 e4 e5) := hD
        subst hp_4
        refine z_rw (b := 1) rfl ?_
        refine zi_if_ne (tgt := 54) M dX7_usable_49 (by decide) ⟨by decide, by decide⟩ (fun _ => ?_) (fun q => absurd q (by decide))
        refine zi_push M dX7_usable_54 ?_
        refine lv_istore (lv' := [(6, .int (iI (-1))), (5, .int (iI 1)), (0, .ref (ad 0)), (1, .int (iI q)), (2, .int (iI t)), (3, .int (iI w)), (4, .int (iI g))]) M.1 M.2.1 dX7_usable_55 hl (by decide) rfl (fun ls hl => ?_)
        refine zi_push M dX7_usable_57 ?_
        refine lv_istore (lv' := [(7, .int (iI 1)), (6, .int (iI (-1))), (5, .int (iI 1)), (0, .ref (ad 0)), (1, .int (iI q)), (2, .int (iI t)), (3, .int (iI w)), (4, .int (iI g))]) M.1 M.2.1 dX7_usable_58 hl (by decide) rfl (fun ls hl => ?_)
        have L_60 : ∀ (k_60 : Nat) (i : Int) (fd : Int) (ur : Nat → Int) (hi : 1 ≤ i ∧ i ≤ 31) (huse : usB (mdE ic h cS) (mdF ic h su st) (mdD ic h fl) sea q t w g i fd) (hm : 31 - i < (k_60 : Int)) (H : Heap) (locs : List Loc) (hP : va_P D vwCl (mdlW ad 0 cy 0 h su st sh fl ic sn bn fm fr cm em (ur 0) (ur 1) (ur 2) (ur 3) cS cH sea noi pl pw an hd bp bo bw c1 c2 c3 c4 c5 e1 e2 e3 e4 e5) H) (hD : va_D (zIn (mdlW ad 0 cy th h su st sh fl ic sn bn fm fr cm em lg le lf dl cS cH sea noi pl pw an hd bp bo bw c1 c2 c3 c4 c5 e1 e2 e3 e4 e5)) (mdlW ad 0 cy 0 h su st sh fl ic sn bn fm fr cm em (ur 0) (ur 1) (ur 2) (ur 3) cS cH sea noi pl pw an hd bp bo bw c1 c2 c3 c4 c5 e1 e2 e3 e4 e5)) (hS : va_S (zIn (mdlW ad 0 cy th h su st sh fl ic sn bn fm fr cm em lg le lf dl cS cH sea noi pl pw an hd bp bo bw c1 c2 c3 c4 c5 e1 e2 e3 e4 e5)) s.heap H locs) (ls : Array Slot) (hl : lv_has ls 8 [(0, .ref (ad 0)), (1, .int (iI q)), (2, .int (iI t)), (3, .int (iI w)), (4, .int (iI g)), (6, .int (iI fd)), (7, .int (iI i))]), W p l e (zRm 7 0 0 177) s m args below meth c H locs 0 0 (MQ below (zQ1 D (mdlW ad 0 cy th h su st sh fl ic sn bn fm fr cm em lg le lf dl cS cH sea noi pl pw an hd bp bo bw c1 c2 c3 c4 c5 e1 e2 e3 e4 e5) (fun (r : Int32) (u : Nat → Int) => (∃ xa xb xc xd : Int, u = u8 xa xb xc xd 0 0 0 0 ∧ (((0 ≤ q ∧ q < 48) ∧ (0 ≤ t ∧ t < 48)) ∧ (0 ≤ w ∧ w ≤ 100)) ∧ ∃ v : Int, isUse (mdE ic h cS) (mdF ic h su st) (mdD ic h fl) sea q t w g v ∧ r = iI v) ∨ (u = u8 lg le lf dl 1 0 0 0 ∧ (¬ ((0 ≤ q ∧ q < 48) ∧ (0 ≤ t ∧ t < 48))) ∧ r = iI 0) ∨ (u = u8 lg le lf dl 2 0 0 0 ∧ (((0 ≤ q ∧ q < 48) ∧ (0 ≤ t ∧ t < 48)) ∧ ¬ (0 ≤ w ∧ w ≤ 100)) ∧ r = iI 0)) (fun (u : Nat → Int) => (mdlW ad 0 cy (u 4) h su st sh fl ic sn bn fm fr cm em (u 0) (u 1) (u 2) (u 3) cS cH sea noi pl pw an hd bp bo bw c1 c2 c3 c4 c5 e1 e2 e3 e4 e5))) args s 0 0 (zIn (mdlW ad 0 cy th h su st sh fl ic sn bn fm fr cm em lg le lf dl cS cH sea noi pl pw an hd bp bo bw c1 c2 c3 c4 c5 e1 e2 e3 e4 e5))) (F0 m 60 ls []) := by
          intro k_60
          induction k_60 with
          | zero =>
            intro i fd ur hi huse hm H locs hP hD hS ls hl
            exact absurd hm (by omega)
          | succ k_60 ih_60 =>
            intro i fd ur hi huse hm H locs hP hD hS ls hl
            have hur := usB_rg hi.2 huse
            refine lv_iload M.1 M.2.1 dX7_usable_60 (lv_at hl 6 rfl) ?_
            refine zi_bipush M dX7_usable_62 ⟨by decide, by decide⟩ ?_
            refine zi_icmp_gt (tgt := 111) M dX7_usable_64 (by decide) (by omega) ⟨by decide, by decide⟩ (fun c_5 => ?_) (fun c_5 => ?_)
            ·
              refine lv_iload M.1 M.2.1 dX7_usable_111 (lv_at hl 5 rfl) ?_
              have hP : va_P D vwCl (mdlW ad 0 cy ((u8 (ur 0) (ur 1) (ur 2) (ur 3) 0 0 0 0) 4) h su st sh fl ic sn bn fm fr cm em ((u8 (ur 0) (ur 1) (ur 2) (ur 3) 0 0 0 0) 0) ((u8 (ur 0) (ur 1) (ur 2) (ur 3) 0 0 0 0) 1) ((u8 (ur 0) (ur 1) (ur 2) (ur 3) 0 0 0 0) 2) ((u8 (ur 0) (ur 1) (ur 2) (ur 3) 0 0 0 0) 3) cS cH sea noi pl pw an hd bp bo bw c1 c2 c3 c4 c5 e1 e2 e3 e4 e5) H := hP
              exact zw_i M hr hlk (u8 (ur 0) (ur 1) (ur 2) (ur 3) 0 0 0 0) hP hS (by exact Or.inl ⟨_, _, _, _, rfl, by omega, fd, usB_e huse hi.2 (by omega), rfl⟩) (by decide) (by decide) dX7_usable_113
            ·
              refine lv_iload M.1 M.2.1 dX7_usable_67 (lv_at hl 4 rfl) ?_
              refine zi_if_ne (tgt := 78) M dX7_usable_69 (by decide) (by omega) (fun c_6 => ?_) (fun c_6 => ?_)
              ·
                refine lv_aload_n M.1 M.2.1 dX7_usable_78 rfl (lv_at hl 0 rfl) ?_
                refine lv_iload_n M.1 M.2.1 dX7_usable_79 rfl (lv_at hl 1 rfl) ?_
                refine lv_iload_n M.1 M.2.1 dX7_usable_80 rfl (lv_at hl 2 rfl) ?_
                refine zi_bipush M dX7_usable_81 ⟨by decide, by decide⟩ ?_
                refine lv_iload M.1 M.2.1 dX7_usable_83 (lv_at hl 6 rfl) ?_
                refine zi_imul M dX7_usable_85 ?_
                refine lv_iload_n M.1 M.2.1 dX7_usable_86 rfl (lv_at hl 3 rfl) ?_
                refine z_cW (z_runV (As := [.int (iI q), .int (iI t), .int (iI (10 * i)), .int (iI w)]) (rest := []) M (c_X7_pathsOf l D cy z0 ad 0 h su st sh fl ic sn bn fm fr cm em (ur 0) (ur 1) (ur 2) (ur 3) cS cH sea noi pl pw an hd bp bo bw c1 c2 c3 c4 c5 e1 e2 e3 e4 e5 q t (10 * i) w (by omega) (by omega) (by omega) (by omega) (by omega) (by omega) g_sea (by omega) (by omega) (by omega) (by omega)) hE hS hAz (z_cut hP hD hAz [0, 1, 2, 3, 4, 5, 6, 7, 8, 9, 10, 11, 12, 13, 14, 15, 16, 17, 18, 19, 20, 21] rfl (by decide +kernel)) (zRc.of (ci := 7) (q0 := 0) hE hP rfl rfl) zk_cd_X7_pathsOf zk_in_RX7 zk_im_X7_pathsOf zk_se_X7_pathsOf zk_ml_RX7_163 rfl rfl zd_X7_pathsOf ⟨by decide, by decide⟩ rfl hl.1 rfl (Nat.le_of_ble_eq_true rfl) dX7_usable_87 ⟨by decide, by decide⟩) hP hD hS [0, 1, 2, 3, 4, 5, 6, 7, 8, 9, 10, 11, 12, 13, 14, 15, 16, 17, 18, 19, 20, 21] rfl (fun _ => rfl) (fun r_7 u_7 H locs hp_7 hP hD hS => ?_)
                have hP : va_P D vwCl (mdlW ad 0 cy 0 h su st sh fl ic sn bn fm fr cm em (u_7 0) (u_7 1) (u_7 2) (u_7 3) cS cH sea noi pl pw an hd bp bo bw c1 c2 c3 c4 c5 e1 e2 e3 e4 e5) H := hP
                have hD : va_D (zIn (mdlW ad 0 cy th h su st sh fl ic sn bn fm fr cm em lg le lf dl cS cH sea noi pl pw an hd bp bo bw c1 c2 c3 c4 c5 e1 e2 e3 e4 e5)) (mdlW ad 0 cy 0 h su st sh fl ic sn bn fm fr cm em (u_7 0) (u_7 1) (u_7 2) (u_7 3) cS cH sea noi pl pw an hd bp bo bw c1 c2 c3 c4 c5 e1 e2 e3 e4 e5) := hD
                subst hp_7
                have hcr_7 : 0 ≤ cntR (mdE ic h cS) (mdF ic h su st) (mdD ic h fl) sea q t (10 * i) w 18 ∧ cntR (mdE ic h cS) (mdF ic h su st) (mdD ic h fl) sea q t (10 * i) w 18 ≤ ((18 : Nat) : Int) := cntR_rg 18
                refine zi_if_le (tgt := 101) M dX7_usable_90 (by decide) (by omega) (fun c_8 => ?_) (fun c_8 => ?_)
                ·
                  refine lv_iload M.1 M.2.1 dX7_usable_101 (lv_at hl 5 rfl) ?_
                  refine lv_istore (lv' := [(6, .int (iI fd)), (0, .ref (ad 0)), (1, .int (iI q)), (2, .int (iI t)), (3, .int (iI w)), (4, .int (iI g)), (7, .int (iI i))]) M.1 M.2.1 dX7_usable_103 hl (by decide) rfl (fun ls hl => ?_)
                  refine zi_iinc (lv' := [(7, .int (iI (i + 1))), (6, .int (iI fd)), (0, .ref (ad 0)), (1, .int (iI q)), (2, .int (iI t)), (3, .int (iI w)), (4, .int (iI g))]) M dX7_usable_105 hl 6 rfl (by decide) rfl (fun ls hl => ?_)
                  refine zi_goto (tgt := 60) M dX7_usable_108 (by decide) ?_
                  exact ih_60 (i + 1) fd u_7 (by omega) (usB_n huse (fun z => absurd (cntR_has.mpr z) (by omega))) (by omega) _ _ hP hD hS ls (lv_sub hl [2, 3, 4, 5, 6, 1, 0] rfl)
                ·
                  refine zi_bipush M dX7_usable_93 ⟨by decide, by decide⟩ ?_
                  refine lv_iload M.1 M.2.1 dX7_usable_95 (lv_at hl 6 rfl) ?_
                  refine zi_imul M dX7_usable_97 ?_
                  refine zi_goto (tgt := 103) M dX7_usable_98 (by decide) ?_
                  refine lv_istore (lv' := [(6, .int (iI (10 * i))), (0, .ref (ad 0)), (1, .int (iI q)), (2, .int (iI t)), (3, .int (iI w)), (4, .int (iI g)), (7, .int (iI i))]) M.1 M.2.1 dX7_usable_103 hl (by decide) rfl (fun ls hl => ?_)
                  refine zi_iinc (lv' := [(7, .int (iI (i + 1))), (6, .int (iI (10 * i))), (0, .ref (ad 0)), (1, .int (iI q)), (2, .int (iI t)), (3, .int (iI w)), (4, .int (iI g))]) M dX7_usable_105 hl 6 rfl (by decide) rfl (fun ls hl => ?_)
                  refine zi_goto (tgt := 60) M dX7_usable_108 (by decide) ?_
                  exact ih_60 (i + 1) (10 * i) u_7 (by omega) (usB_h hi.1 huse (by omega) (cntR_has.mp (by omega))) (by omega) _ _ hP hD hS ls (lv_sub hl [2, 3, 4, 5, 6, 1, 0] rfl)
              ·
                refine lv_iload M.1 M.2.1 dX7_usable_72 (lv_at hl 5 rfl) ?_
                refine zi_push M dX7_usable_74 ?_
                refine zi_icmp_ne (tgt := 111) M dX7_usable_75 (by decide) (by omega) ⟨by decide, by decide⟩ (fun c_9 => ?_) (fun c_9 => ?_)
                ·
                  refine lv_iload M.1 M.2.1 dX7_usable_111 (lv_at hl 5 rfl) ?_
                  have hP : va_P D vwCl (mdlW ad 0 cy ((u8 (ur 0) (ur 1) (ur 2) (ur 3) 0 0 0 0) 4) h su st sh fl ic sn bn fm fr cm em ((u8 (ur 0) (ur 1) (ur 2) (ur 3) 0 0 0 0) 0) ((u8 (ur 0) (ur 1) (ur 2) (ur 3) 0 0 0 0) 1) ((u8 (ur 0) (ur 1) (ur 2) (ur 3) 0 0 0 0) 2) ((u8 (ur 0) (ur 1) (ur 2) (ur 3) 0 0 0 0) 3) cS cH sea noi pl pw an hd bp bo bw c1 c2 c3 c4 c5 e1 e2 e3 e4 e5) H := hP
                  exact zw_i M hr hlk (u8 (ur 0) (ur 1) (ur 2) (ur 3) 0 0 0 0) hP hS (by exact Or.inl ⟨_, _, _, _, rfl, by omega, fd, usB_e huse hi.2 (by omega), rfl⟩) (by decide) (by decide) dX7_usable_113
                ·
                  refine lv_aload_n M.1 M.2.1 dX7_usable_78 rfl (lv_at hl 0 rfl) ?_
                  refine lv_iload_n M.1 M.2.1 dX7_usable_79 rfl (lv_at hl 1 rfl) ?_
                  refine lv_iload_n M.1 M.2.1 dX7_usable_80 rfl (lv_at hl 2 rfl) ?_
                  refine zi_bipush M dX7_usable_81 ⟨by decide, by decide⟩ ?_
                  refine lv_iload M.1 M.2.1 dX7_usable_83 (lv_at hl 6 rfl) ?_
                  refine zi_imul M dX7_usable_85 ?_
                  refine lv_iload_n M.1 M.2.1 dX7_usable_86 rfl (lv_at hl 3 rfl) ?_
                  refine z_cW (z_runV (As := [.int (iI q), .int (iI t), .int (iI (10 * i)), .int (iI w)]) (rest := []) M (c_X7_pathsOf l D cy z0 ad 0 h su st sh fl ic sn bn fm fr cm em (ur 0) (ur 1) (ur 2) (ur 3) cS cH sea noi pl pw an hd bp bo bw c1 c2 c3 c4 c5 e1 e2 e3 e4 e5 q t (10 * i) w (by omega) (by omega) (by omega) (by omega) (by omega) (by omega) g_sea (by omega) (by omega) (by omega) (by omega)) hE hS hAz (z_cut hP hD hAz [0, 1, 2, 3, 4, 5, 6, 7, 8, 9, 10, 11, 12, 13, 14, 15, 16, 17, 18, 19, 20, 21] rfl (by decide +kernel)) (zRc.of (ci := 7) (q0 := 0) hE hP rfl rfl) zk_cd_X7_pathsOf zk_in_RX7 zk_im_X7_pathsOf zk_se_X7_pathsOf zk_ml_RX7_163 rfl rfl zd_X7_pathsOf ⟨by decide, by decide⟩ rfl hl.1 rfl (Nat.le_of_ble_eq_true rfl) dX7_usable_87 ⟨by decide, by decide⟩) hP hD hS [0, 1, 2, 3, 4, 5, 6, 7, 8, 9, 10, 11, 12, 13, 14, 15, 16, 17, 18, 19, 20, 21] rfl (fun _ => rfl) (fun r_10 u_10 H locs hp_10 hP hD hS => ?_)
                  have hP : va_P D vwCl (mdlW ad 0 cy 0 h su st sh fl ic sn bn fm fr cm em (u_10 0) (u_10 1) (u_10 2) (u_10 3) cS cH sea noi pl pw an hd bp bo bw c1 c2 c3 c4 c5 e1 e2 e3 e4 e5) H := hP
                  have hD : va_D (zIn (mdlW ad 0 cy th h su st sh fl ic sn bn fm fr cm em lg le lf dl cS cH sea noi pl pw an hd bp bo bw c1 c2 c3 c4 c5 e1 e2 e3 e4 e5)) (mdlW ad 0 cy 0 h su st sh fl ic sn bn fm fr cm em (u_10 0) (u_10 1) (u_10 2) (u_10 3) cS cH sea noi pl pw an hd bp bo bw c1 c2 c3 c4 c5 e1 e2 e3 e4 e5) := hD
                  subst hp_10
                  have hcr_10 : 0 ≤ cntR (mdE ic h cS) (mdF ic h su st) (mdD ic h fl) sea q t (10 * i) w 18 ∧ cntR (mdE ic h cS) (mdF ic h su st) (mdD ic h fl) sea q t (10 * i) w 18 ≤ ((18 : Nat) : Int) := cntR_rg 18
                  refine zi_if_le (tgt := 101) M dX7_usable_90 (by decide) (by omega) (fun c_11 => ?_) (fun c_11 => ?_)
                  ·
                    refine lv_iload M.1 M.2.1 dX7_usable_101 (lv_at hl 5 rfl) ?_
                    refine lv_istore (lv' := [(6, .int (iI fd)), (0, .ref (ad 0)), (1, .int (iI q)), (2, .int (iI t)), (3, .int (iI w)), (4, .int (iI g)), (7, .int (iI i))]) M.1 M.2.1 dX7_usable_103 hl (by decide) rfl (fun ls hl => ?_)
                    refine zi_iinc (lv' := [(7, .int (iI (i + 1))), (6, .int (iI fd)), (0, .ref (ad 0)), (1, .int (iI q)), (2, .int (iI t)), (3, .int (iI w)), (4, .int (iI g))]) M dX7_usable_105 hl 6 rfl (by decide) rfl (fun ls hl => ?_)
                    refine zi_goto (tgt := 60) M dX7_usable_108 (by decide) ?_
                    exact ih_60 (i + 1) fd u_10 (by omega) (usB_n huse (fun z => absurd (cntR_has.mpr z) (by omega))) (by omega) _ _ hP hD hS ls (lv_sub hl [2, 3, 4, 5, 6, 1, 0] rfl)
                  ·
                    refine zi_bipush M dX7_usable_93 ⟨by decide, by decide⟩ ?_
                    refine lv_iload M.1 M.2.1 dX7_usable_95 (lv_at hl 6 rfl) ?_
                    refine zi_imul M dX7_usable_97 ?_
                    refine zi_goto (tgt := 103) M dX7_usable_98 (by decide) ?_
                    refine lv_istore (lv' := [(6, .int (iI (10 * i))), (0, .ref (ad 0)), (1, .int (iI q)), (2, .int (iI t)), (3, .int (iI w)), (4, .int (iI g)), (7, .int (iI i))]) M.1 M.2.1 dX7_usable_103 hl (by decide) rfl (fun ls hl => ?_)
                    refine zi_iinc (lv' := [(7, .int (iI (i + 1))), (6, .int (iI (10 * i))), (0, .ref (ad 0)), (1, .int (iI q)), (2, .int (iI t)), (3, .int (iI w)), (4, .int (iI g))]) M dX7_usable_105 hl 6 rfl (by decide) rfl (fun ls hl => ?_)
                    refine zi_goto (tgt := 60) M dX7_usable_108 (by decide) ?_
                    exact ih_60 (i + 1) (10 * i) u_10 (by omega) (usB_h hi.1 huse (by omega) (cntR_has.mp (by omega))) (by omega) _ _ hP hD hS ls (lv_sub hl [2, 3, 4, 5, 6, 1, 0] rfl)
        exact L_60 (Int.toNat (31 - 1) + 1) 1 (-1) (u8 lg le lf dl 0 0 0 0) (by omega) (Or.inl ⟨rfl, fun j h1 h2 => absurd h2 (by omega)⟩) (by omega) _ _ hP hD hS ls (lv_sub hl [3, 4, 5, 6, 7, 1, 0] rfl)
      ·
        refine zi_if_eq (tgt := 45) M dX7_usable_38 (by decide) ⟨by decide, by decide⟩ (fun _ => ?_) (fun q => absurd q (by decide))
        refine zi_push M dX7_usable_45 ?_
        refine z_cW (z_runV (As := [.int (iI 2)]) (rest := []) M (c_X7_goesWell l D cy z0 ad th h su st sh fl ic sn bn fm fr cm em lg le lf dl cS cH sea noi pl pw an hd bp bo bw c1 c2 c3 c4 c5 e1 e2 e3 e4 e5 2 (by omega)) hE hS hAz (z_cut hP hD hAz [0, 1, 2, 3, 4, 5, 6, 7, 8, 9, 10, 11, 12, 13, 14, 15, 16, 17, 18, 19, 20, 21] rfl (by decide +kernel)) (zRc.of (ci := 7) (q0 := 0) hE hP rfl rfl) zk_cd_X7_goesWell zk_in_RX7 zk_im_X7_goesWell zk_se_X7_goesWell zk_ml_RX7_88 rfl rfl zd_X7_goesWell ⟨by decide, by decide⟩ rfl hl.1 rfl (Nat.le_of_ble_eq_true rfl) dX7_usable_46 ⟨by decide, by decide⟩) hP hD hS [0, 1, 2, 3, 4, 5, 6, 7, 8, 9, 10, 11, 12, 13, 14, 15, 16, 17, 18, 19, 20, 21] rfl (fun _ => rfl) (fun r_12 u_12 H locs hp_12 hP hD hS => ?_)
        have hP : va_P D vwCl (mdlW ad 0 cy 2 h su st sh fl ic sn bn fm fr cm em lg le lf dl cS cH sea noi pl pw an hd bp bo bw c1 c2 c3 c4 c5 e1 e2 e3 e4 e5) H := hP
        have hD : va_D (zIn (mdlW ad 0 cy th h su st sh fl ic sn bn fm fr cm em lg le lf dl cS cH sea noi pl pw an hd bp bo bw c1 c2 c3 c4 c5 e1 e2 e3 e4 e5)) (mdlW ad 0 cy 2 h su st sh fl ic sn bn fm fr cm em lg le lf dl cS cH sea noi pl pw an hd bp bo bw c1 c2 c3 c4 c5 e1 e2 e3 e4 e5) := hD
        subst hp_12
        refine z_rw (b := 0) rfl ?_
        refine zi_if_ne (tgt := 54) M dX7_usable_49 (by decide) ⟨by decide, by decide⟩ (fun q => absurd q (by decide)) (fun _ => ?_)
        refine zi_push M dX7_usable_52 ?_
        have hP : va_P D vwCl (mdlW ad 0 cy ((u8 lg le lf dl 2 0 0 0) 4) h su st sh fl ic sn bn fm fr cm em ((u8 lg le lf dl 2 0 0 0) 0) ((u8 lg le lf dl 2 0 0 0) 1) ((u8 lg le lf dl 2 0 0 0) 2) ((u8 lg le lf dl 2 0 0 0) 3) cS cH sea noi pl pw an hd bp bo bw c1 c2 c3 c4 c5 e1 e2 e3 e4 e5) H := hP
        exact zw_i M hr hlk (u8 lg le lf dl 2 0 0 0) hP hS (by exact Or.inr (Or.inr (⟨rfl, by omega, rfl⟩))) (by decide) (by decide) dX7_usable_53
    ·
      refine zi_if_eq (tgt := 18) M dX7_usable_11 (by decide) ⟨by decide, by decide⟩ (fun _ => ?_) (fun q => absurd q (by decide))
      refine zi_push M dX7_usable_18 ?_
      refine lv_istore (lv' := [(5, .int (iI 0)), (0, .ref (ad 0)), (1, .int (iI q)), (2, .int (iI t)), (3, .int (iI w)), (4, .int (iI g))]) M.1 M.2.1 dX7_usable_19 hl (by decide) rfl (fun ls hl => ?_)
      refine lv_aload_n M.1 M.2.1 dX7_usable_21 rfl (lv_at hl 1 rfl) ?_
      refine lv_iload M.1 M.2.1 dX7_usable_22 (lv_at hl 0 rfl) ?_
      refine zi_if_ne (tgt := 31) M dX7_usable_24 (by decide) ⟨by decide, by decide⟩ (fun q => absurd q (by decide)) (fun _ => ?_)
      refine zi_push M dX7_usable_27 ?_
      refine zi_goto (tgt := 46) M dX7_usable_28 (by decide) ?_
      refine z_cW (z_runV (As := [.int (iI 1)]) (rest := []) M (c_X7_goesWell l D cy z0 ad th h su st sh fl ic sn bn fm fr cm em lg le lf dl cS cH sea noi pl pw an hd bp bo bw c1 c2 c3 c4 c5 e1 e2 e3 e4 e5 1 (by omega)) hE hS hAz (z_cut hP hD hAz [0, 1, 2, 3, 4, 5, 6, 7, 8, 9, 10, 11, 12, 13, 14, 15, 16, 17, 18, 19, 20, 21] rfl (by decide +kernel)) (zRc.of (ci := 7) (q0 := 0) hE hP rfl rfl) zk_cd_X7_goesWell zk_in_RX7 zk_im_X7_goesWell zk_se_X7_goesWell zk_ml_RX7_88 rfl rfl zd_X7_goesWell ⟨by decide, by decide⟩ rfl hl.1 rfl (Nat.le_of_ble_eq_true rfl) dX7_usable_46 ⟨by decide, by decide⟩) hP hD hS [0, 1, 2, 3, 4, 5, 6, 7, 8, 9, 10, 11, 12, 13, 14, 15, 16, 17, 18, 19, 20, 21] rfl (fun _ => rfl) (fun r_13 u_13 H locs hp_13 hP hD hS => ?_)
      have hP : va_P D vwCl (mdlW ad 0 cy 1 h su st sh fl ic sn bn fm fr cm em lg le lf dl cS cH sea noi pl pw an hd bp bo bw c1 c2 c3 c4 c5 e1 e2 e3 e4 e5) H := hP
      have hD : va_D (zIn (mdlW ad 0 cy th h su st sh fl ic sn bn fm fr cm em lg le lf dl cS cH sea noi pl pw an hd bp bo bw c1 c2 c3 c4 c5 e1 e2 e3 e4 e5)) (mdlW ad 0 cy 1 h su st sh fl ic sn bn fm fr cm em lg le lf dl cS cH sea noi pl pw an hd bp bo bw c1 c2 c3 c4 c5 e1 e2 e3 e4 e5) := hD
      subst hp_13
      refine z_rw (b := 0) rfl ?_
      refine zi_if_ne (tgt := 54) M dX7_usable_49 (by decide) ⟨by decide, by decide⟩ (fun q => absurd q (by decide)) (fun _ => ?_)
      refine zi_push M dX7_usable_52 ?_
      have hP : va_P D vwCl (mdlW ad 0 cy ((u8 lg le lf dl 1 0 0 0) 4) h su st sh fl ic sn bn fm fr cm em ((u8 lg le lf dl 1 0 0 0) 0) ((u8 lg le lf dl 1 0 0 0) 1) ((u8 lg le lf dl 1 0 0 0) 2) ((u8 lg le lf dl 1 0 0 0) 3) cS cH sea noi pl pw an hd bp bo bw c1 c2 c3 c4 c5 e1 e2 e3 e4 e5) H := hP
      exact zw_i M hr hlk (u8 lg le lf dl 1 0 0 0) hP hS (by exact Or.inr (Or.inl (⟨rfl, by omega, rfl⟩))) (by decide) (by decide) dX7_usable_53
  ·
    refine zi_if_eq (tgt := 18) M dX7_usable_4 (by decide) ⟨by decide, by decide⟩ (fun _ => ?_) (fun q => absurd q (by decide))
    refine zi_push M dX7_usable_18 ?_
    refine lv_istore (lv' := [(5, .int (iI 0)), (0, .ref (ad 0)), (1, .int (iI q)), (2, .int (iI t)), (3, .int (iI w)), (4, .int (iI g))]) M.1 M.2.1 dX7_usable_19 hl (by decide) rfl (fun ls hl => ?_)
    refine lv_aload_n M.1 M.2.1 dX7_usable_21 rfl (lv_at hl 1 rfl) ?_
    refine lv_iload M.1 M.2.1 dX7_usable_22 (lv_at hl 0 rfl) ?_
    refine zi_if_ne (tgt := 31) M dX7_usable_24 (by decide) ⟨by decide, by decide⟩ (fun q => absurd q (by decide)) (fun _ => ?_)
    refine zi_push M dX7_usable_27 ?_
    refine zi_goto (tgt := 46) M dX7_usable_28 (by decide) ?_
    refine z_cW (z_runV (As := [.int (iI 1)]) (rest := []) M (c_X7_goesWell l D cy z0 ad th h su st sh fl ic sn bn fm fr cm em lg le lf dl cS cH sea noi pl pw an hd bp bo bw c1 c2 c3 c4 c5 e1 e2 e3 e4 e5 1 (by omega)) hE hS hAz (z_cut hP hD hAz [0, 1, 2, 3, 4, 5, 6, 7, 8, 9, 10, 11, 12, 13, 14, 15, 16, 17, 18, 19, 20, 21] rfl (by decide +kernel)) (zRc.of (ci := 7) (q0 := 0) hE hP rfl rfl) zk_cd_X7_goesWell zk_in_RX7 zk_im_X7_goesWell zk_se_X7_goesWell zk_ml_RX7_88 rfl rfl zd_X7_goesWell ⟨by decide, by decide⟩ rfl hl.1 rfl (Nat.le_of_ble_eq_true rfl) dX7_usable_46 ⟨by decide, by decide⟩) hP hD hS [0, 1, 2, 3, 4, 5, 6, 7, 8, 9, 10, 11, 12, 13, 14, 15, 16, 17, 18, 19, 20, 21] rfl (fun _ => rfl) (fun r_14 u_14 H locs hp_14 hP hD hS => ?_)
    have hP : va_P D vwCl (mdlW ad 0 cy 1 h su st sh fl ic sn bn fm fr cm em lg le lf dl cS cH sea noi pl pw an hd bp bo bw c1 c2 c3 c4 c5 e1 e2 e3 e4 e5) H := hP
    have hD : va_D (zIn (mdlW ad 0 cy th h su st sh fl ic sn bn fm fr cm em lg le lf dl cS cH sea noi pl pw an hd bp bo bw c1 c2 c3 c4 c5 e1 e2 e3 e4 e5)) (mdlW ad 0 cy 1 h su st sh fl ic sn bn fm fr cm em lg le lf dl cS cH sea noi pl pw an hd bp bo bw c1 c2 c3 c4 c5 e1 e2 e3 e4 e5) := hD
    subst hp_14
    refine z_rw (b := 0) rfl ?_
    refine zi_if_ne (tgt := 54) M dX7_usable_49 (by decide) ⟨by decide, by decide⟩ (fun q => absurd q (by decide)) (fun _ => ?_)
    refine zi_push M dX7_usable_52 ?_
    have hP : va_P D vwCl (mdlW ad 0 cy ((u8 lg le lf dl 1 0 0 0) 4) h su st sh fl ic sn bn fm fr cm em ((u8 lg le lf dl 1 0 0 0) 0) ((u8 lg le lf dl 1 0 0 0) 1) ((u8 lg le lf dl 1 0 0 0) 2) ((u8 lg le lf dl 1 0 0 0) 3) cS cH sea noi pl pw an hd bp bo bw c1 c2 c3 c4 c5 e1 e2 e3 e4 e5) H := hP
    exact zw_i M hr hlk (u8 lg le lf dl 1 0 0 0) hP hS (by exact Or.inr (Or.inl (⟨rfl, by omega, rfl⟩))) (by decide) (by decide) dX7_usable_53

set_option maxRecDepth 100000 in
set_option maxHeartbeats 4000000 in
theorem c_X7_skipped (l : Launch) (D : va_G) (cy : Nat → ClassId) (z0 : Nat) (ad : Nat → Nat) (th h su st sh fl ic sn bn fm fr cm em lg le lf dl : Int) (cS cH sea noi pl pw an hd bp bo bw c1 c2 c3 c4 c5 e1 e2 e3 e4 e5 : Int → Int) (q : Int) (g : Int) (f : Int) (r_q : r32 q) (r_f : r32 f) (hg : 0 ≤ g ∧ g ≤ 1) (h_h : 0 ≤ h ∧ h ≤ 5000) (h_su : 0 ≤ su ∧ su ≤ 100) (h_st : 0 ≤ st ∧ st ≤ 60) (h_fl : 0 ≤ fl ∧ fl ≤ 80) (h_cS : zrg 48 0 100 cS) (h_ic : 0 ≤ ic ∧ ic ≤ 1) : Met l yX7_skipped [.code yX7_skipped cX7_skipped 9 (some .int)] (zRm 4 0 0 96) (zPc [.ref (ad 0), .int (iI q), .int (iI g), .int (iI f)] D cy z0 (zWl D z0 (mdlW ad 0 cy th h su st sh fl ic sn bn fm fr cm em lg le lf dl cS cH sea noi pl pw an hd bp bo bw c1 c2 c3 c4 c5 e1 e2 e3 e4 e5))) (zQ1 D (mdlW ad 0 cy th h su st sh fl ic sn bn fm fr cm em lg le lf dl cS cH sea noi pl pw an hd bp bo bw c1 c2 c3 c4 c5 e1 e2 e3 e4 e5) (fun (r : Int32) (u : Int) => (u = 0 ∧ ((0 ≤ q ∧ q < 48) ∧ (10 ≤ f ∧ f ≤ 300)) ∧ r = iI (skpZ (skF (mdE ic h cS) (mdF ic h su st) g q f 9))) ∨ (u = 1 ∧ (¬ (0 ≤ q ∧ q < 48)) ∧ r = iI 0) ∨ (u = 2 ∧ ((0 ≤ q ∧ q < 48) ∧ ¬ (10 ≤ f ∧ f ≤ 300)) ∧ r = iI 0)) (fun (u : Int) => (mdlW ad 0 cy u h su st sh fl ic sn bn fm fr cm em lg le lf dl cS cH sea noi pl pw an hd bp bo bw c1 c2 c3 c4 c5 e1 e2 e3 e4 e5))) 0 0 (zIn (mdlW ad 0 cy th h su st sh fl ic sn bn fm fr cm em lg le lf dl cS cH sea noi pl pw an hd bp bo bw c1 c2 c3 c4 c5 e1 e2 e3 e4 e5)) := by
  refine z_of (by decide) (Nat.le_of_ble_eq_true rfl) ?_
  intro p e s m args below meth c M hr hlk hini hargs hP0 hE ls hl
  have hP : va_P D vwCl (mdlW ad 0 cy th h su st sh fl ic sn bn fm fr cm em lg le lf dl cS cH sea noi pl pw an hd bp bo bw c1 c2 c3 c4 c5 e1 e2 e3 e4 e5) s.heap := hP0.1
  have hD : va_D (zIn (mdlW ad 0 cy th h su st sh fl ic sn bn fm fr cm em lg le lf dl cS cH sea noi pl pw an hd bp bo bw c1 c2 c3 c4 c5 e1 e2 e3 e4 e5)) (mdlW ad 0 cy th h su st sh fl ic sn bn fm fr cm em lg le lf dl cS cH sea noi pl pw an hd bp bo bw c1 c2 c3 c4 c5 e1 e2 e3 e4 e5) := hP0.self
  have hAz := hP0.A
  have hS : va_S (zIn (mdlW ad 0 cy th h su st sh fl ic sn bn fm fr cm em lg le lf dl cS cH sea noi pl pw an hd bp bo bw c1 c2 c3 c4 c5 e1 e2 e3 e4 e5)) s.heap s.heap [] := va_S.rf
  have hl : lv_has ls 9 [(0, .ref (ad 0)), (1, .int (iI q)), (2, .int (iI g)), (3, .int (iI f))] := hl
  refine lv_iload_n M.1 M.2.1 dX7_skipped_0 rfl (lv_at hl 1 rfl) ?_
  refine z_cR (z_runS (As := [.int (iI q)]) (rest := []) M (c_X7_isPlace l D cy z0 q (by omega)) hE hS hAz trivial zk_cd_X7_isPlace zk_in_RX7 zk_st_X7_isPlace zk_ml_RX7_101 rfl rfl zd_X7_isPlace ⟨by decide, by decide⟩ rfl hl.1 rfl (Nat.le_of_ble_eq_true rfl) dX7_skipped_1 ⟨by decide, by decide⟩) ?_
  refine zi_b (P := 0 ≤ q ∧ q ≤ 47) (g := fun r => F0 m 4 ls (.int r :: [])) (fun b_1 => ?_) (fun b_1 => ?_)
  ·
    refine lv_istore (lv' := [(4, .int (iI 1)), (0, .ref (ad 0)), (1, .int (iI q)), (2, .int (iI g)), (3, .int (iI f))]) M.1 M.2.1 dX7_skipped_4 hl (by decide) rfl (fun ls hl => ?_)
    refine lv_aload_n M.1 M.2.1 dX7_skipped_6 rfl (lv_at hl 1 rfl) ?_
    refine lv_iload M.1 M.2.1 dX7_skipped_7 (lv_at hl 0 rfl) ?_
    refine zi_if_ne (tgt := 16) M dX7_skipped_9 (by decide) ⟨by decide, by decide⟩ (fun _ => ?_) (fun q => absurd q (by decide))
    refine lv_iload_n M.1 M.2.1 dX7_skipped_16 rfl (lv_at hl 4 rfl) ?_
    refine z_cR (z_runS (As := [.int (iI f)]) (rest := [.ref (ad 0)]) M (c_X7_isOn l D cy z0 f (by omega)) hE hS hAz trivial zk_cd_X7_isOn zk_in_RX7 zk_st_X7_isOn zk_ml_RX7_152 rfl rfl zd_X7_isOn ⟨by decide, by decide⟩ rfl hl.1 rfl (Nat.le_of_ble_eq_true rfl) dX7_skipped_17 ⟨by decide, by decide⟩) ?_
    refine zi_b (P := 10 ≤ f ∧ f ≤ 300) (g := fun r => F0 m 20 ls (.int r :: [.ref (ad 0)])) (fun b_2 => ?_) (fun b_2 => ?_)
    ·
      refine zi_if_eq (tgt := 27) M dX7_skipped_20 (by decide) ⟨by decide, by decide⟩ (fun q => absurd q (by decide)) (fun _ => ?_)
      refine zi_push M dX7_skipped_23 ?_
      refine zi_goto (tgt := 28) M dX7_skipped_24 (by decide) ?_
      refine z_cW (z_runV (As := [.int (iI 0)]) (rest := []) M (c_X7_goesWell l D cy z0 ad th h su st sh fl ic sn bn fm fr cm em lg le lf dl cS cH sea noi pl pw an hd bp bo bw c1 c2 c3 c4 c5 e1 e2 e3 e4 e5 0 (by omega)) hE hS hAz (z_cut hP hD hAz [0, 1, 2, 3, 4, 5, 6, 7, 8, 9, 10, 11, 12, 13, 14, 15, 16, 17, 18, 19, 20, 21] rfl (by decide +kernel)) (zRc.of (ci := 7) (q0 := 0) hE hP rfl rfl) zk_cd_X7_goesWell zk_in_RX7 zk_im_X7_goesWell zk_se_X7_goesWell zk_ml_RX7_88 rfl rfl zd_X7_goesWell ⟨by decide, by decide⟩ rfl hl.1 rfl (Nat.le_of_ble_eq_true rfl) dX7_skipped_28 ⟨by decide, by decide⟩) hP hD hS [0, 1, 2, 3, 4, 5, 6, 7, 8, 9, 10, 11, 12, 13, 14, 15, 16, 17, 18, 19, 20, 21] rfl (fun _ => rfl) (fun r_3 u_3 H locs hp_3 hP hD hS => ?_)
      have hP : va_P D vwCl (mdlW ad 0 cy 0 h su st sh fl ic sn bn fm fr cm em lg le lf dl cS cH sea noi pl pw an hd bp bo bw c1 c2 c3 c4 c5 e1 e2 e3 e4 e5) H := hP
      have hD : va_D (zIn (mdlW ad 0 cy th h su st sh fl ic sn bn fm fr cm em lg le lf dl cS cH sea noi pl pw an hd bp bo bw c1 c2 c3 c4 c5 e1 e2 e3 e4 e5)) (mdlW ad 0 cy 0 h su st sh fl ic sn bn fm fr cm em lg le lf dl cS cH sea noi pl pw an hd bp bo bw c1 c2 c3 c4 c5 e1 e2 e3 e4 e5) := hD
      subst hp_3
      refine z_rw (b := 1) rfl ?_
      refine zi_if_ne (tgt := 36) M dX7_skipped_31 (by decide) ⟨by decide, by decide⟩ (fun _ => ?_) (fun q => absurd q (by decide))
      refine zi_push M dX7_skipped_36 ?_
      refine lv_istore (lv' := [(5, .int (iI (-1))), (4, .int (iI 1)), (0, .ref (ad 0)), (1, .int (iI q)), (2, .int (iI g)), (3, .int (iI f))]) M.1 M.2.1 dX7_skipped_37 hl (by decide) rfl (fun ls hl => ?_)
      refine zi_push M dX7_skipped_39 ?_
      refine lv_istore (lv' := [(6, .int (iI 1)), (5, .int (iI (-1))), (4, .int (iI 1)), (0, .ref (ad 0)), (1, .int (iI q)), (2, .int (iI g)), (3, .int (iI f))]) M.1 M.2.1 dX7_skipped_40 hl (by decide) rfl (fun ls hl => ?_)
      have L_42 : ∀ (k_42 : Nat) (i : Int) (x : Int) (hi : 1 ≤ i ∧ i ≤ 10) (hx : x = skF (mdE ic h cS) (mdF ic h su st) g q f (i - 1).toNat) (hm : 10 - i < (k_42 : Int)) (H : Heap) (locs : List Loc) (hP : va_P D vwCl (mdlW ad 0 cy 0 h su st sh fl ic sn bn fm fr cm em lg le lf dl cS cH sea noi pl pw an hd bp bo bw c1 c2 c3 c4 c5 e1 e2 e3 e4 e5) H) (hD : va_D (zIn (mdlW ad 0 cy th h su st sh fl ic sn bn fm fr cm em lg le lf dl cS cH sea noi pl pw an hd bp bo bw c1 c2 c3 c4 c5 e1 e2 e3 e4 e5)) (mdlW ad 0 cy 0 h su st sh fl ic sn bn fm fr cm em lg le lf dl cS cH sea noi pl pw an hd bp bo bw c1 c2 c3 c4 c5 e1 e2 e3 e4 e5)) (hS : va_S (zIn (mdlW ad 0 cy th h su st sh fl ic sn bn fm fr cm em lg le lf dl cS cH sea noi pl pw an hd bp bo bw c1 c2 c3 c4 c5 e1 e2 e3 e4 e5)) s.heap H locs) (ls : Array Slot) (hl : lv_has ls 9 [(0, .ref (ad 0)), (1, .int (iI q)), (2, .int (iI g)), (3, .int (iI f)), (5, .int (iI x)), (6, .int (iI i))]), W p l e (zRm 4 0 0 96) s m args below meth c H locs 0 0 (MQ below (zQ1 D (mdlW ad 0 cy th h su st sh fl ic sn bn fm fr cm em lg le lf dl cS cH sea noi pl pw an hd bp bo bw c1 c2 c3 c4 c5 e1 e2 e3 e4 e5) (fun (r : Int32) (u : Int) => (u = 0 ∧ ((0 ≤ q ∧ q < 48) ∧ (10 ≤ f ∧ f ≤ 300)) ∧ r = iI (skpZ (skF (mdE ic h cS) (mdF ic h su st) g q f 9))) ∨ (u = 1 ∧ (¬ (0 ≤ q ∧ q < 48)) ∧ r = iI 0) ∨ (u = 2 ∧ ((0 ≤ q ∧ q < 48) ∧ ¬ (10 ≤ f ∧ f ≤ 300)) ∧ r = iI 0)) (fun (u : Int) => (mdlW ad 0 cy u h su st sh fl ic sn bn fm fr cm em lg le lf dl cS cH sea noi pl pw an hd bp bo bw c1 c2 c3 c4 c5 e1 e2 e3 e4 e5))) args s 0 0 (zIn (mdlW ad 0 cy th h su st sh fl ic sn bn fm fr cm em lg le lf dl cS cH sea noi pl pw an hd bp bo bw c1 c2 c3 c4 c5 e1 e2 e3 e4 e5))) (F0 m 42 ls []) := by
        intro k_42
        induction k_42 with
        | zero =>
          intro i x hi hx hm H locs hP hD hS ls hl
          exact absurd hm (by omega)
        | succ k_42 ih_42 =>
          intro i x hi hx hm H locs hP hD hS ls hl
          have hxr := skF_rg (dE := (mdE ic h cS)) (dF := (mdF ic h su st)) (ea := g) (q := q) (f := f) (i - 1).toNat (by omega)
          rw [← hx] at hxr
          refine lv_iload M.1 M.2.1 dX7_skipped_42 (lv_at hl 5 rfl) ?_
          refine zi_bipush M dX7_skipped_44 ⟨by decide, by decide⟩ ?_
          refine zi_icmp_ge (tgt := 102) M dX7_skipped_46 (by decide) (by omega) ⟨by decide, by decide⟩ (fun c_4 => ?_) (fun c_4 => ?_)
          ·
            refine lv_iload M.1 M.2.1 dX7_skipped_102 (lv_at hl 4 rfl) ?_
            refine zi_push M dX7_skipped_104 ?_
            refine zi_icmp_ne (tgt := 112) M dX7_skipped_105 (by decide) (by omega) ⟨by decide, by decide⟩ (fun c_5 => ?_) (fun c_5 => ?_)
            ·
              refine lv_iload M.1 M.2.1 dX7_skipped_112 (lv_at hl 4 rfl) ?_
              refine zi_if_le (tgt := 124) M dX7_skipped_114 (by decide) (by omega) (fun c_6 => ?_) (fun c_6 => ?_)
              ·
                refine zi_push M dX7_skipped_124 ?_
                have hP : va_P D vwCl (mdlW ad 0 cy 0 h su st sh fl ic sn bn fm fr cm em lg le lf dl cS cH sea noi pl pw an hd bp bo bw c1 c2 c3 c4 c5 e1 e2 e3 e4 e5) H := hP
                exact zw_i M hr hlk 0 hP hS (by exact Or.inl ⟨rfl, by omega, congrArg iI (show (0 : Int) = skpZ (skF (mdE ic h cS) (mdF ic h su st) g q f 9) by (unfold skpZ; rw [show skF (mdE ic h cS) (mdF ic h su st) g q f 9 = x from by rw [hx, show i = 10 from by omega]; rfl]; (repeat' split) <;> omega))⟩) (by decide) (by decide) dX7_skipped_125
              ·
                refine lv_iload M.1 M.2.1 dX7_skipped_117 (lv_at hl 4 rfl) ?_
                refine zi_push M dX7_skipped_119 ?_
                refine zi_isub M dX7_skipped_120 ?_
                refine zi_goto (tgt := 125) M dX7_skipped_121 (by decide) ?_
                have hP : va_P D vwCl (mdlW ad 0 cy 0 h su st sh fl ic sn bn fm fr cm em lg le lf dl cS cH sea noi pl pw an hd bp bo bw c1 c2 c3 c4 c5 e1 e2 e3 e4 e5) H := hP
                exact zw_i M hr hlk 0 hP hS (by exact Or.inl ⟨rfl, by omega, congrArg iI (show ((x - 1) : Int) = skpZ (skF (mdE ic h cS) (mdF ic h su st) g q f 9) by (unfold skpZ; rw [show skF (mdE ic h cS) (mdF ic h su st) g q f 9 = x from by rw [hx, show i = 10 from by omega]; rfl]; (repeat' split) <;> omega))⟩) (by decide) (by decide) dX7_skipped_125
            ·
              refine zi_push M dX7_skipped_108 ?_
              refine zi_goto (tgt := 125) M dX7_skipped_109 (by decide) ?_
              have hP : va_P D vwCl (mdlW ad 0 cy 0 h su st sh fl ic sn bn fm fr cm em lg le lf dl cS cH sea noi pl pw an hd bp bo bw c1 c2 c3 c4 c5 e1 e2 e3 e4 e5) H := hP
              exact zw_i M hr hlk 0 hP hS (by exact Or.inl ⟨rfl, by omega, congrArg iI (show ((-1) : Int) = skpZ (skF (mdE ic h cS) (mdF ic h su st) g q f 9) by (unfold skpZ; rw [show skF (mdE ic h cS) (mdF ic h su st) g q f 9 = x from by rw [hx, show i = 10 from by omega]; rfl]; (repeat' split) <;> omega))⟩) (by decide) (by decide) dX7_skipped_125
          ·
            refine lv_aload_n M.1 M.2.1 dX7_skipped_49 rfl (lv_at hl 0 rfl) ?_
            refine lv_iload_n M.1 M.2.1 dX7_skipped_50 rfl (lv_at hl 1 rfl) ?_
            refine lv_iload_n M.1 M.2.1 dX7_skipped_51 rfl (lv_at hl 2 rfl) ?_
            refine lv_iload M.1 M.2.1 dX7_skipped_52 (lv_at hl 5 rfl) ?_
            refine lv_iload_n M.1 M.2.1 dX7_skipped_54 rfl (lv_at hl 3 rfl) ?_
            refine z_cR (z_runV (As := [.int (iI q), .int (iI g), .int (iI i), .int (iI f)]) (rest := []) M (c_X7_layerOf l D cy z0 ad 0 h su st sh fl ic sn bn fm fr cm em lg le lf dl cS cH sea noi pl pw an hd bp bo bw c1 c2 c3 c4 c5 e1 e2 e3 e4 e5 q g i f (by omega) (by omega) (by omega) (by omega) (by omega) (by omega) (by omega) (by omega) (by omega) (by omega)) hE hS hAz hP (zRc.of (ci := 7) (q0 := 0) hE hP rfl rfl) zk_cd_X7_layerOf zk_in_RX7 zk_im_X7_layerOf zk_se_X7_layerOf zk_ml_RX7_141 rfl rfl zd_X7_layerOf ⟨by decide, by decide⟩ rfl hl.1 rfl (Nat.le_of_ble_eq_true rfl) dX7_skipped_55 ⟨by decide, by decide⟩) ?_
            obtain ⟨yL, hyL⟩ : ∃ y : Int, y = lyZ (mdE ic h cS) (mdF ic h su st) g q i f := ⟨_, rfl⟩
            refine z_rw (b := yL) hyL.symm ?_
            have hyc := lyZ_c (dE := (mdE ic h cS)) (dF := (mdF ic h su st)) (ea := g) (p := q) (a := i) (f := f)
            have hlc := legZ_c (dE := (mdE ic h cS)) (dF := (mdF ic h su st)) (ea := g) (p := q) (a := i) (f := f) (by omega)
            rw [← hyL] at hyc
            have hlc2 : ¬ yL = 0 → legZ (mdE ic h cS) (mdF ic h su st) g q i f = lenZ yL i := fun z => by (have hbd : bndZ (mdE ic h cS) (mdF ic h su st) g q i f = yL := (by omega)); rw [hbd] at hlc; omega
            refine lv_istore (lv' := [(7, .int (iI yL)), (0, .ref (ad 0)), (1, .int (iI q)), (2, .int (iI g)), (3, .int (iI f)), (5, .int (iI x)), (6, .int (iI i))]) M.1 M.2.1 dX7_skipped_58 hl (by decide) rfl (fun ls hl => ?_)
            refine lv_iload M.1 M.2.1 dX7_skipped_60 (lv_at hl 0 rfl) ?_
            refine lv_iload M.1 M.2.1 dX7_skipped_62 (lv_at hl 6 rfl) ?_
            refine z_cR (z_runS (As := [.int (iI yL), .int (iI i)]) (rest := []) M (c_X7_lengthOf l D cy z0 yL i (by omega) (by omega)) hE hS hAz trivial zk_cd_X7_lengthOf zk_in_RX7 zk_st_X7_lengthOf zk_ml_RX7_145 rfl rfl zd_X7_lengthOf ⟨by decide, by decide⟩ rfl hl.1 rfl (Nat.le_of_ble_eq_true rfl) dX7_skipped_64 ⟨by decide, by decide⟩) ?_
            have hx_7 := lenZ_rg yL i (by omega)
            refine lv_istore (lv' := [(8, .int (iI (lenZ yL i))), (7, .int (iI yL)), (0, .ref (ad 0)), (1, .int (iI q)), (2, .int (iI g)), (3, .int (iI f)), (5, .int (iI x)), (6, .int (iI i))]) M.1 M.2.1 dX7_skipped_67 hl (by decide) rfl (fun ls hl => ?_)
            refine lv_iload M.1 M.2.1 dX7_skipped_69 (lv_at hl 1 rfl) ?_
            refine zi_if_eq (tgt := 92) M dX7_skipped_71 (by decide) (by omega) (fun c_8 => ?_) (fun c_8 => ?_)
            ·
              refine lv_iload M.1 M.2.1 dX7_skipped_92 (lv_at hl 6 rfl) ?_
              refine lv_istore (lv' := [(5, .int (iI x)), (8, .int (iI (lenZ yL i))), (7, .int (iI yL)), (0, .ref (ad 0)), (1, .int (iI q)), (2, .int (iI g)), (3, .int (iI f)), (6, .int (iI i))]) M.1 M.2.1 dX7_skipped_94 hl (by decide) rfl (fun ls hl => ?_)
              refine zi_iinc (lv' := [(6, .int (iI (i + 1))), (5, .int (iI x)), (8, .int (iI (lenZ yL i))), (7, .int (iI yL)), (0, .ref (ad 0)), (1, .int (iI q)), (2, .int (iI g)), (3, .int (iI f))]) M dX7_skipped_96 hl 7 rfl (by decide) rfl (fun ls hl => ?_)
              refine zi_goto (tgt := 42) M dX7_skipped_99 (by decide) ?_
              exact ih_42 (i + 1) x (by omega) (by first | exact skF_n hi.1 hx (by omega) | exact skF_s hi.1 hx (by have := hlc2 (by omega); omega) (by have h9 := hlc2 (by omega); first | (rw [if_pos (by omega)]; omega) | (rw [if_neg (by omega)]; omega))) (by omega) _ _ hP hD hS ls (lv_sub hl [4, 5, 6, 7, 1, 0] rfl)
            ·
              refine lv_iload M.1 M.2.1 dX7_skipped_74 (lv_at hl 6 rfl) ?_
              refine zi_push M dX7_skipped_76 ?_
              refine zi_icmp_eq (tgt := 87) M dX7_skipped_77 (by decide) (by omega) ⟨by decide, by decide⟩ (fun c_9 => ?_) (fun c_9 => ?_)
              ·
                refine lv_iload M.1 M.2.1 dX7_skipped_87 (lv_at hl 0 rfl) ?_
                refine zi_goto (tgt := 94) M dX7_skipped_89 (by decide) ?_
                refine lv_istore (lv' := [(5, .int (iI (lenZ yL i))), (8, .int (iI (lenZ yL i))), (7, .int (iI yL)), (0, .ref (ad 0)), (1, .int (iI q)), (2, .int (iI g)), (3, .int (iI f)), (6, .int (iI i))]) M.1 M.2.1 dX7_skipped_94 hl (by decide) rfl (fun ls hl => ?_)
                refine zi_iinc (lv' := [(6, .int (iI (i + 1))), (5, .int (iI (lenZ yL i))), (8, .int (iI (lenZ yL i))), (7, .int (iI yL)), (0, .ref (ad 0)), (1, .int (iI q)), (2, .int (iI g)), (3, .int (iI f))]) M dX7_skipped_96 hl 7 rfl (by decide) rfl (fun ls hl => ?_)
                refine zi_goto (tgt := 42) M dX7_skipped_99 (by decide) ?_
                exact ih_42 (i + 1) (lenZ yL i) (by omega) (by first | exact skF_n hi.1 hx (by omega) | exact skF_s hi.1 hx (by have := hlc2 (by omega); omega) (by have h9 := hlc2 (by omega); first | (rw [if_pos (by omega)]; omega) | (rw [if_neg (by omega)]; omega))) (by omega) _ _ hP hD hS ls (lv_sub hl [4, 5, 6, 7, 1, 0] rfl)
              ·
                refine lv_iload M.1 M.2.1 dX7_skipped_80 (lv_at hl 0 rfl) ?_
                refine lv_iload M.1 M.2.1 dX7_skipped_82 (lv_at hl 6 rfl) ?_
                refine zi_icmp_ge (tgt := 92) M dX7_skipped_84 (by decide) (by omega) (by omega) (fun c_10 => ?_) (fun c_10 => ?_)
                ·
                  refine lv_iload M.1 M.2.1 dX7_skipped_92 (lv_at hl 6 rfl) ?_
                  refine lv_istore (lv' := [(5, .int (iI x)), (8, .int (iI (lenZ yL i))), (7, .int (iI yL)), (0, .ref (ad 0)), (1, .int (iI q)), (2, .int (iI g)), (3, .int (iI f)), (6, .int (iI i))]) M.1 M.2.1 dX7_skipped_94 hl (by decide) rfl (fun ls hl => ?_)
                  refine zi_iinc (lv' := [(6, .int (iI (i + 1))), (5, .int (iI x)), (8, .int (iI (lenZ yL i))), (7, .int (iI yL)), (0, .ref (ad 0)), (1, .int (iI q)), (2, .int (iI g)), (3, .int (iI f))]) M dX7_skipped_96 hl 7 rfl (by decide) rfl (fun ls hl => ?_)
                  refine zi_goto (tgt := 42) M dX7_skipped_99 (by decide) ?_
                  exact ih_42 (i + 1) x (by omega) (by first | exact skF_n hi.1 hx (by omega) | exact skF_s hi.1 hx (by have := hlc2 (by omega); omega) (by have h9 := hlc2 (by omega); first | (rw [if_pos (by omega)]; omega) | (rw [if_neg (by omega)]; omega))) (by omega) _ _ hP hD hS ls (lv_sub hl [4, 5, 6, 7, 1, 0] rfl)
                ·
                  refine lv_iload M.1 M.2.1 dX7_skipped_87 (lv_at hl 0 rfl) ?_
                  refine zi_goto (tgt := 94) M dX7_skipped_89 (by decide) ?_
                  refine lv_istore (lv' := [(5, .int (iI (lenZ yL i))), (8, .int (iI (lenZ yL i))), (7, .int (iI yL)), (0, .ref (ad 0)), (1, .int (iI q)), (2, .int (iI g)), (3, .int (iI f)), (6, .int (iI i))]) M.1 M.2.1 dX7_skipped_94 hl (by decide) rfl (fun ls hl => ?_)
                  refine zi_iinc (lv' := [(6, .int (iI (i + 1))), (5, .int (iI (lenZ yL i))), (8, .int (iI (lenZ yL i))), (7, .int (iI yL)), (0, .ref (ad 0)), (1, .int (iI q)), (2, .int (iI g)), (3, .int (iI f))]) M dX7_skipped_96 hl 7 rfl (by decide) rfl (fun ls hl => ?_)
                  refine zi_goto (tgt := 42) M dX7_skipped_99 (by decide) ?_
                  exact ih_42 (i + 1) (lenZ yL i) (by omega) (by first | exact skF_n hi.1 hx (by omega) | exact skF_s hi.1 hx (by have := hlc2 (by omega); omega) (by have h9 := hlc2 (by omega); first | (rw [if_pos (by omega)]; omega) | (rw [if_neg (by omega)]; omega))) (by omega) _ _ hP hD hS ls (lv_sub hl [4, 5, 6, 7, 1, 0] rfl)
      exact L_42 (Int.toNat (10 - 1) + 1) 1 (-1) (by omega) rfl (by omega) _ _ hP hD hS ls (lv_sub hl [3, 4, 5, 6, 1, 0] rfl)
    ·
      refine zi_if_eq (tgt := 27) M dX7_skipped_20 (by decide) ⟨by decide, by decide⟩ (fun _ => ?_) (fun q => absurd q (by decide))
      refine zi_push M dX7_skipped_27 ?_
      refine z_cW (z_runV (As := [.int (iI 2)]) (rest := []) M (c_X7_goesWell l D cy z0 ad th h su st sh fl ic sn bn fm fr cm em lg le lf dl cS cH sea noi pl pw an hd bp bo bw c1 c2 c3 c4 c5 e1 e2 e3 e4 e5 2 (by omega)) hE hS hAz (z_cut hP hD hAz [0, 1, 2, 3, 4, 5, 6, 7, 8, 9, 10, 11, 12, 13, 14, 15, 16, 17, 18, 19, 20, 21] rfl (by decide +kernel)) (zRc.of (ci := 7) (q0 := 0) hE hP rfl rfl) zk_cd_X7_goesWell zk_in_RX7 zk_im_X7_goesWell zk_se_X7_goesWell zk_ml_RX7_88 rfl rfl zd_X7_goesWell ⟨by decide, by decide⟩ rfl hl.1 rfl (Nat.le_of_ble_eq_true rfl) dX7_skipped_28 ⟨by decide, by decide⟩) hP hD hS [0, 1, 2, 3, 4, 5, 6, 7, 8, 9, 10, 11, 12, 13, 14, 15, 16, 17, 18, 19, 20, 21] rfl (fun _ => rfl) (fun r_11 u_11 H locs hp_11 hP hD hS => ?_)
      have hP : va_P D vwCl (mdlW ad 0 cy 2 h su st sh fl ic sn bn fm fr cm em lg le lf dl cS cH sea noi pl pw an hd bp bo bw c1 c2 c3 c4 c5 e1 e2 e3 e4 e5) H := hP
      have hD : va_D (zIn (mdlW ad 0 cy th h su st sh fl ic sn bn fm fr cm em lg le lf dl cS cH sea noi pl pw an hd bp bo bw c1 c2 c3 c4 c5 e1 e2 e3 e4 e5)) (mdlW ad 0 cy 2 h su st sh fl ic sn bn fm fr cm em lg le lf dl cS cH sea noi pl pw an hd bp bo bw c1 c2 c3 c4 c5 e1 e2 e3 e4 e5) := hD
      subst hp_11
      refine z_rw (b := 0) rfl ?_
      refine zi_if_ne (tgt := 36) M dX7_skipped_31 (by decide) ⟨by decide, by decide⟩ (fun q => absurd q (by decide)) (fun _ => ?_)
      refine zi_push M dX7_skipped_34 ?_
      have hP : va_P D vwCl (mdlW ad 0 cy 2 h su st sh fl ic sn bn fm fr cm em lg le lf dl cS cH sea noi pl pw an hd bp bo bw c1 c2 c3 c4 c5 e1 e2 e3 e4 e5) H := hP
      exact zw_i M hr hlk 2 hP hS (by exact Or.inr (Or.inr (⟨rfl, by omega, rfl⟩))) (by decide) (by decide) dX7_skipped_35
  ·
    refine lv_istore (lv' := [(4, .int (iI 0)), (0, .ref (ad 0)), (1, .int (iI q)), (2, .int (iI g)), (3, .int (iI f))]) M.1 M.2.1 dX7_skipped_4 hl (by decide) rfl (fun ls hl => ?_)
    refine lv_aload_n M.1 M.2.1 dX7_skipped_6 rfl (lv_at hl 1 rfl) ?_
    refine lv_iload M.1 M.2.1 dX7_skipped_7 (lv_at hl 0 rfl) ?_
    refine zi_if_ne (tgt := 16) M dX7_skipped_9 (by decide) ⟨by decide, by decide⟩ (fun q => absurd q (by decide)) (fun _ => ?_)
    refine zi_push M dX7_skipped_12 ?_
    refine zi_goto (tgt := 28) M dX7_skipped_13 (by decide) ?_
    refine z_cW (z_runV (As := [.int (iI 1)]) (rest := []) M (c_X7_goesWell l D cy z0 ad th h su st sh fl ic sn bn fm fr cm em lg le lf dl cS cH sea noi pl pw an hd bp bo bw c1 c2 c3 c4 c5 e1 e2 e3 e4 e5 1 (by omega)) hE hS hAz (z_cut hP hD hAz [0, 1, 2, 3, 4, 5, 6, 7, 8, 9, 10, 11, 12, 13, 14, 15, 16, 17, 18, 19, 20, 21] rfl (by decide +kernel)) (zRc.of (ci := 7) (q0 := 0) hE hP rfl rfl) zk_cd_X7_goesWell zk_in_RX7 zk_im_X7_goesWell zk_se_X7_goesWell zk_ml_RX7_88 rfl rfl zd_X7_goesWell ⟨by decide, by decide⟩ rfl hl.1 rfl (Nat.le_of_ble_eq_true rfl) dX7_skipped_28 ⟨by decide, by decide⟩) hP hD hS [0, 1, 2, 3, 4, 5, 6, 7, 8, 9, 10, 11, 12, 13, 14, 15, 16, 17, 18, 19, 20, 21] rfl (fun _ => rfl) (fun r_12 u_12 H locs hp_12 hP hD hS => ?_)
    have hP : va_P D vwCl (mdlW ad 0 cy 1 h su st sh fl ic sn bn fm fr cm em lg le lf dl cS cH sea noi pl pw an hd bp bo bw c1 c2 c3 c4 c5 e1 e2 e3 e4 e5) H := hP
    have hD : va_D (zIn (mdlW ad 0 cy th h su st sh fl ic sn bn fm fr cm em lg le lf dl cS cH sea noi pl pw an hd bp bo bw c1 c2 c3 c4 c5 e1 e2 e3 e4 e5)) (mdlW ad 0 cy 1 h su st sh fl ic sn bn fm fr cm em lg le lf dl cS cH sea noi pl pw an hd bp bo bw c1 c2 c3 c4 c5 e1 e2 e3 e4 e5) := hD
    subst hp_12
    refine z_rw (b := 0) rfl ?_
    refine zi_if_ne (tgt := 36) M dX7_skipped_31 (by decide) ⟨by decide, by decide⟩ (fun q => absurd q (by decide)) (fun _ => ?_)
    refine zi_push M dX7_skipped_34 ?_
    have hP : va_P D vwCl (mdlW ad 0 cy 1 h su st sh fl ic sn bn fm fr cm em lg le lf dl cS cH sea noi pl pw an hd bp bo bw c1 c2 c3 c4 c5 e1 e2 e3 e4 e5) H := hP
    exact zw_i M hr hlk 1 hP hS (by exact Or.inr (Or.inl (⟨rfl, by omega, rfl⟩))) (by decide) (by decide) dX7_skipped_35
