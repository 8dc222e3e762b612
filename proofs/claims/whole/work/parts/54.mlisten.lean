/-! contracts: the model, what everybody may call, 3 -/
set_option maxRecDepth 100000 in
set_option maxHeartbeats 4000000 in
theorem c_X7_listen (l : Launch) (D : va_G) (cy : Nat → ClassId) (z0 : Nat) (ad : Nat → Nat) (th h su st sh fl ic sn bn fm fr cm em lg le lf dl : Int) (cS cH sea noi pl pw an hd bp bo bw c1 c2 c3 c4 c5 e1 e2 e3 e4 e5 : Int → Int) (q : Int) (r_q : r32 q) (h_h : 0 ≤ h ∧ h ≤ 5000) (h_su : 0 ≤ su ∧ su ≤ 100) (h_st : 0 ≤ st ∧ st ≤ 60) (h_fl : 0 ≤ fl ∧ fl ≤ 80) (h_cS : zrg 48 0 100 cS) (h_ic : 0 ≤ ic ∧ ic ≤ 1) (h_ic0 : ic = 0) (g_sea : zrg 48 0 1 sea) (g_noi : zrg 48 0 40 noi) (g_bp : zrg 6 0 47 bp) (g_bw : zrg 6 0 80 bw) (hbm : 0 ≤ bn ∧ bn ≤ 6) (hbo : ∀ n : Int, 0 ≤ n → n < bn → 10 ≤ bo n ∧ bo n ≤ 300) : Met l yX7_listen [.code yX7_listen cX7_listen 6 (some .int)] (zRm 7 0 0 180) (zPc [.ref (ad 0), .int (iI q)] D cy z0 (zWl D z0 (mdlW ad 0 cy th h su st sh fl ic sn bn fm fr cm em lg le lf dl cS cH sea noi pl pw an hd bp bo bw c1 c2 c3 c4 c5 e1 e2 e3 e4 e5))) (zQ1 D (mdlW ad 0 cy th h su st sh fl ic sn bn fm fr cm em lg le lf dl cS cH sea noi pl pw an hd bp bo bw c1 c2 c3 c4 c5 e1 e2 e3 e4 e5) (fun (r : Int32) (u : Nat → Int) => (∃ xa xb xc xd : Int, u = u8 xa xb xc xd 0 0 0 0 ∧ ((0 ≤ q ∧ q < 48)) ∧ r = iI (liF (mdE 0 h cS) (mdF 0 h su st) (mdD 0 h fl) sea noi h bp bw (fun _ => 2) (fun _ => 2) bo q bn.toNat)) ∨ (u = u8 lg le lf dl 1 0 0 0 ∧ (¬ (0 ≤ q ∧ q < 48)) ∧ r = iI 0)) (fun (u : Nat → Int) => (mdlW ad 0 cy (u 4) h su st sh fl (if u 4 = 0 then 0 else ic) sn bn (if u 4 = 0 then (fm + bn) else fm) (if u 4 = 0 then (fr + lrF (mdE 0 h cS) (mdF 0 h su st) (mdD 0 h fl) (mdE 1 h cS) (mdF 1 h su st) (mdD 1 h fl) sea noi h bp bw (fun _ => 2) (fun _ => 2) bo q bn.toNat) else fr) cm em (u 0) (u 1) (u 2) (u 3) cS cH sea noi pl pw an hd bp bo bw c1 c2 c3 c4 c5 e1 e2 e3 e4 e5))) 0 0 (zIn (mdlW ad 0 cy th h su st sh fl ic sn bn fm fr cm em lg le lf dl cS cH sea noi pl pw an hd bp bo bw c1 c2 c3 c4 c5 e1 e2 e3 e4 e5)) := by
  refine z_of (by decide) (Nat.le_of_ble_eq_true rfl) ?_
  intro p e s m args below meth c M hr hlk hini hargs hP0 hE ls hl
  have hP : va_P D vwCl (mdlW ad 0 cy th h su st sh fl ic sn bn fm fr cm em lg le lf dl cS cH sea noi pl pw an hd bp bo bw c1 c2 c3 c4 c5 e1 e2 e3 e4 e5) s.heap := hP0.1
  have hD : va_D (zIn (mdlW ad 0 cy th h su st sh fl ic sn bn fm fr cm em lg le lf dl cS cH sea noi pl pw an hd bp bo bw c1 c2 c3 c4 c5 e1 e2 e3 e4 e5)) (mdlW ad 0 cy th h su st sh fl ic sn bn fm fr cm em lg le lf dl cS cH sea noi pl pw an hd bp bo bw c1 c2 c3 c4 c5 e1 e2 e3 e4 e5) := hP0.self
  have hAz := hP0.A
  have hS : va_S (zIn (mdlW ad 0 cy th h su st sh fl ic sn bn fm fr cm em lg le lf dl cS cH sea noi pl pw an hd bp bo bw c1 c2 c3 c4 c5 e1 e2 e3 e4 e5)) s.heap s.heap [] := va_S.rf
  have hl : lv_has ls 6 [(0, .ref (ad 0)), (1, .int (iI q))] := hl
  refine lv_aload_n M.1 M.2.1 dX7_listen_0 rfl (lv_at hl 0 rfl) ?_
  refine lv_iload_n M.1 M.2.1 dX7_listen_1 rfl (lv_at hl 1 rfl) ?_
  refine z_cR (z_runS (As := [.int (iI q)]) (rest := [.ref (ad 0)]) M (c_X7_isPlace l D cy z0 q (by omega)) hE hS hAz trivial zk_cd_X7_isPlace zk_in_RX7 zk_st_X7_isPlace zk_ml_RX7_101 rfl rfl zd_X7_isPlace ⟨by decide, by decide⟩ rfl hl.1 rfl (Nat.le_of_ble_eq_true rfl) dX7_listen_2 ⟨by decide, by decide⟩) ?_
  refine zi_b (P := 0 ≤ q ∧ q ≤ 47) (g := fun r => F0 m 5 ls (.int r :: [.ref (ad 0)])) (fun b_1 => ?_) (fun b_1 => ?_)
  ·
    refine zi_if_eq (tgt := 12) M dX7_listen_5 (by decide) ⟨by decide, by decide⟩ (fun q => absurd q (by decide)) (fun _ => ?_)
    refine zi_push M dX7_listen_8 ?_
    refine zi_goto (tgt := 13) M dX7_listen_9 (by decide) ?_
    refine z_cW (z_runV (As := [.int (iI 0)]) (rest := []) M (c_X7_goesWell l D cy z0 ad th h su st sh fl ic sn bn fm fr cm em lg le lf dl cS cH sea noi pl pw an hd bp bo bw c1 c2 c3 c4 c5 e1 e2 e3 e4 e5 0 (by omega)) hE hS hAz (z_cut hP hD hAz [0, 1, 2, 3, 4, 5, 6, 7, 8, 9, 10, 11, 12, 13, 14, 15, 16, 17, 18, 19, 20, 21] rfl (by decide +kernel)) (zRc.of (ci := 7) (q0 := 0) hE hP rfl rfl) zk_cd_X7_goesWell zk_in_RX7 zk_im_X7_goesWell zk_se_X7_goesWell zk_ml_RX7_88 rfl rfl zd_X7_goesWell ⟨by decide, by decide⟩ rfl hl.1 rfl (Nat.le_of_ble_eq_true rfl) dX7_listen_13 ⟨by decide, by decide⟩) hP hD hS [0, 1, 2, 3, 4, 5, 6, 7, 8, 9, 10, 11, 12, 13, 14, 15, 16, 17, 18, 19, 20, 21] rfl (fun _ => rfl) (fun r_2 u_2 H locs hp_2 hP hD hS => ?_)
    have hP : va_P D vwCl (mdlW ad 0 cy 0 h su st sh fl ic sn bn fm fr cm em lg le lf dl cS cH sea noi pl pw an hd bp bo bw c1 c2 c3 c4 c5 e1 e2 e3 e4 e5) H := hP
    have hD : va_D (zIn (mdlW ad 0 cy th h su st sh fl ic sn bn fm fr cm em lg le lf dl cS cH sea noi pl pw an hd bp bo bw c1 c2 c3 c4 c5 e1 e2 e3 e4 e5)) (mdlW ad 0 cy 0 h su st sh fl ic sn bn fm fr cm em lg le lf dl cS cH sea noi pl pw an hd bp bo bw c1 c2 c3 c4 c5 e1 e2 e3 e4 e5) := hD
    subst hp_2
    refine z_rw (b := 1) rfl ?_
    refine zi_if_ne (tgt := 21) M dX7_listen_16 (by decide) ⟨by decide, by decide⟩ (fun _ => ?_) (fun q => absurd q (by decide))
    refine zi_push M dX7_listen_21 ?_
    refine lv_istore_n (lv' := [(2, .int (iI 0)), (0, .ref (ad 0)), (1, .int (iI q))]) M.1 M.2.1 dX7_listen_22 rfl hl (by decide) rfl (fun ls hl => ?_)
    have hP : va_P D vwCl (mdlW ad 0 cy 0 h su st sh fl 0 sn bn fm fr cm em lg le lf dl cS cH sea noi pl pw an hd bp bo bw c1 c2 c3 c4 c5 e1 e2 e3 e4 e5) H := by rw [h_ic0] at hP; exact hP
    have hD : va_D (zIn (mdlW ad 0 cy th h su st sh fl ic sn bn fm fr cm em lg le lf dl cS cH sea noi pl pw an hd bp bo bw c1 c2 c3 c4 c5 e1 e2 e3 e4 e5)) (mdlW ad 0 cy 0 h su st sh fl 0 sn bn fm fr cm em lg le lf dl cS cH sea noi pl pw an hd bp bo bw c1 c2 c3 c4 c5 e1 e2 e3 e4 e5) := va_D.to hD rfl
    refine zi_push M dX7_listen_23 ?_
    refine lv_istore_n (lv' := [(3, .int (iI 0)), (2, .int (iI 0)), (0, .ref (ad 0)), (1, .int (iI q))]) M.1 M.2.1 dX7_listen_24 rfl hl (by decide) rfl (fun ls hl => ?_)
    have L_25 : ∀ (k_25 : Nat) (ln : Int) (i : Int) (ur : Nat → Int) (xm : Int) (xr : Int) (hi : 0 ≤ i ∧ i ≤ bn) (hb : ln = liF (mdE 0 h cS) (mdF 0 h su st) (mdD 0 h fl) sea noi h bp bw (fun _ => 2) (fun _ => 2) bo q i.toNat) (hrr : xr = fr + lrF (mdE 0 h cS) (mdF 0 h su st) (mdD 0 h fl) (mdE 1 h cS) (mdF 1 h su st) (mdD 1 h fl) sea noi h bp bw (fun _ => 2) (fun _ => 2) bo q i.toNat) (hxm : xm = fm + i) (hm : bn - i < (k_25 : Int)) (H : Heap) (locs : List Loc) (hP : va_P D vwCl (mdlW ad 0 cy 0 h su st sh fl 0 sn bn xm xr cm em (ur 0) (ur 1) (ur 2) (ur 3) cS cH sea noi pl pw an hd bp bo bw c1 c2 c3 c4 c5 e1 e2 e3 e4 e5) H) (hD : va_D (zIn (mdlW ad 0 cy th h su st sh fl ic sn bn fm fr cm em lg le lf dl cS cH sea noi pl pw an hd bp bo bw c1 c2 c3 c4 c5 e1 e2 e3 e4 e5)) (mdlW ad 0 cy 0 h su st sh fl 0 sn bn xm xr cm em (ur 0) (ur 1) (ur 2) (ur 3) cS cH sea noi pl pw an hd bp bo bw c1 c2 c3 c4 c5 e1 e2 e3 e4 e5)) (hS : va_S (zIn (mdlW ad 0 cy th h su st sh fl ic sn bn fm fr cm em lg le lf dl cS cH sea noi pl pw an hd bp bo bw c1 c2 c3 c4 c5 e1 e2 e3 e4 e5)) s.heap H locs) (ls : Array Slot) (hl : lv_has ls 6 [(0, .ref (ad 0)), (1, .int (iI q)), (2, .int (iI ln)), (3, .int (iI i))]), W p l e (zRm 7 0 0 180) s m args below meth c H locs 0 0 (MQ below (zQ1 D (mdlW ad 0 cy th h su st sh fl ic sn bn fm fr cm em lg le lf dl cS cH sea noi pl pw an hd bp bo bw c1 c2 c3 c4 c5 e1 e2 e3 e4 e5) (fun (r : Int32) (u : Nat → Int) => (∃ xa xb xc xd : Int, u = u8 xa xb xc xd 0 0 0 0 ∧ ((0 ≤ q ∧ q < 48)) ∧ r = iI (liF (mdE 0 h cS) (mdF 0 h su st) (mdD 0 h fl) sea noi h bp bw (fun _ => 2) (fun _ => 2) bo q bn.toNat)) ∨ (u = u8 lg le lf dl 1 0 0 0 ∧ (¬ (0 ≤ q ∧ q < 48)) ∧ r = iI 0)) (fun (u : Nat → Int) => (mdlW ad 0 cy (u 4) h su st sh fl (if u 4 = 0 then 0 else ic) sn bn (if u 4 = 0 then (fm + bn) else fm) (if u 4 = 0 then (fr + lrF (mdE 0 h cS) (mdF 0 h su st) (mdD 0 h fl) (mdE 1 h cS) (mdF 1 h su st) (mdD 1 h fl) sea noi h bp bw (fun _ => 2) (fun _ => 2) bo q bn.toNat) else fr) cm em (u 0) (u 1) (u 2) (u 3) cS cH sea noi pl pw an hd bp bo bw c1 c2 c3 c4 c5 e1 e2 e3 e4 e5))) args s 0 0 (zIn (mdlW ad 0 cy th h su st sh fl ic sn bn fm fr cm em lg le lf dl cS cH sea noi pl pw an hd bp bo bw c1 c2 c3 c4 c5 e1 e2 e3 e4 e5))) (F0 m 25 ls []) := by
      intro k_25
      induction k_25 with
      | zero =>
        intro ln i ur xm xr hi hb hrr hxm hm H locs hP hD hS ls hl
        exact absurd hm (by omega)
      | succ k_25 ih_25 =>
        intro ln i ur xm xr hi hb hrr hxm hm H locs hP hD hS ls hl
        have hlr := liF_rg (dE := (mdE 0 h cS)) (dF := (mdF 0 h su st)) (dD := (mdD 0 h fl)) (sea := sea) (noi := noi) (h := h) (bpl := bp) (bpw := bw) (ban := fun _ => 2) (bhd := fun _ => 2) (bfq := bo) (q := q) i.toNat (by omega)
        rw [← hb] at hlr
        refine lv_iload_n M.1 M.2.1 dX7_listen_25 rfl (lv_at hl 3 rfl) ?_
        refine lv_aload_n M.1 M.2.1 dX7_listen_26 rfl (lv_at hl 0 rfl) ?_
        refine zi_get (ci := 7) (v := .int (iI bn)) M hE hP 0 rfl rfl zu_X7 16 (by decide) zk_fl_RX7_174 rfl rfl dX7_listen_27 ?_
        refine zi_icmp_ge (tgt := 165) M dX7_listen_30 (by decide) (by omega) (by omega) (fun c_3 => ?_) (fun c_3 => ?_)
        ·
          refine lv_iload_n M.1 M.2.1 dX7_listen_165 rfl (lv_at hl 2 rfl) ?_
          have hib : i = bn := by omega
          rw [hib] at hxm hrr hb
          subst hxm hrr
          have hP : va_P D vwCl (mdlW ad 0 cy 0 h su st sh fl 0 sn bn (fm + bn) (fr + lrF (mdE 0 h cS) (mdF 0 h su st) (mdD 0 h fl) (mdE 1 h cS) (mdF 1 h su st) (mdD 1 h fl) sea noi h bp bw (fun _ => 2) (fun _ => 2) bo q bn.toNat) cm em (ur 0) (ur 1) (ur 2) (ur 3) cS cH sea noi pl pw an hd bp bo bw c1 c2 c3 c4 c5 e1 e2 e3 e4 e5) H := hP
          have hP : va_P D vwCl (mdlW ad 0 cy ((u8 (ur 0) (ur 1) (ur 2) (ur 3) 0 0 0 0) 4) h su st sh fl (if (u8 (ur 0) (ur 1) (ur 2) (ur 3) 0 0 0 0) 4 = 0 then 0 else ic) sn bn (if (u8 (ur 0) (ur 1) (ur 2) (ur 3) 0 0 0 0) 4 = 0 then (fm + bn) else fm) (if (u8 (ur 0) (ur 1) (ur 2) (ur 3) 0 0 0 0) 4 = 0 then (fr + lrF (mdE 0 h cS) (mdF 0 h su st) (mdD 0 h fl) (mdE 1 h cS) (mdF 1 h su st) (mdD 1 h fl) sea noi h bp bw (fun _ => 2) (fun _ => 2) bo q bn.toNat) else fr) cm em ((u8 (ur 0) (ur 1) (ur 2) (ur 3) 0 0 0 0) 0) ((u8 (ur 0) (ur 1) (ur 2) (ur 3) 0 0 0 0) 1) ((u8 (ur 0) (ur 1) (ur 2) (ur 3) 0 0 0 0) 2) ((u8 (ur 0) (ur 1) (ur 2) (ur 3) 0 0 0 0) 3) cS cH sea noi pl pw an hd bp bo bw c1 c2 c3 c4 c5 e1 e2 e3 e4 e5) H := hP
          exact zw_i M hr hlk (u8 (ur 0) (ur 1) (ur 2) (ur 3) 0 0 0 0) hP hS (by exact Or.inl ⟨_, _, _, _, rfl, by omega, congrArg iI (show (ln : Int) = liF (mdE 0 h cS) (mdF 0 h su st) (mdD 0 h fl) sea noi h bp bw (fun _ => 2) (fun _ => 2) bo q bn.toNat by exact hb)⟩) (by decide) (by decide) dX7_listen_166
        ·
          have hbf := hbo i (by omega) (by omega)
          have hbp_i := g_bp i (by omega) (by omega)
          have hbw_i := g_bw i (by omega) (by omega)
          refine lv_aload_n M.1 M.2.1 dX7_listen_33 rfl (lv_at hl 0 rfl) ?_
          refine lv_aload_n M.1 M.2.1 dX7_listen_34 rfl (lv_at hl 0 rfl) ?_
          refine zi_get (ci := 7) (v := .ref (ad (0 + 9))) M hE hP 0 rfl rfl zu_X7 17 (by decide) zk_fl_RX7_39 rfl rfl dX7_listen_35 ?_
          refine lv_iload_n M.1 M.2.1 dX7_listen_38 rfl (lv_at hl 3 rfl) ?_
          refine zi_iald M hE hP 9 (n := 6) (g := bp) rfl (Nat.le_of_ble_eq_true rfl) (by omega) (by omega) dX7_listen_39 ?_
          have hr_4 := g_bp i (by omega) (by omega)
          refine lv_aload_n M.1 M.2.1 dX7_listen_40 rfl (lv_at hl 0 rfl) ?_
          refine zi_get (ci := 7) (v := .ref (ad (0 + 11))) M hE hP 0 rfl rfl zu_X7 19 (by decide) zk_fl_RX7_45 rfl rfl dX7_listen_41 ?_
          refine lv_iload_n M.1 M.2.1 dX7_listen_44 rfl (lv_at hl 3 rfl) ?_
          refine zi_iald M hE hP 11 (n := 6) (g := bw) rfl (Nat.le_of_ble_eq_true rfl) (by omega) (by omega) dX7_listen_45 ?_
          have hr_5 := g_bw i (by omega) (by omega)
          refine zi_push M dX7_listen_46 ?_
          refine zi_push M dX7_listen_47 ?_
          refine lv_iload_n M.1 M.2.1 dX7_listen_48 rfl (lv_at hl 1 rfl) ?_
          refine lv_aload_n M.1 M.2.1 dX7_listen_49 rfl (lv_at hl 0 rfl) ?_
          refine zi_get (ci := 7) (v := .ref (ad (0 + 10))) M hE hP 0 rfl rfl zu_X7 18 (by decide) zk_fl_RX7_42 rfl rfl dX7_listen_50 ?_
          refine lv_iload_n M.1 M.2.1 dX7_listen_53 rfl (lv_at hl 3 rfl) ?_
          refine zi_iald M hE hP 10 (n := 6) (g := bo) rfl (Nat.le_of_ble_eq_true rfl) (by omega) (by omega) dX7_listen_54 ?_
          refine z_cW (z_runV (As := [.int (iI (bp i)), .int (iI (bw i)), .int (iI 2), .int (iI 2), .int (iI q), .int (iI (bo i))]) (rest := []) M (c_X7_signalOf l D cy z0 ad 0 h su st sh fl 0 sn bn xm xr cm em (ur 0) (ur 1) (ur 2) (ur 3) cS cH sea noi pl pw an hd bp bo bw c1 c2 c3 c4 c5 e1 e2 e3 e4 e5 (bp i) (bw i) 2 2 q (bo i) (by omega) (by omega) (by omega) (by omega) (by omega) (by omega) g_sea g_noi (by omega) (by omega) (by omega) (by omega) (by omega) (by omega)) hE hS hAz (z_cut hP hD hAz [0, 1, 2, 3, 4, 5, 6, 7, 8, 9, 10, 11, 12, 13, 14, 15, 16, 17, 18, 19, 20, 21] rfl (by decide +kernel)) (zRc.of (ci := 7) (q0 := 0) hE hP rfl rfl) zk_cd_X7_signalOf zk_in_RX7 zk_im_X7_signalOf zk_se_X7_signalOf zk_ml_RX7_170 rfl rfl zd_X7_signalOf ⟨by decide, by decide⟩ rfl hl.1 rfl (Nat.le_of_ble_eq_true rfl) dX7_listen_55 ⟨by decide, by decide⟩) hP hD hS [0, 1, 2, 3, 4, 5, 6, 7, 8, 9, 10, 11, 12, 13, 14, 15, 16, 17, 18, 19, 20, 21] rfl (fun _ => rfl) (fun r_6 u_6 H locs hp_6 hP hD hS => ?_)
          have hP : va_P D vwCl (mdlW ad 0 cy 0 h su st sh fl 0 sn bn xm xr cm em (u_6 0) (u_6 1) (u_6 2) (u_6 3) cS cH sea noi pl pw an hd bp bo bw c1 c2 c3 c4 c5 e1 e2 e3 e4 e5) H := hP
          have hD : va_D (zIn (mdlW ad 0 cy th h su st sh fl ic sn bn fm fr cm em lg le lf dl cS cH sea noi pl pw an hd bp bo bw c1 c2 c3 c4 c5 e1 e2 e3 e4 e5)) (mdlW ad 0 cy 0 h su st sh fl 0 sn bn xm xr cm em (u_6 0) (u_6 1) (u_6 2) (u_6 3) cS cH sea noi pl pw an hd bp bo bw c1 c2 c3 c4 c5 e1 e2 e3 e4 e5) := hD
          subst hp_6
          have hsg_6 : -1000 ≤ sigZ (mdE 0 h cS) (mdF 0 h su st) (mdD 0 h fl) sea noi h (bp i) q (bo i) (bw i) 2 2 ∧ sigZ (mdE 0 h cS) (mdF 0 h su st) (mdD 0 h fl) sea noi h (bp i) q (bo i) (bw i) 2 2 ≤ 88 := sigZ_rg (mdD_rg h_fl) g_noi (by omega) (by omega) (by omega) (by omega)
          refine zi_if_lt (tgt := 65) M dX7_listen_58 (by decide) (by omega) (fun c_7 => ?_) (fun c_7 => ?_)
          ·
            refine zi_push M dX7_listen_65 ?_
            refine lv_istore (lv' := [(4, .int (iI 0)), (0, .ref (ad 0)), (1, .int (iI q)), (2, .int (iI ln)), (3, .int (iI i))]) M.1 M.2.1 dX7_listen_66 hl (by decide) rfl (fun ls hl => ?_)
            refine lv_aload_n M.1 M.2.1 dX7_listen_68 rfl (lv_at hl 1 rfl) ?_
            refine zi_push M dX7_listen_69 ?_
            refine zi_put (ci := 7) (ws' := (mdlW ad 0 cy 0 h su st sh fl 1 sn bn xm xr cm em (u_6 0) (u_6 1) (u_6 2) (u_6 3) cS cH sea noi pl pw an hd bp bo bw c1 c2 c3 c4 c5 e1 e2 e3 e4 e5)) M hE hP hD hS 0 rfl rfl zu_X7 10 (by decide) zk_fl_RX7_114 rfl rfl tyX7_ok nmX7 rfl rfl (Nat.le_of_ble_eq_true rfl) rfl dX7_listen_70 (fun H locs hP hD hS => ?_)
            refine lv_aload_n M.1 M.2.1 dX7_listen_73 rfl (lv_at hl 1 rfl) ?_
            refine lv_aload_n M.1 M.2.1 dX7_listen_74 rfl (lv_at hl 1 rfl) ?_
            refine zi_get (ci := 7) (v := .ref (ad (0 + 9))) M hE hP 0 rfl rfl zu_X7 17 (by decide) zk_fl_RX7_39 rfl rfl dX7_listen_75 ?_
            refine lv_iload_n M.1 M.2.1 dX7_listen_78 rfl (lv_at hl 4 rfl) ?_
            refine zi_iald M hE hP 9 (n := 6) (g := bp) rfl (Nat.le_of_ble_eq_true rfl) (by omega) (by omega) dX7_listen_79 ?_
            have hr_8 := g_bp i (by omega) (by omega)
            refine lv_aload_n M.1 M.2.1 dX7_listen_80 rfl (lv_at hl 1 rfl) ?_
            refine zi_get (ci := 7) (v := .ref (ad (0 + 11))) M hE hP 0 rfl rfl zu_X7 19 (by decide) zk_fl_RX7_45 rfl rfl dX7_listen_81 ?_
            refine lv_iload_n M.1 M.2.1 dX7_listen_84 rfl (lv_at hl 4 rfl) ?_
            refine zi_iald M hE hP 11 (n := 6) (g := bw) rfl (Nat.le_of_ble_eq_true rfl) (by omega) (by omega) dX7_listen_85 ?_
            have hr_9 := g_bw i (by omega) (by omega)
            refine zi_push M dX7_listen_86 ?_
            refine zi_push M dX7_listen_87 ?_
            refine lv_iload_n M.1 M.2.1 dX7_listen_88 rfl (lv_at hl 2 rfl) ?_
            refine lv_aload_n M.1 M.2.1 dX7_listen_89 rfl (lv_at hl 1 rfl) ?_
            refine zi_get (ci := 7) (v := .ref (ad (0 + 10))) M hE hP 0 rfl rfl zu_X7 18 (by decide) zk_fl_RX7_42 rfl rfl dX7_listen_90 ?_
            refine lv_iload_n M.1 M.2.1 dX7_listen_93 rfl (lv_at hl 4 rfl) ?_
            refine zi_iald M hE hP 10 (n := 6) (g := bo) rfl (Nat.le_of_ble_eq_true rfl) (by omega) (by omega) dX7_listen_94 ?_
            refine z_cW (z_runV (As := [.int (iI (bp i)), .int (iI (bw i)), .int (iI 2), .int (iI 2), .int (iI q), .int (iI (bo i))]) (rest := []) M (c_X7_signalOf l D cy z0 ad 0 h su st sh fl 1 sn bn xm xr cm em (u_6 0) (u_6 1) (u_6 2) (u_6 3) cS cH sea noi pl pw an hd bp bo bw c1 c2 c3 c4 c5 e1 e2 e3 e4 e5 (bp i) (bw i) 2 2 q (bo i) (by omega) (by omega) (by omega) (by omega) (by omega) (by omega) g_sea g_noi (by omega) (by omega) (by omega) (by omega) (by omega) (by omega)) hE hS hAz (z_cut hP hD hAz [0, 1, 2, 3, 4, 5, 6, 7, 8, 9, 10, 11, 12, 13, 14, 15, 16, 17, 18, 19, 20, 21] rfl (by decide +kernel)) (zRc.of (ci := 7) (q0 := 0) hE hP rfl rfl) zk_cd_X7_signalOf zk_in_RX7 zk_im_X7_signalOf zk_se_X7_signalOf zk_ml_RX7_170 rfl rfl zd_X7_signalOf ⟨by decide, by decide⟩ rfl hl.1 rfl (Nat.le_of_ble_eq_true rfl) dX7_listen_95 ⟨by decide, by decide⟩) hP hD hS [0, 1, 2, 3, 4, 5, 6, 7, 8, 9, 10, 11, 12, 13, 14, 15, 16, 17, 18, 19, 20, 21] rfl (fun _ => rfl) (fun r_10 u_10 H locs hp_10 hP hD hS => ?_)
            have hP : va_P D vwCl (mdlW ad 0 cy 0 h su st sh fl 1 sn bn xm xr cm em (u_10 0) (u_10 1) (u_10 2) (u_10 3) cS cH sea noi pl pw an hd bp bo bw c1 c2 c3 c4 c5 e1 e2 e3 e4 e5) H := hP
            have hD : va_D (zIn (mdlW ad 0 cy th h su st sh fl ic sn bn fm fr cm em lg le lf dl cS cH sea noi pl pw an hd bp bo bw c1 c2 c3 c4 c5 e1 e2 e3 e4 e5)) (mdlW ad 0 cy 0 h su st sh fl 1 sn bn xm xr cm em (u_10 0) (u_10 1) (u_10 2) (u_10 3) cS cH sea noi pl pw an hd bp bo bw c1 c2 c3 c4 c5 e1 e2 e3 e4 e5) := hD
            subst hp_10
            have hsg_10 : -1000 ≤ sigZ (mdE 1 h cS) (mdF 1 h su st) (mdD 1 h fl) sea noi h (bp i) q (bo i) (bw i) 2 2 ∧ sigZ (mdE 1 h cS) (mdF 1 h su st) (mdD 1 h fl) sea noi h (bp i) q (bo i) (bw i) 2 2 ≤ 88 := sigZ_rg (mdD_rg h_fl) g_noi (by omega) (by omega) (by omega) (by omega)
            refine zi_if_lt (tgt := 105) M dX7_listen_98 (by decide) (by omega) (fun c_11 => ?_) (fun c_11 => ?_)
            ·
              refine zi_push M dX7_listen_105 ?_
              refine lv_istore (lv' := [(5, .int (iI 0)), (4, .int (iI 0)), (0, .ref (ad 0)), (1, .int (iI q)), (2, .int (iI ln)), (3, .int (iI i))]) M.1 M.2.1 dX7_listen_106 hl (by decide) rfl (fun ls hl => ?_)
              refine lv_aload_n M.1 M.2.1 dX7_listen_108 rfl (lv_at hl 2 rfl) ?_
              refine zi_push M dX7_listen_109 ?_
              refine zi_put (ci := 7) (ws' := (mdlW ad 0 cy 0 h su st sh fl 0 sn bn xm xr cm em (u_10 0) (u_10 1) (u_10 2) (u_10 3) cS cH sea noi pl pw an hd bp bo bw c1 c2 c3 c4 c5 e1 e2 e3 e4 e5)) M hE hP hD hS 0 rfl rfl zu_X7 10 (by decide) zk_fl_RX7_114 rfl rfl tyX7_ok nmX7 rfl rfl (Nat.le_of_ble_eq_true rfl) rfl dX7_listen_110 (fun H locs hP hD hS => ?_)
              refine lv_aload_n M.1 M.2.1 dX7_listen_113 rfl (lv_at hl 2 rfl) ?_
              refine lv_dup M.1 M.2.1 dX7_listen_114 rfl ?_
              refine zi_get (ci := 7) (v := .int (iI xm)) M hE hP 0 rfl rfl zu_X7 20 (by decide) zk_fl_RX7_190 rfl rfl dX7_listen_115 ?_
              refine zi_push M dX7_listen_118 ?_
              refine zi_iadd M dX7_listen_119 ?_
              refine zi_put (ci := 7) (ws' := (mdlW ad 0 cy 0 h su st sh fl 0 sn bn (xm + 1) xr cm em (u_10 0) (u_10 1) (u_10 2) (u_10 3) cS cH sea noi pl pw an hd bp bo bw c1 c2 c3 c4 c5 e1 e2 e3 e4 e5)) M hE hP hD hS 0 rfl rfl zu_X7 20 (by decide) zk_fl_RX7_190 rfl rfl tyX7_ok nmX7 rfl rfl (Nat.le_of_ble_eq_true rfl) rfl dX7_listen_120 (fun H locs hP hD hS => ?_)
              refine lv_aload_n M.1 M.2.1 dX7_listen_123 rfl (lv_at hl 2 rfl) ?_
              refine lv_dup M.1 M.2.1 dX7_listen_124 rfl ?_
              refine zi_get (ci := 7) (v := .int (iI xr)) M hE hP 0 rfl rfl zu_X7 21 (by decide) zk_fl_RX7_193 rfl rfl dX7_listen_125 ?_
              refine lv_iload M.1 M.2.1 dX7_listen_128 (lv_at hl 1 rfl) ?_
              refine lv_iload M.1 M.2.1 dX7_listen_130 (lv_at hl 0 rfl) ?_
              refine zi_icmp_ne (tgt := 139) M dX7_listen_132 (by decide) ⟨by decide, by decide⟩ ⟨by decide, by decide⟩ (fun q => absurd q (by decide)) (fun _ => ?_)
              refine zi_push M dX7_listen_135 ?_
              refine zi_goto (tgt := 140) M dX7_listen_136 (by decide) ?_
              refine zi_iadd M dX7_listen_140 ?_
              refine zi_put (ci := 7) (ws' := (mdlW ad 0 cy 0 h su st sh fl 0 sn bn (xm + 1) (xr + 1) cm em (u_10 0) (u_10 1) (u_10 2) (u_10 3) cS cH sea noi pl pw an hd bp bo bw c1 c2 c3 c4 c5 e1 e2 e3 e4 e5)) M hE hP hD hS 0 rfl rfl zu_X7 21 (by decide) zk_fl_RX7_193 rfl rfl tyX7_ok nmX7 rfl rfl (Nat.le_of_ble_eq_true rfl) rfl dX7_listen_141 (fun H locs hP hD hS => ?_)
              refine lv_iload_n M.1 M.2.1 dX7_listen_144 rfl (lv_at hl 4 rfl) ?_
              refine lv_iload M.1 M.2.1 dX7_listen_145 (lv_at hl 1 rfl) ?_
              refine zi_if_eq (tgt := 156) M dX7_listen_147 (by decide) ⟨by decide, by decide⟩ (fun _ => ?_) (fun q => absurd q (by decide))
              refine zi_push M dX7_listen_156 ?_
              refine zi_or0 M hlr dX7_listen_157 ?_
              refine lv_istore_n (lv' := [(2, .int (iI ln)), (5, .int (iI 0)), (4, .int (iI 0)), (0, .ref (ad 0)), (1, .int (iI q)), (3, .int (iI i))]) M.1 M.2.1 dX7_listen_158 rfl hl (by decide) rfl (fun ls hl => ?_)
              refine zi_iinc (lv' := [(3, .int (iI (i + 1))), (2, .int (iI ln)), (5, .int (iI 0)), (4, .int (iI 0)), (0, .ref (ad 0)), (1, .int (iI q))]) M dX7_listen_159 hl 5 rfl (by decide) rfl (fun ls hl => ?_)
              refine zi_goto (tgt := 25) M dX7_listen_162 (by decide) ?_
              exact ih_25 ln (i + 1) u_10 (xm + 1) (xr + 1) (by omega) (liF_n hi.1 hb (by simp only [hrP]; omega)) (lrF_s hi.1 hrr (by simp only [hrP]; omega)) (by omega) (by omega) _ _ hP hD hS ls (lv_sub hl [4, 5, 1, 0] rfl)
            ·
              refine zi_push M dX7_listen_101 ?_
              refine zi_goto (tgt := 106) M dX7_listen_102 (by decide) ?_
              refine lv_istore (lv' := [(5, .int (iI 1)), (4, .int (iI 0)), (0, .ref (ad 0)), (1, .int (iI q)), (2, .int (iI ln)), (3, .int (iI i))]) M.1 M.2.1 dX7_listen_106 hl (by decide) rfl (fun ls hl => ?_)
              refine lv_aload_n M.1 M.2.1 dX7_listen_108 rfl (lv_at hl 2 rfl) ?_
              refine zi_push M dX7_listen_109 ?_
              refine zi_put (ci := 7) (ws' := (mdlW ad 0 cy 0 h su st sh fl 0 sn bn xm xr cm em (u_10 0) (u_10 1) (u_10 2) (u_10 3) cS cH sea noi pl pw an hd bp bo bw c1 c2 c3 c4 c5 e1 e2 e3 e4 e5)) M hE hP hD hS 0 rfl rfl zu_X7 10 (by decide) zk_fl_RX7_114 rfl rfl tyX7_ok nmX7 rfl rfl (Nat.le_of_ble_eq_true rfl) rfl dX7_listen_110 (fun H locs hP hD hS => ?_)
              refine lv_aload_n M.1 M.2.1 dX7_listen_113 rfl (lv_at hl 2 rfl) ?_
              refine lv_dup M.1 M.2.1 dX7_listen_114 rfl ?_
              refine zi_get (ci := 7) (v := .int (iI xm)) M hE hP 0 rfl rfl zu_X7 20 (by decide) zk_fl_RX7_190 rfl rfl dX7_listen_115 ?_
              refine zi_push M dX7_listen_118 ?_
              refine zi_iadd M dX7_listen_119 ?_
              refine zi_put (ci := 7) (ws' := (mdlW ad 0 cy 0 h su st sh fl 0 sn bn (xm + 1) xr cm em (u_10 0) (u_10 1) (u_10 2) (u_10 3) cS cH sea noi pl pw an hd bp bo bw c1 c2 c3 c4 c5 e1 e2 e3 e4 e5)) M hE hP hD hS 0 rfl rfl zu_X7 20 (by decide) zk_fl_RX7_190 rfl rfl tyX7_ok nmX7 rfl rfl (Nat.le_of_ble_eq_true rfl) rfl dX7_listen_120 (fun H locs hP hD hS => ?_)
              refine lv_aload_n M.1 M.2.1 dX7_listen_123 rfl (lv_at hl 2 rfl) ?_
              refine lv_dup M.1 M.2.1 dX7_listen_124 rfl ?_
              refine zi_get (ci := 7) (v := .int (iI xr)) M hE hP 0 rfl rfl zu_X7 21 (by decide) zk_fl_RX7_193 rfl rfl dX7_listen_125 ?_
              refine lv_iload M.1 M.2.1 dX7_listen_128 (lv_at hl 1 rfl) ?_
              refine lv_iload M.1 M.2.1 dX7_listen_130 (lv_at hl 0 rfl) ?_
              refine zi_icmp_ne (tgt := 139) M dX7_listen_132 (by decide) ⟨by decide, by decide⟩ ⟨by decide, by decide⟩ (fun _ => ?_) (fun q => absurd q (by decide))
              refine zi_push M dX7_listen_139 ?_
              refine zi_iadd M dX7_listen_140 ?_
              refine zi_put (ci := 7) (ws' := (mdlW ad 0 cy 0 h su st sh fl 0 sn bn (xm + 1) (xr + 0) cm em (u_10 0) (u_10 1) (u_10 2) (u_10 3) cS cH sea noi pl pw an hd bp bo bw c1 c2 c3 c4 c5 e1 e2 e3 e4 e5)) M hE hP hD hS 0 rfl rfl zu_X7 21 (by decide) zk_fl_RX7_193 rfl rfl tyX7_ok nmX7 rfl rfl (Nat.le_of_ble_eq_true rfl) rfl dX7_listen_141 (fun H locs hP hD hS => ?_)
              refine lv_iload_n M.1 M.2.1 dX7_listen_144 rfl (lv_at hl 4 rfl) ?_
              refine lv_iload M.1 M.2.1 dX7_listen_145 (lv_at hl 1 rfl) ?_
              refine zi_if_eq (tgt := 156) M dX7_listen_147 (by decide) ⟨by decide, by decide⟩ (fun _ => ?_) (fun q => absurd q (by decide))
              refine zi_push M dX7_listen_156 ?_
              refine zi_or0 M hlr dX7_listen_157 ?_
              refine lv_istore_n (lv' := [(2, .int (iI ln)), (5, .int (iI 1)), (4, .int (iI 0)), (0, .ref (ad 0)), (1, .int (iI q)), (3, .int (iI i))]) M.1 M.2.1 dX7_listen_158 rfl hl (by decide) rfl (fun ls hl => ?_)
              refine zi_iinc (lv' := [(3, .int (iI (i + 1))), (2, .int (iI ln)), (5, .int (iI 1)), (4, .int (iI 0)), (0, .ref (ad 0)), (1, .int (iI q))]) M dX7_listen_159 hl 5 rfl (by decide) rfl (fun ls hl => ?_)
              refine zi_goto (tgt := 25) M dX7_listen_162 (by decide) ?_
              exact ih_25 ln (i + 1) u_10 (xm + 1) (xr + 0) (by omega) (liF_n hi.1 hb (by simp only [hrP]; omega)) (by rw [Int.add_zero]; exact lrF_n hi.1 hrr (by simp only [hrP]; omega)) (by omega) (by omega) _ _ hP hD hS ls (lv_sub hl [4, 5, 1, 0] rfl)
          ·
            refine zi_push M dX7_listen_61 ?_
            refine zi_goto (tgt := 66) M dX7_listen_62 (by decide) ?_
            refine lv_istore (lv' := [(4, .int (iI 1)), (0, .ref (ad 0)), (1, .int (iI q)), (2, .int (iI ln)), (3, .int (iI i))]) M.1 M.2.1 dX7_listen_66 hl (by decide) rfl (fun ls hl => ?_)
            refine lv_aload_n M.1 M.2.1 dX7_listen_68 rfl (lv_at hl 1 rfl) ?_
            refine zi_push M dX7_listen_69 ?_
            refine zi_put (ci := 7) (ws' := (mdlW ad 0 cy 0 h su st sh fl 1 sn bn xm xr cm em (u_6 0) (u_6 1) (u_6 2) (u_6 3) cS cH sea noi pl pw an hd bp bo bw c1 c2 c3 c4 c5 e1 e2 e3 e4 e5)) M hE hP hD hS 0 rfl rfl zu_X7 10 (by decide) zk_fl_RX7_114 rfl rfl tyX7_ok nmX7 rfl rfl (Nat.le_of_ble_eq_true rfl) rfl dX7_listen_70 (fun H locs hP hD hS => ?_)
            refine lv_aload_n M.1 M.2.1 dX7_listen_73 rfl (lv_at hl 1 rfl) ?_
            refine lv_aload_n M.1 M.2.1 dX7_listen_74 rfl (lv_at hl 1 rfl) ?_
            refine zi_get (ci := 7) (v := .ref (ad (0 + 9))) M hE hP 0 rfl rfl zu_X7 17 (by decide) zk_fl_RX7_39 rfl rfl dX7_listen_75 ?_
            refine lv_iload_n M.1 M.2.1 dX7_listen_78 rfl (lv_at hl 4 rfl) ?_
            refine zi_iald M hE hP 9 (n := 6) (g := bp) rfl (Nat.le_of_ble_eq_true rfl) (by omega) (by omega) dX7_listen_79 ?_
            have hr_12 := g_bp i (by omega) (by omega)
            refine lv_aload_n M.1 M.2.1 dX7_listen_80 rfl (lv_at hl 1 rfl) ?_
            refine zi_get (ci := 7) (v := .ref (ad (0 + 11))) M hE hP 0 rfl rfl zu_X7 19 (by decide) zk_fl_RX7_45 rfl rfl dX7_listen_81 ?_
            refine lv_iload_n M.1 M.2.1 dX7_listen_84 rfl (lv_at hl 4 rfl) ?_
            refine zi_iald M hE hP 11 (n := 6) (g := bw) rfl (Nat.le_of_ble_eq_true rfl) (by omega) (by omega) dX7_listen_85 ?_
            have hr_13 := g_bw i (by omega) (by omega)
            refine zi_push M dX7_listen_86 ?_
            refine zi_push M dX7_listen_87 ?_
            refine lv_iload_n M.1 M.2.1 dX7_listen_88 rfl (lv_at hl 2 rfl) ?_
            refine lv_aload_n M.1 M.2.1 dX7_listen_89 rfl (lv_at hl 1 rfl) ?_
            refine zi_get (ci := 7) (v := .ref (ad (0 + 10))) M hE hP 0 rfl rfl zu_X7 18 (by decide) zk_fl_RX7_42 rfl rfl dX7_listen_90 ?_
            refine lv_iload_n M.1 M.2.1 dX7_listen_93 rfl (lv_at hl 4 rfl) ?_
            refine zi_iald M hE hP 10 (n := 6) (g := bo) rfl (Nat.le_of_ble_eq_true rfl) (by omega) (by omega) dX7_listen_94 ?_
            refine z_cW (z_runV (As := [.int (iI (bp i)), .int (iI (bw i)), .int (iI 2), .int (iI 2), .int (iI q), .int (iI (bo i))]) (rest := []) M (c_X7_signalOf l D cy z0 ad 0 h su st sh fl 1 sn bn xm xr cm em (u_6 0) (u_6 1) (u_6 2) (u_6 3) cS cH sea noi pl pw an hd bp bo bw c1 c2 c3 c4 c5 e1 e2 e3 e4 e5 (bp i) (bw i) 2 2 q (bo i) (by omega) (by omega) (by omega) (by omega) (by omega) (by omega) g_sea g_noi (by omega) (by omega) (by omega) (by omega) (by omega) (by omega)) hE hS hAz (z_cut hP hD hAz [0, 1, 2, 3, 4, 5, 6, 7, 8, 9, 10, 11, 12, 13, 14, 15, 16, 17, 18, 19, 20, 21] rfl (by decide +kernel)) (zRc.of (ci := 7) (q0 := 0) hE hP rfl rfl) zk_cd_X7_signalOf zk_in_RX7 zk_im_X7_signalOf zk_se_X7_signalOf zk_ml_RX7_170 rfl rfl zd_X7_signalOf ⟨by decide, by decide⟩ rfl hl.1 rfl (Nat.le_of_ble_eq_true rfl) dX7_listen_95 ⟨by decide, by decide⟩) hP hD hS [0, 1, 2, 3, 4, 5, 6, 7, 8, 9, 10, 11, 12, 13, 14, 15, 16, 17, 18, 19, 20, 21] rfl (fun _ => rfl) (fun r_14 u_14 H locs hp_14 hP hD hS => ?_)
            have hP : va_P D vwCl (mdlW ad 0 cy 0 h su st sh fl 1 sn bn xm xr cm em (u_14 0) (u_14 1) (u_14 2) (u_14 3) cS cH sea noi pl pw an hd bp bo bw c1 c2 c3 c4 c5 e1 e2 e3 e4 e5) H := hP
            have hD : va_D (zIn (mdlW ad 0 cy th h su st sh fl ic sn bn fm fr cm em lg le lf dl cS cH sea noi pl pw an hd bp bo bw c1 c2 c3 c4 c5 e1 e2 e3 e4 e5)) (mdlW ad 0 cy 0 h su st sh fl 1 sn bn xm xr cm em (u_14 0) (u_14 1) (u_14 2) (u_14 3) cS cH sea noi pl pw an hd bp bo bw c1 c2 c3 c4 c5 e1 e2 e3 e4 e5) := hD
            subst hp_14
            have hsg_14 : -1000 ≤ sigZ (mdE 1 h cS) (mdF 1 h su st) (mdD 1 h fl) sea noi h (bp i) q (bo i) (bw i) 2 2 ∧ sigZ (mdE 1 h cS) (mdF 1 h su st) (mdD 1 h fl) sea noi h (bp i) q (bo i) (bw i) 2 2 ≤ 88 := sigZ_rg (mdD_rg h_fl) g_noi (by omega) (by omega) (by omega) (by omega)
            refine zi_if_lt (tgt := 105) M dX7_listen_98 (by decide) (by omega) (fun c_15 => ?_) (fun c_15 => ?_)
            ·
              refine zi_push M dX7_listen_105 ?_
              refine lv_istore (lv' := [(5, .int (iI 0)), (4, .int (iI 1)), (0, .ref (ad 0)), (1, .int (iI q)), (2, .int (iI ln)), (3, .int (iI i))]) M.1 M.2.1 dX7_listen_106 hl (by decide) rfl (fun ls hl => ?_)
              refine lv_aload_n M.1 M.2.1 dX7_listen_108 rfl (lv_at hl 2 rfl) ?_
              refine zi_push M dX7_listen_109 ?_
              refine zi_put (ci := 7) (ws' := (mdlW ad 0 cy 0 h su st sh fl 0 sn bn xm xr cm em (u_14 0) (u_14 1) (u_14 2) (u_14 3) cS cH sea noi pl pw an hd bp bo bw c1 c2 c3 c4 c5 e1 e2 e3 e4 e5)) M hE hP hD hS 0 rfl rfl zu_X7 10 (by decide) zk_fl_RX7_114 rfl rfl tyX7_ok nmX7 rfl rfl (Nat.le_of_ble_eq_true rfl) rfl dX7_listen_110 (fun H locs hP hD hS => ?_)
              refine lv_aload_n M.1 M.2.1 dX7_listen_113 rfl (lv_at hl 2 rfl) ?_
              refine lv_dup M.1 M.2.1 dX7_listen_114 rfl ?_
              refine zi_get (ci := 7) (v := .int (iI xm)) M hE hP 0 rfl rfl zu_X7 20 (by decide) zk_fl_RX7_190 rfl rfl dX7_listen_115 ?_
              refine zi_push M dX7_listen_118 ?_
              refine zi_iadd M dX7_listen_119 ?_
              refine zi_put (ci := 7) (ws' := (mdlW ad 0 cy 0 h su st sh fl 0 sn bn (xm + 1) xr cm em (u_14 0) (u_14 1) (u_14 2) (u_14 3) cS cH sea noi pl pw an hd bp bo bw c1 c2 c3 c4 c5 e1 e2 e3 e4 e5)) M hE hP hD hS 0 rfl rfl zu_X7 20 (by decide) zk_fl_RX7_190 rfl rfl tyX7_ok nmX7 rfl rfl (Nat.le_of_ble_eq_true rfl) rfl dX7_listen_120 (fun H locs hP hD hS => ?_)
              refine lv_aload_n M.1 M.2.1 dX7_listen_123 rfl (lv_at hl 2 rfl) ?_
              refine lv_dup M.1 M.2.1 dX7_listen_124 rfl ?_
              refine zi_get (ci := 7) (v := .int (iI xr)) M hE hP 0 rfl rfl zu_X7 21 (by decide) zk_fl_RX7_193 rfl rfl dX7_listen_125 ?_
              refine lv_iload M.1 M.2.1 dX7_listen_128 (lv_at hl 1 rfl) ?_
              refine lv_iload M.1 M.2.1 dX7_listen_130 (lv_at hl 0 rfl) ?_
              refine zi_icmp_ne (tgt := 139) M dX7_listen_132 (by decide) ⟨by decide, by decide⟩ ⟨by decide, by decide⟩ (fun _ => ?_) (fun q => absurd q (by decide))
              refine zi_push M dX7_listen_139 ?_
              refine zi_iadd M dX7_listen_140 ?_
              refine zi_put (ci := 7) (ws' := (mdlW ad 0 cy 0 h su st sh fl 0 sn bn (xm + 1) (xr + 0) cm em (u_14 0) (u_14 1) (u_14 2) (u_14 3) cS cH sea noi pl pw an hd bp bo bw c1 c2 c3 c4 c5 e1 e2 e3 e4 e5)) M hE hP hD hS 0 rfl rfl zu_X7 21 (by decide) zk_fl_RX7_193 rfl rfl tyX7_ok nmX7 rfl rfl (Nat.le_of_ble_eq_true rfl) rfl dX7_listen_141 (fun H locs hP hD hS => ?_)
              refine lv_iload_n M.1 M.2.1 dX7_listen_144 rfl (lv_at hl 4 rfl) ?_
              refine lv_iload M.1 M.2.1 dX7_listen_145 (lv_at hl 1 rfl) ?_
              refine zi_if_eq (tgt := 156) M dX7_listen_147 (by decide) ⟨by decide, by decide⟩ (fun q => absurd q (by decide)) (fun _ => ?_)
              refine zi_push M dX7_listen_150 ?_
              refine lv_iload_n M.1 M.2.1 dX7_listen_151 rfl (lv_at hl 5 rfl) ?_
              refine zi_orshlG (tgt := 157) M hlr (by omega) dX7_listen_152 dX7_listen_153 (by decide) dX7_listen_157 ?_
              refine lv_istore_n (lv' := [(2, .int (iI (orZ ln i))), (5, .int (iI 0)), (4, .int (iI 1)), (0, .ref (ad 0)), (1, .int (iI q)), (3, .int (iI i))]) M.1 M.2.1 dX7_listen_158 rfl hl (by decide) rfl (fun ls hl => ?_)
              refine zi_iinc (lv' := [(3, .int (iI (i + 1))), (2, .int (iI (orZ ln i))), (5, .int (iI 0)), (4, .int (iI 1)), (0, .ref (ad 0)), (1, .int (iI q))]) M dX7_listen_159 hl 5 rfl (by decide) rfl (fun ls hl => ?_)
              refine zi_goto (tgt := 25) M dX7_listen_162 (by decide) ?_
              exact ih_25 (orZ ln i) (i + 1) u_14 (xm + 1) (xr + 0) (by omega) (liF_s hi.1 hb (by simp only [hrP]; omega)) (by rw [Int.add_zero]; exact lrF_n hi.1 hrr (by simp only [hrP]; omega)) (by omega) (by omega) _ _ hP hD hS ls (lv_sub hl [4, 5, 1, 0] rfl)
            ·
              refine zi_push M dX7_listen_101 ?_
              refine zi_goto (tgt := 106) M dX7_listen_102 (by decide) ?_
              refine lv_istore (lv' := [(5, .int (iI 1)), (4, .int (iI 1)), (0, .ref (ad 0)), (1, .int (iI q)), (2, .int (iI ln)), (3, .int (iI i))]) M.1 M.2.1 dX7_listen_106 hl (by decide) rfl (fun ls hl => ?_)
              refine lv_aload_n M.1 M.2.1 dX7_listen_108 rfl (lv_at hl 2 rfl) ?_
              refine zi_push M dX7_listen_109 ?_
              refine zi_put (ci := 7) (ws' := (mdlW ad 0 cy 0 h su st sh fl 0 sn bn xm xr cm em (u_14 0) (u_14 1) (u_14 2) (u_14 3) cS cH sea noi pl pw an hd bp bo bw c1 c2 c3 c4 c5 e1 e2 e3 e4 e5)) M hE hP hD hS 0 rfl rfl zu_X7 10 (by decide) zk_fl_RX7_114 rfl rfl tyX7_ok nmX7 rfl rfl (Nat.le_of_ble_eq_true rfl) rfl dX7_listen_110 (fun H locs hP hD hS => ?_)
              refine lv_aload_n M.1 M.2.1 dX7_listen_113 rfl (lv_at hl 2 rfl) ?_
              refine lv_dup M.1 M.2.1 dX7_listen_114 rfl ?_
              refine zi_get (ci := 7) (v := .int (iI xm)) M hE hP 0 rfl rfl zu_X7 20 (by decide) zk_fl_RX7_190 rfl rfl dX7_listen_115 ?_
              refine zi_push M dX7_listen_118 ?_
              refine zi_iadd M dX7_listen_119 ?_
              refine zi_put (ci := 7) (ws' := (mdlW ad 0 cy 0 h su st sh fl 0 sn bn (xm + 1) xr cm em (u_14 0) (u_14 1) (u_14 2) (u_14 3) cS cH sea noi pl pw an hd bp bo bw c1 c2 c3 c4 c5 e1 e2 e3 e4 e5)) M hE hP hD hS 0 rfl rfl zu_X7 20 (by decide) zk_fl_RX7_190 rfl rfl tyX7_ok nmX7 rfl rfl (Nat.le_of_ble_eq_true rfl) rfl dX7_listen_120 (fun H locs hP hD hS => ?_)
              refine lv_aload_n M.1 M.2.1 dX7_listen_123 rfl (lv_at hl 2 rfl) ?_
              refine lv_dup M.1 M.2.1 dX7_listen_124 rfl ?_
              refine zi_get (ci := 7) (v := .int (iI xr)) M hE hP 0 rfl rfl zu_X7 21 (by decide) zk_fl_RX7_193 rfl rfl dX7_listen_125 ?_
              refine lv_iload M.1 M.2.1 dX7_listen_128 (lv_at hl 1 rfl) ?_
              refine lv_iload M.1 M.2.1 dX7_listen_130 (lv_at hl 0 rfl) ?_
              refine zi_icmp_ne (tgt := 139) M dX7_listen_132 (by decide) ⟨by decide, by decide⟩ ⟨by decide, by decide⟩ (fun q => absurd q (by decide)) (fun _ => ?_)
              refine zi_push M dX7_listen_135 ?_
              refine zi_goto (tgt := 140) M dX7_listen_136 (by decide) ?_
              refine zi_iadd M dX7_listen_140 ?_
              refine zi_put (ci := 7) (ws' := (mdlW ad 0 cy 0 h su st sh fl 0 sn bn (xm + 1) (xr + 1) cm em (u_14 0) (u_14 1) (u_14 2) (u_14 3) cS cH sea noi pl pw an hd bp bo bw c1 c2 c3 c4 c5 e1 e2 e3 e4 e5)) M hE hP hD hS 0 rfl rfl zu_X7 21 (by decide) zk_fl_RX7_193 rfl rfl tyX7_ok nmX7 rfl rfl (Nat.le_of_ble_eq_true rfl) rfl dX7_listen_141 (fun H locs hP hD hS => ?_)
              refine lv_iload_n M.1 M.2.1 dX7_listen_144 rfl (lv_at hl 4 rfl) ?_
              refine lv_iload M.1 M.2.1 dX7_listen_145 (lv_at hl 1 rfl) ?_
              refine zi_if_eq (tgt := 156) M dX7_listen_147 (by decide) ⟨by decide, by decide⟩ (fun q => absurd q (by decide)) (fun _ => ?_)
              refine zi_push M dX7_listen_150 ?_
              refine lv_iload_n M.1 M.2.1 dX7_listen_151 rfl (lv_at hl 5 rfl) ?_
              refine zi_orshlG (tgt := 157) M hlr (by omega) dX7_listen_152 dX7_listen_153 (by decide) dX7_listen_157 ?_
              refine lv_istore_n (lv' := [(2, .int (iI (orZ ln i))), (5, .int (iI 1)), (4, .int (iI 1)), (0, .ref (ad 0)), (1, .int (iI q)), (3, .int (iI i))]) M.1 M.2.1 dX7_listen_158 rfl hl (by decide) rfl (fun ls hl => ?_)
              refine zi_iinc (lv' := [(3, .int (iI (i + 1))), (2, .int (iI (orZ ln i))), (5, .int (iI 1)), (4, .int (iI 1)), (0, .ref (ad 0)), (1, .int (iI q))]) M dX7_listen_159 hl 5 rfl (by decide) rfl (fun ls hl => ?_)
              refine zi_goto (tgt := 25) M dX7_listen_162 (by decide) ?_
              exact ih_25 (orZ ln i) (i + 1) u_14 (xm + 1) (xr + 1) (by omega) (liF_s hi.1 hb (by simp only [hrP]; omega)) (lrF_s hi.1 hrr (by simp only [hrP]; omega)) (by omega) (by omega) _ _ hP hD hS ls (lv_sub hl [4, 5, 1, 0] rfl)
    exact L_25 (Int.toNat (bn - 0) + 1) 0 0 (u8 lg le lf dl 0 0 0 0) fm fr (by omega) rfl (by show fr = fr + 0; omega) (by omega) (by omega) _ _ hP hD hS ls (lv_sub hl [2, 3, 1, 0] rfl)
  ·
    refine zi_if_eq (tgt := 12) M dX7_listen_5 (by decide) ⟨by decide, by decide⟩ (fun _ => ?_) (fun q => absurd q (by decide))
    refine zi_push M dX7_listen_12 ?_
    refine z_cW (z_runV (As := [.int (iI 1)]) (rest := []) M (c_X7_goesWell l D cy z0 ad th h su st sh fl ic sn bn fm fr cm em lg le lf dl cS cH sea noi pl pw an hd bp bo bw c1 c2 c3 c4 c5 e1 e2 e3 e4 e5 1 (by omega)) hE hS hAz (z_cut hP hD hAz [0, 1, 2, 3, 4, 5, 6, 7, 8, 9, 10, 11, 12, 13, 14, 15, 16, 17, 18, 19, 20, 21] rfl (by decide +kernel)) (zRc.of (ci := 7) (q0 := 0) hE hP rfl rfl) zk_cd_X7_goesWell zk_in_RX7 zk_im_X7_goesWell zk_se_X7_goesWell zk_ml_RX7_88 rfl rfl zd_X7_goesWell ⟨by decide, by decide⟩ rfl hl.1 rfl (Nat.le_of_ble_eq_true rfl) dX7_listen_13 ⟨by decide, by decide⟩) hP hD hS [0, 1, 2, 3, 4, 5, 6, 7, 8, 9, 10, 11, 12, 13, 14, 15, 16, 17, 18, 19, 20, 21] rfl (fun _ => rfl) (fun r_16 u_16 H locs hp_16 hP hD hS => ?_)
    have hP : va_P D vwCl (mdlW ad 0 cy 1 h su st sh fl ic sn bn fm fr cm em lg le lf dl cS cH sea noi pl pw an hd bp bo bw c1 c2 c3 c4 c5 e1 e2 e3 e4 e5) H := hP
    have hD : va_D (zIn (mdlW ad 0 cy th h su st sh fl ic sn bn fm fr cm em lg le lf dl cS cH sea noi pl pw an hd bp bo bw c1 c2 c3 c4 c5 e1 e2 e3 e4 e5)) (mdlW ad 0 cy 1 h su st sh fl ic sn bn fm fr cm em lg le lf dl cS cH sea noi pl pw an hd bp bo bw c1 c2 c3 c4 c5 e1 e2 e3 e4 e5) := hD
    subst hp_16
    refine z_rw (b := 0) rfl ?_
    refine zi_if_ne (tgt := 21) M dX7_listen_16 (by decide) ⟨by decide, by decide⟩ (fun q => absurd q (by decide)) (fun _ => ?_)
    refine zi_push M dX7_listen_19 ?_
    have hP : va_P D vwCl (mdlW ad 0 cy ((u8 lg le lf dl 1 0 0 0) 4) h su st sh fl (if (u8 lg le lf dl 1 0 0 0) 4 = 0 then 0 else ic) sn bn (if (u8 lg le lf dl 1 0 0 0) 4 = 0 then (fm + bn) else fm) (if (u8 lg le lf dl 1 0 0 0) 4 = 0 then (fr + lrF (mdE 0 h cS) (mdF 0 h su st) (mdD 0 h fl) (mdE 1 h cS) (mdF 1 h su st) (mdD 1 h fl) sea noi h bp bw (fun _ => 2) (fun _ => 2) bo q bn.toNat) else fr) cm em ((u8 lg le lf dl 1 0 0 0) 0) ((u8 lg le lf dl 1 0 0 0) 1) ((u8 lg le lf dl 1 0 0 0) 2) ((u8 lg le lf dl 1 0 0 0) 3) cS cH sea noi pl pw an hd bp bo bw c1 c2 c3 c4 c5 e1 e2 e3 e4 e5) H := hP
    exact zw_i M hr hlk (u8 lg le lf dl 1 0 0 0) hP hS (by exact Or.inr (⟨rfl, by omega, rfl⟩)) (by decide) (by decide) dX7_listen_20
