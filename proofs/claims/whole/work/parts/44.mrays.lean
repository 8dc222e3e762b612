/-! contracts: the model, rays -/
set_option maxRecDepth 100000 in
set_option maxHeartbeats 4000000 in
theorem c_X7_followBy (l : Launch) (D : va_G) (cy : Nat → ClassId) (z0 : Nat) (ad : Nat → Nat) (th h su st sh fl ic sn bn fm fr cm em lg le lf dl : Int) (cS cH sea noi pl pw an hd bp bo bw c1 c2 c3 c4 c5 e1 e2 e3 e4 e5 : Int → Int) (q : Int) (t : Int) (n : Int) (f : Int) (w : Int) (h_h : 0 ≤ h ∧ h ≤ 5000) (h_su : 0 ≤ su ∧ su ≤ 100) (h_st : 0 ≤ st ∧ st ≤ 60) (h_fl : 0 ≤ fl ∧ fl ≤ 80) (h_cS : zrg 48 0 100 cS) (h_ic : 0 ≤ ic ∧ ic ≤ 1) (g_sea : zrg 48 0 1 sea) (hq : 0 ≤ q ∧ q < 48) (ht0 : 0 ≤ t ∧ t < 48) (hn : 0 ≤ n ∧ n < 18) (hf : 10 ≤ f ∧ f ≤ 300) (hw : 0 ≤ w ∧ w ≤ 300) : Met l yX7_followBy [.code yX7_followBy cX7_followBy 6 (some .boolean)] (zRm 5 0 0 126) (zPc [.ref (ad 0), .int (iI q), .int (iI t), .int (iI n), .int (iI f), .int (iI w)] D cy z0 (zWl D z0 (mdlW ad 0 cy th h su st sh fl ic sn bn fm fr cm em lg le lf dl cS cH sea noi pl pw an hd bp bo bw c1 c2 c3 c4 c5 e1 e2 e3 e4 e5))) (zQ1 D (mdlW ad 0 cy th h su st sh fl ic sn bn fm fr cm em lg le lf dl cS cH sea noi pl pw an hd bp bo bw c1 c2 c3 c4 c5 e1 e2 e3 e4 e5) (fun (r : Int32) (u : Nat → Int) => (∃ w2 lg2 le2 dl2 : Int, rayZ (mdE ic h cS) (mdF ic h su st) (mdD ic h fl) sea q t f w n = some (w2, lg2, le2, dl2) ∧ r = iI 1 ∧ u = u8 lg2 le2 w2 dl2 0 0 0 0) ∨ (rayZ (mdE ic h cS) (mdF ic h su st) (mdD ic h fl) sea q t f w n = none ∧ r = iI 0)) (fun (u : Nat → Int) => (mdlW ad 0 cy th h su st sh fl ic sn bn fm fr cm em (u 0) (u 1) (u 2) (u 3) cS cH sea noi pl pw an hd bp bo bw c1 c2 c3 c4 c5 e1 e2 e3 e4 e5))) 0 0 (zIn (mdlW ad 0 cy th h su st sh fl ic sn bn fm fr cm em lg le lf dl cS cH sea noi pl pw an hd bp bo bw c1 c2 c3 c4 c5 e1 e2 e3 e4 e5)) := by
  refine z_of (by decide) (Nat.le_of_ble_eq_true rfl) ?_
  intro p e s m args below meth c M hr hlk hini hargs hP0 hE ls hl
  have hP : va_P D vwCl (mdlW ad 0 cy th h su st sh fl ic sn bn fm fr cm em lg le lf dl cS cH sea noi pl pw an hd bp bo bw c1 c2 c3 c4 c5 e1 e2 e3 e4 e5) s.heap := hP0.1
  have hD : va_D (zIn (mdlW ad 0 cy th h su st sh fl ic sn bn fm fr cm em lg le lf dl cS cH sea noi pl pw an hd bp bo bw c1 c2 c3 c4 c5 e1 e2 e3 e4 e5)) (mdlW ad 0 cy th h su st sh fl ic sn bn fm fr cm em lg le lf dl cS cH sea noi pl pw an hd bp bo bw c1 c2 c3 c4 c5 e1 e2 e3 e4 e5) := hP0.self
  have hAz := hP0.A
  have hS : va_S (zIn (mdlW ad 0 cy th h su st sh fl ic sn bn fm fr cm em lg le lf dl cS cH sea noi pl pw an hd bp bo bw c1 c2 c3 c4 c5 e1 e2 e3 e4 e5)) s.heap s.heap [] := va_S.rf
  have hl : lv_has ls 6 [(0, .ref (ad 0)), (1, .int (iI q)), (2, .int (iI t)), (3, .int (iI n)), (4, .int (iI f)), (5, .int (iI w))] := hl
  refine lv_aload_n M.1 M.2.1 dX7_followBy_0 rfl (lv_at hl 0 rfl) ?_
  refine lv_iload_n M.1 M.2.1 dX7_followBy_1 rfl (lv_at hl 1 rfl) ?_
  refine lv_iload_n M.1 M.2.1 dX7_followBy_2 rfl (lv_at hl 2 rfl) ?_
  refine lv_iload_n M.1 M.2.1 dX7_followBy_3 rfl (lv_at hl 3 rfl) ?_
  refine zi_bipush M dX7_followBy_4 ⟨by decide, by decide⟩ ?_
  refine zi_icmp_ge (tgt := 13) M dX7_followBy_6 (by decide) (by omega) ⟨by decide, by decide⟩ (fun c_1 => ?_) (fun c_1 => ?_)
  ·
    refine zi_push M dX7_followBy_13 ?_
    refine lv_iload_n M.1 M.2.1 dX7_followBy_14 rfl (lv_at hl 3 rfl) ?_
    refine zi_bipush M dX7_followBy_15 ⟨by decide, by decide⟩ ?_
    refine zi_irem M dX7_followBy_17 (by omega) (by omega) (by omega) (by omega) ?_
    refine zi_push M dX7_followBy_18 ?_
    refine zi_iadd M dX7_followBy_19 ?_
    refine lv_iload M.1 M.2.1 dX7_followBy_20 (lv_at hl 4 rfl) ?_
    refine lv_iload M.1 M.2.1 dX7_followBy_22 (lv_at hl 5 rfl) ?_
    refine z_cW (z_runV (As := [.int (iI q), .int (iI t), .int (iI 0), .int (iI ((n % 9) + 1)), .int (iI f), .int (iI w)]) (rest := []) M (c_X7_follow l D cy z0 ad th h su st sh fl ic sn bn fm fr cm em lg le lf dl cS cH sea noi pl pw an hd bp bo bw c1 c2 c3 c4 c5 e1 e2 e3 e4 e5 q t 0 ((n % 9) + 1) f w (by omega) (by omega) (by omega) (by omega) (by omega) (by omega) g_sea (by omega) (by omega) (by omega) (by omega) (by omega) (by omega)) hE hS hAz (z_cut hP hD hAz [0, 1, 2, 3, 4, 5, 6, 7, 8, 9, 10, 11, 12, 13, 14, 15, 16, 17, 18, 19, 20, 21] rfl (by decide +kernel)) (zRc.of (ci := 7) (q0 := 0) hE hP rfl rfl) zk_cd_X7_follow zk_in_RX7 zk_im_X7_follow zk_se_X7_follow zk_ml_RX7_148 rfl rfl zd_X7_follow ⟨by decide, by decide⟩ rfl hl.1 rfl (Nat.le_of_ble_eq_true rfl) dX7_followBy_24 ⟨by decide, by decide⟩) hP hD hS [0, 1, 2, 3, 4, 5, 6, 7, 8, 9, 10, 11, 12, 13, 14, 15, 16, 17, 18, 19, 20, 21] rfl (fun _ => rfl) (fun r_2 u_2 H locs hp_2 hP hD hS => ?_)
    have hP : va_P D vwCl (mdlW ad 0 cy th h su st sh fl ic sn bn fm fr cm em (u_2 0) (u_2 1) (u_2 2) (u_2 3) cS cH sea noi pl pw an hd bp bo bw c1 c2 c3 c4 c5 e1 e2 e3 e4 e5) H := hP
    have hD : va_D (zIn (mdlW ad 0 cy th h su st sh fl ic sn bn fm fr cm em lg le lf dl cS cH sea noi pl pw an hd bp bo bw c1 c2 c3 c4 c5 e1 e2 e3 e4 e5)) (mdlW ad 0 cy th h su st sh fl ic sn bn fm fr cm em (u_2 0) (u_2 1) (u_2 2) (u_2 3) cS cH sea noi pl pw an hd bp bo bw c1 c2 c3 c4 c5 e1 e2 e3 e4 e5) := hD
    rcases hp_2 with ⟨w_2, lg_2, le_2, dl_2, hs_2, rfl, rfl⟩ | ⟨hs_2, rfl⟩
    ·
      have hP : va_P D vwCl (mdlW ad 0 cy th h su st sh fl ic sn bn fm fr cm em lg_2 le_2 w_2 dl_2 cS cH sea noi pl pw an hd bp bo bw c1 c2 c3 c4 c5 e1 e2 e3 e4 e5) H := hP
      have hD : va_D (zIn (mdlW ad 0 cy th h su st sh fl ic sn bn fm fr cm em lg le lf dl cS cH sea noi pl pw an hd bp bo bw c1 c2 c3 c4 c5 e1 e2 e3 e4 e5)) (mdlW ad 0 cy th h su st sh fl ic sn bn fm fr cm em lg_2 le_2 w_2 dl_2 cS cH sea noi pl pw an hd bp bo bw c1 c2 c3 c4 c5 e1 e2 e3 e4 e5) := hD
      have hP : va_P D vwCl (mdlW ad 0 cy th h su st sh fl ic sn bn fm fr cm em ((u8 lg_2 le_2 w_2 dl_2 0 0 0 0) 0) ((u8 lg_2 le_2 w_2 dl_2 0 0 0 0) 1) ((u8 lg_2 le_2 w_2 dl_2 0 0 0 0) 2) ((u8 lg_2 le_2 w_2 dl_2 0 0 0 0) 3) cS cH sea noi pl pw an hd bp bo bw c1 c2 c3 c4 c5 e1 e2 e3 e4 e5) H := hP
      exact zw_z M hr hlk (v := 1) (Or.inr rfl) (u8 lg_2 le_2 w_2 dl_2 0 0 0 0) hP hS (by (exact Or.inl ⟨_, _, _, _, by unfold rayZ; rw [(show eaZ n = 0 from if_neg (by omega))]; exact hs_2, rfl, rfl⟩)) (by decide) (by decide) dX7_followBy_27
    ·
      have hP : va_P D vwCl (mdlW ad 0 cy th h su st sh fl ic sn bn fm fr cm em (u_2 0) (u_2 1) (u_2 2) (u_2 3) cS cH sea noi pl pw an hd bp bo bw c1 c2 c3 c4 c5 e1 e2 e3 e4 e5) H := hP
      exact zw_z M hr hlk (v := 0) (Or.inl rfl) u_2 hP hS (by (exact Or.inr ⟨by unfold rayZ; rw [(show eaZ n = 0 from if_neg (by omega))]; exact hs_2, rfl⟩)) (by decide) (by decide) dX7_followBy_27
  ·
    refine zi_push M dX7_followBy_9 ?_
    refine zi_goto (tgt := 14) M dX7_followBy_10 (by decide) ?_
    refine lv_iload_n M.1 M.2.1 dX7_followBy_14 rfl (lv_at hl 3 rfl) ?_
    refine zi_bipush M dX7_followBy_15 ⟨by decide, by decide⟩ ?_
    refine zi_irem M dX7_followBy_17 (by omega) (by omega) (by omega) (by omega) ?_
    refine zi_push M dX7_followBy_18 ?_
    refine zi_iadd M dX7_followBy_19 ?_
    refine lv_iload M.1 M.2.1 dX7_followBy_20 (lv_at hl 4 rfl) ?_
    refine lv_iload M.1 M.2.1 dX7_followBy_22 (lv_at hl 5 rfl) ?_
    refine z_cW (z_runV (As := [.int (iI q), .int (iI t), .int (iI 1), .int (iI ((n % 9) + 1)), .int (iI f), .int (iI w)]) (rest := []) M (c_X7_follow l D cy z0 ad th h su st sh fl ic sn bn fm fr cm em lg le lf dl cS cH sea noi pl pw an hd bp bo bw c1 c2 c3 c4 c5 e1 e2 e3 e4 e5 q t 1 ((n % 9) + 1) f w (by omega) (by omega) (by omega) (by omega) (by omega) (by omega) g_sea (by omega) (by omega) (by omega) (by omega) (by omega) (by omega)) hE hS hAz (z_cut hP hD hAz [0, 1, 2, 3, 4, 5, 6, 7, 8, 9, 10, 11, 12, 13, 14, 15, 16, 17, 18, 19, 20, 21] rfl (by decide +kernel)) (zRc.of (ci := 7) (q0 := 0) hE hP rfl rfl) zk_cd_X7_follow zk_in_RX7 zk_im_X7_follow zk_se_X7_follow zk_ml_RX7_148 rfl rfl zd_X7_follow ⟨by decide, by decide⟩ rfl hl.1 rfl (Nat.le_of_ble_eq_true rfl) dX7_followBy_24 ⟨by decide, by decide⟩) hP hD hS [0, 1, 2, 3, 4, 5, 6, 7, 8, 9, 10, 11, 12, 13, 14, 15, 16, 17, 18, 19, 20, 21] rfl (fun _ => rfl) (fun r_3 u_3 H locs hp_3 hP hD hS => ?_)
    have hP : va_P D vwCl (mdlW ad 0 cy th h su st sh fl ic sn bn fm fr cm em (u_3 0) (u_3 1) (u_3 2) (u_3 3) cS cH sea noi pl pw an hd bp bo bw c1 c2 c3 c4 c5 e1 e2 e3 e4 e5) H := hP
    have hD : va_D (zIn (mdlW ad 0 cy th h su st sh fl ic sn bn fm fr cm em lg le lf dl cS cH sea noi pl pw an hd bp bo bw c1 c2 c3 c4 c5 e1 e2 e3 e4 e5)) (mdlW ad 0 cy th h su st sh fl ic sn bn fm fr cm em (u_3 0) (u_3 1) (u_3 2) (u_3 3) cS cH sea noi pl pw an hd bp bo bw c1 c2 c3 c4 c5 e1 e2 e3 e4 e5) := hD
    rcases hp_3 with ⟨w_3, lg_3, le_3, dl_3, hs_3, rfl, rfl⟩ | ⟨hs_3, rfl⟩
    ·
      have hP : va_P D vwCl (mdlW ad 0 cy th h su st sh fl ic sn bn fm fr cm em lg_3 le_3 w_3 dl_3 cS cH sea noi pl pw an hd bp bo bw c1 c2 c3 c4 c5 e1 e2 e3 e4 e5) H := hP
      have hD : va_D (zIn (mdlW ad 0 cy th h su st sh fl ic sn bn fm fr cm em lg le lf dl cS cH sea noi pl pw an hd bp bo bw c1 c2 c3 c4 c5 e1 e2 e3 e4 e5)) (mdlW ad 0 cy th h su st sh fl ic sn bn fm fr cm em lg_3 le_3 w_3 dl_3 cS cH sea noi pl pw an hd bp bo bw c1 c2 c3 c4 c5 e1 e2 e3 e4 e5) := hD
      have hP : va_P D vwCl (mdlW ad 0 cy th h su st sh fl ic sn bn fm fr cm em ((u8 lg_3 le_3 w_3 dl_3 0 0 0 0) 0) ((u8 lg_3 le_3 w_3 dl_3 0 0 0 0) 1) ((u8 lg_3 le_3 w_3 dl_3 0 0 0 0) 2) ((u8 lg_3 le_3 w_3 dl_3 0 0 0 0) 3) cS cH sea noi pl pw an hd bp bo bw c1 c2 c3 c4 c5 e1 e2 e3 e4 e5) H := hP
      exact zw_z M hr hlk (v := 1) (Or.inr rfl) (u8 lg_3 le_3 w_3 dl_3 0 0 0 0) hP hS (by (exact Or.inl ⟨_, _, _, _, by unfold rayZ; rw [(show eaZ n = 1 from if_pos (by omega))]; exact hs_3, rfl, rfl⟩)) (by decide) (by decide) dX7_followBy_27
    ·
      have hP : va_P D vwCl (mdlW ad 0 cy th h su st sh fl ic sn bn fm fr cm em (u_3 0) (u_3 1) (u_3 2) (u_3 3) cS cH sea noi pl pw an hd bp bo bw c1 c2 c3 c4 c5 e1 e2 e3 e4 e5) H := hP
      exact zw_z M hr hlk (v := 0) (Or.inl rfl) u_3 hP hS (by (exact Or.inr ⟨by unfold rayZ; rw [(show eaZ n = 1 from if_pos (by omega))]; exact hs_3, rfl⟩)) (by decide) (by decide) dX7_followBy_27

set_option maxRecDepth 100000 in
set_option maxHeartbeats 4000000 in
theorem c_X7_pathsOf (l : Launch) (D : va_G) (cy : Nat → ClassId) (z0 : Nat) (ad : Nat → Nat) (th h su st sh fl ic sn bn fm fr cm em lg le lf dl : Int) (cS cH sea noi pl pw an hd bp bo bw c1 c2 c3 c4 c5 e1 e2 e3 e4 e5 : Int → Int) (q : Int) (t : Int) (f : Int) (w : Int) (h_h : 0 ≤ h ∧ h ≤ 5000) (h_su : 0 ≤ su ∧ su ≤ 100) (h_st : 0 ≤ st ∧ st ≤ 60) (h_fl : 0 ≤ fl ∧ fl ≤ 80) (h_cS : zrg 48 0 100 cS) (h_ic : 0 ≤ ic ∧ ic ≤ 1) (g_sea : zrg 48 0 1 sea) (hq : 0 ≤ q ∧ q < 48) (ht0 : 0 ≤ t ∧ t < 48) (hf : 10 ≤ f ∧ f ≤ 300) (hw : 0 ≤ w ∧ w ≤ 300) : Met l yX7_pathsOf [.code yX7_pathsOf cX7_pathsOf 7 (some .int)] (zRm 6 0 0 151) (zPc [.ref (ad 0), .int (iI q), .int (iI t), .int (iI f), .int (iI w)] D cy z0 (zWl D z0 (mdlW ad 0 cy th h su st sh fl ic sn bn fm fr cm em lg le lf dl cS cH sea noi pl pw an hd bp bo bw c1 c2 c3 c4 c5 e1 e2 e3 e4 e5))) (zQ1 D (mdlW ad 0 cy th h su st sh fl ic sn bn fm fr cm em lg le lf dl cS cH sea noi pl pw an hd bp bo bw c1 c2 c3 c4 c5 e1 e2 e3 e4 e5) (fun (r : Int32) (u : Nat → Int) => r = iI (cntR (mdE ic h cS) (mdF ic h su st) (mdD ic h fl) sea q t f w 18)) (fun (u : Nat → Int) => (mdlW ad 0 cy th h su st sh fl ic sn bn fm fr cm em (u 0) (u 1) (u 2) (u 3) cS cH sea noi pl pw an hd bp bo bw c1 c2 c3 c4 c5 e1 e2 e3 e4 e5))) 0 0 (zIn (mdlW ad 0 cy th h su st sh fl ic sn bn fm fr cm em lg le lf dl cS cH sea noi pl pw an hd bp bo bw c1 c2 c3 c4 c5 e1 e2 e3 e4 e5)) := by
  refine z_of (by decide) (Nat.le_of_ble_eq_true rfl) ?_
  intro p e s m args below meth c M hr hlk hini hargs hP0 hE ls hl
  have hP : va_P D vwCl (mdlW ad 0 cy th h su st sh fl ic sn bn fm fr cm em lg le lf dl cS cH sea noi pl pw an hd bp bo bw c1 c2 c3 c4 c5 e1 e2 e3 e4 e5) s.heap := hP0.1
  have hD : va_D (zIn (mdlW ad 0 cy th h su st sh fl ic sn bn fm fr cm em lg le lf dl cS cH sea noi pl pw an hd bp bo bw c1 c2 c3 c4 c5 e1 e2 e3 e4 e5)) (mdlW ad 0 cy th h su st sh fl ic sn bn fm fr cm em lg le lf dl cS cH sea noi pl pw an hd bp bo bw c1 c2 c3 c4 c5 e1 e2 e3 e4 e5) := hP0.self
  have hAz := hP0.A
  have hS : va_S (zIn (mdlW ad 0 cy th h su st sh fl ic sn bn fm fr cm em lg le lf dl cS cH sea noi pl pw an hd bp bo bw c1 c2 c3 c4 c5 e1 e2 e3 e4 e5)) s.heap s.heap [] := va_S.rf
  have hl : lv_has ls 7 [(0, .ref (ad 0)), (1, .int (iI q)), (2, .int (iI t)), (3, .int (iI f)), (4, .int (iI w))] := hl
  refine zi_push M dX7_pathsOf_0 ?_
  refine lv_istore (lv' := [(5, .int (iI 0)), (0, .ref (ad 0)), (1, .int (iI q)), (2, .int (iI t)), (3, .int (iI f)), (4, .int (iI w))]) M.1 M.2.1 dX7_pathsOf_1 hl (by decide) rfl (fun ls hl => ?_)
  refine zi_push M dX7_pathsOf_3 ?_
  refine lv_istore (lv' := [(6, .int (iI 0)), (5, .int (iI 0)), (0, .ref (ad 0)), (1, .int (iI q)), (2, .int (iI t)), (3, .int (iI f)), (4, .int (iI w))]) M.1 M.2.1 dX7_pathsOf_4 hl (by decide) rfl (fun ls hl => ?_)
  have L_6 : ∀ (k_6 : Nat) (x : Int) (i : Int) (ur : Nat → Int) (hi : 0 ≤ i ∧ i ≤ 18) (hx : x = cntR (mdE ic h cS) (mdF ic h su st) (mdD ic h fl) sea q t f w i.toNat) (hm : 18 - i < (k_6 : Int)) (H : Heap) (locs : List Loc) (hP : va_P D vwCl (mdlW ad 0 cy th h su st sh fl ic sn bn fm fr cm em (ur 0) (ur 1) (ur 2) (ur 3) cS cH sea noi pl pw an hd bp bo bw c1 c2 c3 c4 c5 e1 e2 e3 e4 e5) H) (hD : va_D (zIn (mdlW ad 0 cy th h su st sh fl ic sn bn fm fr cm em lg le lf dl cS cH sea noi pl pw an hd bp bo bw c1 c2 c3 c4 c5 e1 e2 e3 e4 e5)) (mdlW ad 0 cy th h su st sh fl ic sn bn fm fr cm em (ur 0) (ur 1) (ur 2) (ur 3) cS cH sea noi pl pw an hd bp bo bw c1 c2 c3 c4 c5 e1 e2 e3 e4 e5)) (hS : va_S (zIn (mdlW ad 0 cy th h su st sh fl ic sn bn fm fr cm em lg le lf dl cS cH sea noi pl pw an hd bp bo bw c1 c2 c3 c4 c5 e1 e2 e3 e4 e5)) s.heap H locs) (ls : Array Slot) (hl : lv_has ls 7 [(0, .ref (ad 0)), (1, .int (iI q)), (2, .int (iI t)), (3, .int (iI f)), (4, .int (iI w)), (5, .int (iI x)), (6, .int (iI i))]), W p l e (zRm 6 0 0 151) s m args below meth c H locs 0 0 (MQ below (zQ1 D (mdlW ad 0 cy th h su st sh fl ic sn bn fm fr cm em lg le lf dl cS cH sea noi pl pw an hd bp bo bw c1 c2 c3 c4 c5 e1 e2 e3 e4 e5) (fun (r : Int32) (u : Nat → Int) => r = iI (cntR (mdE ic h cS) (mdF ic h su st) (mdD ic h fl) sea q t f w 18)) (fun (u : Nat → Int) => (mdlW ad 0 cy th h su st sh fl ic sn bn fm fr cm em (u 0) (u 1) (u 2) (u 3) cS cH sea noi pl pw an hd bp bo bw c1 c2 c3 c4 c5 e1 e2 e3 e4 e5))) args s 0 0 (zIn (mdlW ad 0 cy th h su st sh fl ic sn bn fm fr cm em lg le lf dl cS cH sea noi pl pw an hd bp bo bw c1 c2 c3 c4 c5 e1 e2 e3 e4 e5))) (F0 m 6 ls []) := by
    intro k_6
    induction k_6 with
    | zero =>
      intro x i ur hi hx hm H locs hP hD hS ls hl
      exact absurd hm (by omega)
    | succ k_6 ih_6 =>
      intro x i ur hi hx hm H locs hP hD hS ls hl
      refine lv_iload M.1 M.2.1 dX7_pathsOf_6 (lv_at hl 6 rfl) ?_
      refine zi_bipush M dX7_pathsOf_8 ⟨by decide, by decide⟩ ?_
      refine zi_icmp_ge (tgt := 43) M dX7_pathsOf_10 (by decide) (by omega) ⟨by decide, by decide⟩ (fun c_1 => ?_) (fun c_1 => ?_)
      ·
        refine lv_iload M.1 M.2.1 dX7_pathsOf_43 (lv_at hl 5 rfl) ?_
        have hP : va_P D vwCl (mdlW ad 0 cy th h su st sh fl ic sn bn fm fr cm em (ur 0) (ur 1) (ur 2) (ur 3) cS cH sea noi pl pw an hd bp bo bw c1 c2 c3 c4 c5 e1 e2 e3 e4 e5) H := hP
        exact zw_i M hr hlk ur hP hS (congrArg iI (show (x : Int) = cntR (mdE ic h cS) (mdF ic h su st) (mdD ic h fl) sea q t f w 18 by (rw [hx, show i = 18 from by omega]; rfl))) (by decide) (by decide) dX7_pathsOf_45
      ·
        refine lv_iload M.1 M.2.1 dX7_pathsOf_13 (lv_at hl 5 rfl) ?_
        refine lv_aload_n M.1 M.2.1 dX7_pathsOf_15 rfl (lv_at hl 0 rfl) ?_
        refine lv_iload_n M.1 M.2.1 dX7_pathsOf_16 rfl (lv_at hl 1 rfl) ?_
        refine lv_iload_n M.1 M.2.1 dX7_pathsOf_17 rfl (lv_at hl 2 rfl) ?_
        refine lv_iload M.1 M.2.1 dX7_pathsOf_18 (lv_at hl 6 rfl) ?_
        refine lv_iload_n M.1 M.2.1 dX7_pathsOf_20 rfl (lv_at hl 3 rfl) ?_
        refine lv_iload M.1 M.2.1 dX7_pathsOf_21 (lv_at hl 4 rfl) ?_
        refine z_cW (z_runV (As := [.int (iI q), .int (iI t), .int (iI i), .int (iI f), .int (iI w)]) (rest := [.int (iI x)]) M (c_X7_followBy l D cy z0 ad th h su st sh fl ic sn bn fm fr cm em (ur 0) (ur 1) (ur 2) (ur 3) cS cH sea noi pl pw an hd bp bo bw c1 c2 c3 c4 c5 e1 e2 e3 e4 e5 q t i f w (by omega) (by omega) (by omega) (by omega) (by omega) (by omega) g_sea (by omega) (by omega) (by omega) (by omega) (by omega)) hE hS hAz (z_cut hP hD hAz [0, 1, 2, 3, 4, 5, 6, 7, 8, 9, 10, 11, 12, 13, 14, 15, 16, 17, 18, 19, 20, 21] rfl (by decide +kernel)) (zRc.of (ci := 7) (q0 := 0) hE hP rfl rfl) zk_cd_X7_followBy zk_in_RX7 zk_im_X7_followBy zk_se_X7_followBy zk_ml_RX7_159 rfl rfl zd_X7_followBy ⟨by decide, by decide⟩ rfl hl.1 rfl (Nat.le_of_ble_eq_true rfl) dX7_pathsOf_23 ⟨by decide, by decide⟩) hP hD hS [0, 1, 2, 3, 4, 5, 6, 7, 8, 9, 10, 11, 12, 13, 14, 15, 16, 17, 18, 19, 20, 21] rfl (fun _ => rfl) (fun r_2 u_2 H locs hp_2 hP hD hS => ?_)
        have hP : va_P D vwCl (mdlW ad 0 cy th h su st sh fl ic sn bn fm fr cm em (u_2 0) (u_2 1) (u_2 2) (u_2 3) cS cH sea noi pl pw an hd bp bo bw c1 c2 c3 c4 c5 e1 e2 e3 e4 e5) H := hP
        have hD : va_D (zIn (mdlW ad 0 cy th h su st sh fl ic sn bn fm fr cm em lg le lf dl cS cH sea noi pl pw an hd bp bo bw c1 c2 c3 c4 c5 e1 e2 e3 e4 e5)) (mdlW ad 0 cy th h su st sh fl ic sn bn fm fr cm em (u_2 0) (u_2 1) (u_2 2) (u_2 3) cS cH sea noi pl pw an hd bp bo bw c1 c2 c3 c4 c5 e1 e2 e3 e4 e5) := hD
        rcases hp_2 with ⟨w_2, lg_2, le_2, dl_2, hs_2, rfl, rfl⟩ | ⟨hs_2, rfl⟩
        ·
          have hP : va_P D vwCl (mdlW ad 0 cy th h su st sh fl ic sn bn fm fr cm em lg_2 le_2 w_2 dl_2 cS cH sea noi pl pw an hd bp bo bw c1 c2 c3 c4 c5 e1 e2 e3 e4 e5) H := hP
          have hD : va_D (zIn (mdlW ad 0 cy th h su st sh fl ic sn bn fm fr cm em lg le lf dl cS cH sea noi pl pw an hd bp bo bw c1 c2 c3 c4 c5 e1 e2 e3 e4 e5)) (mdlW ad 0 cy th h su st sh fl ic sn bn fm fr cm em lg_2 le_2 w_2 dl_2 cS cH sea noi pl pw an hd bp bo bw c1 c2 c3 c4 c5 e1 e2 e3 e4 e5) := hD
          have hb_2 := rayZ_rg (mdD_rg h_fl) (by omega) (by omega) hs_2
          refine zi_if_eq (tgt := 33) M dX7_pathsOf_26 (by decide) ⟨by decide, by decide⟩ (fun q => absurd q (by decide)) (fun _ => ?_)
          refine zi_push M dX7_pathsOf_29 ?_
          refine zi_goto (tgt := 34) M dX7_pathsOf_30 (by decide) ?_
          refine zi_iadd M dX7_pathsOf_34 ?_
          refine lv_istore (lv' := [(5, .int (iI (x + 1))), (0, .ref (ad 0)), (1, .int (iI q)), (2, .int (iI t)), (3, .int (iI f)), (4, .int (iI w)), (6, .int (iI i))]) M.1 M.2.1 dX7_pathsOf_35 hl (by decide) rfl (fun ls hl => ?_)
          refine zi_iinc (lv' := [(6, .int (iI (i + 1))), (5, .int (iI (x + 1))), (0, .ref (ad 0)), (1, .int (iI q)), (2, .int (iI t)), (3, .int (iI f)), (4, .int (iI w))]) M dX7_pathsOf_37 hl 6 rfl (by decide) rfl (fun ls hl => ?_)
          refine zi_goto (tgt := 6) M dX7_pathsOf_40 (by decide) ?_
          exact ih_6 (x + 1) (i + 1) (u8 lg_2 le_2 w_2 dl_2 0 0 0 0) (by omega) (by rw [cntR_s hi.1 hs_2, ← hx]) (by omega) _ _ hP hD hS ls (lv_sub hl [2, 3, 4, 5, 6, 1, 0] rfl)
        ·
          refine zi_if_eq (tgt := 33) M dX7_pathsOf_26 (by decide) ⟨by decide, by decide⟩ (fun _ => ?_) (fun q => absurd q (by decide))
          refine zi_push M dX7_pathsOf_33 ?_
          refine zi_iadd M dX7_pathsOf_34 ?_
          refine lv_istore (lv' := [(5, .int (iI (x + 0))), (0, .ref (ad 0)), (1, .int (iI q)), (2, .int (iI t)), (3, .int (iI f)), (4, .int (iI w)), (6, .int (iI i))]) M.1 M.2.1 dX7_pathsOf_35 hl (by decide) rfl (fun ls hl => ?_)
          refine zi_iinc (lv' := [(6, .int (iI (i + 1))), (5, .int (iI (x + 0))), (0, .ref (ad 0)), (1, .int (iI q)), (2, .int (iI t)), (3, .int (iI f)), (4, .int (iI w))]) M dX7_pathsOf_37 hl 6 rfl (by decide) rfl (fun ls hl => ?_)
          refine zi_goto (tgt := 6) M dX7_pathsOf_40 (by decide) ?_
          exact ih_6 (x + 0) (i + 1) u_2 (by omega) (by rw [cntR_n hi.1 hs_2, ← hx, Int.add_zero]) (by omega) _ _ hP hD hS ls (lv_sub hl [2, 3, 4, 5, 6, 1, 0] rfl)
  exact L_6 (Int.toNat (18 - 0) + 1) 0 0 (u8 lg le lf dl 0 0 0 0) (by omega) rfl (by omega) _ _ hP hD hS ls (lv_sub hl [2, 3, 4, 5, 6, 1, 0] rfl)

set_option maxRecDepth 100000 in
set_option maxHeartbeats 4000000 in
theorem c_X7_begins (l : Launch) (D : va_G) (cy : Nat → ClassId) (z0 : Nat) (wq : Int) (aq : Int) (dq : Int) (n : Int) (hwq : 0 ≤ wq ∧ wq ≤ 80) (haq : 0 ≤ aq ∧ aq ≤ 2) (hdq : 0 ≤ dq ∧ dq ≤ 2) (hn : 0 ≤ n ∧ n < 18) : Met l yX7_begins [.code yX7_begins cX7_begins 7 (some .int)] (zRm 0 0 0 0) (zPc [.int (iI wq), .int (iI aq), .int (iI dq), .int (iI n)] D cy z0 (fun _ => True)) (QcRead (iI (begZ wq aq dq n))) 0 0 (fun _ => False) := by
  refine z_of (by decide) (Nat.le_of_ble_eq_true rfl) ?_
  intro p e s m args below meth c M hr hlk _ hargs hP hE ls hl
  have hS : va_S (fun q => z0 ≤ q) s.heap s.heap [] := va_S.rf
  have hAz : ∀ q : Nat, (fun q => z0 ≤ q) q → z0 ≤ q := fun _ h => h
  have hl : lv_has ls 7 [(0, .int (iI wq)), (1, .int (iI aq)), (2, .int (iI dq)), (3, .int (iI n))] := hl
  refine lv_iload_n M.1 M.2.1 dX7_begins_0 rfl (lv_at hl 3 rfl) ?_
  refine zi_bipush M dX7_begins_1 ⟨by decide, by decide⟩ ?_
  refine zi_irem M dX7_begins_3 (by omega) (by omega) (by omega) (by omega) ?_
  refine zi_push M dX7_begins_4 ?_
  refine zi_iadd M dX7_begins_5 ?_
  refine lv_istore (lv' := [(4, .int (iI ((n % 9) + 1))), (0, .int (iI wq)), (1, .int (iI aq)), (2, .int (iI dq)), (3, .int (iI n))]) M.1 M.2.1 dX7_begins_6 hl (by decide) rfl (fun ls hl => ?_)
  refine lv_iload_n M.1 M.2.1 dX7_begins_8 rfl (lv_at hl 2 rfl) ?_
  refine zi_if_ne (tgt := 22) M dX7_begins_9 (by decide) (by omega) (fun c_1 => ?_) (fun c_1 => ?_)
  ·
    refine lv_iload_n M.1 M.2.1 dX7_begins_22 rfl (lv_at hl 2 rfl) ?_
    refine zi_push M dX7_begins_23 ?_
    refine zi_icmp_ne (tgt := 37) M dX7_begins_24 (by decide) (by omega) ⟨by decide, by decide⟩ (fun c_2 => ?_) (fun c_2 => ?_)
    ·
      refine zi_push M dX7_begins_37 ?_
      refine lv_istore (lv' := [(5, .int (iI 0)), (4, .int (iI ((n % 9) + 1))), (0, .int (iI wq)), (1, .int (iI aq)), (2, .int (iI dq)), (3, .int (iI n))]) M.1 M.2.1 dX7_begins_38 hl (by decide) rfl (fun ls hl => ?_)
      refine lv_iload_n M.1 M.2.1 dX7_begins_40 rfl (lv_at hl 4 rfl) ?_
      refine zi_push M dX7_begins_41 ?_
      refine zi_icmp_ne (tgt := 49) M dX7_begins_42 (by decide) (by omega) ⟨by decide, by decide⟩ (fun c_3 => ?_) (fun c_3 => ?_)
      ·
        refine lv_iload_n M.1 M.2.1 dX7_begins_49 rfl (lv_at hl 4 rfl) ?_
        refine lv_iload_n M.1 M.2.1 dX7_begins_50 rfl (lv_at hl 5 rfl) ?_
        refine zi_bipush M dX7_begins_51 ⟨by decide, by decide⟩ ?_
        refine zi_idiv M dX7_begins_53 (by omega) (by omega) (by omega) (by omega) ?_
        refine zi_icmp_ne (tgt := 61) M dX7_begins_54 (by decide) (by omega) (by omega) (fun c_4 => ?_) (fun c_4 => ?_)
        ·
          refine zi_bipush M dX7_begins_61 ⟨by decide, by decide⟩ ?_
          refine lv_istore (lv' := [(6, .int (iI 20)), (5, .int (iI 0)), (4, .int (iI ((n % 9) + 1))), (0, .int (iI wq)), (1, .int (iI aq)), (2, .int (iI dq)), (3, .int (iI n))]) M.1 M.2.1 dX7_begins_63 hl (by decide) rfl (fun ls hl => ?_)
          refine lv_iload_n M.1 M.2.1 dX7_begins_65 rfl (lv_at hl 3 rfl) ?_
          refine lv_iload M.1 M.2.1 dX7_begins_66 (lv_at hl 1 rfl) ?_
          refine zi_iadd M dX7_begins_68 ?_
          refine lv_iload M.1 M.2.1 dX7_begins_69 (lv_at hl 0 rfl) ?_
          refine zi_isub M dX7_begins_71 ?_
          exact zr_i M hr hlk (congrArg iI (show (((wq + 0) - 20) : Int) = begZ wq aq dq n by (unfold begZ gainZ asideZ drZ; (repeat' split) <;> omega))) dX7_begins_72
        ·
          refine zi_push M dX7_begins_57 ?_
          refine zi_goto (tgt := 63) M dX7_begins_58 (by decide) ?_
          refine lv_istore (lv' := [(6, .int (iI 0)), (5, .int (iI 0)), (4, .int (iI ((n % 9) + 1))), (0, .int (iI wq)), (1, .int (iI aq)), (2, .int (iI dq)), (3, .int (iI n))]) M.1 M.2.1 dX7_begins_63 hl (by decide) rfl (fun ls hl => ?_)
          refine lv_iload_n M.1 M.2.1 dX7_begins_65 rfl (lv_at hl 3 rfl) ?_
          refine lv_iload M.1 M.2.1 dX7_begins_66 (lv_at hl 1 rfl) ?_
          refine zi_iadd M dX7_begins_68 ?_
          refine lv_iload M.1 M.2.1 dX7_begins_69 (lv_at hl 0 rfl) ?_
          refine zi_isub M dX7_begins_71 ?_
          exact zr_i M hr hlk (congrArg iI (show (((wq + 0) - 0) : Int) = begZ wq aq dq n by (unfold begZ gainZ asideZ drZ; (repeat' split) <;> omega))) dX7_begins_72
      ·
        refine zi_push M dX7_begins_45 ?_
        refine zi_goto (tgt := 63) M dX7_begins_46 (by decide) ?_
        refine lv_istore (lv' := [(6, .int (iI 3)), (5, .int (iI 0)), (4, .int (iI ((n % 9) + 1))), (0, .int (iI wq)), (1, .int (iI aq)), (2, .int (iI dq)), (3, .int (iI n))]) M.1 M.2.1 dX7_begins_63 hl (by decide) rfl (fun ls hl => ?_)
        refine lv_iload_n M.1 M.2.1 dX7_begins_65 rfl (lv_at hl 3 rfl) ?_
        refine lv_iload M.1 M.2.1 dX7_begins_66 (lv_at hl 1 rfl) ?_
        refine zi_iadd M dX7_begins_68 ?_
        refine lv_iload M.1 M.2.1 dX7_begins_69 (lv_at hl 0 rfl) ?_
        refine zi_isub M dX7_begins_71 ?_
        exact zr_i M hr hlk (congrArg iI (show (((wq + 0) - 3) : Int) = begZ wq aq dq n by (unfold begZ gainZ asideZ drZ; (repeat' split) <;> omega))) dX7_begins_72
    ·
      refine zi_push M dX7_begins_27 ?_
      refine lv_iload M.1 M.2.1 dX7_begins_28 (lv_at hl 0 rfl) ?_
      refine zi_imul M dX7_begins_30 ?_
      refine zi_bipush M dX7_begins_31 ⟨by decide, by decide⟩ ?_
      refine zi_isub M dX7_begins_33 ?_
      refine zi_goto (tgt := 38) M dX7_begins_34 (by decide) ?_
      refine lv_istore (lv' := [(5, .int (iI ((2 * ((n % 9) + 1)) - 10))), (4, .int (iI ((n % 9) + 1))), (0, .int (iI wq)), (1, .int (iI aq)), (2, .int (iI dq)), (3, .int (iI n))]) M.1 M.2.1 dX7_begins_38 hl (by decide) rfl (fun ls hl => ?_)
      refine lv_iload_n M.1 M.2.1 dX7_begins_40 rfl (lv_at hl 4 rfl) ?_
      refine zi_push M dX7_begins_41 ?_
      refine zi_icmp_ne (tgt := 49) M dX7_begins_42 (by decide) (by omega) ⟨by decide, by decide⟩ (fun c_5 => ?_) (fun c_5 => ?_)
      ·
        refine lv_iload_n M.1 M.2.1 dX7_begins_49 rfl (lv_at hl 4 rfl) ?_
        refine lv_iload_n M.1 M.2.1 dX7_begins_50 rfl (lv_at hl 5 rfl) ?_
        refine zi_bipush M dX7_begins_51 ⟨by decide, by decide⟩ ?_
        refine zi_idiv M dX7_begins_53 (by omega) (by omega) (by omega) (by omega) ?_
        refine zi_icmp_ne (tgt := 61) M dX7_begins_54 (by decide) (by omega) (by omega) (fun c_6 => ?_) (fun c_6 => ?_)
        ·
          refine zi_bipush M dX7_begins_61 ⟨by decide, by decide⟩ ?_
          refine lv_istore (lv' := [(6, .int (iI 20)), (5, .int (iI ((2 * ((n % 9) + 1)) - 10))), (4, .int (iI ((n % 9) + 1))), (0, .int (iI wq)), (1, .int (iI aq)), (2, .int (iI dq)), (3, .int (iI n))]) M.1 M.2.1 dX7_begins_63 hl (by decide) rfl (fun ls hl => ?_)
          refine lv_iload_n M.1 M.2.1 dX7_begins_65 rfl (lv_at hl 3 rfl) ?_
          refine lv_iload M.1 M.2.1 dX7_begins_66 (lv_at hl 1 rfl) ?_
          refine zi_iadd M dX7_begins_68 ?_
          refine lv_iload M.1 M.2.1 dX7_begins_69 (lv_at hl 0 rfl) ?_
          refine zi_isub M dX7_begins_71 ?_
          exact zr_i M hr hlk (congrArg iI (show (((wq + ((2 * ((n % 9) + 1)) - 10)) - 20) : Int) = begZ wq aq dq n by (unfold begZ gainZ asideZ drZ; (repeat' split) <;> omega))) dX7_begins_72
        ·
          refine zi_push M dX7_begins_57 ?_
          refine zi_goto (tgt := 63) M dX7_begins_58 (by decide) ?_
          refine lv_istore (lv' := [(6, .int (iI 0)), (5, .int (iI ((2 * ((n % 9) + 1)) - 10))), (4, .int (iI ((n % 9) + 1))), (0, .int (iI wq)), (1, .int (iI aq)), (2, .int (iI dq)), (3, .int (iI n))]) M.1 M.2.1 dX7_begins_63 hl (by decide) rfl (fun ls hl => ?_)
          refine lv_iload_n M.1 M.2.1 dX7_begins_65 rfl (lv_at hl 3 rfl) ?_
          refine lv_iload M.1 M.2.1 dX7_begins_66 (lv_at hl 1 rfl) ?_
          refine zi_iadd M dX7_begins_68 ?_
          refine lv_iload M.1 M.2.1 dX7_begins_69 (lv_at hl 0 rfl) ?_
          refine zi_isub M dX7_begins_71 ?_
          exact zr_i M hr hlk (congrArg iI (show (((wq + ((2 * ((n % 9) + 1)) - 10)) - 0) : Int) = begZ wq aq dq n by (unfold begZ gainZ asideZ drZ; (repeat' split) <;> omega))) dX7_begins_72
      ·
        refine zi_push M dX7_begins_45 ?_
        refine zi_goto (tgt := 63) M dX7_begins_46 (by decide) ?_
        refine lv_istore (lv' := [(6, .int (iI 3)), (5, .int (iI ((2 * ((n % 9) + 1)) - 10))), (4, .int (iI ((n % 9) + 1))), (0, .int (iI wq)), (1, .int (iI aq)), (2, .int (iI dq)), (3, .int (iI n))]) M.1 M.2.1 dX7_begins_63 hl (by decide) rfl (fun ls hl => ?_)
        refine lv_iload_n M.1 M.2.1 dX7_begins_65 rfl (lv_at hl 3 rfl) ?_
        refine lv_iload M.1 M.2.1 dX7_begins_66 (lv_at hl 1 rfl) ?_
        refine zi_iadd M dX7_begins_68 ?_
        refine lv_iload M.1 M.2.1 dX7_begins_69 (lv_at hl 0 rfl) ?_
        refine zi_isub M dX7_begins_71 ?_
        exact zr_i M hr hlk (congrArg iI (show (((wq + ((2 * ((n % 9) + 1)) - 10)) - 3) : Int) = begZ wq aq dq n by (unfold begZ gainZ asideZ drZ; (repeat' split) <;> omega))) dX7_begins_72
  ·
    refine zi_bipush M dX7_begins_12 ⟨by decide, by decide⟩ ?_
    refine zi_push M dX7_begins_14 ?_
    refine lv_iload M.1 M.2.1 dX7_begins_15 (lv_at hl 0 rfl) ?_
    refine zi_imul M dX7_begins_17 ?_
    refine zi_isub M dX7_begins_18 ?_
    refine zi_goto (tgt := 38) M dX7_begins_19 (by decide) ?_
    refine lv_istore (lv' := [(5, .int (iI (10 - (2 * ((n % 9) + 1))))), (4, .int (iI ((n % 9) + 1))), (0, .int (iI wq)), (1, .int (iI aq)), (2, .int (iI dq)), (3, .int (iI n))]) M.1 M.2.1 dX7_begins_38 hl (by decide) rfl (fun ls hl => ?_)
    refine lv_iload_n M.1 M.2.1 dX7_begins_40 rfl (lv_at hl 4 rfl) ?_
    refine zi_push M dX7_begins_41 ?_
    refine zi_icmp_ne (tgt := 49) M dX7_begins_42 (by decide) (by omega) ⟨by decide, by decide⟩ (fun c_7 => ?_) (fun c_7 => ?_)
    ·
      refine lv_iload_n M.1 M.2.1 dX7_begins_49 rfl (lv_at hl 4 rfl) ?_
      refine lv_iload_n M.1 M.2.1 dX7_begins_50 rfl (lv_at hl 5 rfl) ?_
      refine zi_bipush M dX7_begins_51 ⟨by decide, by decide⟩ ?_
      refine zi_idiv M dX7_begins_53 (by omega) (by omega) (by omega) (by omega) ?_
      refine zi_icmp_ne (tgt := 61) M dX7_begins_54 (by decide) (by omega) (by omega) (fun c_8 => ?_) (fun c_8 => ?_)
      ·
        refine zi_bipush M dX7_begins_61 ⟨by decide, by decide⟩ ?_
        refine lv_istore (lv' := [(6, .int (iI 20)), (5, .int (iI (10 - (2 * ((n % 9) + 1))))), (4, .int (iI ((n % 9) + 1))), (0, .int (iI wq)), (1, .int (iI aq)), (2, .int (iI dq)), (3, .int (iI n))]) M.1 M.2.1 dX7_begins_63 hl (by decide) rfl (fun ls hl => ?_)
        refine lv_iload_n M.1 M.2.1 dX7_begins_65 rfl (lv_at hl 3 rfl) ?_
        refine lv_iload M.1 M.2.1 dX7_begins_66 (lv_at hl 1 rfl) ?_
        refine zi_iadd M dX7_begins_68 ?_
        refine lv_iload M.1 M.2.1 dX7_begins_69 (lv_at hl 0 rfl) ?_
        refine zi_isub M dX7_begins_71 ?_
        exact zr_i M hr hlk (congrArg iI (show (((wq + (10 - (2 * ((n % 9) + 1)))) - 20) : Int) = begZ wq aq dq n by (unfold begZ gainZ asideZ drZ; (repeat' split) <;> omega))) dX7_begins_72
      ·
        refine zi_push M dX7_begins_57 ?_
        refine zi_goto (tgt := 63) M dX7_begins_58 (by decide) ?_
        refine lv_istore (lv' := [(6, .int (iI 0)), (5, .int (iI (10 - (2 * ((n % 9) + 1))))), (4, .int (iI ((n % 9) + 1))), (0, .int (iI wq)), (1, .int (iI aq)), (2, .int (iI dq)), (3, .int (iI n))]) M.1 M.2.1 dX7_begins_63 hl (by decide) rfl (fun ls hl => ?_)
        refine lv_iload_n M.1 M.2.1 dX7_begins_65 rfl (lv_at hl 3 rfl) ?_
        refine lv_iload M.1 M.2.1 dX7_begins_66 (lv_at hl 1 rfl) ?_
        refine zi_iadd M dX7_begins_68 ?_
        refine lv_iload M.1 M.2.1 dX7_begins_69 (lv_at hl 0 rfl) ?_
        refine zi_isub M dX7_begins_71 ?_
        exact zr_i M hr hlk (congrArg iI (show (((wq + (10 - (2 * ((n % 9) + 1)))) - 0) : Int) = begZ wq aq dq n by (unfold begZ gainZ asideZ drZ; (repeat' split) <;> omega))) dX7_begins_72
    ·
      refine zi_push M dX7_begins_45 ?_
      refine zi_goto (tgt := 63) M dX7_begins_46 (by decide) ?_
      refine lv_istore (lv' := [(6, .int (iI 3)), (5, .int (iI (10 - (2 * ((n % 9) + 1))))), (4, .int (iI ((n % 9) + 1))), (0, .int (iI wq)), (1, .int (iI aq)), (2, .int (iI dq)), (3, .int (iI n))]) M.1 M.2.1 dX7_begins_63 hl (by decide) rfl (fun ls hl => ?_)
      refine lv_iload_n M.1 M.2.1 dX7_begins_65 rfl (lv_at hl 3 rfl) ?_
      refine lv_iload M.1 M.2.1 dX7_begins_66 (lv_at hl 1 rfl) ?_
      refine zi_iadd M dX7_begins_68 ?_
      refine lv_iload M.1 M.2.1 dX7_begins_69 (lv_at hl 0 rfl) ?_
      refine zi_isub M dX7_begins_71 ?_
      exact zr_i M hr hlk (congrArg iI (show (((wq + (10 - (2 * ((n % 9) + 1)))) - 3) : Int) = begZ wq aq dq n by (unfold begZ gainZ asideZ drZ; (repeat' split) <;> omega))) dX7_begins_72

set_option maxRecDepth 100000 in
set_option maxHeartbeats 4000000 in
theorem c_X7_signalOf (l : Launch) (D : va_G) (cy : Nat → ClassId) (z0 : Nat) (ad : Nat → Nat) (th h su st sh fl ic sn bn fm fr cm em lg le lf dl : Int) (cS cH sea noi pl pw an hd bp bo bw c1 c2 c3 c4 c5 e1 e2 e3 e4 e5 : Int → Int) (q : Int) (wq : Int) (aq : Int) (dq : Int) (t : Int) (f : Int) (h_h : 0 ≤ h ∧ h ≤ 5000) (h_su : 0 ≤ su ∧ su ≤ 100) (h_st : 0 ≤ st ∧ st ≤ 60) (h_fl : 0 ≤ fl ∧ fl ≤ 80) (h_cS : zrg 48 0 100 cS) (h_ic : 0 ≤ ic ∧ ic ≤ 1) (g_sea : zrg 48 0 1 sea) (g_noi : zrg 48 0 40 noi) (hq : 0 ≤ q ∧ q < 48) (hwq : 0 ≤ wq ∧ wq ≤ 80) (haq : 0 ≤ aq ∧ aq ≤ 2) (hdq : 0 ≤ dq ∧ dq ≤ 2) (ht0 : 0 ≤ t ∧ t < 48) (hf : 10 ≤ f ∧ f ≤ 300) : Met l yX7_signalOf [.code yX7_signalOf cX7_signalOf 10 (some .int)] (zRm 6 0 0 151) (zPc [.ref (ad 0), .int (iI q), .int (iI wq), .int (iI aq), .int (iI dq), .int (iI t), .int (iI f)] D cy z0 (zWl D z0 (mdlW ad 0 cy th h su st sh fl ic sn bn fm fr cm em lg le lf dl cS cH sea noi pl pw an hd bp bo bw c1 c2 c3 c4 c5 e1 e2 e3 e4 e5))) (zQ1 D (mdlW ad 0 cy th h su st sh fl ic sn bn fm fr cm em lg le lf dl cS cH sea noi pl pw an hd bp bo bw c1 c2 c3 c4 c5 e1 e2 e3 e4 e5) (fun (r : Int32) (u : Nat → Int) => r = iI (sigZ (mdE ic h cS) (mdF ic h su st) (mdD ic h fl) sea noi h q t f wq aq dq)) (fun (u : Nat → Int) => (mdlW ad 0 cy th h su st sh fl ic sn bn fm fr cm em (u 0) (u 1) (u 2) (u 3) cS cH sea noi pl pw an hd bp bo bw c1 c2 c3 c4 c5 e1 e2 e3 e4 e5))) 0 0 (zIn (mdlW ad 0 cy th h su st sh fl ic sn bn fm fr cm em lg le lf dl cS cH sea noi pl pw an hd bp bo bw c1 c2 c3 c4 c5 e1 e2 e3 e4 e5)) := by
  refine z_of (by decide) (Nat.le_of_ble_eq_true rfl) ?_
  intro p e s m args below meth c M hr hlk hini hargs hP0 hE ls hl
  have hP : va_P D vwCl (mdlW ad 0 cy th h su st sh fl ic sn bn fm fr cm em lg le lf dl cS cH sea noi pl pw an hd bp bo bw c1 c2 c3 c4 c5 e1 e2 e3 e4 e5) s.heap := hP0.1
  have hD : va_D (zIn (mdlW ad 0 cy th h su st sh fl ic sn bn fm fr cm em lg le lf dl cS cH sea noi pl pw an hd bp bo bw c1 c2 c3 c4 c5 e1 e2 e3 e4 e5)) (mdlW ad 0 cy th h su st sh fl ic sn bn fm fr cm em lg le lf dl cS cH sea noi pl pw an hd bp bo bw c1 c2 c3 c4 c5 e1 e2 e3 e4 e5) := hP0.self
  have hAz := hP0.A
  have hS : va_S (zIn (mdlW ad 0 cy th h su st sh fl ic sn bn fm fr cm em lg le lf dl cS cH sea noi pl pw an hd bp bo bw c1 c2 c3 c4 c5 e1 e2 e3 e4 e5)) s.heap s.heap [] := va_S.rf
  have hl : lv_has ls 10 [(0, .ref (ad 0)), (1, .int (iI q)), (2, .int (iI wq)), (3, .int (iI aq)), (4, .int (iI dq)), (5, .int (iI t)), (6, .int (iI f))] := hl
  have hlz := lightZ_rg h t
  refine zi_sipush M dX7_signalOf_0 ⟨by decide, by decide⟩ ?_
  refine lv_istore (lv' := [(7, .int (iI (-1000))), (0, .ref (ad 0)), (1, .int (iI q)), (2, .int (iI wq)), (3, .int (iI aq)), (4, .int (iI dq)), (5, .int (iI t)), (6, .int (iI f))]) M.1 M.2.1 dX7_signalOf_3 hl (by decide) rfl (fun ls hl => ?_)
  refine zi_push M dX7_signalOf_5 ?_
  refine lv_istore (lv' := [(8, .int (iI 0)), (7, .int (iI (-1000))), (0, .ref (ad 0)), (1, .int (iI q)), (2, .int (iI wq)), (3, .int (iI aq)), (4, .int (iI dq)), (5, .int (iI t)), (6, .int (iI f))]) M.1 M.2.1 dX7_signalOf_6 hl (by decide) rfl (fun ls hl => ?_)
  have L_8 : ∀ (k_8 : Nat) (bs : Int) (i : Int) (ur : Nat → Int) (hi : 0 ≤ i ∧ i ≤ 18) (hbs : bs = bsE (bestZ (mdE ic h cS) (mdF ic h su st) (mdD ic h fl) sea q t f wq aq dq i.toNat)) (hm : 18 - i < (k_8 : Int)) (H : Heap) (locs : List Loc) (hP : va_P D vwCl (mdlW ad 0 cy th h su st sh fl ic sn bn fm fr cm em (ur 0) (ur 1) (ur 2) (ur 3) cS cH sea noi pl pw an hd bp bo bw c1 c2 c3 c4 c5 e1 e2 e3 e4 e5) H) (hD : va_D (zIn (mdlW ad 0 cy th h su st sh fl ic sn bn fm fr cm em lg le lf dl cS cH sea noi pl pw an hd bp bo bw c1 c2 c3 c4 c5 e1 e2 e3 e4 e5)) (mdlW ad 0 cy th h su st sh fl ic sn bn fm fr cm em (ur 0) (ur 1) (ur 2) (ur 3) cS cH sea noi pl pw an hd bp bo bw c1 c2 c3 c4 c5 e1 e2 e3 e4 e5)) (hS : va_S (zIn (mdlW ad 0 cy th h su st sh fl ic sn bn fm fr cm em lg le lf dl cS cH sea noi pl pw an hd bp bo bw c1 c2 c3 c4 c5 e1 e2 e3 e4 e5)) s.heap H locs) (ls : Array Slot) (hl : lv_has ls 10 [(0, .ref (ad 0)), (1, .int (iI q)), (2, .int (iI wq)), (3, .int (iI aq)), (4, .int (iI dq)), (5, .int (iI t)), (6, .int (iI f)), (7, .int (iI bs)), (8, .int (iI i))]), W p l e (zRm 6 0 0 151) s m args below meth c H locs 0 0 (MQ below (zQ1 D (mdlW ad 0 cy th h su st sh fl ic sn bn fm fr cm em lg le lf dl cS cH sea noi pl pw an hd bp bo bw c1 c2 c3 c4 c5 e1 e2 e3 e4 e5) (fun (r : Int32) (u : Nat → Int) => r = iI (sigZ (mdE ic h cS) (mdF ic h su st) (mdD ic h fl) sea noi h q t f wq aq dq)) (fun (u : Nat → Int) => (mdlW ad 0 cy th h su st sh fl ic sn bn fm fr cm em (u 0) (u 1) (u 2) (u 3) cS cH sea noi pl pw an hd bp bo bw c1 c2 c3 c4 c5 e1 e2 e3 e4 e5))) args s 0 0 (zIn (mdlW ad 0 cy th h su st sh fl ic sn bn fm fr cm em lg le lf dl cS cH sea noi pl pw an hd bp bo bw c1 c2 c3 c4 c5 e1 e2 e3 e4 e5))) (F0 m 8 ls []) := by
    intro k_8
    induction k_8 with
    | zero =>
      intro bs i ur hi hbs hm H locs hP hD hS ls hl
      exact absurd hm (by omega)
    | succ k_8 ih_8 =>
      intro bs i ur hi hbs hm H locs hP hD hS ls hl
      have hbr := bestZ_rg (t := t) (an := aq) (hd := dq) (dE := (mdE ic h cS)) (dF := (mdF ic h su st)) (sea := sea) (mdD_rg (ic := ic) (h := h) h_fl) hf (fr := q) hq hwq i.toNat
      have hbe : -1000 ≤ bs ∧ bs ≤ 88 := by rw [hbs]; unfold bsE; split <;> omega
      refine lv_iload M.1 M.2.1 dX7_signalOf_8 (lv_at hl 8 rfl) ?_
      refine zi_bipush M dX7_signalOf_10 ⟨by decide, by decide⟩ ?_
      refine zi_icmp_ge (tgt := 73) M dX7_signalOf_12 (by decide) (by omega) ⟨by decide, by decide⟩ (fun c_1 => ?_) (fun c_1 => ?_)
      ·
        have hb18 : bs = bsE (bestZ (mdE ic h cS) (mdF ic h su st) (mdD ic h fl) sea q t f wq aq dq 18) := by rw [hbs, show i = 18 from by omega]; rfl
        have hbr18 := bestZ_rg (t := t) (an := aq) (hd := dq) (dE := (mdE ic h cS)) (dF := (mdF ic h su st)) (sea := sea) (mdD_rg (ic := ic) (h := h) h_fl) hf (fr := q) hq hwq 18
        refine lv_iload M.1 M.2.1 dX7_signalOf_73 (lv_at hl 7 rfl) ?_
        refine zi_sipush M dX7_signalOf_75 ⟨by decide, by decide⟩ ?_
        refine zi_icmp_ne (tgt := 87) M dX7_signalOf_78 (by decide) (by omega) ⟨by decide, by decide⟩ (fun c_2 => ?_) (fun c_2 => ?_)
        ·
          refine lv_iload M.1 M.2.1 dX7_signalOf_87 (lv_at hl 7 rfl) ?_
          refine lv_aload_n M.1 M.2.1 dX7_signalOf_89 rfl (lv_at hl 0 rfl) ?_
          refine zi_get (ci := 7) (v := .ref (ad (0 + 4))) M hE hP 0 rfl rfl zu_X7 9 (by decide) zk_fl_RX7_24 rfl rfl dX7_signalOf_90 ?_
          refine lv_iload M.1 M.2.1 dX7_signalOf_93 (lv_at hl 5 rfl) ?_
          refine zi_iald M hE hP 4 (n := 48) (g := noi) rfl (Nat.le_of_ble_eq_true rfl) (by omega) (by omega) dX7_signalOf_95 ?_
          have hr_3 := g_noi t (by omega) (by omega)
          refine zi_isub M dX7_signalOf_96 ?_
          refine lv_aload_n M.1 M.2.1 dX7_signalOf_97 rfl (lv_at hl 0 rfl) ?_
          refine lv_iload M.1 M.2.1 dX7_signalOf_98 (lv_at hl 5 rfl) ?_
          refine zi_push M dX7_signalOf_100 ?_
          refine z_cR (z_runV (As := [.int (iI t), .int (iI 0)]) (rest := [.int (iI (bs - (noi t)))]) M (c_X7_lightOf l D cy z0 ad th h su st sh fl ic sn bn fm fr cm em (ur 0) (ur 1) (ur 2) (ur 3) cS cH sea noi pl pw an hd bp bo bw c1 c2 c3 c4 c5 e1 e2 e3 e4 e5 t 0 (by omega) (by omega) (by omega)) hE hS hAz hP (zRc.of (ci := 7) (q0 := 0) hE hP rfl rfl) zk_cd_X7_lightOf zk_in_RX7 zk_im_X7_lightOf zk_se_X7_lightOf zk_ml_RX7_110 rfl rfl zd_X7_lightOf ⟨by decide, by decide⟩ rfl hl.1 rfl (Nat.le_of_ble_eq_true rfl) dX7_signalOf_101 ⟨by decide, by decide⟩) ?_
          refine z_rw (b := lightZ h t) (by rw [Int.add_zero]) ?_
          have hx_4 := lightZ_rg (h + 0) t
          refine zi_if_le (tgt := 111) M dX7_signalOf_104 (by decide) (by omega) (fun c_5 => ?_) (fun c_5 => ?_)
          ·
            refine zi_push M dX7_signalOf_111 ?_
            refine zi_isub M dX7_signalOf_112 ?_
            have hP : va_P D vwCl (mdlW ad 0 cy th h su st sh fl ic sn bn fm fr cm em (ur 0) (ur 1) (ur 2) (ur 3) cS cH sea noi pl pw an hd bp bo bw c1 c2 c3 c4 c5 e1 e2 e3 e4 e5) H := hP
            exact zw_i M hr hlk ur hP hS (congrArg iI (show (((bs - (noi t)) - 3) : Int) = sigZ (mdE ic h cS) (mdF ic h su st) (mdD ic h fl) sea noi h q t f wq aq dq by (rw [sigM (noi := noi) (h := h) (d := 3) hbr18.1 hb18 (by first | exact (if_pos (by omega)).symm | exact (if_neg (by omega)).symm)]; exact (if_neg (by omega)).symm))) (by decide) (by decide) dX7_signalOf_113
          ·
            refine zi_push M dX7_signalOf_107 ?_
            refine zi_goto (tgt := 112) M dX7_signalOf_108 (by decide) ?_
            refine zi_isub M dX7_signalOf_112 ?_
            have hP : va_P D vwCl (mdlW ad 0 cy th h su st sh fl ic sn bn fm fr cm em (ur 0) (ur 1) (ur 2) (ur 3) cS cH sea noi pl pw an hd bp bo bw c1 c2 c3 c4 c5 e1 e2 e3 e4 e5) H := hP
            exact zw_i M hr hlk ur hP hS (congrArg iI (show (((bs - (noi t)) - 0) : Int) = sigZ (mdE ic h cS) (mdF ic h su st) (mdD ic h fl) sea noi h q t f wq aq dq by (rw [sigM (noi := noi) (h := h) (d := 0) hbr18.1 hb18 (by first | exact (if_pos (by omega)).symm | exact (if_neg (by omega)).symm)]; exact (if_neg (by omega)).symm))) (by decide) (by decide) dX7_signalOf_113
        ·
          refine zi_sipush M dX7_signalOf_81 ⟨by decide, by decide⟩ ?_
          refine zi_goto (tgt := 113) M dX7_signalOf_84 (by decide) ?_
          have hP : va_P D vwCl (mdlW ad 0 cy th h su st sh fl ic sn bn fm fr cm em (ur 0) (ur 1) (ur 2) (ur 3) cS cH sea noi pl pw an hd bp bo bw c1 c2 c3 c4 c5 e1 e2 e3 e4 e5) H := hP
          exact zw_i M hr hlk ur hP hS (congrArg iI (show ((-1000) : Int) = sigZ (mdE ic h cS) (mdF ic h su st) (mdD ic h fl) sea noi h q t f wq aq dq by (rw [sigM (noi := noi) (h := h) (d := (if lightZ h t = 0 then 3 else 0)) hbr18.1 hb18 rfl]; exact (if_pos (by omega)).symm))) (by decide) (by decide) dX7_signalOf_113
      ·
        refine lv_iload_n M.1 M.2.1 dX7_signalOf_15 rfl (lv_at hl 2 rfl) ?_
        refine lv_iload_n M.1 M.2.1 dX7_signalOf_16 rfl (lv_at hl 3 rfl) ?_
        refine lv_iload M.1 M.2.1 dX7_signalOf_17 (lv_at hl 4 rfl) ?_
        refine lv_iload M.1 M.2.1 dX7_signalOf_19 (lv_at hl 8 rfl) ?_
        refine z_cR (z_runS (As := [.int (iI wq), .int (iI aq), .int (iI dq), .int (iI i)]) (rest := []) M (c_X7_begins l D cy z0 wq aq dq i (by omega) (by omega) (by omega) (by omega)) hE hS hAz trivial zk_cd_X7_begins zk_in_RX7 zk_st_X7_begins zk_ml_RX7_167 rfl rfl zd_X7_begins ⟨by decide, by decide⟩ rfl hl.1 rfl (Nat.le_of_ble_eq_true rfl) dX7_signalOf_21 ⟨by decide, by decide⟩) ?_
        have hx_6 : -28 ≤ begZ wq aq dq i ∧ begZ wq aq dq i ≤ 88 := begZ_rg (by omega)
        refine lv_istore (lv' := [(9, .int (iI (begZ wq aq dq i))), (0, .ref (ad 0)), (1, .int (iI q)), (2, .int (iI wq)), (3, .int (iI aq)), (4, .int (iI dq)), (5, .int (iI t)), (6, .int (iI f)), (7, .int (iI bs)), (8, .int (iI i))]) M.1 M.2.1 dX7_signalOf_24 hl (by decide) rfl (fun ls hl => ?_)
        refine lv_iload M.1 M.2.1 dX7_signalOf_26 (lv_at hl 0 rfl) ?_
        refine zi_if_lt (tgt := 63) M dX7_signalOf_28 (by decide) (by omega) (fun c_7 => ?_) (fun c_7 => ?_)
        ·
          refine lv_iload M.1 M.2.1 dX7_signalOf_63 (lv_at hl 8 rfl) ?_
          refine lv_istore (lv' := [(7, .int (iI bs)), (9, .int (iI (begZ wq aq dq i))), (0, .ref (ad 0)), (1, .int (iI q)), (2, .int (iI wq)), (3, .int (iI aq)), (4, .int (iI dq)), (5, .int (iI t)), (6, .int (iI f)), (8, .int (iI i))]) M.1 M.2.1 dX7_signalOf_65 hl (by decide) rfl (fun ls hl => ?_)
          refine zi_iinc (lv' := [(8, .int (iI (i + 1))), (7, .int (iI bs)), (9, .int (iI (begZ wq aq dq i))), (0, .ref (ad 0)), (1, .int (iI q)), (2, .int (iI wq)), (3, .int (iI aq)), (4, .int (iI dq)), (5, .int (iI t)), (6, .int (iI f))]) M dX7_signalOf_67 hl 9 rfl (by decide) rfl (fun ls hl => ?_)
          refine zi_goto (tgt := 8) M dX7_signalOf_70 (by decide) ?_
          exact ih_8 bs (i + 1) ur (by omega) (bestM hi.1 hbr.1 hbs (sgZ_b (by omega)) (by omega) (by rw [if_pos rfl])) (by omega) _ _ hP hD hS ls (lv_sub hl [3, 4, 5, 6, 7, 8, 9, 1, 0] rfl)
        ·
          refine lv_aload_n M.1 M.2.1 dX7_signalOf_31 rfl (lv_at hl 1 rfl) ?_
          refine lv_iload_n M.1 M.2.1 dX7_signalOf_32 rfl (lv_at hl 2 rfl) ?_
          refine lv_iload M.1 M.2.1 dX7_signalOf_33 (lv_at hl 6 rfl) ?_
          refine lv_iload M.1 M.2.1 dX7_signalOf_35 (lv_at hl 9 rfl) ?_
          refine lv_iload M.1 M.2.1 dX7_signalOf_37 (lv_at hl 7 rfl) ?_
          refine lv_iload M.1 M.2.1 dX7_signalOf_39 (lv_at hl 0 rfl) ?_
          refine z_cW (z_runV (As := [.int (iI q), .int (iI t), .int (iI i), .int (iI f), .int (iI (begZ wq aq dq i))]) (rest := []) M (c_X7_followBy l D cy z0 ad th h su st sh fl ic sn bn fm fr cm em (ur 0) (ur 1) (ur 2) (ur 3) cS cH sea noi pl pw an hd bp bo bw c1 c2 c3 c4 c5 e1 e2 e3 e4 e5 q t i f (begZ wq aq dq i) (by omega) (by omega) (by omega) (by omega) (by omega) (by omega) g_sea (by omega) (by omega) (by omega) (by omega) (by omega)) hE hS hAz (z_cut hP hD hAz [0, 1, 2, 3, 4, 5, 6, 7, 8, 9, 10, 11, 12, 13, 14, 15, 16, 17, 18, 19, 20, 21] rfl (by decide +kernel)) (zRc.of (ci := 7) (q0 := 0) hE hP rfl rfl) zk_cd_X7_followBy zk_in_RX7 zk_im_X7_followBy zk_se_X7_followBy zk_ml_RX7_159 rfl rfl zd_X7_followBy ⟨by decide, by decide⟩ rfl hl.1 rfl (Nat.le_of_ble_eq_true rfl) dX7_signalOf_41 ⟨by decide, by decide⟩) hP hD hS [0, 1, 2, 3, 4, 5, 6, 7, 8, 9, 10, 11, 12, 13, 14, 15, 16, 17, 18, 19, 20, 21] rfl (fun _ => rfl) (fun r_8 u_8 H locs hp_8 hP hD hS => ?_)
          have hP : va_P D vwCl (mdlW ad 0 cy th h su st sh fl ic sn bn fm fr cm em (u_8 0) (u_8 1) (u_8 2) (u_8 3) cS cH sea noi pl pw an hd bp bo bw c1 c2 c3 c4 c5 e1 e2 e3 e4 e5) H := hP
          have hD : va_D (zIn (mdlW ad 0 cy th h su st sh fl ic sn bn fm fr cm em lg le lf dl cS cH sea noi pl pw an hd bp bo bw c1 c2 c3 c4 c5 e1 e2 e3 e4 e5)) (mdlW ad 0 cy th h su st sh fl ic sn bn fm fr cm em (u_8 0) (u_8 1) (u_8 2) (u_8 3) cS cH sea noi pl pw an hd bp bo bw c1 c2 c3 c4 c5 e1 e2 e3 e4 e5) := hD
          rcases hp_8 with ⟨w_8, lg_8, le_8, dl_8, hs_8, rfl, rfl⟩ | ⟨hs_8, rfl⟩
          ·
            have hP : va_P D vwCl (mdlW ad 0 cy th h su st sh fl ic sn bn fm fr cm em lg_8 le_8 w_8 dl_8 cS cH sea noi pl pw an hd bp bo bw c1 c2 c3 c4 c5 e1 e2 e3 e4 e5) H := hP
            have hD : va_D (zIn (mdlW ad 0 cy th h su st sh fl ic sn bn fm fr cm em lg le lf dl cS cH sea noi pl pw an hd bp bo bw c1 c2 c3 c4 c5 e1 e2 e3 e4 e5)) (mdlW ad 0 cy th h su st sh fl ic sn bn fm fr cm em lg_8 le_8 w_8 dl_8 cS cH sea noi pl pw an hd bp bo bw c1 c2 c3 c4 c5 e1 e2 e3 e4 e5) := hD
            have hb_8 := rayZ_rg (mdD_rg h_fl) (by omega) (by omega) hs_8
            refine zi_if_eq (tgt := 63) M dX7_signalOf_44 (by decide) ⟨by decide, by decide⟩ (fun q => absurd q (by decide)) (fun _ => ?_)
            refine lv_aload_n M.1 M.2.1 dX7_signalOf_47 rfl (lv_at hl 1 rfl) ?_
            refine zi_get (ci := 7) (v := .int (iI w_8)) M hE hP 0 rfl rfl zu_X7 36 (by decide) zk_fl_RX7_135 rfl rfl dX7_signalOf_48 ?_
            refine lv_iload M.1 M.2.1 dX7_signalOf_51 (lv_at hl 8 rfl) ?_
            refine zi_icmp_le (tgt := 63) M dX7_signalOf_53 (by decide) (by omega) (by omega) (fun c_9 => ?_) (fun c_9 => ?_)
            ·
              refine lv_iload M.1 M.2.1 dX7_signalOf_63 (lv_at hl 8 rfl) ?_
              refine lv_istore (lv' := [(7, .int (iI bs)), (9, .int (iI (begZ wq aq dq i))), (0, .ref (ad 0)), (1, .int (iI q)), (2, .int (iI wq)), (3, .int (iI aq)), (4, .int (iI dq)), (5, .int (iI t)), (6, .int (iI f)), (8, .int (iI i))]) M.1 M.2.1 dX7_signalOf_65 hl (by decide) rfl (fun ls hl => ?_)
              refine zi_iinc (lv' := [(8, .int (iI (i + 1))), (7, .int (iI bs)), (9, .int (iI (begZ wq aq dq i))), (0, .ref (ad 0)), (1, .int (iI q)), (2, .int (iI wq)), (3, .int (iI aq)), (4, .int (iI dq)), (5, .int (iI t)), (6, .int (iI f))]) M dX7_signalOf_67 hl 9 rfl (by decide) rfl (fun ls hl => ?_)
              refine zi_goto (tgt := 8) M dX7_signalOf_70 (by decide) ?_
              exact ih_8 bs (i + 1) (u8 lg_8 le_8 w_8 dl_8 0 0 0 0) (by omega) (bestM hi.1 hbr.1 hbs (sgZ_s (by omega) hs_8) (by omega) (by rw [if_neg (by omega)]; first | exact (if_pos (by omega)).symm | exact (if_neg (by omega)).symm)) (by omega) _ _ hP hD hS ls (lv_sub hl [3, 4, 5, 6, 7, 8, 9, 1, 0] rfl)
            ·
              refine lv_aload_n M.1 M.2.1 dX7_signalOf_56 rfl (lv_at hl 1 rfl) ?_
              refine zi_get (ci := 7) (v := .int (iI w_8)) M hE hP 0 rfl rfl zu_X7 36 (by decide) zk_fl_RX7_135 rfl rfl dX7_signalOf_57 ?_
              refine zi_goto (tgt := 65) M dX7_signalOf_60 (by decide) ?_
              refine lv_istore (lv' := [(7, .int (iI w_8)), (9, .int (iI (begZ wq aq dq i))), (0, .ref (ad 0)), (1, .int (iI q)), (2, .int (iI wq)), (3, .int (iI aq)), (4, .int (iI dq)), (5, .int (iI t)), (6, .int (iI f)), (8, .int (iI i))]) M.1 M.2.1 dX7_signalOf_65 hl (by decide) rfl (fun ls hl => ?_)
              refine zi_iinc (lv' := [(8, .int (iI (i + 1))), (7, .int (iI w_8)), (9, .int (iI (begZ wq aq dq i))), (0, .ref (ad 0)), (1, .int (iI q)), (2, .int (iI wq)), (3, .int (iI aq)), (4, .int (iI dq)), (5, .int (iI t)), (6, .int (iI f))]) M dX7_signalOf_67 hl 9 rfl (by decide) rfl (fun ls hl => ?_)
              refine zi_goto (tgt := 8) M dX7_signalOf_70 (by decide) ?_
              exact ih_8 w_8 (i + 1) (u8 lg_8 le_8 w_8 dl_8 0 0 0 0) (by omega) (bestM hi.1 hbr.1 hbs (sgZ_s (by omega) hs_8) (by omega) (by rw [if_neg (by omega)]; first | exact (if_pos (by omega)).symm | exact (if_neg (by omega)).symm)) (by omega) _ _ hP hD hS ls (lv_sub hl [3, 4, 5, 6, 7, 8, 9, 1, 0] rfl)
          ·
            refine zi_if_eq (tgt := 63) M dX7_signalOf_44 (by decide) ⟨by decide, by decide⟩ (fun _ => ?_) (fun q => absurd q (by decide))
            refine lv_iload M.1 M.2.1 dX7_signalOf_63 (lv_at hl 8 rfl) ?_
            refine lv_istore (lv' := [(7, .int (iI bs)), (9, .int (iI (begZ wq aq dq i))), (0, .ref (ad 0)), (1, .int (iI q)), (2, .int (iI wq)), (3, .int (iI aq)), (4, .int (iI dq)), (5, .int (iI t)), (6, .int (iI f)), (8, .int (iI i))]) M.1 M.2.1 dX7_signalOf_65 hl (by decide) rfl (fun ls hl => ?_)
            refine zi_iinc (lv' := [(8, .int (iI (i + 1))), (7, .int (iI bs)), (9, .int (iI (begZ wq aq dq i))), (0, .ref (ad 0)), (1, .int (iI q)), (2, .int (iI wq)), (3, .int (iI aq)), (4, .int (iI dq)), (5, .int (iI t)), (6, .int (iI f))]) M dX7_signalOf_67 hl 9 rfl (by decide) rfl (fun ls hl => ?_)
            refine zi_goto (tgt := 8) M dX7_signalOf_70 (by decide) ?_
            exact ih_8 bs (i + 1) u_8 (by omega) (bestM hi.1 hbr.1 hbs (sgZ_n hs_8) (by omega) (by rw [if_pos rfl])) (by omega) _ _ hP hD hS ls (lv_sub hl [3, 4, 5, 6, 7, 8, 9, 1, 0] rfl)
  exact L_8 (Int.toNat (18 - 0) + 1) (-1000) 0 (u8 lg le lf dl 0 0 0 0) (by omega) rfl (by omega) _ _ hP hD hS ls (lv_sub hl [2, 3, 4, 5, 6, 7, 8, 1, 0] rfl)

set_option maxRecDepth 100000 in
set_option maxHeartbeats 4000000 in
theorem c_X7_signalBy (l : Launch) (D : va_G) (cy : Nat → ClassId) (z0 : Nat) (ad : Nat → Nat) (th h su st sh fl ic sn bn fm fr cm em lg le lf dl : Int) (cS cH sea noi pl pw an hd bp bo bw c1 c2 c3 c4 c5 e1 e2 e3 e4 e5 : Int → Int) (x : Int) (y : Int) (f : Int) (h_h : 0 ≤ h ∧ h ≤ 5000) (h_su : 0 ≤ su ∧ su ≤ 100) (h_st : 0 ≤ st ∧ st ≤ 60) (h_fl : 0 ≤ fl ∧ fl ≤ 80) (h_cS : zrg 48 0 100 cS) (h_ic : 0 ≤ ic ∧ ic ≤ 1) (g_sea : zrg 48 0 1 sea) (g_noi : zrg 48 0 40 noi) (g_pl : zrg 12 0 47 pl) (g_pw : zrg 12 0 80 pw) (g_an : zrg 12 0 2 an) (g_hd : zrg 12 0 2 hd) (hx : 0 ≤ x ∧ x < 12) (hy : 0 ≤ y ∧ y < 12) (hf : 10 ≤ f ∧ f ≤ 300) : Met l yX7_signalBy [.code yX7_signalBy cX7_signalBy 4 (some .int)] (zRm 7 0 0 180) (zPc [.ref (ad 0), .int (iI x), .int (iI y), .int (iI f)] D cy z0 (zWl D z0 (mdlW ad 0 cy th h su st sh fl ic sn bn fm fr cm em lg le lf dl cS cH sea noi pl pw an hd bp bo bw c1 c2 c3 c4 c5 e1 e2 e3 e4 e5))) (zQ1 D (mdlW ad 0 cy th h su st sh fl ic sn bn fm fr cm em lg le lf dl cS cH sea noi pl pw an hd bp bo bw c1 c2 c3 c4 c5 e1 e2 e3 e4 e5) (fun (r : Int32) (u : Nat → Int) => r = iI (sigZ (mdE ic h cS) (mdF ic h su st) (mdD ic h fl) sea noi h (pl x) (pl y) f (pw x) (an x) (hd x))) (fun (u : Nat → Int) => (mdlW ad 0 cy th h su st sh fl ic sn bn fm fr cm em (u 0) (u 1) (u 2) (u 3) cS cH sea noi pl pw an hd bp bo bw c1 c2 c3 c4 c5 e1 e2 e3 e4 e5))) 0 0 (zIn (mdlW ad 0 cy th h su st sh fl ic sn bn fm fr cm em lg le lf dl cS cH sea noi pl pw an hd bp bo bw c1 c2 c3 c4 c5 e1 e2 e3 e4 e5)) := by
  refine z_of (by decide) (Nat.le_of_ble_eq_true rfl) ?_
  intro p e s m args below meth c M hr hlk hini hargs hP0 hE ls hl
  have hP : va_P D vwCl (mdlW ad 0 cy th h su st sh fl ic sn bn fm fr cm em lg le lf dl cS cH sea noi pl pw an hd bp bo bw c1 c2 c3 c4 c5 e1 e2 e3 e4 e5) s.heap := hP0.1
  have hD : va_D (zIn (mdlW ad 0 cy th h su st sh fl ic sn bn fm fr cm em lg le lf dl cS cH sea noi pl pw an hd bp bo bw c1 c2 c3 c4 c5 e1 e2 e3 e4 e5)) (mdlW ad 0 cy th h su st sh fl ic sn bn fm fr cm em lg le lf dl cS cH sea noi pl pw an hd bp bo bw c1 c2 c3 c4 c5 e1 e2 e3 e4 e5) := hP0.self
  have hAz := hP0.A
  have hS : va_S (zIn (mdlW ad 0 cy th h su st sh fl ic sn bn fm fr cm em lg le lf dl cS cH sea noi pl pw an hd bp bo bw c1 c2 c3 c4 c5 e1 e2 e3 e4 e5)) s.heap s.heap [] := va_S.rf
  have hl : lv_has ls 4 [(0, .ref (ad 0)), (1, .int (iI x)), (2, .int (iI y)), (3, .int (iI f))] := hl
  refine lv_aload_n M.1 M.2.1 dX7_signalBy_0 rfl (lv_at hl 0 rfl) ?_
  refine lv_aload_n M.1 M.2.1 dX7_signalBy_1 rfl (lv_at hl 0 rfl) ?_
  refine zi_get (ci := 7) (v := .ref (ad (0 + 5))) M hE hP 0 rfl rfl zu_X7 12 (by decide) zk_fl_RX7_27 rfl rfl dX7_signalBy_2 ?_
  refine lv_iload_n M.1 M.2.1 dX7_signalBy_5 rfl (lv_at hl 1 rfl) ?_
  refine zi_iald M hE hP 5 (n := 12) (g := pl) rfl (Nat.le_of_ble_eq_true rfl) (by omega) (by omega) dX7_signalBy_6 ?_
  have hr_1 := g_pl x (by omega) (by omega)
  refine lv_aload_n M.1 M.2.1 dX7_signalBy_7 rfl (lv_at hl 0 rfl) ?_
  refine zi_get (ci := 7) (v := .ref (ad (0 + 6))) M hE hP 0 rfl rfl zu_X7 13 (by decide) zk_fl_RX7_30 rfl rfl dX7_signalBy_8 ?_
  refine lv_iload_n M.1 M.2.1 dX7_signalBy_11 rfl (lv_at hl 1 rfl) ?_
  refine zi_iald M hE hP 6 (n := 12) (g := pw) rfl (Nat.le_of_ble_eq_true rfl) (by omega) (by omega) dX7_signalBy_12 ?_
  have hr_2 := g_pw x (by omega) (by omega)
  refine lv_aload_n M.1 M.2.1 dX7_signalBy_13 rfl (lv_at hl 0 rfl) ?_
  refine zi_get (ci := 7) (v := .ref (ad (0 + 7))) M hE hP 0 rfl rfl zu_X7 14 (by decide) zk_fl_RX7_33 rfl rfl dX7_signalBy_14 ?_
  refine lv_iload_n M.1 M.2.1 dX7_signalBy_17 rfl (lv_at hl 1 rfl) ?_
  refine zi_iald M hE hP 7 (n := 12) (g := an) rfl (Nat.le_of_ble_eq_true rfl) (by omega) (by omega) dX7_signalBy_18 ?_
  have hr_3 := g_an x (by omega) (by omega)
  refine lv_aload_n M.1 M.2.1 dX7_signalBy_19 rfl (lv_at hl 0 rfl) ?_
  refine zi_get (ci := 7) (v := .ref (ad (0 + 8))) M hE hP 0 rfl rfl zu_X7 15 (by decide) zk_fl_RX7_36 rfl rfl dX7_signalBy_20 ?_
  refine lv_iload_n M.1 M.2.1 dX7_signalBy_23 rfl (lv_at hl 1 rfl) ?_
  refine zi_iald M hE hP 8 (n := 12) (g := hd) rfl (Nat.le_of_ble_eq_true rfl) (by omega) (by omega) dX7_signalBy_24 ?_
  have hr_4 := g_hd x (by omega) (by omega)
  refine lv_aload_n M.1 M.2.1 dX7_signalBy_25 rfl (lv_at hl 0 rfl) ?_
  refine zi_get (ci := 7) (v := .ref (ad (0 + 5))) M hE hP 0 rfl rfl zu_X7 12 (by decide) zk_fl_RX7_27 rfl rfl dX7_signalBy_26 ?_
  refine lv_iload_n M.1 M.2.1 dX7_signalBy_29 rfl (lv_at hl 2 rfl) ?_
  refine zi_iald M hE hP 5 (n := 12) (g := pl) rfl (Nat.le_of_ble_eq_true rfl) (by omega) (by omega) dX7_signalBy_30 ?_
  have hr_5 := g_pl y (by omega) (by omega)
  refine lv_iload_n M.1 M.2.1 dX7_signalBy_31 rfl (lv_at hl 3 rfl) ?_
  refine z_cW (z_runV (As := [.int (iI (pl x)), .int (iI (pw x)), .int (iI (an x)), .int (iI (hd x)), .int (iI (pl y)), .int (iI f)]) (rest := []) M (c_X7_signalOf l D cy z0 ad th h su st sh fl ic sn bn fm fr cm em lg le lf dl cS cH sea noi pl pw an hd bp bo bw c1 c2 c3 c4 c5 e1 e2 e3 e4 e5 (pl x) (pw x) (an x) (hd x) (pl y) f (by omega) (by omega) (by omega) (by omega) (by omega) (by omega) g_sea g_noi (by omega) (by omega) (by omega) (by omega) (by omega) (by omega)) hE hS hAz (z_cut hP hD hAz [0, 1, 2, 3, 4, 5, 6, 7, 8, 9, 10, 11, 12, 13, 14, 15, 16, 17, 18, 19, 20, 21] rfl (by decide +kernel)) (zRc.of (ci := 7) (q0 := 0) hE hP rfl rfl) zk_cd_X7_signalOf zk_in_RX7 zk_im_X7_signalOf zk_se_X7_signalOf zk_ml_RX7_170 rfl rfl zd_X7_signalOf ⟨by decide, by decide⟩ rfl hl.1 rfl (Nat.le_of_ble_eq_true rfl) dX7_signalBy_32 ⟨by decide, by decide⟩) hP hD hS [0, 1, 2, 3, 4, 5, 6, 7, 8, 9, 10, 11, 12, 13, 14, 15, 16, 17, 18, 19, 20, 21] rfl (fun _ => rfl) (fun r_6 u_6 H locs hp_6 hP hD hS => ?_)
  have hP : va_P D vwCl (mdlW ad 0 cy th h su st sh fl ic sn bn fm fr cm em (u_6 0) (u_6 1) (u_6 2) (u_6 3) cS cH sea noi pl pw an hd bp bo bw c1 c2 c3 c4 c5 e1 e2 e3 e4 e5) H := hP
  have hD : va_D (zIn (mdlW ad 0 cy th h su st sh fl ic sn bn fm fr cm em lg le lf dl cS cH sea noi pl pw an hd bp bo bw c1 c2 c3 c4 c5 e1 e2 e3 e4 e5)) (mdlW ad 0 cy th h su st sh fl ic sn bn fm fr cm em (u_6 0) (u_6 1) (u_6 2) (u_6 3) cS cH sea noi pl pw an hd bp bo bw c1 c2 c3 c4 c5 e1 e2 e3 e4 e5) := hD
  subst hp_6
  have hsg_6 : -1000 ≤ sigZ (mdE ic h cS) (mdF ic h su st) (mdD ic h fl) sea noi h (pl x) (pl y) f (pw x) (an x) (hd x) ∧ sigZ (mdE ic h cS) (mdF ic h su st) (mdD ic h fl) sea noi h (pl x) (pl y) f (pw x) (an x) (hd x) ≤ 88 := sigZ_rg (mdD_rg h_fl) g_noi (by omega) (by omega) (by omega) (by omega)
  have hP : va_P D vwCl (mdlW ad 0 cy th h su st sh fl ic sn bn fm fr cm em (u_6 0) (u_6 1) (u_6 2) (u_6 3) cS cH sea noi pl pw an hd bp bo bw c1 c2 c3 c4 c5 e1 e2 e3 e4 e5) H := hP
  exact zw_i M hr hlk u_6 hP hS (congrArg iI (show (sigZ (mdE ic h cS) (mdF ic h su st) (mdD ic h fl) sea noi h (pl x) (pl y) f (pw x) (an x) (hd x) : Int) = sigZ (mdE ic h cS) (mdF ic h su st) (mdD ic h fl) sea noi h (pl x) (pl y) f (pw x) (an x) (hd x) by rfl)) (by decide) (by decide) dX7_signalBy_35
