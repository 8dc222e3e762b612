/-! contracts: the model, what everybody may call, 3 -/
set_option maxRecDepth 100000 in
set_option maxHeartbeats 4000000 in
theorem c_X7_score (l : Launch) (D : va_G) (cy : Nat → ClassId) (z0 : Nat) (ad : Nat → Nat) (th h su st sh fl ic sn bn fm fr cm em lg le lf dl : Int) (cS cH sea noi pl pw an hd bp bo bw c1 c2 c3 c4 c5 e1 e2 e3 e4 e5 : Int → Int) (x : Int) (r_x : r32 x) (h_h : 0 ≤ h ∧ h ≤ 5000) (hsm : 0 ≤ sn ∧ sn ≤ 12) (hcm : 0 ≤ cm ∧ cm ≤ 60) (hem : 0 ≤ em ∧ em ≤ 80) (g_pl : zrg 12 0 47 pl) (g_c1 : zrg 60 0 11 c1) (g_c2 : zrg 60 0 11 c2) (g_c3 : zrg 60 0 300 c3) (g_c5 : zrg 60 0 5000 c5) (g_e1 : zrg 80 0 11 e1) (g_e2 : zrg 80 0 11 e2) (g_e3 : zrg 80 0 300 e3) (g_e4 : zrg 80 0 5000 e4) (g_e5 : zrg 80 (-1) 79 e5) : Met l yX7_score [.code yX7_score cX7_score 7 (some .int)] (zRm 2 0 0 43) (zPc [.ref (ad 0), .int (iI x)] D cy z0 (zWl D z0 (mdlW ad 0 cy th h su st sh fl ic sn bn fm fr cm em lg le lf dl cS cH sea noi pl pw an hd bp bo bw c1 c2 c3 c4 c5 e1 e2 e3 e4 e5))) (zQ1 D (mdlW ad 0 cy th h su st sh fl ic sn bn fm fr cm em lg le lf dl cS cH sea noi pl pw an hd bp bo bw c1 c2 c3 c4 c5 e1 e2 e3 e4 e5) (fun (r : Int32) (u : Int) => (u = 0 ∧ ((0 ≤ x ∧ x < sn)) ∧ r = iI (scZ cm c1 c2 c3 c5 e1 e2 e3 e4 e5 pl em h x)) ∨ (u = 1 ∧ (¬ (0 ≤ x ∧ x < sn)) ∧ r = iI 0)) (fun (u : Int) => (mdlW ad 0 cy u h su st sh fl ic sn bn fm fr cm em lg le lf dl cS cH sea noi pl pw an hd bp bo bw c1 c2 c3 c4 c5 e1 e2 e3 e4 e5))) 0 0 (zIn (mdlW ad 0 cy th h su st sh fl ic sn bn fm fr cm em lg le lf dl cS cH sea noi pl pw an hd bp bo bw c1 c2 c3 c4 c5 e1 e2 e3 e4 e5)) := by
  refine z_of (by decide) (Nat.le_of_ble_eq_true rfl) ?_
  intro p e s m args below meth c M hr hlk hini hargs hP0 hE ls hl
  have hP : va_P D vwCl (mdlW ad 0 cy th h su st sh fl ic sn bn fm fr cm em lg le lf dl cS cH sea noi pl pw an hd bp bo bw c1 c2 c3 c4 c5 e1 e2 e3 e4 e5) s.heap := hP0.1
  have hD : va_D (zIn (mdlW ad 0 cy th h su st sh fl ic sn bn fm fr cm em lg le lf dl cS cH sea noi pl pw an hd bp bo bw c1 c2 c3 c4 c5 e1 e2 e3 e4 e5)) (mdlW ad 0 cy th h su st sh fl ic sn bn fm fr cm em lg le lf dl cS cH sea noi pl pw an hd bp bo bw c1 c2 c3 c4 c5 e1 e2 e3 e4 e5) := hP0.self
  have hAz := hP0.A
  have hS : va_S (zIn (mdlW ad 0 cy th h su st sh fl ic sn bn fm fr cm em lg le lf dl cS cH sea noi pl pw an hd bp bo bw c1 c2 c3 c4 c5 e1 e2 e3 e4 e5)) s.heap s.heap [] := va_S.rf
  have hl : lv_has ls 7 [(0, .ref (ad 0)), (1, .int (iI x))] := hl
  refine lv_aload_n M.1 M.2.1 dX7_score_0 rfl (lv_at hl 0 rfl) ?_
  refine lv_aload_n M.1 M.2.1 dX7_score_1 rfl (lv_at hl 0 rfl) ?_
  refine lv_iload_n M.1 M.2.1 dX7_score_2 rfl (lv_at hl 1 rfl) ?_
  refine z_cR (z_runV (As := [.int (iI x)]) (rest := [.ref (ad 0)]) M (c_X7_isStation l D cy z0 ad th h su st sh fl ic sn bn fm fr cm em lg le lf dl cS cH sea noi pl pw an hd bp bo bw c1 c2 c3 c4 c5 e1 e2 e3 e4 e5 x (by omega) (by omega)) hE hS hAz hP (zRc.of (ci := 7) (q0 := 0) hE hP rfl rfl) zk_cd_X7_isStation zk_in_RX7 zk_im_X7_isStation zk_se_X7_isStation zk_ml_RX7_177 rfl rfl zd_X7_isStation ⟨by decide, by decide⟩ rfl hl.1 rfl (Nat.le_of_ble_eq_true rfl) dX7_score_3 ⟨by decide, by decide⟩) ?_
  refine zi_b (P := 0 ≤ x ∧ x ≤ sn - 1) (g := fun r => F0 m 6 ls (.int r :: [.ref (ad 0)])) (fun b_1 => ?_) (fun b_1 => ?_)
  ·
    refine zi_if_eq (tgt := 13) M dX7_score_6 (by decide) ⟨by decide, by decide⟩ (fun q => absurd q (by decide)) (fun _ => ?_)
    refine zi_push M dX7_score_9 ?_
    refine zi_goto (tgt := 14) M dX7_score_10 (by decide) ?_
    refine z_cW (z_runV (As := [.int (iI 0)]) (rest := []) M (c_X7_goesWell l D cy z0 ad th h su st sh fl ic sn bn fm fr cm em lg le lf dl cS cH sea noi pl pw an hd bp bo bw c1 c2 c3 c4 c5 e1 e2 e3 e4 e5 0 (by omega)) hE hS hAz (z_cut hP hD hAz [0, 1, 2, 3, 4, 5, 6, 7, 8, 9, 10, 11, 12, 13, 14, 15, 16, 17, 18, 19, 20, 21] rfl (by decide +kernel)) (zRc.of (ci := 7) (q0 := 0) hE hP rfl rfl) zk_cd_X7_goesWell zk_in_RX7 zk_im_X7_goesWell zk_se_X7_goesWell zk_ml_RX7_88 rfl rfl zd_X7_goesWell ⟨by decide, by decide⟩ rfl hl.1 rfl (Nat.le_of_ble_eq_true rfl) dX7_score_14 ⟨by decide, by decide⟩) hP hD hS [0, 1, 2, 3, 4, 5, 6, 7, 8, 9, 10, 11, 12, 13, 14, 15, 16, 17, 18, 19, 20, 21] rfl (fun _ => rfl) (fun r_2 u_2 H locs hp_2 hP hD hS => ?_)
    have hP : va_P D vwCl (mdlW ad 0 cy 0 h su st sh fl ic sn bn fm fr cm em lg le lf dl cS cH sea noi pl pw an hd bp bo bw c1 c2 c3 c4 c5 e1 e2 e3 e4 e5) H := hP
    have hD : va_D (zIn (mdlW ad 0 cy th h su st sh fl ic sn bn fm fr cm em lg le lf dl cS cH sea noi pl pw an hd bp bo bw c1 c2 c3 c4 c5 e1 e2 e3 e4 e5)) (mdlW ad 0 cy 0 h su st sh fl ic sn bn fm fr cm em lg le lf dl cS cH sea noi pl pw an hd bp bo bw c1 c2 c3 c4 c5 e1 e2 e3 e4 e5) := hD
    subst hp_2
    refine z_rw (b := 1) rfl ?_
    refine zi_if_ne (tgt := 22) M dX7_score_17 (by decide) ⟨by decide, by decide⟩ (fun _ => ?_) (fun q => absurd q (by decide))
    refine zi_push M dX7_score_22 ?_
    refine lv_istore_n (lv' := [(2, .int (iI 0)), (0, .ref (ad 0)), (1, .int (iI x))]) M.1 M.2.1 dX7_score_23 rfl hl (by decide) rfl (fun ls hl => ?_)
    refine zi_push M dX7_score_24 ?_
    refine lv_istore_n (lv' := [(3, .int (iI 0)), (2, .int (iI 0)), (0, .ref (ad 0)), (1, .int (iI x))]) M.1 M.2.1 dX7_score_25 rfl hl (by decide) rfl (fun ls hl => ?_)
    refine zi_push M dX7_score_26 ?_
    refine lv_istore (lv' := [(4, .int (iI 0)), (3, .int (iI 0)), (2, .int (iI 0)), (0, .ref (ad 0)), (1, .int (iI x))]) M.1 M.2.1 dX7_score_27 hl (by decide) rfl (fun ls hl => ?_)
    refine zi_push M dX7_score_29 ?_
    refine lv_istore (lv' := [(5, .int (iI 0)), (4, .int (iI 0)), (3, .int (iI 0)), (2, .int (iI 0)), (0, .ref (ad 0)), (1, .int (iI x))]) M.1 M.2.1 dX7_score_30 hl (by decide) rfl (fun ls hl => ?_)
    have L_32 : ∀ (k_32 : Nat) (pt : Int) (ln : Int) (ms : Int) (i : Int) (hi : 0 ≤ i ∧ i ≤ em) (h1 : pt = ptF cm c1 c2 c3 c5 e1 e2 e3 e4 e5 pl x i.toNat) (h2 : ln = lnF cm c1 c2 c3 c5 e1 e2 e3 e4 e5 pl x i.toNat) (h3 : ms = msF e1 e4 e5 h x i.toNat) (hm : em - i < (k_32 : Int)) (H : Heap) (locs : List Loc) (hP : va_P D vwCl (mdlW ad 0 cy 0 h su st sh fl ic sn bn fm fr cm em lg le lf dl cS cH sea noi pl pw an hd bp bo bw c1 c2 c3 c4 c5 e1 e2 e3 e4 e5) H) (hD : va_D (zIn (mdlW ad 0 cy th h su st sh fl ic sn bn fm fr cm em lg le lf dl cS cH sea noi pl pw an hd bp bo bw c1 c2 c3 c4 c5 e1 e2 e3 e4 e5)) (mdlW ad 0 cy 0 h su st sh fl ic sn bn fm fr cm em lg le lf dl cS cH sea noi pl pw an hd bp bo bw c1 c2 c3 c4 c5 e1 e2 e3 e4 e5)) (hS : va_S (zIn (mdlW ad 0 cy th h su st sh fl ic sn bn fm fr cm em lg le lf dl cS cH sea noi pl pw an hd bp bo bw c1 c2 c3 c4 c5 e1 e2 e3 e4 e5)) s.heap H locs) (ls : Array Slot) (hl : lv_has ls 7 [(0, .ref (ad 0)), (1, .int (iI x)), (2, .int (iI pt)), (3, .int (iI ln)), (4, .int (iI ms)), (5, .int (iI i))]), W p l e (zRm 2 0 0 43) s m args below meth c H locs 0 0 (MQ below (zQ1 D (mdlW ad 0 cy th h su st sh fl ic sn bn fm fr cm em lg le lf dl cS cH sea noi pl pw an hd bp bo bw c1 c2 c3 c4 c5 e1 e2 e3 e4 e5) (fun (r : Int32) (u : Int) => (u = 0 ∧ ((0 ≤ x ∧ x < sn)) ∧ r = iI (scZ cm c1 c2 c3 c5 e1 e2 e3 e4 e5 pl em h x)) ∨ (u = 1 ∧ (¬ (0 ≤ x ∧ x < sn)) ∧ r = iI 0)) (fun (u : Int) => (mdlW ad 0 cy u h su st sh fl ic sn bn fm fr cm em lg le lf dl cS cH sea noi pl pw an hd bp bo bw c1 c2 c3 c4 c5 e1 e2 e3 e4 e5))) args s 0 0 (zIn (mdlW ad 0 cy th h su st sh fl ic sn bn fm fr cm em lg le lf dl cS cH sea noi pl pw an hd bp bo bw c1 c2 c3 c4 c5 e1 e2 e3 e4 e5))) (F0 m 32 ls []) := by
      intro k_32
      induction k_32 with
      | zero =>
        intro pt ln ms i hi h1 h2 h3 hm H locs hP hD hS ls hl
        exact absurd hm (by omega)
      | succ k_32 ih_32 =>
        intro pt ln ms i hi h1 h2 h3 hm H locs hP hD hS ls hl
        have hlr := lnF_rg (cm := cm) (c1 := c1) (c2 := c2) (c3 := c3) (c5 := c5) (e1 := e1) (e3 := e3) (e4 := e4) (e5 := e5) (x := x) g_pl g_e2 i.toNat (by omega)
        rw [← h2] at hlr
        refine lv_iload M.1 M.2.1 dX7_score_32 (lv_at hl 5 rfl) ?_
        refine lv_aload_n M.1 M.2.1 dX7_score_34 rfl (lv_at hl 0 rfl) ?_
        refine zi_get (ci := 7) (v := .int (iI em)) M hE hP 0 rfl rfl zu_X7 28 (by decide) zk_fl_RX7_187 rfl rfl dX7_score_35 ?_
        refine zi_icmp_ge (tgt := 164) M dX7_score_38 (by decide) (by omega) (by omega) (fun c_3 => ?_) (fun c_3 => ?_)
        ·
          refine zi_push M dX7_score_164 ?_
          refine lv_istore (lv' := [(5, .int (iI 0)), (0, .ref (ad 0)), (1, .int (iI x)), (2, .int (iI pt)), (3, .int (iI ln)), (4, .int (iI ms))]) M.1 M.2.1 dX7_score_165 hl (by decide) rfl (fun ls hl => ?_)
          refine zi_push M dX7_score_167 ?_
          refine lv_istore (lv' := [(6, .int (iI 0)), (5, .int (iI 0)), (0, .ref (ad 0)), (1, .int (iI x)), (2, .int (iI pt)), (3, .int (iI ln)), (4, .int (iI ms))]) M.1 M.2.1 dX7_score_168 hl (by decide) rfl (fun ls hl => ?_)
          refine lv_iload M.1 M.2.1 dX7_score_170 (lv_at hl 0 rfl) ?_
          refine zi_bipush M dX7_score_172 ⟨by decide, by decide⟩ ?_
          refine zi_icmp_ge (tgt := 194) M dX7_score_174 (by decide) ⟨by decide, by decide⟩ ⟨by decide, by decide⟩ (fun q => absurd q (by decide)) (fun _ => ?_)
          refine lv_iload M.1 M.2.1 dX7_score_177 (lv_at hl 1 rfl) ?_
          refine lv_iload_n M.1 M.2.1 dX7_score_179 rfl (lv_at hl 5 rfl) ?_
          refine lv_iload M.1 M.2.1 dX7_score_180 (lv_at hl 0 rfl) ?_
          refine zi_bit M (by omega) 0 (by decide) (c2 := 1) rfl rfl dX7_score_182 dX7_score_183 dX7_score_184 ?_
          refine zi_iadd M dX7_score_185 ?_
          refine lv_istore (lv' := [(5, .int (iI (0 + (ln / 1 % 2)))), (6, .int (iI 0)), (0, .ref (ad 0)), (1, .int (iI x)), (2, .int (iI pt)), (3, .int (iI ln)), (4, .int (iI ms))]) M.1 M.2.1 dX7_score_186 hl (by decide) rfl (fun ls hl => ?_)
          refine zi_iinc (lv' := [(6, .int (iI 1)), (5, .int (iI (0 + (ln / 1 % 2)))), (0, .ref (ad 0)), (1, .int (iI x)), (2, .int (iI pt)), (3, .int (iI ln)), (4, .int (iI ms))]) M dX7_score_188 hl 1 rfl (by decide) rfl (fun ls hl => ?_)
          refine zi_goto (tgt := 170) M dX7_score_191 (by decide) ?_
          refine lv_iload M.1 M.2.1 dX7_score_170 (lv_at hl 0 rfl) ?_
          refine zi_bipush M dX7_score_172 ⟨by decide, by decide⟩ ?_
          refine zi_icmp_ge (tgt := 194) M dX7_score_174 (by decide) ⟨by decide, by decide⟩ ⟨by decide, by decide⟩ (fun q => absurd q (by decide)) (fun _ => ?_)
          refine lv_iload M.1 M.2.1 dX7_score_177 (lv_at hl 1 rfl) ?_
          refine lv_iload_n M.1 M.2.1 dX7_score_179 rfl (lv_at hl 5 rfl) ?_
          refine lv_iload M.1 M.2.1 dX7_score_180 (lv_at hl 0 rfl) ?_
          refine zi_bit M (by omega) 1 (by decide) (c2 := 2) rfl rfl dX7_score_182 dX7_score_183 dX7_score_184 ?_
          refine zi_iadd M dX7_score_185 ?_
          refine lv_istore (lv' := [(5, .int (iI ((0 + (ln / 1 % 2)) + (ln / 2 % 2)))), (6, .int (iI 1)), (0, .ref (ad 0)), (1, .int (iI x)), (2, .int (iI pt)), (3, .int (iI ln)), (4, .int (iI ms))]) M.1 M.2.1 dX7_score_186 hl (by decide) rfl (fun ls hl => ?_)
          refine zi_iinc (lv' := [(6, .int (iI 2)), (5, .int (iI ((0 + (ln / 1 % 2)) + (ln / 2 % 2)))), (0, .ref (ad 0)), (1, .int (iI x)), (2, .int (iI pt)), (3, .int (iI ln)), (4, .int (iI ms))]) M dX7_score_188 hl 1 rfl (by decide) rfl (fun ls hl => ?_)
          refine zi_goto (tgt := 170) M dX7_score_191 (by decide) ?_
          refine lv_iload M.1 M.2.1 dX7_score_170 (lv_at hl 0 rfl) ?_
          refine zi_bipush M dX7_score_172 ⟨by decide, by decide⟩ ?_
          refine zi_icmp_ge (tgt := 194) M dX7_score_174 (by decide) ⟨by decide, by decide⟩ ⟨by decide, by decide⟩ (fun q => absurd q (by decide)) (fun _ => ?_)
          refine lv_iload M.1 M.2.1 dX7_score_177 (lv_at hl 1 rfl) ?_
          refine lv_iload_n M.1 M.2.1 dX7_score_179 rfl (lv_at hl 5 rfl) ?_
          refine lv_iload M.1 M.2.1 dX7_score_180 (lv_at hl 0 rfl) ?_
          refine zi_bit M (by omega) 2 (by decide) (c2 := 4) rfl rfl dX7_score_182 dX7_score_183 dX7_score_184 ?_
          refine zi_iadd M dX7_score_185 ?_
          refine lv_istore (lv' := [(5, .int (iI (((0 + (ln / 1 % 2)) + (ln / 2 % 2)) + (ln / 4 % 2)))), (6, .int (iI 2)), (0, .ref (ad 0)), (1, .int (iI x)), (2, .int (iI pt)), (3, .int (iI ln)), (4, .int (iI ms))]) M.1 M.2.1 dX7_score_186 hl (by decide) rfl (fun ls hl => ?_)
          refine zi_iinc (lv' := [(6, .int (iI 3)), (5, .int (iI (((0 + (ln / 1 % 2)) + (ln / 2 % 2)) + (ln / 4 % 2)))), (0, .ref (ad 0)), (1, .int (iI x)), (2, .int (iI pt)), (3, .int (iI ln)), (4, .int (iI ms))]) M dX7_score_188 hl 1 rfl (by decide) rfl (fun ls hl => ?_)
          refine zi_goto (tgt := 170) M dX7_score_191 (by decide) ?_
          refine lv_iload M.1 M.2.1 dX7_score_170 (lv_at hl 0 rfl) ?_
          refine zi_bipush M dX7_score_172 ⟨by decide, by decide⟩ ?_
          refine zi_icmp_ge (tgt := 194) M dX7_score_174 (by decide) ⟨by decide, by decide⟩ ⟨by decide, by decide⟩ (fun q => absurd q (by decide)) (fun _ => ?_)
          refine lv_iload M.1 M.2.1 dX7_score_177 (lv_at hl 1 rfl) ?_
          refine lv_iload_n M.1 M.2.1 dX7_score_179 rfl (lv_at hl 5 rfl) ?_
          refine lv_iload M.1 M.2.1 dX7_score_180 (lv_at hl 0 rfl) ?_
          refine zi_bit M (by omega) 3 (by decide) (c2 := 8) rfl rfl dX7_score_182 dX7_score_183 dX7_score_184 ?_
          refine zi_iadd M dX7_score_185 ?_
          refine lv_istore (lv' := [(5, .int (iI ((((0 + (ln / 1 % 2)) + (ln / 2 % 2)) + (ln / 4 % 2)) + (ln / 8 % 2)))), (6, .int (iI 3)), (0, .ref (ad 0)), (1, .int (iI x)), (2, .int (iI pt)), (3, .int (iI ln)), (4, .int (iI ms))]) M.1 M.2.1 dX7_score_186 hl (by decide) rfl (fun ls hl => ?_)
          refine zi_iinc (lv' := [(6, .int (iI 4)), (5, .int (iI ((((0 + (ln / 1 % 2)) + (ln / 2 % 2)) + (ln / 4 % 2)) + (ln / 8 % 2)))), (0, .ref (ad 0)), (1, .int (iI x)), (2, .int (iI pt)), (3, .int (iI ln)), (4, .int (iI ms))]) M dX7_score_188 hl 1 rfl (by decide) rfl (fun ls hl => ?_)
          refine zi_goto (tgt := 170) M dX7_score_191 (by decide) ?_
          refine lv_iload M.1 M.2.1 dX7_score_170 (lv_at hl 0 rfl) ?_
          refine zi_bipush M dX7_score_172 ⟨by decide, by decide⟩ ?_
          refine zi_icmp_ge (tgt := 194) M dX7_score_174 (by decide) ⟨by decide, by decide⟩ ⟨by decide, by decide⟩ (fun q => absurd q (by decide)) (fun _ => ?_)
          refine lv_iload M.1 M.2.1 dX7_score_177 (lv_at hl 1 rfl) ?_
          refine lv_iload_n M.1 M.2.1 dX7_score_179 rfl (lv_at hl 5 rfl) ?_
          refine lv_iload M.1 M.2.1 dX7_score_180 (lv_at hl 0 rfl) ?_
          refine zi_bit M (by omega) 4 (by decide) (c2 := 16) rfl rfl dX7_score_182 dX7_score_183 dX7_score_184 ?_
          refine zi_iadd M dX7_score_185 ?_
          refine lv_istore (lv' := [(5, .int (iI (((((0 + (ln / 1 % 2)) + (ln / 2 % 2)) + (ln / 4 % 2)) + (ln / 8 % 2)) + (ln / 16 % 2)))), (6, .int (iI 4)), (0, .ref (ad 0)), (1, .int (iI x)), (2, .int (iI pt)), (3, .int (iI ln)), (4, .int (iI ms))]) M.1 M.2.1 dX7_score_186 hl (by decide) rfl (fun ls hl => ?_)
          refine zi_iinc (lv' := [(6, .int (iI 5)), (5, .int (iI (((((0 + (ln / 1 % 2)) + (ln / 2 % 2)) + (ln / 4 % 2)) + (ln / 8 % 2)) + (ln / 16 % 2)))), (0, .ref (ad 0)), (1, .int (iI x)), (2, .int (iI pt)), (3, .int (iI ln)), (4, .int (iI ms))]) M dX7_score_188 hl 1 rfl (by decide) rfl (fun ls hl => ?_)
          refine zi_goto (tgt := 170) M dX7_score_191 (by decide) ?_
          refine lv_iload M.1 M.2.1 dX7_score_170 (lv_at hl 0 rfl) ?_
          refine zi_bipush M dX7_score_172 ⟨by decide, by decide⟩ ?_
          refine zi_icmp_ge (tgt := 194) M dX7_score_174 (by decide) ⟨by decide, by decide⟩ ⟨by decide, by decide⟩ (fun q => absurd q (by decide)) (fun _ => ?_)
          refine lv_iload M.1 M.2.1 dX7_score_177 (lv_at hl 1 rfl) ?_
          refine lv_iload_n M.1 M.2.1 dX7_score_179 rfl (lv_at hl 5 rfl) ?_
          refine lv_iload M.1 M.2.1 dX7_score_180 (lv_at hl 0 rfl) ?_
          refine zi_bit M (by omega) 5 (by decide) (c2 := 32) rfl rfl dX7_score_182 dX7_score_183 dX7_score_184 ?_
          refine zi_iadd M dX7_score_185 ?_
          refine lv_istore (lv' := [(5, .int (iI ((((((0 + (ln / 1 % 2)) + (ln / 2 % 2)) + (ln / 4 % 2)) + (ln / 8 % 2)) + (ln / 16 % 2)) + (ln / 32 % 2)))), (6, .int (iI 5)), (0, .ref (ad 0)), (1, .int (iI x)), (2, .int (iI pt)), (3, .int (iI ln)), (4, .int (iI ms))]) M.1 M.2.1 dX7_score_186 hl (by decide) rfl (fun ls hl => ?_)
          refine zi_iinc (lv' := [(6, .int (iI 6)), (5, .int (iI ((((((0 + (ln / 1 % 2)) + (ln / 2 % 2)) + (ln / 4 % 2)) + (ln / 8 % 2)) + (ln / 16 % 2)) + (ln / 32 % 2)))), (0, .ref (ad 0)), (1, .int (iI x)), (2, .int (iI pt)), (3, .int (iI ln)), (4, .int (iI ms))]) M dX7_score_188 hl 1 rfl (by decide) rfl (fun ls hl => ?_)
          refine zi_goto (tgt := 170) M dX7_score_191 (by decide) ?_
          refine lv_iload M.1 M.2.1 dX7_score_170 (lv_at hl 0 rfl) ?_
          refine zi_bipush M dX7_score_172 ⟨by decide, by decide⟩ ?_
          refine zi_icmp_ge (tgt := 194) M dX7_score_174 (by decide) ⟨by decide, by decide⟩ ⟨by decide, by decide⟩ (fun q => absurd q (by decide)) (fun _ => ?_)
          refine lv_iload M.1 M.2.1 dX7_score_177 (lv_at hl 1 rfl) ?_
          refine lv_iload_n M.1 M.2.1 dX7_score_179 rfl (lv_at hl 5 rfl) ?_
          refine lv_iload M.1 M.2.1 dX7_score_180 (lv_at hl 0 rfl) ?_
          refine zi_bit M (by omega) 6 (by decide) (c2 := 64) rfl rfl dX7_score_182 dX7_score_183 dX7_score_184 ?_
          refine zi_iadd M dX7_score_185 ?_
          refine lv_istore (lv' := [(5, .int (iI (((((((0 + (ln / 1 % 2)) + (ln / 2 % 2)) + (ln / 4 % 2)) + (ln / 8 % 2)) + (ln / 16 % 2)) + (ln / 32 % 2)) + (ln / 64 % 2)))), (6, .int (iI 6)), (0, .ref (ad 0)), (1, .int (iI x)), (2, .int (iI pt)), (3, .int (iI ln)), (4, .int (iI ms))]) M.1 M.2.1 dX7_score_186 hl (by decide) rfl (fun ls hl => ?_)
          refine zi_iinc (lv' := [(6, .int (iI 7)), (5, .int (iI (((((((0 + (ln / 1 % 2)) + (ln / 2 % 2)) + (ln / 4 % 2)) + (ln / 8 % 2)) + (ln / 16 % 2)) + (ln / 32 % 2)) + (ln / 64 % 2)))), (0, .ref (ad 0)), (1, .int (iI x)), (2, .int (iI pt)), (3, .int (iI ln)), (4, .int (iI ms))]) M dX7_score_188 hl 1 rfl (by decide) rfl (fun ls hl => ?_)
          refine zi_goto (tgt := 170) M dX7_score_191 (by decide) ?_
          refine lv_iload M.1 M.2.1 dX7_score_170 (lv_at hl 0 rfl) ?_
          refine zi_bipush M dX7_score_172 ⟨by decide, by decide⟩ ?_
          refine zi_icmp_ge (tgt := 194) M dX7_score_174 (by decide) ⟨by decide, by decide⟩ ⟨by decide, by decide⟩ (fun q => absurd q (by decide)) (fun _ => ?_)
          refine lv_iload M.1 M.2.1 dX7_score_177 (lv_at hl 1 rfl) ?_
          refine lv_iload_n M.1 M.2.1 dX7_score_179 rfl (lv_at hl 5 rfl) ?_
          refine lv_iload M.1 M.2.1 dX7_score_180 (lv_at hl 0 rfl) ?_
          refine zi_bit M (by omega) 7 (by decide) (c2 := 128) rfl rfl dX7_score_182 dX7_score_183 dX7_score_184 ?_
          refine zi_iadd M dX7_score_185 ?_
          refine lv_istore (lv' := [(5, .int (iI ((((((((0 + (ln / 1 % 2)) + (ln / 2 % 2)) + (ln / 4 % 2)) + (ln / 8 % 2)) + (ln / 16 % 2)) + (ln / 32 % 2)) + (ln / 64 % 2)) + (ln / 128 % 2)))), (6, .int (iI 7)), (0, .ref (ad 0)), (1, .int (iI x)), (2, .int (iI pt)), (3, .int (iI ln)), (4, .int (iI ms))]) M.1 M.2.1 dX7_score_186 hl (by decide) rfl (fun ls hl => ?_)
          refine zi_iinc (lv' := [(6, .int (iI 8)), (5, .int (iI ((((((((0 + (ln / 1 % 2)) + (ln / 2 % 2)) + (ln / 4 % 2)) + (ln / 8 % 2)) + (ln / 16 % 2)) + (ln / 32 % 2)) + (ln / 64 % 2)) + (ln / 128 % 2)))), (0, .ref (ad 0)), (1, .int (iI x)), (2, .int (iI pt)), (3, .int (iI ln)), (4, .int (iI ms))]) M dX7_score_188 hl 1 rfl (by decide) rfl (fun ls hl => ?_)
          refine zi_goto (tgt := 170) M dX7_score_191 (by decide) ?_
          refine lv_iload M.1 M.2.1 dX7_score_170 (lv_at hl 0 rfl) ?_
          refine zi_bipush M dX7_score_172 ⟨by decide, by decide⟩ ?_
          refine zi_icmp_ge (tgt := 194) M dX7_score_174 (by decide) ⟨by decide, by decide⟩ ⟨by decide, by decide⟩ (fun _ => ?_) (fun q => absurd q (by decide))
          refine lv_iload_n M.1 M.2.1 dX7_score_194 rfl (lv_at hl 4 rfl) ?_
          refine lv_iload M.1 M.2.1 dX7_score_195 (lv_at hl 1 rfl) ?_
          refine zi_imul M dX7_score_197 ?_
          refine zi_push M dX7_score_198 ?_
          refine lv_iload M.1 M.2.1 dX7_score_199 (lv_at hl 6 rfl) ?_
          refine zi_imul M dX7_score_201 ?_
          refine zi_isub M dX7_score_202 ?_
          have hP : va_P D vwCl (mdlW ad 0 cy 0 h su st sh fl ic sn bn fm fr cm em lg le lf dl cS cH sea noi pl pw an hd bp bo bw c1 c2 c3 c4 c5 e1 e2 e3 e4 e5) H := hP
          exact zw_i M hr hlk 0 hP hS (by exact Or.inl ⟨rfl, by omega, congrArg iI (show (((pt * ((((((((0 + (ln / 1 % 2)) + (ln / 2 % 2)) + (ln / 4 % 2)) + (ln / 8 % 2)) + (ln / 16 % 2)) + (ln / 32 % 2)) + (ln / 64 % 2)) + (ln / 128 % 2))) - (3 * ms)) : Int) = scZ cm c1 c2 c3 c5 e1 e2 e3 e4 e5 pl em h x by (unfold scZ; rw [show ((((((((0 + (ln / 1 % 2)) + (ln / 2 % 2)) + (ln / 4 % 2)) + (ln / 8 % 2)) + (ln / 16 % 2)) + (ln / 32 % 2)) + (ln / 64 % 2)) + (ln / 128 % 2)) = popZ ln from by unfold popZ; omega, h1, h2, h3, show i = em from by omega]))⟩) (by decide) (by decide) dX7_score_203
        ·
          refine lv_aload_n M.1 M.2.1 dX7_score_41 rfl (lv_at hl 0 rfl) ?_
          refine zi_get (ci := 7) (v := .ref (ad (0 + 17))) M hE hP 0 rfl rfl zu_X7 29 (by decide) zk_fl_RX7_63 rfl rfl dX7_score_42 ?_
          refine lv_iload M.1 M.2.1 dX7_score_45 (lv_at hl 5 rfl) ?_
          refine zi_iald M hE hP 17 (n := 80) (g := e1) rfl (Nat.le_of_ble_eq_true rfl) (by omega) (by omega) dX7_score_47 ?_
          have hr_4 := g_e1 i (by omega) (by omega)
          refine lv_iload_n M.1 M.2.1 dX7_score_48 rfl (lv_at hl 1 rfl) ?_
          refine zi_icmp_ne (tgt := 110) M dX7_score_49 (by decide) (by omega) (by omega) (fun c_5 => ?_) (fun c_5 => ?_)
          ·
            refine lv_iload M.1 M.2.1 dX7_score_110 (lv_at hl 4 rfl) ?_
            refine lv_aload_n M.1 M.2.1 dX7_score_112 rfl (lv_at hl 0 rfl) ?_
            refine zi_get (ci := 7) (v := .ref (ad (0 + 17))) M hE hP 0 rfl rfl zu_X7 29 (by decide) zk_fl_RX7_63 rfl rfl dX7_score_113 ?_
            refine lv_iload M.1 M.2.1 dX7_score_116 (lv_at hl 5 rfl) ?_
            refine zi_iald M hE hP 17 (n := 80) (g := e1) rfl (Nat.le_of_ble_eq_true rfl) (by omega) (by omega) dX7_score_118 ?_
            have hr_6 := g_e1 i (by omega) (by omega)
            refine lv_iload_n M.1 M.2.1 dX7_score_119 rfl (lv_at hl 1 rfl) ?_
            refine zi_icmp_ne (tgt := 154) M dX7_score_120 (by decide) (by omega) (by omega) (fun _ => ?_) (fun q => absurd q c_5)
            refine zi_push M dX7_score_154 ?_
            refine zi_iadd M dX7_score_155 ?_
            refine lv_istore (lv' := [(4, .int (iI (ms + 0))), (0, .ref (ad 0)), (1, .int (iI x)), (2, .int (iI pt)), (3, .int (iI ln)), (5, .int (iI i))]) M.1 M.2.1 dX7_score_156 hl (by decide) rfl (fun ls hl => ?_)
            refine zi_iinc (lv' := [(5, .int (iI (i + 1))), (4, .int (iI (ms + 0))), (0, .ref (ad 0)), (1, .int (iI x)), (2, .int (iI pt)), (3, .int (iI ln))]) M dX7_score_158 hl 5 rfl (by decide) rfl (fun ls hl => ?_)
            refine zi_goto (tgt := 32) M dX7_score_161 (by decide) ?_
            exact ih_32 pt ln (ms + 0) (i + 1) (by omega) (by first | exact ptF_s hi.1 h1 ⟨by omega, by assumption⟩ | exact ptF_n hi.1 h1 (fun z => by first | exact absurd z.2 (by assumption) | exact absurd z.1 (by omega))) (by first | exact lnF_s hi.1 h2 ⟨by omega, by assumption⟩ | exact lnF_n hi.1 h2 (fun z => by first | exact absurd z.2 (by assumption) | exact absurd z.1 (by omega))) (by first | exact msF_s hi.1 h3 ⟨by omega, by omega, by omega⟩ | (rw [Int.add_zero]; exact msF_n hi.1 h3 (fun z => by have z1 := z.1; have z2 := z.2.1; have z3 := z.2.2; omega))) (by omega) _ _ hP hD hS ls (lv_sub hl [2, 3, 4, 5, 1, 0] rfl)
          ·
            refine lv_aload_n M.1 M.2.1 dX7_score_52 rfl (lv_at hl 0 rfl) ?_
            refine lv_iload M.1 M.2.1 dX7_score_53 (lv_at hl 5 rfl) ?_
            refine z_cR (z_runV (As := [.int (iI i)]) (rest := []) M (c_X7_counts l D cy z0 ad 0 h su st sh fl ic sn bn fm fr cm em lg le lf dl cS cH sea noi pl pw an hd bp bo bw c1 c2 c3 c4 c5 e1 e2 e3 e4 e5 i g_c1 g_c2 g_c3 g_c5 g_e1 g_e2 g_e3 g_e4 g_e5 (by omega) (by omega)) hE hS hAz hP (zRc.of (ci := 7) (q0 := 0) hE hP rfl rfl) zk_cd_X7_counts zk_in_RX7 zk_im_X7_counts zk_se_X7_counts zk_ml_RX7_196 rfl rfl zd_X7_counts ⟨by decide, by decide⟩ rfl hl.1 rfl (Nat.le_of_ble_eq_true rfl) dX7_score_55 ⟨by decide, by decide⟩) ?_
            refine zi_bz (P := cntZ cm c1 c2 c3 c5 e1 e2 e3 e4 e5 i) (g := fun r => F0 m 58 ls (.int r :: [])) (fun b_7 => ?_) (fun b_7 => ?_)
            ·
              have hb5 := b_7.1
              refine zi_if_eq (tgt := 110) M dX7_score_58 (by decide) ⟨by decide, by decide⟩ (fun q => absurd q (by decide)) (fun _ => ?_)
              refine lv_iload_n M.1 M.2.1 dX7_score_61 rfl (lv_at hl 2 rfl) ?_
              refine zi_push M dX7_score_62 ?_
              refine lv_aload_n M.1 M.2.1 dX7_score_63 rfl (lv_at hl 0 rfl) ?_
              refine zi_get (ci := 7) (v := .ref (ad (0 + 5))) M hE hP 0 rfl rfl zu_X7 12 (by decide) zk_fl_RX7_27 rfl rfl dX7_score_64 ?_
              refine lv_iload_n M.1 M.2.1 dX7_score_67 rfl (lv_at hl 1 rfl) ?_
              refine zi_iald M hE hP 5 (n := 12) (g := pl) rfl (Nat.le_of_ble_eq_true rfl) (by omega) (by omega) dX7_score_68 ?_
              have hr_8 := g_pl x (by omega) (by omega)
              refine lv_aload_n M.1 M.2.1 dX7_score_69 rfl (lv_at hl 0 rfl) ?_
              refine zi_get (ci := 7) (v := .ref (ad (0 + 5))) M hE hP 0 rfl rfl zu_X7 12 (by decide) zk_fl_RX7_27 rfl rfl dX7_score_70 ?_
              refine lv_aload_n M.1 M.2.1 dX7_score_73 rfl (lv_at hl 0 rfl) ?_
              refine zi_get (ci := 7) (v := .ref (ad (0 + 18))) M hE hP 0 rfl rfl zu_X7 30 (by decide) zk_fl_RX7_66 rfl rfl dX7_score_74 ?_
              refine lv_iload M.1 M.2.1 dX7_score_77 (lv_at hl 5 rfl) ?_
              refine zi_iald M hE hP 18 (n := 80) (g := e2) rfl (Nat.le_of_ble_eq_true rfl) (by omega) (by omega) dX7_score_79 ?_
              have hr_9 := g_e2 i (by omega) (by omega)
              refine zi_iald M hE hP 5 (n := 12) (g := pl) rfl (Nat.le_of_ble_eq_true rfl) (by omega) (by omega) dX7_score_80 ?_
              have hr_10 := g_pl (e2 i) (by omega) (by omega)
              refine z_cR (z_runS (As := [.int (iI (pl x)), .int (iI (pl (e2 i)))]) (rest := [.int (iI 1), .int (iI pt)]) M (c_X7_gap l D cy z0 (pl x) (pl (e2 i)) (by omega) (by omega)) hE hS hAz trivial zk_cd_X7_gap zk_in_RX7 zk_st_X7_gap zk_ml_RX7_199 rfl rfl zd_X7_gap ⟨by decide, by decide⟩ rfl hl.1 rfl (Nat.le_of_ble_eq_true rfl) dX7_score_81 ⟨by decide, by decide⟩) ?_
              have hx_11 : 0 ≤ distZ (pl x) (pl (e2 i)) ∧ distZ (pl x) (pl (e2 i)) ≤ 47 := by unfold distZ; omega
              refine zi_bipush M dX7_score_84 ⟨by decide, by decide⟩ ?_
              refine zi_idiv M dX7_score_86 (by omega) (by omega) (by omega) (by omega) ?_
              refine zi_iadd M dX7_score_87 ?_
              refine zi_iadd M dX7_score_88 ?_
              refine lv_istore_n (lv' := [(2, .int (iI (pt + (1 + ((distZ (pl x) (pl (e2 i))) / 6))))), (0, .ref (ad 0)), (1, .int (iI x)), (3, .int (iI ln)), (4, .int (iI ms)), (5, .int (iI i))]) M.1 M.2.1 dX7_score_89 rfl hl (by decide) rfl (fun ls hl => ?_)
              refine lv_iload_n M.1 M.2.1 dX7_score_90 rfl (lv_at hl 3 rfl) ?_
              refine zi_push M dX7_score_91 ?_
              refine lv_aload_n M.1 M.2.1 dX7_score_92 rfl (lv_at hl 1 rfl) ?_
              refine zi_get (ci := 7) (v := .ref (ad (0 + 5))) M hE hP 0 rfl rfl zu_X7 12 (by decide) zk_fl_RX7_27 rfl rfl dX7_score_93 ?_
              refine lv_aload_n M.1 M.2.1 dX7_score_96 rfl (lv_at hl 1 rfl) ?_
              refine zi_get (ci := 7) (v := .ref (ad (0 + 18))) M hE hP 0 rfl rfl zu_X7 30 (by decide) zk_fl_RX7_66 rfl rfl dX7_score_97 ?_
              refine lv_iload M.1 M.2.1 dX7_score_100 (lv_at hl 5 rfl) ?_
              refine zi_iald M hE hP 18 (n := 80) (g := e2) rfl (Nat.le_of_ble_eq_true rfl) (by omega) (by omega) dX7_score_102 ?_
              have hr_12 := g_e2 i (by omega) (by omega)
              refine zi_iald M hE hP 5 (n := 12) (g := pl) rfl (Nat.le_of_ble_eq_true rfl) (by omega) (by omega) dX7_score_103 ?_
              have hr_13 := g_pl (e2 i) (by omega) (by omega)
              refine zi_bipush M dX7_score_104 ⟨by decide, by decide⟩ ?_
              refine zi_idiv M dX7_score_106 (by omega) (by omega) (by omega) (by omega) ?_
              refine zi_orshl M (by omega) (by omega) dX7_score_107 dX7_score_108 ?_
              refine lv_istore_n (lv' := [(3, .int (iI (orZ ln ((pl (e2 i)) / 6)))), (2, .int (iI (pt + (1 + ((distZ (pl x) (pl (e2 i))) / 6))))), (0, .ref (ad 0)), (1, .int (iI x)), (4, .int (iI ms)), (5, .int (iI i))]) M.1 M.2.1 dX7_score_109 rfl hl (by decide) rfl (fun ls hl => ?_)
              refine lv_iload M.1 M.2.1 dX7_score_110 (lv_at hl 4 rfl) ?_
              refine lv_aload_n M.1 M.2.1 dX7_score_112 rfl (lv_at hl 2 rfl) ?_
              refine zi_get (ci := 7) (v := .ref (ad (0 + 17))) M hE hP 0 rfl rfl zu_X7 29 (by decide) zk_fl_RX7_63 rfl rfl dX7_score_113 ?_
              refine lv_iload M.1 M.2.1 dX7_score_116 (lv_at hl 5 rfl) ?_
              refine zi_iald M hE hP 17 (n := 80) (g := e1) rfl (Nat.le_of_ble_eq_true rfl) (by omega) (by omega) dX7_score_118 ?_
              have hr_14 := g_e1 i (by omega) (by omega)
              refine lv_iload_n M.1 M.2.1 dX7_score_119 rfl (lv_at hl 3 rfl) ?_
              refine zi_icmp_ne (tgt := 154) M dX7_score_120 (by decide) (by omega) (by omega) (fun q => absurd c_5 q) (fun _ => ?_)
              refine lv_aload_n M.1 M.2.1 dX7_score_123 rfl (lv_at hl 2 rfl) ?_
              refine zi_get (ci := 7) (v := .ref (ad (0 + 21))) M hE hP 0 rfl rfl zu_X7 33 (by decide) zk_fl_RX7_75 rfl rfl dX7_score_124 ?_
              refine lv_iload M.1 M.2.1 dX7_score_127 (lv_at hl 5 rfl) ?_
              refine zi_iald M hE hP 21 (n := 80) (g := e5) rfl (Nat.le_of_ble_eq_true rfl) (by omega) (by omega) dX7_score_129 ?_
              have hr_15 := g_e5 i (by omega) (by omega)
              refine zi_push M dX7_score_130 ?_
              refine zi_icmp_ne (tgt := 154) M dX7_score_131 (by decide) (by omega) ⟨by decide, by decide⟩ (fun c_16 => ?_) (fun c_16 => ?_)
              ·
                refine zi_push M dX7_score_154 ?_
                refine zi_iadd M dX7_score_155 ?_
                refine lv_istore (lv' := [(4, .int (iI (ms + 0))), (3, .int (iI (orZ ln ((pl (e2 i)) / 6)))), (2, .int (iI (pt + (1 + ((distZ (pl x) (pl (e2 i))) / 6))))), (0, .ref (ad 0)), (1, .int (iI x)), (5, .int (iI i))]) M.1 M.2.1 dX7_score_156 hl (by decide) rfl (fun ls hl => ?_)
                refine zi_iinc (lv' := [(5, .int (iI (i + 1))), (4, .int (iI (ms + 0))), (3, .int (iI (orZ ln ((pl (e2 i)) / 6)))), (2, .int (iI (pt + (1 + ((distZ (pl x) (pl (e2 i))) / 6))))), (0, .ref (ad 0)), (1, .int (iI x))]) M dX7_score_158 hl 5 rfl (by decide) rfl (fun ls hl => ?_)
                refine zi_goto (tgt := 32) M dX7_score_161 (by decide) ?_
                exact ih_32 (pt + (1 + ((distZ (pl x) (pl (e2 i))) / 6))) (orZ ln ((pl (e2 i)) / 6)) (ms + 0) (i + 1) (by omega) (by first | exact ptF_s hi.1 h1 ⟨by omega, by assumption⟩ | exact ptF_n hi.1 h1 (fun z => by first | exact absurd z.2 (by assumption) | exact absurd z.1 (by omega))) (by first | exact lnF_s hi.1 h2 ⟨by omega, by assumption⟩ | exact lnF_n hi.1 h2 (fun z => by first | exact absurd z.2 (by assumption) | exact absurd z.1 (by omega))) (by first | exact msF_s hi.1 h3 ⟨by omega, by omega, by omega⟩ | (rw [Int.add_zero]; exact msF_n hi.1 h3 (fun z => by have z1 := z.1; have z2 := z.2.1; have z3 := z.2.2; omega))) (by omega) _ _ hP hD hS ls (lv_sub hl [4, 5, 3, 2, 1, 0] rfl)
              ·
                refine lv_aload_n M.1 M.2.1 dX7_score_134 rfl (lv_at hl 2 rfl) ?_
                refine zi_get (ci := 7) (v := .int (iI h)) M hE hP 0 rfl rfl zu_X7 1 (by decide) zk_fl_RX7_104 rfl rfl dX7_score_135 ?_
                refine lv_aload_n M.1 M.2.1 dX7_score_138 rfl (lv_at hl 2 rfl) ?_
                refine zi_get (ci := 7) (v := .ref (ad (0 + 20))) M hE hP 0 rfl rfl zu_X7 32 (by decide) zk_fl_RX7_72 rfl rfl dX7_score_139 ?_
                refine lv_iload M.1 M.2.1 dX7_score_142 (lv_at hl 5 rfl) ?_
                refine zi_iald M hE hP 20 (n := 80) (g := e4) rfl (Nat.le_of_ble_eq_true rfl) (by omega) (by omega) dX7_score_144 ?_
                have hr_17 := g_e4 i (by omega) (by omega)
                refine zi_isub M dX7_score_145 ?_
                refine zi_push M dX7_score_146 ?_
                refine zi_icmp_lt (tgt := 154) M dX7_score_147 (by decide) (by omega) ⟨by decide, by decide⟩ (fun c_18 => ?_) (fun c_18 => ?_)
                ·
                  refine zi_push M dX7_score_154 ?_
                  refine zi_iadd M dX7_score_155 ?_
                  refine lv_istore (lv' := [(4, .int (iI (ms + 0))), (3, .int (iI (orZ ln ((pl (e2 i)) / 6)))), (2, .int (iI (pt + (1 + ((distZ (pl x) (pl (e2 i))) / 6))))), (0, .ref (ad 0)), (1, .int (iI x)), (5, .int (iI i))]) M.1 M.2.1 dX7_score_156 hl (by decide) rfl (fun ls hl => ?_)
                  refine zi_iinc (lv' := [(5, .int (iI (i + 1))), (4, .int (iI (ms + 0))), (3, .int (iI (orZ ln ((pl (e2 i)) / 6)))), (2, .int (iI (pt + (1 + ((distZ (pl x) (pl (e2 i))) / 6))))), (0, .ref (ad 0)), (1, .int (iI x))]) M dX7_score_158 hl 5 rfl (by decide) rfl (fun ls hl => ?_)
                  refine zi_goto (tgt := 32) M dX7_score_161 (by decide) ?_
                  exact ih_32 (pt + (1 + ((distZ (pl x) (pl (e2 i))) / 6))) (orZ ln ((pl (e2 i)) / 6)) (ms + 0) (i + 1) (by omega) (by first | exact ptF_s hi.1 h1 ⟨by omega, by assumption⟩ | exact ptF_n hi.1 h1 (fun z => by first | exact absurd z.2 (by assumption) | exact absurd z.1 (by omega))) (by first | exact lnF_s hi.1 h2 ⟨by omega, by assumption⟩ | exact lnF_n hi.1 h2 (fun z => by first | exact absurd z.2 (by assumption) | exact absurd z.1 (by omega))) (by first | exact msF_s hi.1 h3 ⟨by omega, by omega, by omega⟩ | (rw [Int.add_zero]; exact msF_n hi.1 h3 (fun z => by have z1 := z.1; have z2 := z.2.1; have z3 := z.2.2; omega))) (by omega) _ _ hP hD hS ls (lv_sub hl [4, 5, 3, 2, 1, 0] rfl)
                ·
                  refine zi_push M dX7_score_150 ?_
                  refine zi_goto (tgt := 155) M dX7_score_151 (by decide) ?_
                  refine zi_iadd M dX7_score_155 ?_
                  refine lv_istore (lv' := [(4, .int (iI (ms + 1))), (3, .int (iI (orZ ln ((pl (e2 i)) / 6)))), (2, .int (iI (pt + (1 + ((distZ (pl x) (pl (e2 i))) / 6))))), (0, .ref (ad 0)), (1, .int (iI x)), (5, .int (iI i))]) M.1 M.2.1 dX7_score_156 hl (by decide) rfl (fun ls hl => ?_)
                  refine zi_iinc (lv' := [(5, .int (iI (i + 1))), (4, .int (iI (ms + 1))), (3, .int (iI (orZ ln ((pl (e2 i)) / 6)))), (2, .int (iI (pt + (1 + ((distZ (pl x) (pl (e2 i))) / 6))))), (0, .ref (ad 0)), (1, .int (iI x))]) M dX7_score_158 hl 5 rfl (by decide) rfl (fun ls hl => ?_)
                  refine zi_goto (tgt := 32) M dX7_score_161 (by decide) ?_
                  exact ih_32 (pt + (1 + ((distZ (pl x) (pl (e2 i))) / 6))) (orZ ln ((pl (e2 i)) / 6)) (ms + 1) (i + 1) (by omega) (by first | exact ptF_s hi.1 h1 ⟨by omega, by assumption⟩ | exact ptF_n hi.1 h1 (fun z => by first | exact absurd z.2 (by assumption) | exact absurd z.1 (by omega))) (by first | exact lnF_s hi.1 h2 ⟨by omega, by assumption⟩ | exact lnF_n hi.1 h2 (fun z => by first | exact absurd z.2 (by assumption) | exact absurd z.1 (by omega))) (by first | exact msF_s hi.1 h3 ⟨by omega, by omega, by omega⟩ | (rw [Int.add_zero]; exact msF_n hi.1 h3 (fun z => by have z1 := z.1; have z2 := z.2.1; have z3 := z.2.2; omega))) (by omega) _ _ hP hD hS ls (lv_sub hl [4, 5, 3, 2, 1, 0] rfl)
            ·
              refine zi_if_eq (tgt := 110) M dX7_score_58 (by decide) ⟨by decide, by decide⟩ (fun _ => ?_) (fun q => absurd q (by decide))
              refine lv_iload M.1 M.2.1 dX7_score_110 (lv_at hl 4 rfl) ?_
              refine lv_aload_n M.1 M.2.1 dX7_score_112 rfl (lv_at hl 0 rfl) ?_
              refine zi_get (ci := 7) (v := .ref (ad (0 + 17))) M hE hP 0 rfl rfl zu_X7 29 (by decide) zk_fl_RX7_63 rfl rfl dX7_score_113 ?_
              refine lv_iload M.1 M.2.1 dX7_score_116 (lv_at hl 5 rfl) ?_
              refine zi_iald M hE hP 17 (n := 80) (g := e1) rfl (Nat.le_of_ble_eq_true rfl) (by omega) (by omega) dX7_score_118 ?_
              have hr_19 := g_e1 i (by omega) (by omega)
              refine lv_iload_n M.1 M.2.1 dX7_score_119 rfl (lv_at hl 1 rfl) ?_
              refine zi_icmp_ne (tgt := 154) M dX7_score_120 (by decide) (by omega) (by omega) (fun q => absurd c_5 q) (fun _ => ?_)
              refine lv_aload_n M.1 M.2.1 dX7_score_123 rfl (lv_at hl 0 rfl) ?_
              refine zi_get (ci := 7) (v := .ref (ad (0 + 21))) M hE hP 0 rfl rfl zu_X7 33 (by decide) zk_fl_RX7_75 rfl rfl dX7_score_124 ?_
              refine lv_iload M.1 M.2.1 dX7_score_127 (lv_at hl 5 rfl) ?_
              refine zi_iald M hE hP 21 (n := 80) (g := e5) rfl (Nat.le_of_ble_eq_true rfl) (by omega) (by omega) dX7_score_129 ?_
              have hr_20 := g_e5 i (by omega) (by omega)
              refine zi_push M dX7_score_130 ?_
              refine zi_icmp_ne (tgt := 154) M dX7_score_131 (by decide) (by omega) ⟨by decide, by decide⟩ (fun c_21 => ?_) (fun c_21 => ?_)
              ·
                refine zi_push M dX7_score_154 ?_
                refine zi_iadd M dX7_score_155 ?_
                refine lv_istore (lv' := [(4, .int (iI (ms + 0))), (0, .ref (ad 0)), (1, .int (iI x)), (2, .int (iI pt)), (3, .int (iI ln)), (5, .int (iI i))]) M.1 M.2.1 dX7_score_156 hl (by decide) rfl (fun ls hl => ?_)
                refine zi_iinc (lv' := [(5, .int (iI (i + 1))), (4, .int (iI (ms + 0))), (0, .ref (ad 0)), (1, .int (iI x)), (2, .int (iI pt)), (3, .int (iI ln))]) M dX7_score_158 hl 5 rfl (by decide) rfl (fun ls hl => ?_)
                refine zi_goto (tgt := 32) M dX7_score_161 (by decide) ?_
                exact ih_32 pt ln (ms + 0) (i + 1) (by omega) (by first | exact ptF_s hi.1 h1 ⟨by omega, by assumption⟩ | exact ptF_n hi.1 h1 (fun z => by first | exact absurd z.2 (by assumption) | exact absurd z.1 (by omega))) (by first | exact lnF_s hi.1 h2 ⟨by omega, by assumption⟩ | exact lnF_n hi.1 h2 (fun z => by first | exact absurd z.2 (by assumption) | exact absurd z.1 (by omega))) (by first | exact msF_s hi.1 h3 ⟨by omega, by omega, by omega⟩ | (rw [Int.add_zero]; exact msF_n hi.1 h3 (fun z => by have z1 := z.1; have z2 := z.2.1; have z3 := z.2.2; omega))) (by omega) _ _ hP hD hS ls (lv_sub hl [2, 3, 4, 5, 1, 0] rfl)
              ·
                refine lv_aload_n M.1 M.2.1 dX7_score_134 rfl (lv_at hl 0 rfl) ?_
                refine zi_get (ci := 7) (v := .int (iI h)) M hE hP 0 rfl rfl zu_X7 1 (by decide) zk_fl_RX7_104 rfl rfl dX7_score_135 ?_
                refine lv_aload_n M.1 M.2.1 dX7_score_138 rfl (lv_at hl 0 rfl) ?_
                refine zi_get (ci := 7) (v := .ref (ad (0 + 20))) M hE hP 0 rfl rfl zu_X7 32 (by decide) zk_fl_RX7_72 rfl rfl dX7_score_139 ?_
                refine lv_iload M.1 M.2.1 dX7_score_142 (lv_at hl 5 rfl) ?_
                refine zi_iald M hE hP 20 (n := 80) (g := e4) rfl (Nat.le_of_ble_eq_true rfl) (by omega) (by omega) dX7_score_144 ?_
                have hr_22 := g_e4 i (by omega) (by omega)
                refine zi_isub M dX7_score_145 ?_
                refine zi_push M dX7_score_146 ?_
                refine zi_icmp_lt (tgt := 154) M dX7_score_147 (by decide) (by omega) ⟨by decide, by decide⟩ (fun c_23 => ?_) (fun c_23 => ?_)
                ·
                  refine zi_push M dX7_score_154 ?_
                  refine zi_iadd M dX7_score_155 ?_
                  refine lv_istore (lv' := [(4, .int (iI (ms + 0))), (0, .ref (ad 0)), (1, .int (iI x)), (2, .int (iI pt)), (3, .int (iI ln)), (5, .int (iI i))]) M.1 M.2.1 dX7_score_156 hl (by decide) rfl (fun ls hl => ?_)
                  refine zi_iinc (lv' := [(5, .int (iI (i + 1))), (4, .int (iI (ms + 0))), (0, .ref (ad 0)), (1, .int (iI x)), (2, .int (iI pt)), (3, .int (iI ln))]) M dX7_score_158 hl 5 rfl (by decide) rfl (fun ls hl => ?_)
                  refine zi_goto (tgt := 32) M dX7_score_161 (by decide) ?_
                  exact ih_32 pt ln (ms + 0) (i + 1) (by omega) (by first | exact ptF_s hi.1 h1 ⟨by omega, by assumption⟩ | exact ptF_n hi.1 h1 (fun z => by first | exact absurd z.2 (by assumption) | exact absurd z.1 (by omega))) (by first | exact lnF_s hi.1 h2 ⟨by omega, by assumption⟩ | exact lnF_n hi.1 h2 (fun z => by first | exact absurd z.2 (by assumption) | exact absurd z.1 (by omega))) (by first | exact msF_s hi.1 h3 ⟨by omega, by omega, by omega⟩ | (rw [Int.add_zero]; exact msF_n hi.1 h3 (fun z => by have z1 := z.1; have z2 := z.2.1; have z3 := z.2.2; omega))) (by omega) _ _ hP hD hS ls (lv_sub hl [2, 3, 4, 5, 1, 0] rfl)
                ·
                  refine zi_push M dX7_score_150 ?_
                  refine zi_goto (tgt := 155) M dX7_score_151 (by decide) ?_
                  refine zi_iadd M dX7_score_155 ?_
                  refine lv_istore (lv' := [(4, .int (iI (ms + 1))), (0, .ref (ad 0)), (1, .int (iI x)), (2, .int (iI pt)), (3, .int (iI ln)), (5, .int (iI i))]) M.1 M.2.1 dX7_score_156 hl (by decide) rfl (fun ls hl => ?_)
                  refine zi_iinc (lv' := [(5, .int (iI (i + 1))), (4, .int (iI (ms + 1))), (0, .ref (ad 0)), (1, .int (iI x)), (2, .int (iI pt)), (3, .int (iI ln))]) M dX7_score_158 hl 5 rfl (by decide) rfl (fun ls hl => ?_)
                  refine zi_goto (tgt := 32) M dX7_score_161 (by decide) ?_
                  exact ih_32 pt ln (ms + 1) (i + 1) (by omega) (by first | exact ptF_s hi.1 h1 ⟨by omega, by assumption⟩ | exact ptF_n hi.1 h1 (fun z => by first | exact absurd z.2 (by assumption) | exact absurd z.1 (by omega))) (by first | exact lnF_s hi.1 h2 ⟨by omega, by assumption⟩ | exact lnF_n hi.1 h2 (fun z => by first | exact absurd z.2 (by assumption) | exact absurd z.1 (by omega))) (by first | exact msF_s hi.1 h3 ⟨by omega, by omega, by omega⟩ | (rw [Int.add_zero]; exact msF_n hi.1 h3 (fun z => by have z1 := z.1; have z2 := z.2.1; have z3 := z.2.2; omega))) (by omega) _ _ hP hD hS ls (lv_sub hl [2, 3, 4, 5, 1, 0] rfl)
    exact L_32 (Int.toNat (em - 0) + 1) 0 0 0 0 (by omega) rfl rfl rfl (by omega) _ _ hP hD hS ls (lv_sub hl [4, 5, 3, 2, 1, 0] rfl)
  ·
    refine zi_if_eq (tgt := 13) M dX7_score_6 (by decide) ⟨by decide, by decide⟩ (fun _ => ?_) (fun q => absurd q (by decide))
    refine zi_push M dX7_score_13 ?_
    refine z_cW (z_runV (As := [.int (iI 1)]) (rest := []) M (c_X7_goesWell l D cy z0 ad th h su st sh fl ic sn bn fm fr cm em lg le lf dl cS cH sea noi pl pw an hd bp bo bw c1 c2 c3 c4 c5 e1 e2 e3 e4 e5 1 (by omega)) hE hS hAz (z_cut hP hD hAz [0, 1, 2, 3, 4, 5, 6, 7, 8, 9, 10, 11, 12, 13, 14, 15, 16, 17, 18, 19, 20, 21] rfl (by decide +kernel)) (zRc.of (ci := 7) (q0 := 0) hE hP rfl rfl) zk_cd_X7_goesWell zk_in_RX7 zk_im_X7_goesWell zk_se_X7_goesWell zk_ml_RX7_88 rfl rfl zd_X7_goesWell ⟨by decide, by decide⟩ rfl hl.1 rfl (Nat.le_of_ble_eq_true rfl) dX7_score_14 ⟨by decide, by decide⟩) hP hD hS [0, 1, 2, 3, 4, 5, 6, 7, 8, 9, 10, 11, 12, 13, 14, 15, 16, 17, 18, 19, 20, 21] rfl (fun _ => rfl) (fun r_24 u_24 H locs hp_24 hP hD hS => ?_)
    have hP : va_P D vwCl (mdlW ad 0 cy 1 h su st sh fl ic sn bn fm fr cm em lg le lf dl cS cH sea noi pl pw an hd bp bo bw c1 c2 c3 c4 c5 e1 e2 e3 e4 e5) H := hP
    have hD : va_D (zIn (mdlW ad 0 cy th h su st sh fl ic sn bn fm fr cm em lg le lf dl cS cH sea noi pl pw an hd bp bo bw c1 c2 c3 c4 c5 e1 e2 e3 e4 e5)) (mdlW ad 0 cy 1 h su st sh fl ic sn bn fm fr cm em lg le lf dl cS cH sea noi pl pw an hd bp bo bw c1 c2 c3 c4 c5 e1 e2 e3 e4 e5) := hD
    subst hp_24
    refine z_rw (b := 0) rfl ?_
    refine zi_if_ne (tgt := 22) M dX7_score_17 (by decide) ⟨by decide, by decide⟩ (fun q => absurd q (by decide)) (fun _ => ?_)
    refine zi_push M dX7_score_20 ?_
    have hP : va_P D vwCl (mdlW ad 0 cy 1 h su st sh fl ic sn bn fm fr cm em lg le lf dl cS cH sea noi pl pw an hd bp bo bw c1 c2 c3 c4 c5 e1 e2 e3 e4 e5) H := hP
    exact zw_i M hr hlk 1 hP hS (by exact Or.inr (⟨rfl, by omega, rfl⟩)) (by decide) (by decide) dX7_score_21
