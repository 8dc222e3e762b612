/-! contracts: the model, rays -/
set_option maxRecDepth 100000 in
set_option maxHeartbeats 4000000 in
theorem c_X7_goesWell (l : Launch) (D : va_G) (cy : Nat → ClassId) (z0 : Nat) (ad : Nat → Nat) (th h su st sh fl ic sn bn fm fr cm em lg le lf dl : Int) (cS cH sea noi pl pw an hd bp bo bw c1 c2 c3 c4 c5 e1 e2 e3 e4 e5 : Int → Int) (v : Int) (hv : 0 ≤ v ∧ v ≤ 3) : Met l yX7_goesWell [.code yX7_goesWell cX7_goesWell 2 (some .boolean)] (zRm 0 0 0 0) (zPc [.ref (ad 0), .int (iI v)] D cy z0 (zWl D z0 (mdlW ad 0 cy th h su st sh fl ic sn bn fm fr cm em lg le lf dl cS cH sea noi pl pw an hd bp bo bw c1 c2 c3 c4 c5 e1 e2 e3 e4 e5))) (zQ1 D (mdlW ad 0 cy th h su st sh fl ic sn bn fm fr cm em lg le lf dl cS cH sea noi pl pw an hd bp bo bw c1 c2 c3 c4 c5 e1 e2 e3 e4 e5) (fun (r : Int32) (_ : Unit) => r = iI (if v = 0 then 1 else 0)) (fun (_ : Unit) => (mdlW ad 0 cy v h su st sh fl ic sn bn fm fr cm em lg le lf dl cS cH sea noi pl pw an hd bp bo bw c1 c2 c3 c4 c5 e1 e2 e3 e4 e5))) 0 0 (zIn (mdlW ad 0 cy th h su st sh fl ic sn bn fm fr cm em lg le lf dl cS cH sea noi pl pw an hd bp bo bw c1 c2 c3 c4 c5 e1 e2 e3 e4 e5)) := by
  refine z_of (by decide) (Nat.le_of_ble_eq_true rfl) ?_
  intro p e s m args below meth c M hr hlk hini hargs hP0 hE ls hl
  have hP : va_P D vwCl (mdlW ad 0 cy th h su st sh fl ic sn bn fm fr cm em lg le lf dl cS cH sea noi pl pw an hd bp bo bw c1 c2 c3 c4 c5 e1 e2 e3 e4 e5) s.heap := hP0.1
  have hD : va_D (zIn (mdlW ad 0 cy th h su st sh fl ic sn bn fm fr cm em lg le lf dl cS cH sea noi pl pw an hd bp bo bw c1 c2 c3 c4 c5 e1 e2 e3 e4 e5)) (mdlW ad 0 cy th h su st sh fl ic sn bn fm fr cm em lg le lf dl cS cH sea noi pl pw an hd bp bo bw c1 c2 c3 c4 c5 e1 e2 e3 e4 e5) := hP0.self
  have hAz := hP0.A
  have hS : va_S (zIn (mdlW ad 0 cy th h su st sh fl ic sn bn fm fr cm em lg le lf dl cS cH sea noi pl pw an hd bp bo bw c1 c2 c3 c4 c5 e1 e2 e3 e4 e5)) s.heap s.heap [] := va_S.rf
  have hl : lv_has ls 2 [(0, .ref (ad 0)), (1, .int (iI v))] := hl
  refine lv_aload_n M.1 M.2.1 dX7_goesWell_0 rfl (lv_at hl 0 rfl) ?_
  refine lv_iload_n M.1 M.2.1 dX7_goesWell_1 rfl (lv_at hl 1 rfl) ?_
  refine zi_put (ci := 7) (ws' := (mdlW ad 0 cy v h su st sh fl ic sn bn fm fr cm em lg le lf dl cS cH sea noi pl pw an hd bp bo bw c1 c2 c3 c4 c5 e1 e2 e3 e4 e5)) M hE hP hD hS 0 rfl rfl zu_X7 0 (by decide) zk_fl_RX7_78 rfl rfl tyX7_ok nmX7 rfl rfl (Nat.le_of_ble_eq_true rfl) rfl dX7_goesWell_2 (fun H locs hP hD hS => ?_)
  refine lv_iload_n M.1 M.2.1 dX7_goesWell_5 rfl (lv_at hl 1 rfl) ?_
  refine zi_if_ne (tgt := 13) M dX7_goesWell_6 (by decide) (by omega) (fun c_1 => ?_) (fun c_1 => ?_)
  ·
    refine zi_push M dX7_goesWell_13 ?_
    have hP : va_P D vwCl (mdlW ad 0 cy v h su st sh fl ic sn bn fm fr cm em lg le lf dl cS cH sea noi pl pw an hd bp bo bw c1 c2 c3 c4 c5 e1 e2 e3 e4 e5) H := hP
    exact zw_z M hr hlk (v := 0) (Or.inl rfl) () hP hS (congrArg iI (show (0 : Int) = if v = 0 then 1 else 0 by first | exact (if_pos (by omega)).symm | exact (if_neg (by omega)).symm)) (by decide) (by decide) dX7_goesWell_14
  ·
    refine zi_push M dX7_goesWell_9 ?_
    refine zi_goto (tgt := 14) M dX7_goesWell_10 (by decide) ?_
    have hP : va_P D vwCl (mdlW ad 0 cy v h su st sh fl ic sn bn fm fr cm em lg le lf dl cS cH sea noi pl pw an hd bp bo bw c1 c2 c3 c4 c5 e1 e2 e3 e4 e5) H := hP
    exact zw_z M hr hlk (v := 1) (Or.inr rfl) () hP hS (congrArg iI (show (1 : Int) = if v = 0 then 1 else 0 by first | exact (if_pos (by omega)).symm | exact (if_neg (by omega)).symm)) (by decide) (by decide) dX7_goesWell_14

set_option maxRecDepth 100000 in
set_option maxHeartbeats 4000000 in
theorem c_X7_follow (l : Launch) (D : va_G) (cy : Nat → ClassId) (z0 : Nat) (ad : Nat → Nat) (th h su st sh fl ic sn bn fm fr cm em lg le lf dl : Int) (cS cH sea noi pl pw an hd bp bo bw c1 c2 c3 c4 c5 e1 e2 e3 e4 e5 : Int → Int) (q : Int) (t : Int) (g : Int) (a : Int) (f : Int) (w : Int) (h_h : 0 ≤ h ∧ h ≤ 5000) (h_su : 0 ≤ su ∧ su ≤ 100) (h_st : 0 ≤ st ∧ st ≤ 60) (h_fl : 0 ≤ fl ∧ fl ≤ 80) (h_cS : zrg 48 0 100 cS) (h_ic : 0 ≤ ic ∧ ic ≤ 1) (g_sea : zrg 48 0 1 sea) (hq : 0 ≤ q ∧ q < 48) (hg : 0 ≤ g ∧ g ≤ 1) (ha : 1 ≤ a ∧ a ≤ 9) (hf : 10 ≤ f ∧ f ≤ 300) (ht0 : 0 ≤ t ∧ t < 48) (hw : 0 ≤ w ∧ w ≤ 300) : Met l yX7_follow [.code yX7_follow cX7_follow 11 (some .boolean)] (zRm 4 0 0 96) (zPc [.ref (ad 0), .int (iI q), .int (iI t), .int (iI g), .int (iI a), .int (iI f), .int (iI w)] D cy z0 (zWl D z0 (mdlW ad 0 cy th h su st sh fl ic sn bn fm fr cm em lg le lf dl cS cH sea noi pl pw an hd bp bo bw c1 c2 c3 c4 c5 e1 e2 e3 e4 e5))) (zQ1 D (mdlW ad 0 cy th h su st sh fl ic sn bn fm fr cm em lg le lf dl cS cH sea noi pl pw an hd bp bo bw c1 c2 c3 c4 c5 e1 e2 e3 e4 e5) (fun (r : Int32) (u : Nat → Int) => (∃ w2 lg2 le2 dl2 : Int, goZ (mdE ic h cS) (mdF ic h su st) (mdD ic h fl) sea g a f t 10 q w 0 0 0 = some (w2, lg2, le2, dl2) ∧ r = iI 1 ∧ u = u8 lg2 le2 w2 dl2 0 0 0 0) ∨ (goZ (mdE ic h cS) (mdF ic h su st) (mdD ic h fl) sea g a f t 10 q w 0 0 0 = none ∧ r = iI 0)) (fun (u : Nat → Int) => (mdlW ad 0 cy th h su st sh fl ic sn bn fm fr cm em (u 0) (u 1) (u 2) (u 3) cS cH sea noi pl pw an hd bp bo bw c1 c2 c3 c4 c5 e1 e2 e3 e4 e5))) 0 0 (zIn (mdlW ad 0 cy th h su st sh fl ic sn bn fm fr cm em lg le lf dl cS cH sea noi pl pw an hd bp bo bw c1 c2 c3 c4 c5 e1 e2 e3 e4 e5)) := by
  refine z_of (by decide) (Nat.le_of_ble_eq_true rfl) ?_
  intro p e s m args below meth c M hr hlk hini hargs hP0 hE ls hl
  have hP : va_P D vwCl (mdlW ad 0 cy th h su st sh fl ic sn bn fm fr cm em lg le lf dl cS cH sea noi pl pw an hd bp bo bw c1 c2 c3 c4 c5 e1 e2 e3 e4 e5) s.heap := hP0.1
  have hD : va_D (zIn (mdlW ad 0 cy th h su st sh fl ic sn bn fm fr cm em lg le lf dl cS cH sea noi pl pw an hd bp bo bw c1 c2 c3 c4 c5 e1 e2 e3 e4 e5)) (mdlW ad 0 cy th h su st sh fl ic sn bn fm fr cm em lg le lf dl cS cH sea noi pl pw an hd bp bo bw c1 c2 c3 c4 c5 e1 e2 e3 e4 e5) := hP0.self
  have hAz := hP0.A
  have hS : va_S (zIn (mdlW ad 0 cy th h su st sh fl ic sn bn fm fr cm em lg le lf dl cS cH sea noi pl pw an hd bp bo bw c1 c2 c3 c4 c5 e1 e2 e3 e4 e5)) s.heap s.heap [] := va_S.rf
  have hl : lv_has ls 11 [(0, .ref (ad 0)), (1, .int (iI q)), (2, .int (iI t)), (3, .int (iI g)), (4, .int (iI a)), (5, .int (iI f)), (6, .int (iI w))] := hl
  refine lv_iload_n M.1 M.2.1 dX7_follow_0 rfl (lv_at hl 1 rfl) ?_
  refine lv_istore (lv' := [(7, .int (iI q)), (0, .ref (ad 0)), (1, .int (iI q)), (2, .int (iI t)), (3, .int (iI g)), (4, .int (iI a)), (5, .int (iI f)), (6, .int (iI w))]) M.1 M.2.1 dX7_follow_1 hl (by decide) rfl (fun ls hl => ?_)
  refine lv_aload_n M.1 M.2.1 dX7_follow_3 rfl (lv_at hl 1 rfl) ?_
  refine zi_push M dX7_follow_4 ?_
  refine zi_put (ci := 7) (ws' := (mdlW ad 0 cy th h su st sh fl ic sn bn fm fr cm em 0 le lf dl cS cH sea noi pl pw an hd bp bo bw c1 c2 c3 c4 c5 e1 e2 e3 e4 e5)) M hE hP hD hS 0 rfl rfl zu_X7 34 (by decide) zk_fl_RX7_129 rfl rfl tyX7_ok nmX7 rfl rfl (Nat.le_of_ble_eq_true rfl) rfl dX7_follow_5 (fun H locs hP hD hS => ?_)
  refine lv_aload_n M.1 M.2.1 dX7_follow_8 rfl (lv_at hl 1 rfl) ?_
  refine zi_push M dX7_follow_9 ?_
  refine zi_put (ci := 7) (ws' := (mdlW ad 0 cy th h su st sh fl ic sn bn fm fr cm em 0 0 lf dl cS cH sea noi pl pw an hd bp bo bw c1 c2 c3 c4 c5 e1 e2 e3 e4 e5)) M hE hP hD hS 0 rfl rfl zu_X7 35 (by decide) zk_fl_RX7_132 rfl rfl tyX7_ok nmX7 rfl rfl (Nat.le_of_ble_eq_true rfl) rfl dX7_follow_10 (fun H locs hP hD hS => ?_)
  refine lv_aload_n M.1 M.2.1 dX7_follow_13 rfl (lv_at hl 1 rfl) ?_
  refine lv_iload M.1 M.2.1 dX7_follow_14 (lv_at hl 7 rfl) ?_
  refine zi_put (ci := 7) (ws' := (mdlW ad 0 cy th h su st sh fl ic sn bn fm fr cm em 0 0 w dl cS cH sea noi pl pw an hd bp bo bw c1 c2 c3 c4 c5 e1 e2 e3 e4 e5)) M hE hP hD hS 0 rfl rfl zu_X7 36 (by decide) zk_fl_RX7_135 rfl rfl tyX7_ok nmX7 rfl rfl (Nat.le_of_ble_eq_true rfl) rfl dX7_follow_16 (fun H locs hP hD hS => ?_)
  refine lv_aload_n M.1 M.2.1 dX7_follow_19 rfl (lv_at hl 1 rfl) ?_
  refine zi_push M dX7_follow_20 ?_
  refine zi_put (ci := 7) (ws' := (mdlW ad 0 cy th h su st sh fl ic sn bn fm fr cm em 0 0 w 0 cS cH sea noi pl pw an hd bp bo bw c1 c2 c3 c4 c5 e1 e2 e3 e4 e5)) M hE hP hD hS 0 rfl rfl zu_X7 37 (by decide) zk_fl_RX7_138 rfl rfl tyX7_ok nmX7 rfl rfl (Nat.le_of_ble_eq_true rfl) rfl dX7_follow_21 (fun H locs hP hD hS => ?_)
  have L_24 : ∀ (k_24 : Nat) (xp : Int) (xw : Int) (xg : Int) (xe : Int) (xd : Int) (hxg : 0 ≤ xg ∧ xg ≤ 10) (hxp : 0 ≤ xp ∧ xp < 48) (hxw : -100000 ≤ xw ∧ xw ≤ 300) (hgo1 : 0 ≤ xw → goZ (mdE ic h cS) (mdF ic h su st) (mdD ic h fl) sea g a f t 10 q w 0 0 0 = goZ (mdE ic h cS) (mdF ic h su st) (mdD ic h fl) sea g a f t (10 - xg).toNat xp xw xg xe xd) (hgo2 : xw < 0 → goZ (mdE ic h cS) (mdF ic h su st) (mdD ic h fl) sea g a f t 10 q w 0 0 0 = none) (hm : 10 - xg < (k_24 : Int)) (H : Heap) (locs : List Loc) (hP : va_P D vwCl (mdlW ad 0 cy th h su st sh fl ic sn bn fm fr cm em xg xe xw xd cS cH sea noi pl pw an hd bp bo bw c1 c2 c3 c4 c5 e1 e2 e3 e4 e5) H) (hD : va_D (zIn (mdlW ad 0 cy th h su st sh fl ic sn bn fm fr cm em lg le lf dl cS cH sea noi pl pw an hd bp bo bw c1 c2 c3 c4 c5 e1 e2 e3 e4 e5)) (mdlW ad 0 cy th h su st sh fl ic sn bn fm fr cm em xg xe xw xd cS cH sea noi pl pw an hd bp bo bw c1 c2 c3 c4 c5 e1 e2 e3 e4 e5)) (hS : va_S (zIn (mdlW ad 0 cy th h su st sh fl ic sn bn fm fr cm em lg le lf dl cS cH sea noi pl pw an hd bp bo bw c1 c2 c3 c4 c5 e1 e2 e3 e4 e5)) s.heap H locs) (ls : Array Slot) (hl : lv_has ls 11 [(0, .ref (ad 0)), (1, .int (iI q)), (2, .int (iI t)), (3, .int (iI g)), (4, .int (iI a)), (5, .int (iI f)), (6, .int (iI w)), (7, .int (iI xp))]), W p l e (zRm 4 0 0 96) s m args below meth c H locs 0 0 (MQ below (zQ1 D (mdlW ad 0 cy th h su st sh fl ic sn bn fm fr cm em lg le lf dl cS cH sea noi pl pw an hd bp bo bw c1 c2 c3 c4 c5 e1 e2 e3 e4 e5) (fun (r : Int32) (u : Nat → Int) => (∃ w2 lg2 le2 dl2 : Int, goZ (mdE ic h cS) (mdF ic h su st) (mdD ic h fl) sea g a f t 10 q w 0 0 0 = some (w2, lg2, le2, dl2) ∧ r = iI 1 ∧ u = u8 lg2 le2 w2 dl2 0 0 0 0) ∨ (goZ (mdE ic h cS) (mdF ic h su st) (mdD ic h fl) sea g a f t 10 q w 0 0 0 = none ∧ r = iI 0)) (fun (u : Nat → Int) => (mdlW ad 0 cy th h su st sh fl ic sn bn fm fr cm em (u 0) (u 1) (u 2) (u 3) cS cH sea noi pl pw an hd bp bo bw c1 c2 c3 c4 c5 e1 e2 e3 e4 e5))) args s 0 0 (zIn (mdlW ad 0 cy th h su st sh fl ic sn bn fm fr cm em lg le lf dl cS cH sea noi pl pw an hd bp bo bw c1 c2 c3 c4 c5 e1 e2 e3 e4 e5))) (F0 m 24 ls []) := by
    intro k_24
    induction k_24 with
    | zero =>
      intro xp xw xg xe xd hxg hxp hxw hgo1 hgo2 hm H locs hP hD hS ls hl
      exact absurd hm (by omega)
    | succ k_24 ih_24 =>
      intro xp xw xg xe xd hxg hxp hxw hgo1 hgo2 hm H locs hP hD hS ls hl
      refine lv_aload_n M.1 M.2.1 dX7_follow_24 rfl (lv_at hl 0 rfl) ?_
      refine zi_get (ci := 7) (v := .int (iI xg)) M hE hP 0 rfl rfl zu_X7 34 (by decide) zk_fl_RX7_129 rfl rfl dX7_follow_25 ?_
      refine zi_bipush M dX7_follow_28 ⟨by decide, by decide⟩ ?_
      refine zi_icmp_ge (tgt := 237) M dX7_follow_30 (by decide) (by omega) ⟨by decide, by decide⟩ (fun c_1 => ?_) (fun c_1 => ?_)
      ·
        refine zi_push M dX7_follow_237 ?_
        have hP : va_P D vwCl (mdlW ad 0 cy th h su st sh fl ic sn bn fm fr cm em ((u8 xg xe xw xd 0 0 0 0) 0) ((u8 xg xe xw xd 0 0 0 0) 1) ((u8 xg xe xw xd 0 0 0 0) 2) ((u8 xg xe xw xd 0 0 0 0) 3) cS cH sea noi pl pw an hd bp bo bw c1 c2 c3 c4 c5 e1 e2 e3 e4 e5) H := hP
        exact zw_z M hr hlk (v := 0) (Or.inl rfl) (u8 xg xe xw xd 0 0 0 0) hP hS (by (exact Or.inr ⟨by rcases Int.lt_or_le xw 0 with hz | hz; exact hgo2 hz; rw [hgo1 hz, show (10 - xg).toNat = 0 from by omega]; rfl, rfl⟩)) (by decide) (by decide) dX7_follow_238
      ·
        refine lv_aload_n M.1 M.2.1 dX7_follow_33 rfl (lv_at hl 0 rfl) ?_
        refine zi_get (ci := 7) (v := .int (iI xw)) M hE hP 0 rfl rfl zu_X7 36 (by decide) zk_fl_RX7_135 rfl rfl dX7_follow_34 ?_
        refine zi_if_lt (tgt := 237) M dX7_follow_37 (by decide) (by omega) (fun c_2 => ?_) (fun c_2 => ?_)
        ·
          refine zi_push M dX7_follow_237 ?_
          have hP : va_P D vwCl (mdlW ad 0 cy th h su st sh fl ic sn bn fm fr cm em ((u8 xg xe xw xd 0 0 0 0) 0) ((u8 xg xe xw xd 0 0 0 0) 1) ((u8 xg xe xw xd 0 0 0 0) 2) ((u8 xg xe xw xd 0 0 0 0) 3) cS cH sea noi pl pw an hd bp bo bw c1 c2 c3 c4 c5 e1 e2 e3 e4 e5) H := hP
          exact zw_z M hr hlk (v := 0) (Or.inl rfl) (u8 xg xe xw xd 0 0 0 0) hP hS (by (exact Or.inr ⟨by rcases Int.lt_or_le xw 0 with hz | hz; exact hgo2 hz; rw [hgo1 hz, show (10 - xg).toNat = 0 from by omega]; rfl, rfl⟩)) (by decide) (by decide) dX7_follow_238
        ·
          refine lv_aload_n M.1 M.2.1 dX7_follow_40 rfl (lv_at hl 0 rfl) ?_
          refine lv_iload M.1 M.2.1 dX7_follow_41 (lv_at hl 7 rfl) ?_
          refine lv_iload_n M.1 M.2.1 dX7_follow_43 rfl (lv_at hl 3 rfl) ?_
          refine lv_iload M.1 M.2.1 dX7_follow_44 (lv_at hl 4 rfl) ?_
          refine lv_iload M.1 M.2.1 dX7_follow_46 (lv_at hl 5 rfl) ?_
          refine z_cR (z_runV (As := [.int (iI xp), .int (iI g), .int (iI a), .int (iI f)]) (rest := []) M (c_X7_layerOf l D cy z0 ad th h su st sh fl ic sn bn fm fr cm em xg xe xw xd cS cH sea noi pl pw an hd bp bo bw c1 c2 c3 c4 c5 e1 e2 e3 e4 e5 xp g a f (by omega) (by omega) (by omega) (by omega) (by omega) (by omega) (by omega) (by omega) (by omega) (by omega)) hE hS hAz hP (zRc.of (ci := 7) (q0 := 0) hE hP rfl rfl) zk_cd_X7_layerOf zk_in_RX7 zk_im_X7_layerOf zk_se_X7_layerOf zk_ml_RX7_141 rfl rfl zd_X7_layerOf ⟨by decide, by decide⟩ rfl hl.1 rfl (Nat.le_of_ble_eq_true rfl) dX7_follow_48 ⟨by decide, by decide⟩) ?_
          obtain ⟨yL, hyL⟩ : ∃ y : Int, y = lyZ (mdE ic h cS) (mdF ic h su st) g xp a f := ⟨_, rfl⟩
          refine z_rw (b := yL) hyL.symm ?_
          have hyc := lyZ_c (dE := (mdE ic h cS)) (dF := (mdF ic h su st)) (ea := g) (p := xp) (a := a) (f := f)
          have hlc := legZ_c (dE := (mdE ic h cS)) (dF := (mdF ic h su st)) (ea := g) (p := xp) (a := a) (f := f) (by omega)
          rw [← hyL] at hyc
          refine lv_istore (lv' := [(8, .int (iI yL)), (0, .ref (ad 0)), (1, .int (iI q)), (2, .int (iI t)), (3, .int (iI g)), (4, .int (iI a)), (5, .int (iI f)), (6, .int (iI w)), (7, .int (iI xp))]) M.1 M.2.1 dX7_follow_51 hl (by decide) rfl (fun ls hl => ?_)
          refine lv_iload M.1 M.2.1 dX7_follow_53 (lv_at hl 0 rfl) ?_
          refine zi_if_ne (tgt := 60) M dX7_follow_55 (by decide) (by omega) (fun c_3 => ?_) (fun c_3 => ?_)
          ·
            have hbd : bndZ (mdE ic h cS) (mdF ic h su st) g xp a f = yL := by omega
            rw [hbd] at hlc
            refine lv_aload_n M.1 M.2.1 dX7_follow_60 rfl (lv_at hl 1 rfl) ?_
            refine lv_dup M.1 M.2.1 dX7_follow_61 rfl ?_
            refine zi_get (ci := 7) (v := .int (iI xw)) M hE hP 0 rfl rfl zu_X7 36 (by decide) zk_fl_RX7_135 rfl rfl dX7_follow_62 ?_
            refine lv_aload_n M.1 M.2.1 dX7_follow_65 rfl (lv_at hl 1 rfl) ?_
            refine zi_get (ci := 7) (v := .int (iI xg)) M hE hP 0 rfl rfl zu_X7 34 (by decide) zk_fl_RX7_129 rfl rfl dX7_follow_66 ?_
            refine zi_if_ne (tgt := 76) M dX7_follow_69 (by decide) (by omega) (fun c_4 => ?_) (fun c_4 => ?_)
            ·
              refine lv_aload_n M.1 M.2.1 dX7_follow_76 rfl (lv_at hl 1 rfl) ?_
              refine zi_get (ci := 7) (v := .ref (ad (0 + 3))) M hE hP 0 rfl rfl zu_X7 8 (by decide) zk_fl_RX7_20 rfl rfl dX7_follow_77 ?_
              refine lv_iload M.1 M.2.1 dX7_follow_80 (lv_at hl 8 rfl) ?_
              refine zi_zald M hE hP 3 (n := 48) (g := sea) rfl (Nat.le_of_ble_eq_true rfl) (by omega) (by omega) dX7_follow_82 ?_
              have hr_5 := g_sea xp (by omega) (by omega)
              refine zi_if_eq (tgt := 90) M dX7_follow_83 (by decide) (by omega) (fun c_6 => ?_) (fun c_6 => ?_)
              ·
                refine zi_bipush M dX7_follow_90 ⟨by decide, by decide⟩ ?_
                have hgn : gndZ sea xg xp = 6 := by unfold gndZ; first | exact if_pos (by omega) | (rw [if_neg (by omega)]; first | exact if_pos (by omega) | exact if_neg (by omega))
                have htg := takZ_ge (dD := (mdD ic h fl)) (sea := sea) (lg := xg) (p := xp) (q := mvZ g xp (lenZ yL a)) (n := lenZ yL a) (mdD_rg h_fl) hxp (mvZ_rg _ _ _) (lenZ_rg yL a ha) hf
                refine zi_isub M dX7_follow_92 ?_
                refine zi_put (ci := 7) (ws' := (mdlW ad 0 cy th h su st sh fl ic sn bn fm fr cm em xg xe (xw - 6) xd cS cH sea noi pl pw an hd bp bo bw c1 c2 c3 c4 c5 e1 e2 e3 e4 e5)) M hE hP hD hS 0 rfl rfl zu_X7 36 (by decide) zk_fl_RX7_135 rfl rfl tyX7_ok nmX7 rfl rfl (Nat.le_of_ble_eq_true rfl) rfl dX7_follow_93 (fun H locs hP hD hS => ?_)
                refine lv_aload_n M.1 M.2.1 dX7_follow_96 rfl (lv_at hl 1 rfl) ?_
                refine zi_get (ci := 7) (v := .int (iI (xw - 6))) M hE hP 0 rfl rfl zu_X7 36 (by decide) zk_fl_RX7_135 rfl rfl dX7_follow_97 ?_
                refine zi_if_ge (tgt := 105) M dX7_follow_100 (by decide) (by omega) (fun c_7 => ?_) (fun c_7 => ?_)
                ·
                  refine lv_iload M.1 M.2.1 dX7_follow_105 (lv_at hl 0 rfl) ?_
                  refine lv_iload M.1 M.2.1 dX7_follow_107 (lv_at hl 5 rfl) ?_
                  refine z_cR (z_runS (As := [.int (iI yL), .int (iI a)]) (rest := []) M (c_X7_lengthOf l D cy z0 yL a (by omega) (by omega)) hE hS hAz trivial zk_cd_X7_lengthOf zk_in_RX7 zk_st_X7_lengthOf zk_ml_RX7_145 rfl rfl zd_X7_lengthOf ⟨by decide, by decide⟩ rfl hl.1 rfl (Nat.le_of_ble_eq_true rfl) dX7_follow_109 ⟨by decide, by decide⟩) ?_
                  have hx_8 := lenZ_rg yL a (by omega)
                  refine lv_istore (lv' := [(9, .int (iI (lenZ yL a))), (8, .int (iI yL)), (0, .ref (ad 0)), (1, .int (iI q)), (2, .int (iI t)), (3, .int (iI g)), (4, .int (iI a)), (5, .int (iI f)), (6, .int (iI w)), (7, .int (iI xp))]) M.1 M.2.1 dX7_follow_112 hl (by decide) rfl (fun ls hl => ?_)
                  refine lv_iload M.1 M.2.1 dX7_follow_114 (lv_at hl 9 rfl) ?_
                  refine lv_iload_n M.1 M.2.1 dX7_follow_116 rfl (lv_at hl 5 rfl) ?_
                  refine lv_iload M.1 M.2.1 dX7_follow_117 (lv_at hl 0 rfl) ?_
                  refine z_cR (z_runS (As := [.int (iI xp), .int (iI g), .int (iI (lenZ yL a))]) (rest := []) M (c_X7_on l D cy z0 xp g (lenZ yL a) (by omega) (by omega) (by omega)) hE hS hAz trivial zk_cd_X7_on zk_in_RX7 zk_st_X7_on zk_ml_RX7_121 rfl rfl zd_X7_on ⟨by decide, by decide⟩ rfl hl.1 rfl (Nat.le_of_ble_eq_true rfl) dX7_follow_119 ⟨by decide, by decide⟩) ?_
                  have hx_9 := mvZ_rg g xp (lenZ yL a)
                  refine lv_istore (lv' := [(10, .int (iI (mvZ g xp (lenZ yL a)))), (9, .int (iI (lenZ yL a))), (8, .int (iI yL)), (0, .ref (ad 0)), (1, .int (iI q)), (2, .int (iI t)), (3, .int (iI g)), (4, .int (iI a)), (5, .int (iI f)), (6, .int (iI w)), (7, .int (iI xp))]) M.1 M.2.1 dX7_follow_122 hl (by decide) rfl (fun ls hl => ?_)
                  refine lv_aload_n M.1 M.2.1 dX7_follow_124 rfl (lv_at hl 3 rfl) ?_
                  refine lv_dup M.1 M.2.1 dX7_follow_125 rfl ?_
                  refine zi_get (ci := 7) (v := .int (iI (xw - 6))) M hE hP 0 rfl rfl zu_X7 36 (by decide) zk_fl_RX7_135 rfl rfl dX7_follow_126 ?_
                  refine zi_push M dX7_follow_129 ?_
                  refine lv_iload M.1 M.2.1 dX7_follow_130 (lv_at hl 1 rfl) ?_
                  refine zi_iadd M dX7_follow_132 ?_
                  refine lv_aload_n M.1 M.2.1 dX7_follow_133 rfl (lv_at hl 3 rfl) ?_
                  refine lv_iload M.1 M.2.1 dX7_follow_134 (lv_at hl 10 rfl) ?_
                  refine zi_push M dX7_follow_136 ?_
                  refine z_cR (z_runV (As := [.int (iI xp), .int (iI 0)]) (rest := [.int (iI (2 + (lenZ yL a))), .int (iI (xw - 6)), .ref (ad 0)]) M (c_X7_dense l D cy z0 ad th h su st sh fl ic sn bn fm fr cm em xg xe (xw - 6) xd cS cH sea noi pl pw an hd bp bo bw c1 c2 c3 c4 c5 e1 e2 e3 e4 e5 xp 0 (by omega) (by omega) (by omega) (by omega) (by omega) (by omega) (by omega) (by omega)) hE hS hAz hP (zRc.of (ci := 7) (q0 := 0) hE hP rfl rfl) zk_cd_X7_dense zk_in_RX7 zk_im_X7_dense zk_se_X7_dense zk_ml_RX7_118 rfl rfl zd_X7_dense ⟨by decide, by decide⟩ rfl hl.1 rfl (Nat.le_of_ble_eq_true rfl) dX7_follow_137 ⟨by decide, by decide⟩) ?_
                  refine z_rw (b := ((mdD ic h fl) xp)) rfl ?_
                  have hx_10 : 0 ≤ tell3 (mdD ic h fl) (mdE ic h cS) (mdF ic h su st) 0 xp ∧ tell3 (mdD ic h fl) (mdE ic h cS) (mdF ic h su st) 0 xp ≤ 1000 := dens_rg h_fl h_cS h_su h_st (by omega)
                  have hda_1 := mdD_rg (ic := ic) (h := h) h_fl xp (by omega) (by omega)
                  refine lv_aload_n M.1 M.2.1 dX7_follow_140 rfl (lv_at hl 3 rfl) ?_
                  refine lv_iload M.1 M.2.1 dX7_follow_141 (lv_at hl 0 rfl) ?_
                  refine zi_push M dX7_follow_143 ?_
                  refine z_cR (z_runV (As := [.int (iI (mvZ g xp (lenZ yL a))), .int (iI 0)]) (rest := [.int (iI ((mdD ic h fl) xp)), .int (iI (2 + (lenZ yL a))), .int (iI (xw - 6)), .ref (ad 0)]) M (c_X7_dense l D cy z0 ad th h su st sh fl ic sn bn fm fr cm em xg xe (xw - 6) xd cS cH sea noi pl pw an hd bp bo bw c1 c2 c3 c4 c5 e1 e2 e3 e4 e5 (mvZ g xp (lenZ yL a)) 0 (by omega) (by omega) (by omega) (by omega) (by omega) (by omega) (by omega) (by omega)) hE hS hAz hP (zRc.of (ci := 7) (q0 := 0) hE hP rfl rfl) zk_cd_X7_dense zk_in_RX7 zk_im_X7_dense zk_se_X7_dense zk_ml_RX7_118 rfl rfl zd_X7_dense ⟨by decide, by decide⟩ rfl hl.1 rfl (Nat.le_of_ble_eq_true rfl) dX7_follow_144 ⟨by decide, by decide⟩) ?_
                  refine z_rw (b := ((mdD ic h fl) (mvZ g xp (lenZ yL a)))) rfl ?_
                  have hx_12 : 0 ≤ tell3 (mdD ic h fl) (mdE ic h cS) (mdF ic h su st) 0 (mvZ g xp (lenZ yL a)) ∧ tell3 (mdD ic h fl) (mdE ic h cS) (mdF ic h su st) 0 (mvZ g xp (lenZ yL a)) ≤ 1000 := dens_rg h_fl h_cS h_su h_st (by omega)
                  have hda_2 := mdD_rg (ic := ic) (h := h) h_fl (mvZ g xp (lenZ yL a)) (by omega) (by omega)
                  refine zi_iadd M dX7_follow_147 ?_
                  refine zi_bipush M dX7_follow_148 ⟨by decide, by decide⟩ ?_
                  refine zi_imul M dX7_follow_150 ?_
                  refine lv_iload M.1 M.2.1 dX7_follow_151 (lv_at hl 8 rfl) ?_
                  have hdv := divr (a := ((mdD ic h fl) xp + (mdD ic h fl) (mvZ g xp (lenZ yL a))) * 40) (b := f) (A := 80000) (by omega) (by omega) (by omega)
                  refine zi_idiv M dX7_follow_153 (by omega) (by omega) (by omega) (by omega) ?_
                  refine zi_iadd M dX7_follow_154 ?_
                  refine zi_isub M dX7_follow_155 ?_
                  obtain ⟨w2, hw2⟩ : ∃ w : Int, w = xw - takZ (mdD ic h fl) sea xg xp (mvZ g xp (lenZ yL a)) (lenZ yL a) f := ⟨_, rfl⟩
                  refine z_rw (b := w2) (by rw [hw2]; unfold takZ; rw [hgn]; omega) ?_
                  have htk := takZ_rg (sea := sea) (lg := xg) (mdD_rg (ic := ic) (h := h) h_fl) hxp (mvZ_rg g xp (lenZ yL a)) (lenZ_rg yL a ha) hf
                  refine zi_put (ci := 7) (ws' := (mdlW ad 0 cy th h su st sh fl ic sn bn fm fr cm em xg xe w2 xd cS cH sea noi pl pw an hd bp bo bw c1 c2 c3 c4 c5 e1 e2 e3 e4 e5)) M hE hP hD hS 0 rfl rfl zu_X7 36 (by decide) zk_fl_RX7_135 rfl rfl tyX7_ok nmX7 rfl rfl (Nat.le_of_ble_eq_true rfl) rfl dX7_follow_156 (fun H locs hP hD hS => ?_)
                  refine lv_aload_n M.1 M.2.1 dX7_follow_159 rfl (lv_at hl 3 rfl) ?_
                  refine lv_dup M.1 M.2.1 dX7_follow_160 rfl ?_
                  refine zi_get (ci := 7) (v := .int (iI xd)) M hE hP 0 rfl rfl zu_X7 37 (by decide) zk_fl_RX7_138 rfl rfl dX7_follow_161 ?_
                  refine zi_bipush M dX7_follow_164 ⟨by decide, by decide⟩ ?_
                  refine lv_iload M.1 M.2.1 dX7_follow_166 (lv_at hl 1 rfl) ?_
                  refine zi_imul M dX7_follow_168 ?_
                  refine lv_iload M.1 M.2.1 dX7_follow_169 (lv_at hl 2 rfl) ?_
                  refine zi_push M dX7_follow_171 ?_
                  refine zi_icmp_ne (tgt := 179) M dX7_follow_172 (by decide) (by omega) ⟨by decide, by decide⟩ (fun c_14 => ?_) (fun c_14 => ?_)
                  ·
                    refine zi_push M dX7_follow_179 ?_
                    refine zi_iadd M dX7_follow_180 ?_
                    refine zi_iadd M dX7_follow_181 ?_
                    refine zi_put (ci := 7) (ws' := (mdlW ad 0 cy th h su st sh fl ic sn bn fm fr cm em xg xe w2 (xd + ((10 * (lenZ yL a)) + 5)) cS cH sea noi pl pw an hd bp bo bw c1 c2 c3 c4 c5 e1 e2 e3 e4 e5)) M hE hP hD hS 0 rfl rfl zu_X7 37 (by decide) zk_fl_RX7_138 rfl rfl tyX7_ok nmX7 rfl rfl (Nat.le_of_ble_eq_true rfl) rfl dX7_follow_182 (fun H locs hP hD hS => ?_)
                    refine lv_aload_n M.1 M.2.1 dX7_follow_185 rfl (lv_at hl 3 rfl) ?_
                    refine lv_dup M.1 M.2.1 dX7_follow_186 rfl ?_
                    refine zi_get (ci := 7) (v := .int (iI xe)) M hE hP 0 rfl rfl zu_X7 35 (by decide) zk_fl_RX7_132 rfl rfl dX7_follow_187 ?_
                    refine lv_iload M.1 M.2.1 dX7_follow_190 (lv_at hl 2 rfl) ?_
                    refine zi_push M dX7_follow_192 ?_
                    refine zi_icmp_ne (tgt := 200) M dX7_follow_193 (by decide) (by omega) ⟨by decide, by decide⟩ (fun _ => ?_) (fun q => absurd q c_14)
                    refine zi_push M dX7_follow_200 ?_
                    refine zi_iadd M dX7_follow_201 ?_
                    refine zi_put (ci := 7) (ws' := (mdlW ad 0 cy th h su st sh fl ic sn bn fm fr cm em xg (xe + 0) w2 (xd + ((10 * (lenZ yL a)) + 5)) cS cH sea noi pl pw an hd bp bo bw c1 c2 c3 c4 c5 e1 e2 e3 e4 e5)) M hE hP hD hS 0 rfl rfl zu_X7 35 (by decide) zk_fl_RX7_132 rfl rfl tyX7_ok nmX7 rfl rfl (Nat.le_of_ble_eq_true rfl) rfl dX7_follow_202 (fun H locs hP hD hS => ?_)
                    refine lv_aload_n M.1 M.2.1 dX7_follow_205 rfl (lv_at hl 3 rfl) ?_
                    refine lv_dup M.1 M.2.1 dX7_follow_206 rfl ?_
                    refine zi_get (ci := 7) (v := .int (iI xg)) M hE hP 0 rfl rfl zu_X7 34 (by decide) zk_fl_RX7_129 rfl rfl dX7_follow_207 ?_
                    refine zi_push M dX7_follow_210 ?_
                    refine zi_iadd M dX7_follow_211 ?_
                    refine zi_put (ci := 7) (ws' := (mdlW ad 0 cy th h su st sh fl ic sn bn fm fr cm em (xg + 1) (xe + 0) w2 (xd + ((10 * (lenZ yL a)) + 5)) cS cH sea noi pl pw an hd bp bo bw c1 c2 c3 c4 c5 e1 e2 e3 e4 e5)) M hE hP hD hS 0 rfl rfl zu_X7 34 (by decide) zk_fl_RX7_129 rfl rfl tyX7_ok nmX7 rfl rfl (Nat.le_of_ble_eq_true rfl) rfl dX7_follow_212 (fun H locs hP hD hS => ?_)
                    refine lv_iload M.1 M.2.1 dX7_follow_215 (lv_at hl 0 rfl) ?_
                    refine lv_istore (lv' := [(7, .int (iI (mvZ g xp (lenZ yL a)))), (10, .int (iI (mvZ g xp (lenZ yL a)))), (9, .int (iI (lenZ yL a))), (8, .int (iI yL)), (0, .ref (ad 0)), (1, .int (iI q)), (2, .int (iI t)), (3, .int (iI g)), (4, .int (iI a)), (5, .int (iI f)), (6, .int (iI w))]) M.1 M.2.1 dX7_follow_217 hl (by decide) rfl (fun ls hl => ?_)
                    have q1 : (if yL = 1 then (1 : Int) else 0) = 0 := if_neg (by assumption)
                    have q2 : (if yL = 1 then (2 : Int) else 5) = 5 := if_neg (by assumption)
                    have hst1 : ¬ w2 < 0 → stepZ (mdE ic h cS) (mdF ic h su st) (mdD ic h fl) sea g a f xp xw xg xe xd = some (mvZ g xp (lenZ yL a), w2, xg + 1, (xe + 0), (xd + ((10 * (lenZ yL a)) + 5))) := fun z => by unfold stepZ; rw [hbd, if_neg (by omega), ← hw2, if_neg z, q1, q2]
                    have hst0 : w2 < 0 → stepZ (mdE ic h cS) (mdF ic h su st) (mdD ic h fl) sea g a f xp xw xg xe xd = none := fun z => by unfold stepZ; rw [hbd, if_neg (by omega), ← hw2, if_pos z]
                    have hgo := hgo1 (by omega)
                    rw [show (10 - xg).toNat = (10 - (xg + 1)).toNat + 1 from by omega] at hgo
                    refine lv_aload_n M.1 M.2.1 dX7_follow_219 rfl (lv_at hl 4 rfl) ?_
                    refine zi_get (ci := 7) (v := .int (iI w2)) M hE hP 0 rfl rfl zu_X7 36 (by decide) zk_fl_RX7_135 rfl rfl dX7_follow_220 ?_
                    refine zi_if_lt (tgt := 234) M dX7_follow_223 (by decide) (by omega) (fun c_15 => ?_) (fun c_15 => ?_)
                    ·
                      refine zi_goto (tgt := 24) M dX7_follow_234 (by decide) ?_
                      exact ih_24 (mvZ g xp (lenZ yL a)) w2 (xg + 1) (xe + 0) (xd + ((10 * (lenZ yL a)) + 5)) (by omega) (mvZ_rg _ _ _) (by omega) (fun z => by rw [hgo, goZ_s (hst1 (by omega)), if_neg (by omega)]) (fun z => by rw [hgo, goZ_n (hst0 z)]) (by omega) _ _ hP hD hS ls (lv_sub hl [4, 5, 6, 7, 8, 9, 10, 0] rfl)
                    ·
                      refine lv_iload M.1 M.2.1 dX7_follow_226 (lv_at hl 0 rfl) ?_
                      refine lv_iload_n M.1 M.2.1 dX7_follow_228 rfl (lv_at hl 6 rfl) ?_
                      refine zi_icmp_ne (tgt := 234) M dX7_follow_229 (by decide) (by omega) (by omega) (fun c_16 => ?_) (fun c_16 => ?_)
                      ·
                        refine zi_goto (tgt := 24) M dX7_follow_234 (by decide) ?_
                        exact ih_24 (mvZ g xp (lenZ yL a)) w2 (xg + 1) (xe + 0) (xd + ((10 * (lenZ yL a)) + 5)) (by omega) (mvZ_rg _ _ _) (by omega) (fun z => by rw [hgo, goZ_s (hst1 (by omega)), if_neg (by omega)]) (fun z => by rw [hgo, goZ_n (hst0 z)]) (by omega) _ _ hP hD hS ls (lv_sub hl [4, 5, 6, 7, 8, 9, 10, 0] rfl)
                      ·
                        refine zi_push M dX7_follow_232 ?_
                        have hP : va_P D vwCl (mdlW ad 0 cy th h su st sh fl ic sn bn fm fr cm em ((u8 (xg + 1) (xe + 0) w2 (xd + ((10 * (lenZ yL a)) + 5)) 0 0 0 0) 0) ((u8 (xg + 1) (xe + 0) w2 (xd + ((10 * (lenZ yL a)) + 5)) 0 0 0 0) 1) ((u8 (xg + 1) (xe + 0) w2 (xd + ((10 * (lenZ yL a)) + 5)) 0 0 0 0) 2) ((u8 (xg + 1) (xe + 0) w2 (xd + ((10 * (lenZ yL a)) + 5)) 0 0 0 0) 3) cS cH sea noi pl pw an hd bp bo bw c1 c2 c3 c4 c5 e1 e2 e3 e4 e5) H := hP
                        exact zw_z M hr hlk (v := 1) (Or.inr rfl) (u8 (xg + 1) (xe + 0) w2 (xd + ((10 * (lenZ yL a)) + 5)) 0 0 0 0) hP hS (by (exact Or.inl ⟨_, _, _, _, by rw [hgo, goZ_s (hst1 (by omega)), if_pos (by omega)], rfl, rfl⟩)) (by decide) (by decide) dX7_follow_233
                  ·
                    refine zi_push M dX7_follow_175 ?_
                    refine zi_goto (tgt := 180) M dX7_follow_176 (by decide) ?_
                    refine zi_iadd M dX7_follow_180 ?_
                    refine zi_iadd M dX7_follow_181 ?_
                    refine zi_put (ci := 7) (ws' := (mdlW ad 0 cy th h su st sh fl ic sn bn fm fr cm em xg xe w2 (xd + ((10 * (lenZ yL a)) + 2)) cS cH sea noi pl pw an hd bp bo bw c1 c2 c3 c4 c5 e1 e2 e3 e4 e5)) M hE hP hD hS 0 rfl rfl zu_X7 37 (by decide) zk_fl_RX7_138 rfl rfl tyX7_ok nmX7 rfl rfl (Nat.le_of_ble_eq_true rfl) rfl dX7_follow_182 (fun H locs hP hD hS => ?_)
                    refine lv_aload_n M.1 M.2.1 dX7_follow_185 rfl (lv_at hl 3 rfl) ?_
                    refine lv_dup M.1 M.2.1 dX7_follow_186 rfl ?_
                    refine zi_get (ci := 7) (v := .int (iI xe)) M hE hP 0 rfl rfl zu_X7 35 (by decide) zk_fl_RX7_132 rfl rfl dX7_follow_187 ?_
                    refine lv_iload M.1 M.2.1 dX7_follow_190 (lv_at hl 2 rfl) ?_
                    refine zi_push M dX7_follow_192 ?_
                    refine zi_icmp_ne (tgt := 200) M dX7_follow_193 (by decide) (by omega) ⟨by decide, by decide⟩ (fun q => absurd c_14 q) (fun _ => ?_)
                    refine zi_push M dX7_follow_196 ?_
                    refine zi_goto (tgt := 201) M dX7_follow_197 (by decide) ?_
                    refine zi_iadd M dX7_follow_201 ?_
                    refine zi_put (ci := 7) (ws' := (mdlW ad 0 cy th h su st sh fl ic sn bn fm fr cm em xg (xe + 1) w2 (xd + ((10 * (lenZ yL a)) + 2)) cS cH sea noi pl pw an hd bp bo bw c1 c2 c3 c4 c5 e1 e2 e3 e4 e5)) M hE hP hD hS 0 rfl rfl zu_X7 35 (by decide) zk_fl_RX7_132 rfl rfl tyX7_ok nmX7 rfl rfl (Nat.le_of_ble_eq_true rfl) rfl dX7_follow_202 (fun H locs hP hD hS => ?_)
                    refine lv_aload_n M.1 M.2.1 dX7_follow_205 rfl (lv_at hl 3 rfl) ?_
                    refine lv_dup M.1 M.2.1 dX7_follow_206 rfl ?_
                    refine zi_get (ci := 7) (v := .int (iI xg)) M hE hP 0 rfl rfl zu_X7 34 (by decide) zk_fl_RX7_129 rfl rfl dX7_follow_207 ?_
                    refine zi_push M dX7_follow_210 ?_
                    refine zi_iadd M dX7_follow_211 ?_
                    refine zi_put (ci := 7) (ws' := (mdlW ad 0 cy th h su st sh fl ic sn bn fm fr cm em (xg + 1) (xe + 1) w2 (xd + ((10 * (lenZ yL a)) + 2)) cS cH sea noi pl pw an hd bp bo bw c1 c2 c3 c4 c5 e1 e2 e3 e4 e5)) M hE hP hD hS 0 rfl rfl zu_X7 34 (by decide) zk_fl_RX7_129 rfl rfl tyX7_ok nmX7 rfl rfl (Nat.le_of_ble_eq_true rfl) rfl dX7_follow_212 (fun H locs hP hD hS => ?_)
                    refine lv_iload M.1 M.2.1 dX7_follow_215 (lv_at hl 0 rfl) ?_
                    refine lv_istore (lv' := [(7, .int (iI (mvZ g xp (lenZ yL a)))), (10, .int (iI (mvZ g xp (lenZ yL a)))), (9, .int (iI (lenZ yL a))), (8, .int (iI yL)), (0, .ref (ad 0)), (1, .int (iI q)), (2, .int (iI t)), (3, .int (iI g)), (4, .int (iI a)), (5, .int (iI f)), (6, .int (iI w))]) M.1 M.2.1 dX7_follow_217 hl (by decide) rfl (fun ls hl => ?_)
                    have q1 : (if yL = 1 then (1 : Int) else 0) = 1 := if_pos (by assumption)
                    have q2 : (if yL = 1 then (2 : Int) else 5) = 2 := if_pos (by assumption)
                    have hst1 : ¬ w2 < 0 → stepZ (mdE ic h cS) (mdF ic h su st) (mdD ic h fl) sea g a f xp xw xg xe xd = some (mvZ g xp (lenZ yL a), w2, xg + 1, (xe + 1), (xd + ((10 * (lenZ yL a)) + 2))) := fun z => by unfold stepZ; rw [hbd, if_neg (by omega), ← hw2, if_neg z, q1, q2]
                    have hst0 : w2 < 0 → stepZ (mdE ic h cS) (mdF ic h su st) (mdD ic h fl) sea g a f xp xw xg xe xd = none := fun z => by unfold stepZ; rw [hbd, if_neg (by omega), ← hw2, if_pos z]
                    have hgo := hgo1 (by omega)
                    rw [show (10 - xg).toNat = (10 - (xg + 1)).toNat + 1 from by omega] at hgo
                    refine lv_aload_n M.1 M.2.1 dX7_follow_219 rfl (lv_at hl 4 rfl) ?_
                    refine zi_get (ci := 7) (v := .int (iI w2)) M hE hP 0 rfl rfl zu_X7 36 (by decide) zk_fl_RX7_135 rfl rfl dX7_follow_220 ?_
                    refine zi_if_lt (tgt := 234) M dX7_follow_223 (by decide) (by omega) (fun c_17 => ?_) (fun c_17 => ?_)
                    ·
                      refine zi_goto (tgt := 24) M dX7_follow_234 (by decide) ?_
                      exact ih_24 (mvZ g xp (lenZ yL a)) w2 (xg + 1) (xe + 1) (xd + ((10 * (lenZ yL a)) + 2)) (by omega) (mvZ_rg _ _ _) (by omega) (fun z => by rw [hgo, goZ_s (hst1 (by omega)), if_neg (by omega)]) (fun z => by rw [hgo, goZ_n (hst0 z)]) (by omega) _ _ hP hD hS ls (lv_sub hl [4, 5, 6, 7, 8, 9, 10, 0] rfl)
                    ·
                      refine lv_iload M.1 M.2.1 dX7_follow_226 (lv_at hl 0 rfl) ?_
                      refine lv_iload_n M.1 M.2.1 dX7_follow_228 rfl (lv_at hl 6 rfl) ?_
                      refine zi_icmp_ne (tgt := 234) M dX7_follow_229 (by decide) (by omega) (by omega) (fun c_18 => ?_) (fun c_18 => ?_)
                      ·
                        refine zi_goto (tgt := 24) M dX7_follow_234 (by decide) ?_
                        exact ih_24 (mvZ g xp (lenZ yL a)) w2 (xg + 1) (xe + 1) (xd + ((10 * (lenZ yL a)) + 2)) (by omega) (mvZ_rg _ _ _) (by omega) (fun z => by rw [hgo, goZ_s (hst1 (by omega)), if_neg (by omega)]) (fun z => by rw [hgo, goZ_n (hst0 z)]) (by omega) _ _ hP hD hS ls (lv_sub hl [4, 5, 6, 7, 8, 9, 10, 0] rfl)
                      ·
                        refine zi_push M dX7_follow_232 ?_
                        have hP : va_P D vwCl (mdlW ad 0 cy th h su st sh fl ic sn bn fm fr cm em ((u8 (xg + 1) (xe + 1) w2 (xd + ((10 * (lenZ yL a)) + 2)) 0 0 0 0) 0) ((u8 (xg + 1) (xe + 1) w2 (xd + ((10 * (lenZ yL a)) + 2)) 0 0 0 0) 1) ((u8 (xg + 1) (xe + 1) w2 (xd + ((10 * (lenZ yL a)) + 2)) 0 0 0 0) 2) ((u8 (xg + 1) (xe + 1) w2 (xd + ((10 * (lenZ yL a)) + 2)) 0 0 0 0) 3) cS cH sea noi pl pw an hd bp bo bw c1 c2 c3 c4 c5 e1 e2 e3 e4 e5) H := hP
                        exact zw_z M hr hlk (v := 1) (Or.inr rfl) (u8 (xg + 1) (xe + 1) w2 (xd + ((10 * (lenZ yL a)) + 2)) 0 0 0 0) hP hS (by (exact Or.inl ⟨_, _, _, _, by rw [hgo, goZ_s (hst1 (by omega)), if_pos (by omega)], rfl, rfl⟩)) (by decide) (by decide) dX7_follow_233
                ·
                  refine zi_push M dX7_follow_103 ?_
                  have hP : va_P D vwCl (mdlW ad 0 cy th h su st sh fl ic sn bn fm fr cm em ((u8 xg xe (xw - 6) xd 0 0 0 0) 0) ((u8 xg xe (xw - 6) xd 0 0 0 0) 1) ((u8 xg xe (xw - 6) xd 0 0 0 0) 2) ((u8 xg xe (xw - 6) xd 0 0 0 0) 3) cS cH sea noi pl pw an hd bp bo bw c1 c2 c3 c4 c5 e1 e2 e3 e4 e5) H := hP
                  exact zw_z M hr hlk (v := 0) (Or.inl rfl) (u8 xg xe (xw - 6) xd 0 0 0 0) hP hS (by (exact Or.inr ⟨by rw [hgo1 (by omega), show (10 - xg).toNat = (10 - (xg + 1)).toNat + 1 from by omega]; exact goZ_n (by unfold stepZ; rw [hbd, if_neg (by omega), if_pos (by omega)]), rfl⟩)) (by decide) (by decide) dX7_follow_104
              ·
                refine zi_push M dX7_follow_86 ?_
                refine zi_goto (tgt := 92) M dX7_follow_87 (by decide) ?_
                have hgn : gndZ sea xg xp = 3 := by unfold gndZ; first | exact if_pos (by omega) | (rw [if_neg (by omega)]; first | exact if_pos (by omega) | exact if_neg (by omega))
                have htg := takZ_ge (dD := (mdD ic h fl)) (sea := sea) (lg := xg) (p := xp) (q := mvZ g xp (lenZ yL a)) (n := lenZ yL a) (mdD_rg h_fl) hxp (mvZ_rg _ _ _) (lenZ_rg yL a ha) hf
                refine zi_isub M dX7_follow_92 ?_
                refine zi_put (ci := 7) (ws' := (mdlW ad 0 cy th h su st sh fl ic sn bn fm fr cm em xg xe (xw - 3) xd cS cH sea noi pl pw an hd bp bo bw c1 c2 c3 c4 c5 e1 e2 e3 e4 e5)) M hE hP hD hS 0 rfl rfl zu_X7 36 (by decide) zk_fl_RX7_135 rfl rfl tyX7_ok nmX7 rfl rfl (Nat.le_of_ble_eq_true rfl) rfl dX7_follow_93 (fun H locs hP hD hS => ?_)
                refine lv_aload_n M.1 M.2.1 dX7_follow_96 rfl (lv_at hl 1 rfl) ?_
                refine zi_get (ci := 7) (v := .int (iI (xw - 3))) M hE hP 0 rfl rfl zu_X7 36 (by decide) zk_fl_RX7_135 rfl rfl dX7_follow_97 ?_
                refine zi_if_ge (tgt := 105) M dX7_follow_100 (by decide) (by omega) (fun c_19 => ?_) (fun c_19 => ?_)
                ·
                  refine lv_iload M.1 M.2.1 dX7_follow_105 (lv_at hl 0 rfl) ?_
                  refine lv_iload M.1 M.2.1 dX7_follow_107 (lv_at hl 5 rfl) ?_
                  refine z_cR (z_runS (As := [.int (iI yL), .int (iI a)]) (rest := []) M (c_X7_lengthOf l D cy z0 yL a (by omega) (by omega)) hE hS hAz trivial zk_cd_X7_lengthOf zk_in_RX7 zk_st_X7_lengthOf zk_ml_RX7_145 rfl rfl zd_X7_lengthOf ⟨by decide, by decide⟩ rfl hl.1 rfl (Nat.le_of_ble_eq_true rfl) dX7_follow_109 ⟨by decide, by decide⟩) ?_
                  have hx_20 := lenZ_rg yL a (by omega)
                  refine lv_istore (lv' := [(9, .int (iI (lenZ yL a))), (8, .int (iI yL)), (0, .ref (ad 0)), (1, .int (iI q)), (2, .int (iI t)), (3, .int (iI g)), (4, .int (iI a)), (5, .int (iI f)), (6, .int (iI w)), (7, .int (iI xp))]) M.1 M.2.1 dX7_follow_112 hl (by decide) rfl (fun ls hl => ?_)
                  refine lv_iload M.1 M.2.1 dX7_follow_114 (lv_at hl 9 rfl) ?_
                  refine lv_iload_n M.1 M.2.1 dX7_follow_116 rfl (lv_at hl 5 rfl) ?_
                  refine lv_iload M.1 M.2.1 dX7_follow_117 (lv_at hl 0 rfl) ?_
                  refine z_cR (z_runS (As := [.int (iI xp), .int (iI g), .int (iI (lenZ yL a))]) (rest := []) M (c_X7_on l D cy z0 xp g (lenZ yL a) (by omega) (by omega) (by omega)) hE hS hAz trivial zk_cd_X7_on zk_in_RX7 zk_st_X7_on zk_ml_RX7_121 rfl rfl zd_X7_on ⟨by decide, by decide⟩ rfl hl.1 rfl (Nat.le_of_ble_eq_true rfl) dX7_follow_119 ⟨by decide, by decide⟩) ?_
                  have hx_21 := mvZ_rg g xp (lenZ yL a)
                  refine lv_istore (lv' := [(10, .int (iI (mvZ g xp (lenZ yL a)))), (9, .int (iI (lenZ yL a))), (8, .int (iI yL)), (0, .ref (ad 0)), (1, .int (iI q)), (2, .int (iI t)), (3, .int (iI g)), (4, .int (iI a)), (5, .int (iI f)), (6, .int (iI w)), (7, .int (iI xp))]) M.1 M.2.1 dX7_follow_122 hl (by decide) rfl (fun ls hl => ?_)
                  refine lv_aload_n M.1 M.2.1 dX7_follow_124 rfl (lv_at hl 3 rfl) ?_
                  refine lv_dup M.1 M.2.1 dX7_follow_125 rfl ?_
                  refine zi_get (ci := 7) (v := .int (iI (xw - 3))) M hE hP 0 rfl rfl zu_X7 36 (by decide) zk_fl_RX7_135 rfl rfl dX7_follow_126 ?_
                  refine zi_push M dX7_follow_129 ?_
                  refine lv_iload M.1 M.2.1 dX7_follow_130 (lv_at hl 1 rfl) ?_
                  refine zi_iadd M dX7_follow_132 ?_
                  refine lv_aload_n M.1 M.2.1 dX7_follow_133 rfl (lv_at hl 3 rfl) ?_
                  refine lv_iload M.1 M.2.1 dX7_follow_134 (lv_at hl 10 rfl) ?_
                  refine zi_push M dX7_follow_136 ?_
                  refine z_cR (z_runV (As := [.int (iI xp), .int (iI 0)]) (rest := [.int (iI (2 + (lenZ yL a))), .int (iI (xw - 3)), .ref (ad 0)]) M (c_X7_dense l D cy z0 ad th h su st sh fl ic sn bn fm fr cm em xg xe (xw - 3) xd cS cH sea noi pl pw an hd bp bo bw c1 c2 c3 c4 c5 e1 e2 e3 e4 e5 xp 0 (by omega) (by omega) (by omega) (by omega) (by omega) (by omega) (by omega) (by omega)) hE hS hAz hP (zRc.of (ci := 7) (q0 := 0) hE hP rfl rfl) zk_cd_X7_dense zk_in_RX7 zk_im_X7_dense zk_se_X7_dense zk_ml_RX7_118 rfl rfl zd_X7_dense ⟨by decide, by decide⟩ rfl hl.1 rfl (Nat.le_of_ble_eq_true rfl) dX7_follow_137 ⟨by decide, by decide⟩) ?_
                  refine z_rw (b := ((mdD ic h fl) xp)) rfl ?_
                  have hx_22 : 0 ≤ tell3 (mdD ic h fl) (mdE ic h cS) (mdF ic h su st) 0 xp ∧ tell3 (mdD ic h fl) (mdE ic h cS) (mdF ic h su st) 0 xp ≤ 1000 := dens_rg h_fl h_cS h_su h_st (by omega)
                  have hda_1 := mdD_rg (ic := ic) (h := h) h_fl xp (by omega) (by omega)
                  refine lv_aload_n M.1 M.2.1 dX7_follow_140 rfl (lv_at hl 3 rfl) ?_
                  refine lv_iload M.1 M.2.1 dX7_follow_141 (lv_at hl 0 rfl) ?_
                  refine zi_push M dX7_follow_143 ?_
                  refine z_cR (z_runV (As := [.int (iI (mvZ g xp (lenZ yL a))), .int (iI 0)]) (rest := [.int (iI ((mdD ic h fl) xp)), .int (iI (2 + (lenZ yL a))), .int (iI (xw - 3)), .ref (ad 0)]) M (c_X7_dense l D cy z0 ad th h su st sh fl ic sn bn fm fr cm em xg xe (xw - 3) xd cS cH sea noi pl pw an hd bp bo bw c1 c2 c3 c4 c5 e1 e2 e3 e4 e5 (mvZ g xp (lenZ yL a)) 0 (by omega) (by omega) (by omega) (by omega) (by omega) (by omega) (by omega) (by omega)) hE hS hAz hP (zRc.of (ci := 7) (q0 := 0) hE hP rfl rfl) zk_cd_X7_dense zk_in_RX7 zk_im_X7_dense zk_se_X7_dense zk_ml_RX7_118 rfl rfl zd_X7_dense ⟨by decide, by decide⟩ rfl hl.1 rfl (Nat.le_of_ble_eq_true rfl) dX7_follow_144 ⟨by decide, by decide⟩) ?_
                  refine z_rw (b := ((mdD ic h fl) (mvZ g xp (lenZ yL a)))) rfl ?_
                  have hx_24 : 0 ≤ tell3 (mdD ic h fl) (mdE ic h cS) (mdF ic h su st) 0 (mvZ g xp (lenZ yL a)) ∧ tell3 (mdD ic h fl) (mdE ic h cS) (mdF ic h su st) 0 (mvZ g xp (lenZ yL a)) ≤ 1000 := dens_rg h_fl h_cS h_su h_st (by omega)
                  have hda_2 := mdD_rg (ic := ic) (h := h) h_fl (mvZ g xp (lenZ yL a)) (by omega) (by omega)
                  refine zi_iadd M dX7_follow_147 ?_
                  refine zi_bipush M dX7_follow_148 ⟨by decide, by decide⟩ ?_
                  refine zi_imul M dX7_follow_150 ?_
                  refine lv_iload M.1 M.2.1 dX7_follow_151 (lv_at hl 8 rfl) ?_
                  have hdv := divr (a := ((mdD ic h fl) xp + (mdD ic h fl) (mvZ g xp (lenZ yL a))) * 40) (b := f) (A := 80000) (by omega) (by omega) (by omega)
                  refine zi_idiv M dX7_follow_153 (by omega) (by omega) (by omega) (by omega) ?_
                  refine zi_iadd M dX7_follow_154 ?_
                  refine zi_isub M dX7_follow_155 ?_
                  obtain ⟨w2, hw2⟩ : ∃ w : Int, w = xw - takZ (mdD ic h fl) sea xg xp (mvZ g xp (lenZ yL a)) (lenZ yL a) f := ⟨_, rfl⟩
                  refine z_rw (b := w2) (by rw [hw2]; unfold takZ; rw [hgn]; omega) ?_
                  have htk := takZ_rg (sea := sea) (lg := xg) (mdD_rg (ic := ic) (h := h) h_fl) hxp (mvZ_rg g xp (lenZ yL a)) (lenZ_rg yL a ha) hf
                  refine zi_put (ci := 7) (ws' := (mdlW ad 0 cy th h su st sh fl ic sn bn fm fr cm em xg xe w2 xd cS cH sea noi pl pw an hd bp bo bw c1 c2 c3 c4 c5 e1 e2 e3 e4 e5)) M hE hP hD hS 0 rfl rfl zu_X7 36 (by decide) zk_fl_RX7_135 rfl rfl tyX7_ok nmX7 rfl rfl (Nat.le_of_ble_eq_true rfl) rfl dX7_follow_156 (fun H locs hP hD hS => ?_)
                  refine lv_aload_n M.1 M.2.1 dX7_follow_159 rfl (lv_at hl 3 rfl) ?_
                  refine lv_dup M.1 M.2.1 dX7_follow_160 rfl ?_
                  refine zi_get (ci := 7) (v := .int (iI xd)) M hE hP 0 rfl rfl zu_X7 37 (by decide) zk_fl_RX7_138 rfl rfl dX7_follow_161 ?_
                  refine zi_bipush M dX7_follow_164 ⟨by decide, by decide⟩ ?_
                  refine lv_iload M.1 M.2.1 dX7_follow_166 (lv_at hl 1 rfl) ?_
                  refine zi_imul M dX7_follow_168 ?_
                  refine lv_iload M.1 M.2.1 dX7_follow_169 (lv_at hl 2 rfl) ?_
                  refine zi_push M dX7_follow_171 ?_
                  refine zi_icmp_ne (tgt := 179) M dX7_follow_172 (by decide) (by omega) ⟨by decide, by decide⟩ (fun c_26 => ?_) (fun c_26 => ?_)
                  ·
                    refine zi_push M dX7_follow_179 ?_
                    refine zi_iadd M dX7_follow_180 ?_
                    refine zi_iadd M dX7_follow_181 ?_
                    refine zi_put (ci := 7) (ws' := (mdlW ad 0 cy th h su st sh fl ic sn bn fm fr cm em xg xe w2 (xd + ((10 * (lenZ yL a)) + 5)) cS cH sea noi pl pw an hd bp bo bw c1 c2 c3 c4 c5 e1 e2 e3 e4 e5)) M hE hP hD hS 0 rfl rfl zu_X7 37 (by decide) zk_fl_RX7_138 rfl rfl tyX7_ok nmX7 rfl rfl (Nat.le_of_ble_eq_true rfl) rfl dX7_follow_182 (fun H locs hP hD hS => ?_)
                    refine lv_aload_n M.1 M.2.1 dX7_follow_185 rfl (lv_at hl 3 rfl) ?_
                    refine lv_dup M.1 M.2.1 dX7_follow_186 rfl ?_
                    refine zi_get (ci := 7) (v := .int (iI xe)) M hE hP 0 rfl rfl zu_X7 35 (by decide) zk_fl_RX7_132 rfl rfl dX7_follow_187 ?_
                    refine lv_iload M.1 M.2.1 dX7_follow_190 (lv_at hl 2 rfl) ?_
                    refine zi_push M dX7_follow_192 ?_
                    refine zi_icmp_ne (tgt := 200) M dX7_follow_193 (by decide) (by omega) ⟨by decide, by decide⟩ (fun _ => ?_) (fun q => absurd q c_26)
                    refine zi_push M dX7_follow_200 ?_
                    refine zi_iadd M dX7_follow_201 ?_
                    refine zi_put (ci := 7) (ws' := (mdlW ad 0 cy th h su st sh fl ic sn bn fm fr cm em xg (xe + 0) w2 (xd + ((10 * (lenZ yL a)) + 5)) cS cH sea noi pl pw an hd bp bo bw c1 c2 c3 c4 c5 e1 e2 e3 e4 e5)) M hE hP hD hS 0 rfl rfl zu_X7 35 (by decide) zk_fl_RX7_132 rfl rfl tyX7_ok nmX7 rfl rfl (Nat.le_of_ble_eq_true rfl) rfl dX7_follow_202 (fun H locs hP hD hS => ?_)
                    refine lv_aload_n M.1 M.2.1 dX7_follow_205 rfl (lv_at hl 3 rfl) ?_
                    refine lv_dup M.1 M.2.1 dX7_follow_206 rfl ?_
                    refine zi_get (ci := 7) (v := .int (iI xg)) M hE hP 0 rfl rfl zu_X7 34 (by decide) zk_fl_RX7_129 rfl rfl dX7_follow_207 ?_
                    refine zi_push M dX7_follow_210 ?_
                    refine zi_iadd M dX7_follow_211 ?_
                    refine zi_put (ci := 7) (ws' := (mdlW ad 0 cy th h su st sh fl ic sn bn fm fr cm em (xg + 1) (xe + 0) w2 (xd + ((10 * (lenZ yL a)) + 5)) cS cH sea noi pl pw an hd bp bo bw c1 c2 c3 c4 c5 e1 e2 e3 e4 e5)) M hE hP hD hS 0 rfl rfl zu_X7 34 (by decide) zk_fl_RX7_129 rfl rfl tyX7_ok nmX7 rfl rfl (Nat.le_of_ble_eq_true rfl) rfl dX7_follow_212 (fun H locs hP hD hS => ?_)
                    refine lv_iload M.1 M.2.1 dX7_follow_215 (lv_at hl 0 rfl) ?_
                    refine lv_istore (lv' := [(7, .int (iI (mvZ g xp (lenZ yL a)))), (10, .int (iI (mvZ g xp (lenZ yL a)))), (9, .int (iI (lenZ yL a))), (8, .int (iI yL)), (0, .ref (ad 0)), (1, .int (iI q)), (2, .int (iI t)), (3, .int (iI g)), (4, .int (iI a)), (5, .int (iI f)), (6, .int (iI w))]) M.1 M.2.1 dX7_follow_217 hl (by decide) rfl (fun ls hl => ?_)
                    have q1 : (if yL = 1 then (1 : Int) else 0) = 0 := if_neg (by assumption)
                    have q2 : (if yL = 1 then (2 : Int) else 5) = 5 := if_neg (by assumption)
                    have hst1 : ¬ w2 < 0 → stepZ (mdE ic h cS) (mdF ic h su st) (mdD ic h fl) sea g a f xp xw xg xe xd = some (mvZ g xp (lenZ yL a), w2, xg + 1, (xe + 0), (xd + ((10 * (lenZ yL a)) + 5))) := fun z => by unfold stepZ; rw [hbd, if_neg (by omega), ← hw2, if_neg z, q1, q2]
                    have hst0 : w2 < 0 → stepZ (mdE ic h cS) (mdF ic h su st) (mdD ic h fl) sea g a f xp xw xg xe xd = none := fun z => by unfold stepZ; rw [hbd, if_neg (by omega), ← hw2, if_pos z]
                    have hgo := hgo1 (by omega)
                    rw [show (10 - xg).toNat = (10 - (xg + 1)).toNat + 1 from by omega] at hgo
                    refine lv_aload_n M.1 M.2.1 dX7_follow_219 rfl (lv_at hl 4 rfl) ?_
                    refine zi_get (ci := 7) (v := .int (iI w2)) M hE hP 0 rfl rfl zu_X7 36 (by decide) zk_fl_RX7_135 rfl rfl dX7_follow_220 ?_
                    refine zi_if_lt (tgt := 234) M dX7_follow_223 (by decide) (by omega) (fun c_27 => ?_) (fun c_27 => ?_)
                    ·
                      refine zi_goto (tgt := 24) M dX7_follow_234 (by decide) ?_
                      exact ih_24 (mvZ g xp (lenZ yL a)) w2 (xg + 1) (xe + 0) (xd + ((10 * (lenZ yL a)) + 5)) (by omega) (mvZ_rg _ _ _) (by omega) (fun z => by rw [hgo, goZ_s (hst1 (by omega)), if_neg (by omega)]) (fun z => by rw [hgo, goZ_n (hst0 z)]) (by omega) _ _ hP hD hS ls (lv_sub hl [4, 5, 6, 7, 8, 9, 10, 0] rfl)
                    ·
                      refine lv_iload M.1 M.2.1 dX7_follow_226 (lv_at hl 0 rfl) ?_
                      refine lv_iload_n M.1 M.2.1 dX7_follow_228 rfl (lv_at hl 6 rfl) ?_
                      refine zi_icmp_ne (tgt := 234) M dX7_follow_229 (by decide) (by omega) (by omega) (fun c_28 => ?_) (fun c_28 => ?_)
                      ·
                        refine zi_goto (tgt := 24) M dX7_follow_234 (by decide) ?_
                        exact ih_24 (mvZ g xp (lenZ yL a)) w2 (xg + 1) (xe + 0) (xd + ((10 * (lenZ yL a)) + 5)) (by omega) (mvZ_rg _ _ _) (by omega) (fun z => by rw [hgo, goZ_s (hst1 (by omega)), if_neg (by omega)]) (fun z => by rw [hgo, goZ_n (hst0 z)]) (by omega) _ _ hP hD hS ls (lv_sub hl [4, 5, 6, 7, 8, 9, 10, 0] rfl)
                      ·
                        refine zi_push M dX7_follow_232 ?_
                        have hP : va_P D vwCl (mdlW ad 0 cy th h su st sh fl ic sn bn fm fr cm em ((u8 (xg + 1) (xe + 0) w2 (xd + ((10 * (lenZ yL a)) + 5)) 0 0 0 0) 0) ((u8 (xg + 1) (xe + 0) w2 (xd + ((10 * (lenZ yL a)) + 5)) 0 0 0 0) 1) ((u8 (xg + 1) (xe + 0) w2 (xd + ((10 * (lenZ yL a)) + 5)) 0 0 0 0) 2) ((u8 (xg + 1) (xe + 0) w2 (xd + ((10 * (lenZ yL a)) + 5)) 0 0 0 0) 3) cS cH sea noi pl pw an hd bp bo bw c1 c2 c3 c4 c5 e1 e2 e3 e4 e5) H := hP
                        exact zw_z M hr hlk (v := 1) (Or.inr rfl) (u8 (xg + 1) (xe + 0) w2 (xd + ((10 * (lenZ yL a)) + 5)) 0 0 0 0) hP hS (by (exact Or.inl ⟨_, _, _, _, by rw [hgo, goZ_s (hst1 (by omega)), if_pos (by omega)], rfl, rfl⟩)) (by decide) (by decide) dX7_follow_233
                  ·
                    refine zi_push M dX7_follow_175 ?_
                    refine zi_goto (tgt := 180) M dX7_follow_176 (by decide) ?_
                    refine zi_iadd M dX7_follow_180 ?_
                    refine zi_iadd M dX7_follow_181 ?_
                    refine zi_put (ci := 7) (ws' := (mdlW ad 0 cy th h su st sh fl ic sn bn fm fr cm em xg xe w2 (xd + ((10 * (lenZ yL a)) + 2)) cS cH sea noi pl pw an hd bp bo bw c1 c2 c3 c4 c5 e1 e2 e3 e4 e5)) M hE hP hD hS 0 rfl rfl zu_X7 37 (by decide) zk_fl_RX7_138 rfl rfl tyX7_ok nmX7 rfl rfl (Nat.le_of_ble_eq_true rfl) rfl dX7_follow_182 (fun H locs hP hD hS => ?_)
                    refine lv_aload_n M.1 M.2.1 dX7_follow_185 rfl (lv_at hl 3 rfl) ?_
                    refine lv_dup M.1 M.2.1 dX7_follow_186 rfl ?_
                    refine zi_get (ci := 7) (v := .int (iI xe)) M hE hP 0 rfl rfl zu_X7 35 (by decide) zk_fl_RX7_132 rfl rfl dX7_follow_187 ?_
                    refine lv_iload M.1 M.2.1 dX7_follow_190 (lv_at hl 2 rfl) ?_
                    refine zi_push M dX7_follow_192 ?_
                    refine zi_icmp_ne (tgt := 200) M dX7_follow_193 (by decide) (by omega) ⟨by decide, by decide⟩ (fun q => absurd c_26 q) (fun _ => ?_)
                    refine zi_push M dX7_follow_196 ?_
                    refine zi_goto (tgt := 201) M dX7_follow_197 (by decide) ?_
                    refine zi_iadd M dX7_follow_201 ?_
                    refine zi_put (ci := 7) (ws' := (mdlW ad 0 cy th h su st sh fl ic sn bn fm fr cm em xg (xe + 1) w2 (xd + ((10 * (lenZ yL a)) + 2)) cS cH sea noi pl pw an hd bp bo bw c1 c2 c3 c4 c5 e1 e2 e3 e4 e5)) M hE hP hD hS 0 rfl rfl zu_X7 35 (by decide) zk_fl_RX7_132 rfl rfl tyX7_ok nmX7 rfl rfl (Nat.le_of_ble_eq_true rfl) rfl dX7_follow_202 (fun H locs hP hD hS => ?_)
                    refine lv_aload_n M.1 M.2.1 dX7_follow_205 rfl (lv_at hl 3 rfl) ?_
                    refine lv_dup M.1 M.2.1 dX7_follow_206 rfl ?_
                    refine zi_get (ci := 7) (v := .int (iI xg)) M hE hP 0 rfl rfl zu_X7 34 (by decide) zk_fl_RX7_129 rfl rfl dX7_follow_207 ?_
                    refine zi_push M dX7_follow_210 ?_
                    refine zi_iadd M dX7_follow_211 ?_
                    refine zi_put (ci := 7) (ws' := (mdlW ad 0 cy th h su st sh fl ic sn bn fm fr cm em (xg + 1) (xe + 1) w2 (xd + ((10 * (lenZ yL a)) + 2)) cS cH sea noi pl pw an hd bp bo bw c1 c2 c3 c4 c5 e1 e2 e3 e4 e5)) M hE hP hD hS 0 rfl rfl zu_X7 34 (by decide) zk_fl_RX7_129 rfl rfl tyX7_ok nmX7 rfl rfl (Nat.le_of_ble_eq_true rfl) rfl dX7_follow_212 (fun H locs hP hD hS => ?_)
                    refine lv_iload M.1 M.2.1 dX7_follow_215 (lv_at hl 0 rfl) ?_
                    refine lv_istore (lv' := [(7, .int (iI (mvZ g xp (lenZ yL a)))), (10, .int (iI (mvZ g xp (lenZ yL a)))), (9, .int (iI (lenZ yL a))), (8, .int (iI yL)), (0, .ref (ad 0)), (1, .int (iI q)), (2, .int (iI t)), (3, .int (iI g)), (4, .int (iI a)), (5, .int (iI f)), (6, .int (iI w))]) M.1 M.2.1 dX7_follow_217 hl (by decide) rfl (fun ls hl => ?_)
                    have q1 : (if yL = 1 then (1 : Int) else 0) = 1 := if_pos (by assumption)
                    have q2 : (if yL = 1 then (2 : Int) else 5) = 2 := if_pos (by assumption)
                    have hst1 : ¬ w2 < 0 → stepZ (mdE ic h cS) (mdF ic h su st) (mdD ic h fl) sea g a f xp xw xg xe xd = some (mvZ g xp (lenZ yL a), w2, xg + 1, (xe + 1), (xd + ((10 * (lenZ yL a)) + 2))) := fun z => by unfold stepZ; rw [hbd, if_neg (by omega), ← hw2, if_neg z, q1, q2]
                    have hst0 : w2 < 0 → stepZ (mdE ic h cS) (mdF ic h su st) (mdD ic h fl) sea g a f xp xw xg xe xd = none := fun z => by unfold stepZ; rw [hbd, if_neg (by omega), ← hw2, if_pos z]
                    have hgo := hgo1 (by omega)
                    rw [show (10 - xg).toNat = (10 - (xg + 1)).toNat + 1 from by omega] at hgo
                    refine lv_aload_n M.1 M.2.1 dX7_follow_219 rfl (lv_at hl 4 rfl) ?_
                    refine zi_get (ci := 7) (v := .int (iI w2)) M hE hP 0 rfl rfl zu_X7 36 (by decide) zk_fl_RX7_135 rfl rfl dX7_follow_220 ?_
                    refine zi_if_lt (tgt := 234) M dX7_follow_223 (by decide) (by omega) (fun c_29 => ?_) (fun c_29 => ?_)
                    ·
                      refine zi_goto (tgt := 24) M dX7_follow_234 (by decide) ?_
                      exact ih_24 (mvZ g xp (lenZ yL a)) w2 (xg + 1) (xe + 1) (xd + ((10 * (lenZ yL a)) + 2)) (by omega) (mvZ_rg _ _ _) (by omega) (fun z => by rw [hgo, goZ_s (hst1 (by omega)), if_neg (by omega)]) (fun z => by rw [hgo, goZ_n (hst0 z)]) (by omega) _ _ hP hD hS ls (lv_sub hl [4, 5, 6, 7, 8, 9, 10, 0] rfl)
                    ·
                      refine lv_iload M.1 M.2.1 dX7_follow_226 (lv_at hl 0 rfl) ?_
                      refine lv_iload_n M.1 M.2.1 dX7_follow_228 rfl (lv_at hl 6 rfl) ?_
                      refine zi_icmp_ne (tgt := 234) M dX7_follow_229 (by decide) (by omega) (by omega) (fun c_30 => ?_) (fun c_30 => ?_)
                      ·
                        refine zi_goto (tgt := 24) M dX7_follow_234 (by decide) ?_
                        exact ih_24 (mvZ g xp (lenZ yL a)) w2 (xg + 1) (xe + 1) (xd + ((10 * (lenZ yL a)) + 2)) (by omega) (mvZ_rg _ _ _) (by omega) (fun z => by rw [hgo, goZ_s (hst1 (by omega)), if_neg (by omega)]) (fun z => by rw [hgo, goZ_n (hst0 z)]) (by omega) _ _ hP hD hS ls (lv_sub hl [4, 5, 6, 7, 8, 9, 10, 0] rfl)
                      ·
                        refine zi_push M dX7_follow_232 ?_
                        have hP : va_P D vwCl (mdlW ad 0 cy th h su st sh fl ic sn bn fm fr cm em ((u8 (xg + 1) (xe + 1) w2 (xd + ((10 * (lenZ yL a)) + 2)) 0 0 0 0) 0) ((u8 (xg + 1) (xe + 1) w2 (xd + ((10 * (lenZ yL a)) + 2)) 0 0 0 0) 1) ((u8 (xg + 1) (xe + 1) w2 (xd + ((10 * (lenZ yL a)) + 2)) 0 0 0 0) 2) ((u8 (xg + 1) (xe + 1) w2 (xd + ((10 * (lenZ yL a)) + 2)) 0 0 0 0) 3) cS cH sea noi pl pw an hd bp bo bw c1 c2 c3 c4 c5 e1 e2 e3 e4 e5) H := hP
                        exact zw_z M hr hlk (v := 1) (Or.inr rfl) (u8 (xg + 1) (xe + 1) w2 (xd + ((10 * (lenZ yL a)) + 2)) 0 0 0 0) hP hS (by (exact Or.inl ⟨_, _, _, _, by rw [hgo, goZ_s (hst1 (by omega)), if_pos (by omega)], rfl, rfl⟩)) (by decide) (by decide) dX7_follow_233
                ·
                  refine zi_push M dX7_follow_103 ?_
                  have hP : va_P D vwCl (mdlW ad 0 cy th h su st sh fl ic sn bn fm fr cm em ((u8 xg xe (xw - 3) xd 0 0 0 0) 0) ((u8 xg xe (xw - 3) xd 0 0 0 0) 1) ((u8 xg xe (xw - 3) xd 0 0 0 0) 2) ((u8 xg xe (xw - 3) xd 0 0 0 0) 3) cS cH sea noi pl pw an hd bp bo bw c1 c2 c3 c4 c5 e1 e2 e3 e4 e5) H := hP
                  exact zw_z M hr hlk (v := 0) (Or.inl rfl) (u8 xg xe (xw - 3) xd 0 0 0 0) hP hS (by (exact Or.inr ⟨by rw [hgo1 (by omega), show (10 - xg).toNat = (10 - (xg + 1)).toNat + 1 from by omega]; exact goZ_n (by unfold stepZ; rw [hbd, if_neg (by omega), if_pos (by omega)]), rfl⟩)) (by decide) (by decide) dX7_follow_104
            ·
              refine zi_push M dX7_follow_72 ?_
              refine zi_goto (tgt := 92) M dX7_follow_73 (by decide) ?_
              have hgn : gndZ sea xg xp = 0 := by unfold gndZ; first | exact if_pos (by omega) | (rw [if_neg (by omega)]; first | exact if_pos (by omega) | exact if_neg (by omega))
              have htg := takZ_ge (dD := (mdD ic h fl)) (sea := sea) (lg := xg) (p := xp) (q := mvZ g xp (lenZ yL a)) (n := lenZ yL a) (mdD_rg h_fl) hxp (mvZ_rg _ _ _) (lenZ_rg yL a ha) hf
              refine zi_isub M dX7_follow_92 ?_
              refine zi_put (ci := 7) (ws' := (mdlW ad 0 cy th h su st sh fl ic sn bn fm fr cm em xg xe (xw - 0) xd cS cH sea noi pl pw an hd bp bo bw c1 c2 c3 c4 c5 e1 e2 e3 e4 e5)) M hE hP hD hS 0 rfl rfl zu_X7 36 (by decide) zk_fl_RX7_135 rfl rfl tyX7_ok nmX7 rfl rfl (Nat.le_of_ble_eq_true rfl) rfl dX7_follow_93 (fun H locs hP hD hS => ?_)
              refine lv_aload_n M.1 M.2.1 dX7_follow_96 rfl (lv_at hl 1 rfl) ?_
              refine zi_get (ci := 7) (v := .int (iI (xw - 0))) M hE hP 0 rfl rfl zu_X7 36 (by decide) zk_fl_RX7_135 rfl rfl dX7_follow_97 ?_
              refine zi_if_ge (tgt := 105) M dX7_follow_100 (by decide) (by omega) (fun c_31 => ?_) (fun c_31 => ?_)
              ·
                refine lv_iload M.1 M.2.1 dX7_follow_105 (lv_at hl 0 rfl) ?_
                refine lv_iload M.1 M.2.1 dX7_follow_107 (lv_at hl 5 rfl) ?_
                refine z_cR (z_runS (As := [.int (iI yL), .int (iI a)]) (rest := []) M (c_X7_lengthOf l D cy z0 yL a (by omega) (by omega)) hE hS hAz trivial zk_cd_X7_lengthOf zk_in_RX7 zk_st_X7_lengthOf zk_ml_RX7_145 rfl rfl zd_X7_lengthOf ⟨by decide, by decide⟩ rfl hl.1 rfl (Nat.le_of_ble_eq_true rfl) dX7_follow_109 ⟨by decide, by decide⟩) ?_
                have hx_32 := lenZ_rg yL a (by omega)
                refine lv_istore (lv' := [(9, .int (iI (lenZ yL a))), (8, .int (iI yL)), (0, .ref (ad 0)), (1, .int (iI q)), (2, .int (iI t)), (3, .int (iI g)), (4, .int (iI a)), (5, .int (iI f)), (6, .int (iI w)), (7, .int (iI xp))]) M.1 M.2.1 dX7_follow_112 hl (by decide) rfl (fun ls hl => ?_)
                refine lv_iload M.1 M.2.1 dX7_follow_114 (lv_at hl 9 rfl) ?_
                refine lv_iload_n M.1 M.2.1 dX7_follow_116 rfl (lv_at hl 5 rfl) ?_
                refine lv_iload M.1 M.2.1 dX7_follow_117 (lv_at hl 0 rfl) ?_
                refine z_cR (z_runS (As := [.int (iI xp), .int (iI g), .int (iI (lenZ yL a))]) (rest := []) M (c_X7_on l D cy z0 xp g (lenZ yL a) (by omega) (by omega) (by omega)) hE hS hAz trivial zk_cd_X7_on zk_in_RX7 zk_st_X7_on zk_ml_RX7_121 rfl rfl zd_X7_on ⟨by decide, by decide⟩ rfl hl.1 rfl (Nat.le_of_ble_eq_true rfl) dX7_follow_119 ⟨by decide, by decide⟩) ?_
                have hx_33 := mvZ_rg g xp (lenZ yL a)
                refine lv_istore (lv' := [(10, .int (iI (mvZ g xp (lenZ yL a)))), (9, .int (iI (lenZ yL a))), (8, .int (iI yL)), (0, .ref (ad 0)), (1, .int (iI q)), (2, .int (iI t)), (3, .int (iI g)), (4, .int (iI a)), (5, .int (iI f)), (6, .int (iI w)), (7, .int (iI xp))]) M.1 M.2.1 dX7_follow_122 hl (by decide) rfl (fun ls hl => ?_)
                refine lv_aload_n M.1 M.2.1 dX7_follow_124 rfl (lv_at hl 3 rfl) ?_
                refine lv_dup M.1 M.2.1 dX7_follow_125 rfl ?_
                refine zi_get (ci := 7) (v := .int (iI (xw - 0))) M hE hP 0 rfl rfl zu_X7 36 (by decide) zk_fl_RX7_135 rfl rfl dX7_follow_126 ?_
                refine zi_push M dX7_follow_129 ?_
                refine lv_iload M.1 M.2.1 dX7_follow_130 (lv_at hl 1 rfl) ?_
                refine zi_iadd M dX7_follow_132 ?_
                refine lv_aload_n M.1 M.2.1 dX7_follow_133 rfl (lv_at hl 3 rfl) ?_
                refine lv_iload M.1 M.2.1 dX7_follow_134 (lv_at hl 10 rfl) ?_
                refine zi_push M dX7_follow_136 ?_
                refine z_cR (z_runV (As := [.int (iI xp), .int (iI 0)]) (rest := [.int (iI (2 + (lenZ yL a))), .int (iI (xw - 0)), .ref (ad 0)]) M (c_X7_dense l D cy z0 ad th h su st sh fl ic sn bn fm fr cm em xg xe (xw - 0) xd cS cH sea noi pl pw an hd bp bo bw c1 c2 c3 c4 c5 e1 e2 e3 e4 e5 xp 0 (by omega) (by omega) (by omega) (by omega) (by omega) (by omega) (by omega) (by omega)) hE hS hAz hP (zRc.of (ci := 7) (q0 := 0) hE hP rfl rfl) zk_cd_X7_dense zk_in_RX7 zk_im_X7_dense zk_se_X7_dense zk_ml_RX7_118 rfl rfl zd_X7_dense ⟨by decide, by decide⟩ rfl hl.1 rfl (Nat.le_of_ble_eq_true rfl) dX7_follow_137 ⟨by decide, by decide⟩) ?_
                refine z_rw (b := ((mdD ic h fl) xp)) rfl ?_
                have hx_34 : 0 ≤ tell3 (mdD ic h fl) (mdE ic h cS) (mdF ic h su st) 0 xp ∧ tell3 (mdD ic h fl) (mdE ic h cS) (mdF ic h su st) 0 xp ≤ 1000 := dens_rg h_fl h_cS h_su h_st (by omega)
                have hda_1 := mdD_rg (ic := ic) (h := h) h_fl xp (by omega) (by omega)
                refine lv_aload_n M.1 M.2.1 dX7_follow_140 rfl (lv_at hl 3 rfl) ?_
                refine lv_iload M.1 M.2.1 dX7_follow_141 (lv_at hl 0 rfl) ?_
                refine zi_push M dX7_follow_143 ?_
                refine z_cR (z_runV (As := [.int (iI (mvZ g xp (lenZ yL a))), .int (iI 0)]) (rest := [.int (iI ((mdD ic h fl) xp)), .int (iI (2 + (lenZ yL a))), .int (iI (xw - 0)), .ref (ad 0)]) M (c_X7_dense l D cy z0 ad th h su st sh fl ic sn bn fm fr cm em xg xe (xw - 0) xd cS cH sea noi pl pw an hd bp bo bw c1 c2 c3 c4 c5 e1 e2 e3 e4 e5 (mvZ g xp (lenZ yL a)) 0 (by omega) (by omega) (by omega) (by omega) (by omega) (by omega) (by omega) (by omega)) hE hS hAz hP (zRc.of (ci := 7) (q0 := 0) hE hP rfl rfl) zk_cd_X7_dense zk_in_RX7 zk_im_X7_dense zk_se_X7_dense zk_ml_RX7_118 rfl rfl zd_X7_dense ⟨by decide, by decide⟩ rfl hl.1 rfl (Nat.le_of_ble_eq_true rfl) dX7_follow_144 ⟨by decide, by decide⟩) ?_
                refine z_rw (b := ((mdD ic h fl) (mvZ g xp (lenZ yL a)))) rfl ?_
                have hx_36 : 0 ≤ tell3 (mdD ic h fl) (mdE ic h cS) (mdF ic h su st) 0 (mvZ g xp (lenZ yL a)) ∧ tell3 (mdD ic h fl) (mdE ic h cS) (mdF ic h su st) 0 (mvZ g xp (lenZ yL a)) ≤ 1000 := dens_rg h_fl h_cS h_su h_st (by omega)
                have hda_2 := mdD_rg (ic := ic) (h := h) h_fl (mvZ g xp (lenZ yL a)) (by omega) (by omega)
                refine zi_iadd M dX7_follow_147 ?_
                refine zi_bipush M dX7_follow_148 ⟨by decide, by decide⟩ ?_
                refine zi_imul M dX7_follow_150 ?_
                refine lv_iload M.1 M.2.1 dX7_follow_151 (lv_at hl 8 rfl) ?_
                have hdv := divr (a := ((mdD ic h fl) xp + (mdD ic h fl) (mvZ g xp (lenZ yL a))) * 40) (b := f) (A := 80000) (by omega) (by omega) (by omega)
                refine zi_idiv M dX7_follow_153 (by omega) (by omega) (by omega) (by omega) ?_
                refine zi_iadd M dX7_follow_154 ?_
                refine zi_isub M dX7_follow_155 ?_
                obtain ⟨w2, hw2⟩ : ∃ w : Int, w = xw - takZ (mdD ic h fl) sea xg xp (mvZ g xp (lenZ yL a)) (lenZ yL a) f := ⟨_, rfl⟩
                refine z_rw (b := w2) (by rw [hw2]; unfold takZ; rw [hgn]; omega) ?_
                have htk := takZ_rg (sea := sea) (lg := xg) (mdD_rg (ic := ic) (h := h) h_fl) hxp (mvZ_rg g xp (lenZ yL a)) (lenZ_rg yL a ha) hf
                refine zi_put (ci := 7) (ws' := (mdlW ad 0 cy th h su st sh fl ic sn bn fm fr cm em xg xe w2 xd cS cH sea noi pl pw an hd bp bo bw c1 c2 c3 c4 c5 e1 e2 e3 e4 e5)) M hE hP hD hS 0 rfl rfl zu_X7 36 (by decide) zk_fl_RX7_135 rfl rfl tyX7_ok nmX7 rfl rfl (Nat.le_of_ble_eq_true rfl) rfl dX7_follow_156 (fun H locs hP hD hS => ?_)
                refine lv_aload_n M.1 M.2.1 dX7_follow_159 rfl (lv_at hl 3 rfl) ?_
                refine lv_dup M.1 M.2.1 dX7_follow_160 rfl ?_
                refine zi_get (ci := 7) (v := .int (iI xd)) M hE hP 0 rfl rfl zu_X7 37 (by decide) zk_fl_RX7_138 rfl rfl dX7_follow_161 ?_
                refine zi_bipush M dX7_follow_164 ⟨by decide, by decide⟩ ?_
                refine lv_iload M.1 M.2.1 dX7_follow_166 (lv_at hl 1 rfl) ?_
                refine zi_imul M dX7_follow_168 ?_
                refine lv_iload M.1 M.2.1 dX7_follow_169 (lv_at hl 2 rfl) ?_
                refine zi_push M dX7_follow_171 ?_
                refine zi_icmp_ne (tgt := 179) M dX7_follow_172 (by decide) (by omega) ⟨by decide, by decide⟩ (fun c_38 => ?_) (fun c_38 => ?_)
                ·
                  refine zi_push M dX7_follow_179 ?_
                  refine zi_iadd M dX7_follow_180 ?_
                  refine zi_iadd M dX7_follow_181 ?_
                  refine zi_put (ci := 7) (ws' := (mdlW ad 0 cy th h su st sh fl ic sn bn fm fr cm em xg xe w2 (xd + ((10 * (lenZ yL a)) + 5)) cS cH sea noi pl pw an hd bp bo bw c1 c2 c3 c4 c5 e1 e2 e3 e4 e5)) M hE hP hD hS 0 rfl rfl zu_X7 37 (by decide) zk_fl_RX7_138 rfl rfl tyX7_ok nmX7 rfl rfl (Nat.le_of_ble_eq_true rfl) rfl dX7_follow_182 (fun H locs hP hD hS => ?_)
                  refine lv_aload_n M.1 M.2.1 dX7_follow_185 rfl (lv_at hl 3 rfl) ?_
                  refine lv_dup M.1 M.2.1 dX7_follow_186 rfl ?_
                  refine zi_get (ci := 7) (v := .int (iI xe)) M hE hP 0 rfl rfl zu_X7 35 (by decide) zk_fl_RX7_132 rfl rfl dX7_follow_187 ?_
                  refine lv_iload M.1 M.2.1 dX7_follow_190 (lv_at hl 2 rfl) ?_
                  refine zi_push M dX7_follow_192 ?_
                  refine zi_icmp_ne (tgt := 200) M dX7_follow_193 (by decide) (by omega) ⟨by decide, by decide⟩ (fun _ => ?_) (fun q => absurd q c_38)
                  refine zi_push M dX7_follow_200 ?_
                  refine zi_iadd M dX7_follow_201 ?_
                  refine zi_put (ci := 7) (ws' := (mdlW ad 0 cy th h su st sh fl ic sn bn fm fr cm em xg (xe + 0) w2 (xd + ((10 * (lenZ yL a)) + 5)) cS cH sea noi pl pw an hd bp bo bw c1 c2 c3 c4 c5 e1 e2 e3 e4 e5)) M hE hP hD hS 0 rfl rfl zu_X7 35 (by decide) zk_fl_RX7_132 rfl rfl tyX7_ok nmX7 rfl rfl (Nat.le_of_ble_eq_true rfl) rfl dX7_follow_202 (fun H locs hP hD hS => ?_)
                  refine lv_aload_n M.1 M.2.1 dX7_follow_205 rfl (lv_at hl 3 rfl) ?_
                  refine lv_dup M.1 M.2.1 dX7_follow_206 rfl ?_
                  refine zi_get (ci := 7) (v := .int (iI xg)) M hE hP 0 rfl rfl zu_X7 34 (by decide) zk_fl_RX7_129 rfl rfl dX7_follow_207 ?_
                  refine zi_push M dX7_follow_210 ?_
                  refine zi_iadd M dX7_follow_211 ?_
                  refine zi_put (ci := 7) (ws' := (mdlW ad 0 cy th h su st sh fl ic sn bn fm fr cm em (xg + 1) (xe + 0) w2 (xd + ((10 * (lenZ yL a)) + 5)) cS cH sea noi pl pw an hd bp bo bw c1 c2 c3 c4 c5 e1 e2 e3 e4 e5)) M hE hP hD hS 0 rfl rfl zu_X7 34 (by decide) zk_fl_RX7_129 rfl rfl tyX7_ok nmX7 rfl rfl (Nat.le_of_ble_eq_true rfl) rfl dX7_follow_212 (fun H locs hP hD hS => ?_)
                  refine lv_iload M.1 M.2.1 dX7_follow_215 (lv_at hl 0 rfl) ?_
                  refine lv_istore (lv' := [(7, .int (iI (mvZ g xp (lenZ yL a)))), (10, .int (iI (mvZ g xp (lenZ yL a)))), (9, .int (iI (lenZ yL a))), (8, .int (iI yL)), (0, .ref (ad 0)), (1, .int (iI q)), (2, .int (iI t)), (3, .int (iI g)), (4, .int (iI a)), (5, .int (iI f)), (6, .int (iI w))]) M.1 M.2.1 dX7_follow_217 hl (by decide) rfl (fun ls hl => ?_)
                  have q1 : (if yL = 1 then (1 : Int) else 0) = 0 := if_neg (by assumption)
                  have q2 : (if yL = 1 then (2 : Int) else 5) = 5 := if_neg (by assumption)
                  have hst1 : ¬ w2 < 0 → stepZ (mdE ic h cS) (mdF ic h su st) (mdD ic h fl) sea g a f xp xw xg xe xd = some (mvZ g xp (lenZ yL a), w2, xg + 1, (xe + 0), (xd + ((10 * (lenZ yL a)) + 5))) := fun z => by unfold stepZ; rw [hbd, if_neg (by omega), ← hw2, if_neg z, q1, q2]
                  have hst0 : w2 < 0 → stepZ (mdE ic h cS) (mdF ic h su st) (mdD ic h fl) sea g a f xp xw xg xe xd = none := fun z => by unfold stepZ; rw [hbd, if_neg (by omega), ← hw2, if_pos z]
                  have hgo := hgo1 (by omega)
                  rw [show (10 - xg).toNat = (10 - (xg + 1)).toNat + 1 from by omega] at hgo
                  refine lv_aload_n M.1 M.2.1 dX7_follow_219 rfl (lv_at hl 4 rfl) ?_
                  refine zi_get (ci := 7) (v := .int (iI w2)) M hE hP 0 rfl rfl zu_X7 36 (by decide) zk_fl_RX7_135 rfl rfl dX7_follow_220 ?_
                  refine zi_if_lt (tgt := 234) M dX7_follow_223 (by decide) (by omega) (fun c_39 => ?_) (fun c_39 => ?_)
                  ·
                    refine zi_goto (tgt := 24) M dX7_follow_234 (by decide) ?_
                    exact ih_24 (mvZ g xp (lenZ yL a)) w2 (xg + 1) (xe + 0) (xd + ((10 * (lenZ yL a)) + 5)) (by omega) (mvZ_rg _ _ _) (by omega) (fun z => by rw [hgo, goZ_s (hst1 (by omega)), if_neg (by omega)]) (fun z => by rw [hgo, goZ_n (hst0 z)]) (by omega) _ _ hP hD hS ls (lv_sub hl [4, 5, 6, 7, 8, 9, 10, 0] rfl)
                  ·
                    refine lv_iload M.1 M.2.1 dX7_follow_226 (lv_at hl 0 rfl) ?_
                    refine lv_iload_n M.1 M.2.1 dX7_follow_228 rfl (lv_at hl 6 rfl) ?_
                    refine zi_icmp_ne (tgt := 234) M dX7_follow_229 (by decide) (by omega) (by omega) (fun c_40 => ?_) (fun c_40 => ?_)
                    ·
                      refine zi_goto (tgt := 24) M dX7_follow_234 (by decide) ?_
                      exact ih_24 (mvZ g xp (lenZ yL a)) w2 (xg + 1) (xe + 0) (xd + ((10 * (lenZ yL a)) + 5)) (by omega) (mvZ_rg _ _ _) (by omega) (fun z => by rw [hgo, goZ_s (hst1 (by omega)), if_neg (by omega)]) (fun z => by rw [hgo, goZ_n (hst0 z)]) (by omega) _ _ hP hD hS ls (lv_sub hl [4, 5, 6, 7, 8, 9, 10, 0] rfl)
                    ·
                      refine zi_push M dX7_follow_232 ?_
                      have hP : va_P D vwCl (mdlW ad 0 cy th h su st sh fl ic sn bn fm fr cm em ((u8 (xg + 1) (xe + 0) w2 (xd + ((10 * (lenZ yL a)) + 5)) 0 0 0 0) 0) ((u8 (xg + 1) (xe + 0) w2 (xd + ((10 * (lenZ yL a)) + 5)) 0 0 0 0) 1) ((u8 (xg + 1) (xe + 0) w2 (xd + ((10 * (lenZ yL a)) + 5)) 0 0 0 0) 2) ((u8 (xg + 1) (xe + 0) w2 (xd + ((10 * (lenZ yL a)) + 5)) 0 0 0 0) 3) cS cH sea noi pl pw an hd bp bo bw c1 c2 c3 c4 c5 e1 e2 e3 e4 e5) H := hP
                      exact zw_z M hr hlk (v := 1) (Or.inr rfl) (u8 (xg + 1) (xe + 0) w2 (xd + ((10 * (lenZ yL a)) + 5)) 0 0 0 0) hP hS (by (exact Or.inl ⟨_, _, _, _, by rw [hgo, goZ_s (hst1 (by omega)), if_pos (by omega)], rfl, rfl⟩)) (by decide) (by decide) dX7_follow_233
                ·
                  refine zi_push M dX7_follow_175 ?_
                  refine zi_goto (tgt := 180) M dX7_follow_176 (by decide) ?_
                  refine zi_iadd M dX7_follow_180 ?_
                  refine zi_iadd M dX7_follow_181 ?_
                  refine zi_put (ci := 7) (ws' := (mdlW ad 0 cy th h su st sh fl ic sn bn fm fr cm em xg xe w2 (xd + ((10 * (lenZ yL a)) + 2)) cS cH sea noi pl pw an hd bp bo bw c1 c2 c3 c4 c5 e1 e2 e3 e4 e5)) M hE hP hD hS 0 rfl rfl zu_X7 37 (by decide) zk_fl_RX7_138 rfl rfl tyX7_ok nmX7 rfl rfl (Nat.le_of_ble_eq_true rfl) rfl dX7_follow_182 (fun H locs hP hD hS => ?_)
                  refine lv_aload_n M.1 M.2.1 dX7_follow_185 rfl (lv_at hl 3 rfl) ?_
                  refine lv_dup M.1 M.2.1 dX7_follow_186 rfl ?_
                  refine zi_get (ci := 7) (v := .int (iI xe)) M hE hP 0 rfl rfl zu_X7 35 (by decide) zk_fl_RX7_132 rfl rfl dX7_follow_187 ?_
                  refine lv_iload M.1 M.2.1 dX7_follow_190 (lv_at hl 2 rfl) ?_
                  refine zi_push M dX7_follow_192 ?_
                  refine zi_icmp_ne (tgt := 200) M dX7_follow_193 (by decide) (by omega) ⟨by decide, by decide⟩ (fun q => absurd c_38 q) (fun _ => ?_)
                  refine zi_push M dX7_follow_196 ?_
                  refine zi_goto (tgt := 201) M dX7_follow_197 (by decide) ?_
                  refine zi_iadd M dX7_follow_201 ?_
                  refine zi_put (ci := 7) (ws' := (mdlW ad 0 cy th h su st sh fl ic sn bn fm fr cm em xg (xe + 1) w2 (xd + ((10 * (lenZ yL a)) + 2)) cS cH sea noi pl pw an hd bp bo bw c1 c2 c3 c4 c5 e1 e2 e3 e4 e5)) M hE hP hD hS 0 rfl rfl zu_X7 35 (by decide) zk_fl_RX7_132 rfl rfl tyX7_ok nmX7 rfl rfl (Nat.le_of_ble_eq_true rfl) rfl dX7_follow_202 (fun H locs hP hD hS => ?_)
                  refine lv_aload_n M.1 M.2.1 dX7_follow_205 rfl (lv_at hl 3 rfl) ?_
                  refine lv_dup M.1 M.2.1 dX7_follow_206 rfl ?_
                  refine zi_get (ci := 7) (v := .int (iI xg)) M hE hP 0 rfl rfl zu_X7 34 (by decide) zk_fl_RX7_129 rfl rfl dX7_follow_207 ?_
                  refine zi_push M dX7_follow_210 ?_
                  refine zi_iadd M dX7_follow_211 ?_
                  refine zi_put (ci := 7) (ws' := (mdlW ad 0 cy th h su st sh fl ic sn bn fm fr cm em (xg + 1) (xe + 1) w2 (xd + ((10 * (lenZ yL a)) + 2)) cS cH sea noi pl pw an hd bp bo bw c1 c2 c3 c4 c5 e1 e2 e3 e4 e5)) M hE hP hD hS 0 rfl rfl zu_X7 34 (by decide) zk_fl_RX7_129 rfl rfl tyX7_ok nmX7 rfl rfl (Nat.le_of_ble_eq_true rfl) rfl dX7_follow_212 (fun H locs hP hD hS => ?_)
                  refine lv_iload M.1 M.2.1 dX7_follow_215 (lv_at hl 0 rfl) ?_
                  refine lv_istore (lv' := [(7, .int (iI (mvZ g xp (lenZ yL a)))), (10, .int (iI (mvZ g xp (lenZ yL a)))), (9, .int (iI (lenZ yL a))), (8, .int (iI yL)), (0, .ref (ad 0)), (1, .int (iI q)), (2, .int (iI t)), (3, .int (iI g)), (4, .int (iI a)), (5, .int (iI f)), (6, .int (iI w))]) M.1 M.2.1 dX7_follow_217 hl (by decide) rfl (fun ls hl => ?_)
                  have q1 : (if yL = 1 then (1 : Int) else 0) = 1 := if_pos (by assumption)
                  have q2 : (if yL = 1 then (2 : Int) else 5) = 2 := if_pos (by assumption)
                  have hst1 : ¬ w2 < 0 → stepZ (mdE ic h cS) (mdF ic h su st) (mdD ic h fl) sea g a f xp xw xg xe xd = some (mvZ g xp (lenZ yL a), w2, xg + 1, (xe + 1), (xd + ((10 * (lenZ yL a)) + 2))) := fun z => by unfold stepZ; rw [hbd, if_neg (by omega), ← hw2, if_neg z, q1, q2]
                  have hst0 : w2 < 0 → stepZ (mdE ic h cS) (mdF ic h su st) (mdD ic h fl) sea g a f xp xw xg xe xd = none := fun z => by unfold stepZ; rw [hbd, if_neg (by omega), ← hw2, if_pos z]
                  have hgo := hgo1 (by omega)
                  rw [show (10 - xg).toNat = (10 - (xg + 1)).toNat + 1 from by omega] at hgo
                  refine lv_aload_n M.1 M.2.1 dX7_follow_219 rfl (lv_at hl 4 rfl) ?_
                  refine zi_get (ci := 7) (v := .int (iI w2)) M hE hP 0 rfl rfl zu_X7 36 (by decide) zk_fl_RX7_135 rfl rfl dX7_follow_220 ?_
                  refine zi_if_lt (tgt := 234) M dX7_follow_223 (by decide) (by omega) (fun c_41 => ?_) (fun c_41 => ?_)
                  ·
                    refine zi_goto (tgt := 24) M dX7_follow_234 (by decide) ?_
                    exact ih_24 (mvZ g xp (lenZ yL a)) w2 (xg + 1) (xe + 1) (xd + ((10 * (lenZ yL a)) + 2)) (by omega) (mvZ_rg _ _ _) (by omega) (fun z => by rw [hgo, goZ_s (hst1 (by omega)), if_neg (by omega)]) (fun z => by rw [hgo, goZ_n (hst0 z)]) (by omega) _ _ hP hD hS ls (lv_sub hl [4, 5, 6, 7, 8, 9, 10, 0] rfl)
                  ·
                    refine lv_iload M.1 M.2.1 dX7_follow_226 (lv_at hl 0 rfl) ?_
                    refine lv_iload_n M.1 M.2.1 dX7_follow_228 rfl (lv_at hl 6 rfl) ?_
                    refine zi_icmp_ne (tgt := 234) M dX7_follow_229 (by decide) (by omega) (by omega) (fun c_42 => ?_) (fun c_42 => ?_)
                    ·
                      refine zi_goto (tgt := 24) M dX7_follow_234 (by decide) ?_
                      exact ih_24 (mvZ g xp (lenZ yL a)) w2 (xg + 1) (xe + 1) (xd + ((10 * (lenZ yL a)) + 2)) (by omega) (mvZ_rg _ _ _) (by omega) (fun z => by rw [hgo, goZ_s (hst1 (by omega)), if_neg (by omega)]) (fun z => by rw [hgo, goZ_n (hst0 z)]) (by omega) _ _ hP hD hS ls (lv_sub hl [4, 5, 6, 7, 8, 9, 10, 0] rfl)
                    ·
                      refine zi_push M dX7_follow_232 ?_
                      have hP : va_P D vwCl (mdlW ad 0 cy th h su st sh fl ic sn bn fm fr cm em ((u8 (xg + 1) (xe + 1) w2 (xd + ((10 * (lenZ yL a)) + 2)) 0 0 0 0) 0) ((u8 (xg + 1) (xe + 1) w2 (xd + ((10 * (lenZ yL a)) + 2)) 0 0 0 0) 1) ((u8 (xg + 1) (xe + 1) w2 (xd + ((10 * (lenZ yL a)) + 2)) 0 0 0 0) 2) ((u8 (xg + 1) (xe + 1) w2 (xd + ((10 * (lenZ yL a)) + 2)) 0 0 0 0) 3) cS cH sea noi pl pw an hd bp bo bw c1 c2 c3 c4 c5 e1 e2 e3 e4 e5) H := hP
                      exact zw_z M hr hlk (v := 1) (Or.inr rfl) (u8 (xg + 1) (xe + 1) w2 (xd + ((10 * (lenZ yL a)) + 2)) 0 0 0 0) hP hS (by (exact Or.inl ⟨_, _, _, _, by rw [hgo, goZ_s (hst1 (by omega)), if_pos (by omega)], rfl, rfl⟩)) (by decide) (by decide) dX7_follow_233
              ·
                refine zi_push M dX7_follow_103 ?_
                have hP : va_P D vwCl (mdlW ad 0 cy th h su st sh fl ic sn bn fm fr cm em ((u8 xg xe (xw - 0) xd 0 0 0 0) 0) ((u8 xg xe (xw - 0) xd 0 0 0 0) 1) ((u8 xg xe (xw - 0) xd 0 0 0 0) 2) ((u8 xg xe (xw - 0) xd 0 0 0 0) 3) cS cH sea noi pl pw an hd bp bo bw c1 c2 c3 c4 c5 e1 e2 e3 e4 e5) H := hP
                exact zw_z M hr hlk (v := 0) (Or.inl rfl) (u8 xg xe (xw - 0) xd 0 0 0 0) hP hS (by (exact Or.inr ⟨by rw [hgo1 (by omega), show (10 - xg).toNat = (10 - (xg + 1)).toNat + 1 from by omega]; exact goZ_n (by unfold stepZ; rw [hbd, if_neg (by omega), if_pos (by omega)]), rfl⟩)) (by decide) (by decide) dX7_follow_104
          ·
            refine zi_push M dX7_follow_58 ?_
            have hP : va_P D vwCl (mdlW ad 0 cy th h su st sh fl ic sn bn fm fr cm em ((u8 xg xe xw xd 0 0 0 0) 0) ((u8 xg xe xw xd 0 0 0 0) 1) ((u8 xg xe xw xd 0 0 0 0) 2) ((u8 xg xe xw xd 0 0 0 0) 3) cS cH sea noi pl pw an hd bp bo bw c1 c2 c3 c4 c5 e1 e2 e3 e4 e5) H := hP
            exact zw_z M hr hlk (v := 0) (Or.inl rfl) (u8 xg xe xw xd 0 0 0 0) hP hS (by (exact Or.inr ⟨by rw [hgo1 (by omega), show (10 - xg).toNat = (10 - (xg + 1)).toNat + 1 from by omega]; exact goZ_n (if_pos (by omega)), rfl⟩)) (by decide) (by decide) dX7_follow_59
  exact L_24 (Int.toNat (10 - 0) + 1) q w 0 0 0 (by omega) hq (by omega) (fun _ => rfl) (fun z => absurd z (by omega)) (by omega) _ _ hP hD hS ls (lv_sub hl [1, 2, 3, 4, 5, 6, 7, 0] rfl)
