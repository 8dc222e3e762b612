/-! contracts: the model, what everybody may call -/
set_option maxRecDepth 100000 in
set_option maxHeartbeats 4000000 in
theorem c_X7_passOne (l : Launch) (D : va_G) (cy : Nat → ClassId) (z0 : Nat) (ad : Nat → Nat) (th h su st sh fl ic sn bn fm fr cm em lg le lf dl : Int) (cS cH sea noi pl pw an hd bp bo bw c1 c2 c3 c4 c5 e1 e2 e3 e4 e5 : Int → Int) (hh1 : 0 ≤ h ∧ h < 5000) (h_su : 0 ≤ su ∧ su ≤ 100) (h_st : 0 ≤ st ∧ st ≤ 60) (h_sh : 0 ≤ sh ∧ sh ≤ 72) (h_fl : 0 ≤ fl ∧ fl ≤ 80) (h_cS : zrg 48 0 100 cS) (h_cH : zrg 48 0 24 cH) (h_ic : 0 ≤ ic ∧ ic ≤ 1) : Met l yX7_passOne [.code yX7_passOne cX7_passOne 2 none] (zRm 0 0 0 0) (zPc [.ref (ad 0)] D cy z0 (zWl D z0 (mdlW ad 0 cy th h su st sh fl ic sn bn fm fr cm em lg le lf dl cS cH sea noi pl pw an hd bp bo bw c1 c2 c3 c4 c5 e1 e2 e3 e4 e5))) (zQ0 D (mdlW ad 0 cy th h su st sh fl ic sn bn fm fr cm em lg le lf dl cS cH sea noi pl pw an hd bp bo bw c1 c2 c3 c4 c5 e1 e2 e3 e4 e5) (fun (_ : Unit) => True) (fun (_ : Unit) => (mdlW ad 0 cy th (h + 1) su (stK 1 st sh) (max 0 (sh - 1)) (fl / 2) ic sn bn fm fr cm em lg le lf dl (cSK 1 cS cH) (cHK 1 cH) sea noi pl pw an hd bp bo bw c1 c2 c3 c4 c5 e1 e2 e3 e4 e5))) 0 0 (zIn (mdlW ad 0 cy th h su st sh fl ic sn bn fm fr cm em lg le lf dl cS cH sea noi pl pw an hd bp bo bw c1 c2 c3 c4 c5 e1 e2 e3 e4 e5)) := by
  refine z_of (by decide) (Nat.le_of_ble_eq_true rfl) ?_
  intro p e s m args below meth c M hr hlk hini hargs hP0 hE ls hl
  have hP : va_P D vwCl (mdlW ad 0 cy th h su st sh fl ic sn bn fm fr cm em lg le lf dl cS cH sea noi pl pw an hd bp bo bw c1 c2 c3 c4 c5 e1 e2 e3 e4 e5) s.heap := hP0.1
  have hD : va_D (zIn (mdlW ad 0 cy th h su st sh fl ic sn bn fm fr cm em lg le lf dl cS cH sea noi pl pw an hd bp bo bw c1 c2 c3 c4 c5 e1 e2 e3 e4 e5)) (mdlW ad 0 cy th h su st sh fl ic sn bn fm fr cm em lg le lf dl cS cH sea noi pl pw an hd bp bo bw c1 c2 c3 c4 c5 e1 e2 e3 e4 e5) := hP0.self
  have hAz := hP0.A
  have hS : va_S (zIn (mdlW ad 0 cy th h su st sh fl ic sn bn fm fr cm em lg le lf dl cS cH sea noi pl pw an hd bp bo bw c1 c2 c3 c4 c5 e1 e2 e3 e4 e5)) s.heap s.heap [] := va_S.rf
  have hl : lv_has ls 2 [(0, .ref (ad 0))] := hl
  refine lv_aload_n M.1 M.2.1 dX7_passOne_0 rfl (lv_at hl 0 rfl) ?_
  refine lv_dup M.1 M.2.1 dX7_passOne_1 rfl ?_
  refine zi_get (ci := 7) (v := .int (iI h)) M hE hP 0 rfl rfl zu_X7 1 (by decide) zk_fl_RX7_104 rfl rfl dX7_passOne_2 ?_
  refine zi_push M dX7_passOne_5 ?_
  refine zi_iadd M dX7_passOne_6 ?_
  refine zi_put (ci := 7) (ws' := (mdlW ad 0 cy th (h + 1) su st sh fl ic sn bn fm fr cm em lg le lf dl cS cH sea noi pl pw an hd bp bo bw c1 c2 c3 c4 c5 e1 e2 e3 e4 e5)) M hE hP hD hS 0 rfl rfl zu_X7 1 (by decide) zk_fl_RX7_104 rfl rfl tyX7_ok nmX7 rfl rfl (Nat.le_of_ble_eq_true rfl) rfl dX7_passOne_7 (fun H locs hP hD hS => ?_)
  refine lv_aload_n M.1 M.2.1 dX7_passOne_10 rfl (lv_at hl 0 rfl) ?_
  refine lv_dup M.1 M.2.1 dX7_passOne_11 rfl ?_
  refine zi_get (ci := 7) (v := .int (iI fl)) M hE hP 0 rfl rfl zu_X7 5 (by decide) zk_fl_RX7_98 rfl rfl dX7_passOne_12 ?_
  refine zi_push M dX7_passOne_15 ?_
  refine zi_idiv M dX7_passOne_16 (by omega) (by omega) (by omega) (by omega) ?_
  refine zi_put (ci := 7) (ws' := (mdlW ad 0 cy th (h + 1) su st sh (fl / 2) ic sn bn fm fr cm em lg le lf dl cS cH sea noi pl pw an hd bp bo bw c1 c2 c3 c4 c5 e1 e2 e3 e4 e5)) M hE hP hD hS 0 rfl rfl zu_X7 5 (by decide) zk_fl_RX7_98 rfl rfl tyX7_ok nmX7 rfl rfl (Nat.le_of_ble_eq_true rfl) rfl dX7_passOne_17 (fun H locs hP hD hS => ?_)
  refine lv_aload_n M.1 M.2.1 dX7_passOne_20 rfl (lv_at hl 0 rfl) ?_
  refine lv_dup M.1 M.2.1 dX7_passOne_21 rfl ?_
  refine zi_get (ci := 7) (v := .int (iI sh)) M hE hP 0 rfl rfl zu_X7 4 (by decide) zk_fl_RX7_95 rfl rfl dX7_passOne_22 ?_
  refine lv_aload_n M.1 M.2.1 dX7_passOne_25 rfl (lv_at hl 0 rfl) ?_
  refine zi_get (ci := 7) (v := .int (iI sh)) M hE hP 0 rfl rfl zu_X7 4 (by decide) zk_fl_RX7_95 rfl rfl dX7_passOne_26 ?_
  refine zi_if_le (tgt := 36) M dX7_passOne_29 (by decide) (by omega) (fun c_1 => ?_) (fun c_1 => ?_)
  ·
    refine zi_push M dX7_passOne_36 ?_
    refine zi_isub M dX7_passOne_37 ?_
    refine zi_put (ci := 7) (ws' := (mdlW ad 0 cy th (h + 1) su st (sh - 0) (fl / 2) ic sn bn fm fr cm em lg le lf dl cS cH sea noi pl pw an hd bp bo bw c1 c2 c3 c4 c5 e1 e2 e3 e4 e5)) M hE hP hD hS 0 rfl rfl zu_X7 4 (by decide) zk_fl_RX7_95 rfl rfl tyX7_ok nmX7 rfl rfl (Nat.le_of_ble_eq_true rfl) rfl dX7_passOne_38 (fun H locs hP hD hS => ?_)
    refine lv_aload_n M.1 M.2.1 dX7_passOne_41 rfl (lv_at hl 0 rfl) ?_
    refine lv_aload_n M.1 M.2.1 dX7_passOne_42 rfl (lv_at hl 0 rfl) ?_
    refine zi_get (ci := 7) (v := .int (iI (sh - 0))) M hE hP 0 rfl rfl zu_X7 4 (by decide) zk_fl_RX7_95 rfl rfl dX7_passOne_43 ?_
    refine zi_if_le (tgt := 56) M dX7_passOne_46 (by decide) (by omega) (fun c_2 => ?_) (fun c_2 => ?_)
    ·
      refine zi_push M dX7_passOne_56 ?_
      refine zi_put (ci := 7) (ws' := (mdlW ad 0 cy th (h + 1) su 0 (sh - 0) (fl / 2) ic sn bn fm fr cm em lg le lf dl cS cH sea noi pl pw an hd bp bo bw c1 c2 c3 c4 c5 e1 e2 e3 e4 e5)) M hE hP hD hS 0 rfl rfl zu_X7 3 (by decide) zk_fl_RX7_92 rfl rfl tyX7_ok nmX7 rfl rfl (Nat.le_of_ble_eq_true rfl) rfl dX7_passOne_57 (fun H locs hP hD hS => ?_)
      refine zi_push M dX7_passOne_60 ?_
      refine lv_istore_n (lv' := [(1, .int (iI 0)), (0, .ref (ad 0))]) M.1 M.2.1 dX7_passOne_61 rfl hl (by decide) rfl (fun ls hl => ?_)
      have L_62 : ∀ (k_62 : Nat) (i : Int) (y : Int) (sv : Int) (xS : Int → Int) (xH : Int → Int) (hi : 0 ≤ i ∧ i ≤ 48) (hy : y = stK 1 st sh) (hsv : sv = max 0 (sh - 1)) (hd1 : ∀ j : Int, 0 ≤ j → j < i → xS j = cSK 1 cS cH j) (hd2 : ∀ j : Int, 0 ≤ j → j < i → xH j = cHK 1 cH j) (hd3 : ∀ j : Int, i ≤ j → j < 48 → xS j = cS j) (hd4 : ∀ j : Int, i ≤ j → j < 48 → xH j = cH j) (hm : 48 - i < (k_62 : Int)) (H : Heap) (locs : List Loc) (hP : va_P D vwCl (mdlW ad 0 cy th (h + 1) su y sv (fl / 2) ic sn bn fm fr cm em lg le lf dl xS xH sea noi pl pw an hd bp bo bw c1 c2 c3 c4 c5 e1 e2 e3 e4 e5) H) (hD : va_D (zIn (mdlW ad 0 cy th h su st sh fl ic sn bn fm fr cm em lg le lf dl cS cH sea noi pl pw an hd bp bo bw c1 c2 c3 c4 c5 e1 e2 e3 e4 e5)) (mdlW ad 0 cy th (h + 1) su y sv (fl / 2) ic sn bn fm fr cm em lg le lf dl xS xH sea noi pl pw an hd bp bo bw c1 c2 c3 c4 c5 e1 e2 e3 e4 e5)) (hS : va_S (zIn (mdlW ad 0 cy th h su st sh fl ic sn bn fm fr cm em lg le lf dl cS cH sea noi pl pw an hd bp bo bw c1 c2 c3 c4 c5 e1 e2 e3 e4 e5)) s.heap H locs) (ls : Array Slot) (hl : lv_has ls 2 [(0, .ref (ad 0)), (1, .int (iI i))]), W p l e (zRm 0 0 0 0) s m args below meth c H locs 0 0 (MQ below (zQ0 D (mdlW ad 0 cy th h su st sh fl ic sn bn fm fr cm em lg le lf dl cS cH sea noi pl pw an hd bp bo bw c1 c2 c3 c4 c5 e1 e2 e3 e4 e5) (fun (_ : Unit) => True) (fun (_ : Unit) => (mdlW ad 0 cy th (h + 1) su (stK 1 st sh) (max 0 (sh - 1)) (fl / 2) ic sn bn fm fr cm em lg le lf dl (cSK 1 cS cH) (cHK 1 cH) sea noi pl pw an hd bp bo bw c1 c2 c3 c4 c5 e1 e2 e3 e4 e5))) args s 0 0 (zIn (mdlW ad 0 cy th h su st sh fl ic sn bn fm fr cm em lg le lf dl cS cH sea noi pl pw an hd bp bo bw c1 c2 c3 c4 c5 e1 e2 e3 e4 e5))) (F0 m 62 ls []) := by
        intro k_62
        induction k_62 with
        | zero =>
          intro i y sv xS xH hi hy hsv hd1 hd2 hd3 hd4 hm H locs hP hD hS ls hl
          exact absurd hm (by omega)
        | succ k_62 ih_62 =>
          intro i y sv xS xH hi hy hsv hd1 hd2 hd3 hd4 hm H locs hP hD hS ls hl
          refine lv_iload_n M.1 M.2.1 dX7_passOne_62 rfl (lv_at hl 1 rfl) ?_
          refine zi_bipush M dX7_passOne_63 ⟨by decide, by decide⟩ ?_
          refine zi_icmp_ge (tgt := 122) M dX7_passOne_65 (by decide) (by omega) ⟨by decide, by decide⟩ (fun c_3 => ?_) (fun c_3 => ?_)
          ·
            have hP := zP_arr hP 1 (g := xS) (g' := cSK 1 cS cH) rfl (fun j h0 h1 => hd1 j h0 (by omega))
            have hP := zP_arr hP 2 (g := xH) (g' := cHK 1 cH) rfl (fun j h0 h1 => hd2 j h0 (by omega))
            subst hy hsv
            have hP : va_P D vwCl (mdlW ad 0 cy th (h + 1) su (stK 1 st sh) (max 0 (sh - 1)) (fl / 2) ic sn bn fm fr cm em lg le lf dl (cSK 1 cS cH) (cHK 1 cH) sea noi pl pw an hd bp bo bw c1 c2 c3 c4 c5 e1 e2 e3 e4 e5) H := hP
            exact zw_v M hr hlk () hP hS (by trivial) (by decide) (by decide) dX7_passOne_122
          ·
            have hx1 := hd4 i (by omega) (by omega)
            have hx2 := h_cH i (by omega) (by omega)
            have hx3 := hd3 i (by omega) (by omega)
            refine lv_aload_n M.1 M.2.1 dX7_passOne_68 rfl (lv_at hl 0 rfl) ?_
            refine zi_get (ci := 7) (v := .ref (ad (0 + 2))) M hE hP 0 rfl rfl zu_X7 7 (by decide) zk_fl_RX7_17 rfl rfl dX7_passOne_69 ?_
            refine lv_iload_n M.1 M.2.1 dX7_passOne_72 rfl (lv_at hl 1 rfl) ?_
            refine lv_dup2_11 M.1 M.2.1 dX7_passOne_73 rfl rfl ?_
            refine zi_iald M hE hP 2 (n := 48) (g := xH) rfl (Nat.le_of_ble_eq_true rfl) (by omega) (by omega) dX7_passOne_74 ?_
            refine lv_aload_n M.1 M.2.1 dX7_passOne_75 rfl (lv_at hl 0 rfl) ?_
            refine zi_get (ci := 7) (v := .ref (ad (0 + 2))) M hE hP 0 rfl rfl zu_X7 7 (by decide) zk_fl_RX7_17 rfl rfl dX7_passOne_76 ?_
            refine lv_iload_n M.1 M.2.1 dX7_passOne_79 rfl (lv_at hl 1 rfl) ?_
            refine zi_iald M hE hP 2 (n := 48) (g := xH) rfl (Nat.le_of_ble_eq_true rfl) (by omega) (by omega) dX7_passOne_80 ?_
            refine zi_if_le (tgt := 88) M dX7_passOne_81 (by decide) (by omega) (fun c_4 => ?_) (fun c_4 => ?_)
            ·
              refine zi_push M dX7_passOne_88 ?_
              refine zi_isub M dX7_passOne_89 ?_
              refine zi_iast (ws' := (mdlW ad 0 cy th (h + 1) su y sv (fl / 2) ic sn bn fm fr cm em lg le lf dl xS (zu xH i ((xH i) - 0)) sea noi pl pw an hd bp bo bw c1 c2 c3 c4 c5 e1 e2 e3 e4 e5)) M hE hP hD hS 2 (n := 48) (g := xH) rfl (Nat.le_of_ble_eq_true rfl) (by omega) (by omega) rfl dX7_passOne_90 (fun H locs hP hD hS => ?_)
              refine lv_aload_n M.1 M.2.1 dX7_passOne_91 rfl (lv_at hl 0 rfl) ?_
              refine zi_get (ci := 7) (v := .ref (ad (0 + 1))) M hE hP 0 rfl rfl zu_X7 6 (by decide) zk_fl_RX7_13 rfl rfl dX7_passOne_92 ?_
              refine lv_iload_n M.1 M.2.1 dX7_passOne_95 rfl (lv_at hl 1 rfl) ?_
              refine lv_aload_n M.1 M.2.1 dX7_passOne_96 rfl (lv_at hl 0 rfl) ?_
              refine zi_get (ci := 7) (v := .ref (ad (0 + 2))) M hE hP 0 rfl rfl zu_X7 7 (by decide) zk_fl_RX7_17 rfl rfl dX7_passOne_97 ?_
              refine lv_iload_n M.1 M.2.1 dX7_passOne_100 rfl (lv_at hl 1 rfl) ?_
              refine zi_iald M hE hP 2 (n := 48) (g := (zu xH i ((xH i) - 0))) rfl (Nat.le_of_ble_eq_true rfl) (by omega) (by omega) dX7_passOne_101 ?_
              refine z_rw (zu_s xH i ((xH i) - 0)) ?_
              refine zi_if_le (tgt := 114) M dX7_passOne_102 (by decide) (by omega) (fun c_5 => ?_) (fun c_5 => ?_)
              ·
                refine zi_push M dX7_passOne_114 ?_
                refine zi_iast (ws' := (mdlW ad 0 cy th (h + 1) su y sv (fl / 2) ic sn bn fm fr cm em lg le lf dl (zu xS i 0) (zu xH i ((xH i) - 0)) sea noi pl pw an hd bp bo bw c1 c2 c3 c4 c5 e1 e2 e3 e4 e5)) M hE hP hD hS 1 (n := 48) (g := xS) rfl (Nat.le_of_ble_eq_true rfl) (by omega) (by omega) rfl dX7_passOne_115 (fun H locs hP hD hS => ?_)
                refine zi_iinc (lv' := [(1, .int (iI (i + 1))), (0, .ref (ad 0))]) M dX7_passOne_116 hl 1 rfl (by decide) rfl (fun ls hl => ?_)
                refine zi_goto (tgt := 62) M dX7_passOne_119 (by decide) ?_
                exact ih_62 (i + 1) y sv (zu xS i 0) (zu xH i ((xH i) - 0)) (by omega) hy hsv (zu_step hd1 (by unfold cSK; rw [if_neg (by decide)]; first | (rw [if_pos (by omega)]; done) | (rw [if_neg (by omega)]; omega))) (zu_step hd2 (by unfold cHK; omega)) (zu_rest hd3) (zu_rest hd4) (by omega) _ _ hP hD hS ls (lv_sub hl [1, 0] rfl)
              ·
                refine lv_aload_n M.1 M.2.1 dX7_passOne_105 rfl (lv_at hl 0 rfl) ?_
                refine zi_get (ci := 7) (v := .ref (ad (0 + 1))) M hE hP 0 rfl rfl zu_X7 6 (by decide) zk_fl_RX7_13 rfl rfl dX7_passOne_106 ?_
                refine lv_iload_n M.1 M.2.1 dX7_passOne_109 rfl (lv_at hl 1 rfl) ?_
                refine zi_iald M hE hP 1 (n := 48) (g := xS) rfl (Nat.le_of_ble_eq_true rfl) (by omega) (by omega) dX7_passOne_110 ?_
                refine zi_goto (tgt := 115) M dX7_passOne_111 (by decide) ?_
                refine zi_iast (ws' := (mdlW ad 0 cy th (h + 1) su y sv (fl / 2) ic sn bn fm fr cm em lg le lf dl (zu xS i (xS i)) (zu xH i ((xH i) - 0)) sea noi pl pw an hd bp bo bw c1 c2 c3 c4 c5 e1 e2 e3 e4 e5)) M hE hP hD hS 1 (n := 48) (g := xS) rfl (Nat.le_of_ble_eq_true rfl) (by omega) (by omega) rfl dX7_passOne_115 (fun H locs hP hD hS => ?_)
                refine zi_iinc (lv' := [(1, .int (iI (i + 1))), (0, .ref (ad 0))]) M dX7_passOne_116 hl 1 rfl (by decide) rfl (fun ls hl => ?_)
                refine zi_goto (tgt := 62) M dX7_passOne_119 (by decide) ?_
                exact ih_62 (i + 1) y sv (zu xS i (xS i)) (zu xH i ((xH i) - 0)) (by omega) hy hsv (zu_step hd1 (by unfold cSK; rw [if_neg (by decide)]; first | (rw [if_pos (by omega)]; done) | (rw [if_neg (by omega)]; omega))) (zu_step hd2 (by unfold cHK; omega)) (zu_rest hd3) (zu_rest hd4) (by omega) _ _ hP hD hS ls (lv_sub hl [1, 0] rfl)
            ·
              refine zi_push M dX7_passOne_84 ?_
              refine zi_goto (tgt := 89) M dX7_passOne_85 (by decide) ?_
              refine zi_isub M dX7_passOne_89 ?_
              refine zi_iast (ws' := (mdlW ad 0 cy th (h + 1) su y sv (fl / 2) ic sn bn fm fr cm em lg le lf dl xS (zu xH i ((xH i) - 1)) sea noi pl pw an hd bp bo bw c1 c2 c3 c4 c5 e1 e2 e3 e4 e5)) M hE hP hD hS 2 (n := 48) (g := xH) rfl (Nat.le_of_ble_eq_true rfl) (by omega) (by omega) rfl dX7_passOne_90 (fun H locs hP hD hS => ?_)
              refine lv_aload_n M.1 M.2.1 dX7_passOne_91 rfl (lv_at hl 0 rfl) ?_
              refine zi_get (ci := 7) (v := .ref (ad (0 + 1))) M hE hP 0 rfl rfl zu_X7 6 (by decide) zk_fl_RX7_13 rfl rfl dX7_passOne_92 ?_
              refine lv_iload_n M.1 M.2.1 dX7_passOne_95 rfl (lv_at hl 1 rfl) ?_
              refine lv_aload_n M.1 M.2.1 dX7_passOne_96 rfl (lv_at hl 0 rfl) ?_
              refine zi_get (ci := 7) (v := .ref (ad (0 + 2))) M hE hP 0 rfl rfl zu_X7 7 (by decide) zk_fl_RX7_17 rfl rfl dX7_passOne_97 ?_
              refine lv_iload_n M.1 M.2.1 dX7_passOne_100 rfl (lv_at hl 1 rfl) ?_
              refine zi_iald M hE hP 2 (n := 48) (g := (zu xH i ((xH i) - 1))) rfl (Nat.le_of_ble_eq_true rfl) (by omega) (by omega) dX7_passOne_101 ?_
              refine z_rw (zu_s xH i ((xH i) - 1)) ?_
              refine zi_if_le (tgt := 114) M dX7_passOne_102 (by decide) (by omega) (fun c_6 => ?_) (fun c_6 => ?_)
              ·
                refine zi_push M dX7_passOne_114 ?_
                refine zi_iast (ws' := (mdlW ad 0 cy th (h + 1) su y sv (fl / 2) ic sn bn fm fr cm em lg le lf dl (zu xS i 0) (zu xH i ((xH i) - 1)) sea noi pl pw an hd bp bo bw c1 c2 c3 c4 c5 e1 e2 e3 e4 e5)) M hE hP hD hS 1 (n := 48) (g := xS) rfl (Nat.le_of_ble_eq_true rfl) (by omega) (by omega) rfl dX7_passOne_115 (fun H locs hP hD hS => ?_)
                refine zi_iinc (lv' := [(1, .int (iI (i + 1))), (0, .ref (ad 0))]) M dX7_passOne_116 hl 1 rfl (by decide) rfl (fun ls hl => ?_)
                refine zi_goto (tgt := 62) M dX7_passOne_119 (by decide) ?_
                exact ih_62 (i + 1) y sv (zu xS i 0) (zu xH i ((xH i) - 1)) (by omega) hy hsv (zu_step hd1 (by unfold cSK; rw [if_neg (by decide)]; first | (rw [if_pos (by omega)]; done) | (rw [if_neg (by omega)]; omega))) (zu_step hd2 (by unfold cHK; omega)) (zu_rest hd3) (zu_rest hd4) (by omega) _ _ hP hD hS ls (lv_sub hl [1, 0] rfl)
              ·
                refine lv_aload_n M.1 M.2.1 dX7_passOne_105 rfl (lv_at hl 0 rfl) ?_
                refine zi_get (ci := 7) (v := .ref (ad (0 + 1))) M hE hP 0 rfl rfl zu_X7 6 (by decide) zk_fl_RX7_13 rfl rfl dX7_passOne_106 ?_
                refine lv_iload_n M.1 M.2.1 dX7_passOne_109 rfl (lv_at hl 1 rfl) ?_
                refine zi_iald M hE hP 1 (n := 48) (g := xS) rfl (Nat.le_of_ble_eq_true rfl) (by omega) (by omega) dX7_passOne_110 ?_
                refine zi_goto (tgt := 115) M dX7_passOne_111 (by decide) ?_
                refine zi_iast (ws' := (mdlW ad 0 cy th (h + 1) su y sv (fl / 2) ic sn bn fm fr cm em lg le lf dl (zu xS i (xS i)) (zu xH i ((xH i) - 1)) sea noi pl pw an hd bp bo bw c1 c2 c3 c4 c5 e1 e2 e3 e4 e5)) M hE hP hD hS 1 (n := 48) (g := xS) rfl (Nat.le_of_ble_eq_true rfl) (by omega) (by omega) rfl dX7_passOne_115 (fun H locs hP hD hS => ?_)
                refine zi_iinc (lv' := [(1, .int (iI (i + 1))), (0, .ref (ad 0))]) M dX7_passOne_116 hl 1 rfl (by decide) rfl (fun ls hl => ?_)
                refine zi_goto (tgt := 62) M dX7_passOne_119 (by decide) ?_
                exact ih_62 (i + 1) y sv (zu xS i (xS i)) (zu xH i ((xH i) - 1)) (by omega) hy hsv (zu_step hd1 (by unfold cSK; rw [if_neg (by decide)]; first | (rw [if_pos (by omega)]; done) | (rw [if_neg (by omega)]; omega))) (zu_step hd2 (by unfold cHK; omega)) (zu_rest hd3) (zu_rest hd4) (by omega) _ _ hP hD hS ls (lv_sub hl [1, 0] rfl)
      exact L_62 (Int.toNat (48 - 0) + 1) 0 0 (sh - 0) cS cH (by omega) (by unfold stK; rw [if_neg (by decide)]; (repeat' split) <;> omega) (by omega) (fun j h0 h1 => absurd h1 (by omega)) (fun j h0 h1 => absurd h1 (by omega)) (fun j _ _ => rfl) (fun j _ _ => rfl) (by omega) _ _ hP hD hS ls (lv_sub hl [1, 0] rfl)
    ·
      refine lv_aload_n M.1 M.2.1 dX7_passOne_49 rfl (lv_at hl 0 rfl) ?_
      refine zi_get (ci := 7) (v := .int (iI st)) M hE hP 0 rfl rfl zu_X7 3 (by decide) zk_fl_RX7_92 rfl rfl dX7_passOne_50 ?_
      refine zi_goto (tgt := 57) M dX7_passOne_53 (by decide) ?_
      refine zi_put (ci := 7) (ws' := (mdlW ad 0 cy th (h + 1) su st (sh - 0) (fl / 2) ic sn bn fm fr cm em lg le lf dl cS cH sea noi pl pw an hd bp bo bw c1 c2 c3 c4 c5 e1 e2 e3 e4 e5)) M hE hP hD hS 0 rfl rfl zu_X7 3 (by decide) zk_fl_RX7_92 rfl rfl tyX7_ok nmX7 rfl rfl (Nat.le_of_ble_eq_true rfl) rfl dX7_passOne_57 (fun H locs hP hD hS => ?_)
      refine zi_push M dX7_passOne_60 ?_
      refine lv_istore_n (lv' := [(1, .int (iI 0)), (0, .ref (ad 0))]) M.1 M.2.1 dX7_passOne_61 rfl hl (by decide) rfl (fun ls hl => ?_)
      have L_62 : ∀ (k_62 : Nat) (i : Int) (y : Int) (sv : Int) (xS : Int → Int) (xH : Int → Int) (hi : 0 ≤ i ∧ i ≤ 48) (hy : y = stK 1 st sh) (hsv : sv = max 0 (sh - 1)) (hd1 : ∀ j : Int, 0 ≤ j → j < i → xS j = cSK 1 cS cH j) (hd2 : ∀ j : Int, 0 ≤ j → j < i → xH j = cHK 1 cH j) (hd3 : ∀ j : Int, i ≤ j → j < 48 → xS j = cS j) (hd4 : ∀ j : Int, i ≤ j → j < 48 → xH j = cH j) (hm : 48 - i < (k_62 : Int)) (H : Heap) (locs : List Loc) (hP : va_P D vwCl (mdlW ad 0 cy th (h + 1) su y sv (fl / 2) ic sn bn fm fr cm em lg le lf dl xS xH sea noi pl pw an hd bp bo bw c1 c2 c3 c4 c5 e1 e2 e3 e4 e5) H) (hD : va_D (zIn (mdlW ad 0 cy th h su st sh fl ic sn bn fm fr cm em lg le lf dl cS cH sea noi pl pw an hd bp bo bw c1 c2 c3 c4 c5 e1 e2 e3 e4 e5)) (mdlW ad 0 cy th (h + 1) su y sv (fl / 2) ic sn bn fm fr cm em lg le lf dl xS xH sea noi pl pw an hd bp bo bw c1 c2 c3 c4 c5 e1 e2 e3 e4 e5)) (hS : va_S (zIn (mdlW ad 0 cy th h su st sh fl ic sn bn fm fr cm em lg le lf dl cS cH sea noi pl pw an hd bp bo bw c1 c2 c3 c4 c5 e1 e2 e3 e4 e5)) s.heap H locs) (ls : Array Slot) (hl : lv_has ls 2 [(0, .ref (ad 0)), (1, .int (iI i))]), W p l e (zRm 0 0 0 0) s m args below meth c H locs 0 0 (MQ below (zQ0 D (mdlW ad 0 cy th h su st sh fl ic sn bn fm fr cm em lg le lf dl cS cH sea noi pl pw an hd bp bo bw c1 c2 c3 c4 c5 e1 e2 e3 e4 e5) (fun (_ : Unit) => True) (fun (_ : Unit) => (mdlW ad 0 cy th (h + 1) su (stK 1 st sh) (max 0 (sh - 1)) (fl / 2) ic sn bn fm fr cm em lg le lf dl (cSK 1 cS cH) (cHK 1 cH) sea noi pl pw an hd bp bo bw c1 c2 c3 c4 c5 e1 e2 e3 e4 e5))) args s 0 0 (zIn (mdlW ad 0 cy th h su st sh fl ic sn bn fm fr cm em lg le lf dl cS cH sea noi pl pw an hd bp bo bw c1 c2 c3 c4 c5 e1 e2 e3 e4 e5))) (F0 m 62 ls []) := by
        intro k_62
        induction k_62 with
        | zero =>
          intro i y sv xS xH hi hy hsv hd1 hd2 hd3 hd4 hm H locs hP hD hS ls hl
          exact absurd hm (by omega)
        | succ k_62 ih_62 =>
          intro i y sv xS xH hi hy hsv hd1 hd2 hd3 hd4 hm H locs hP hD hS ls hl
          refine lv_iload_n M.1 M.2.1 dX7_passOne_62 rfl (lv_at hl 1 rfl) ?_
          refine zi_bipush M dX7_passOne_63 ⟨by decide, by decide⟩ ?_
          refine zi_icmp_ge (tgt := 122) M dX7_passOne_65 (by decide) (by omega) ⟨by decide, by decide⟩ (fun c_7 => ?_) (fun c_7 => ?_)
          ·
            have hP := zP_arr hP 1 (g := xS) (g' := cSK 1 cS cH) rfl (fun j h0 h1 => hd1 j h0 (by omega))
            have hP := zP_arr hP 2 (g := xH) (g' := cHK 1 cH) rfl (fun j h0 h1 => hd2 j h0 (by omega))
            subst hy hsv
            have hP : va_P D vwCl (mdlW ad 0 cy th (h + 1) su (stK 1 st sh) (max 0 (sh - 1)) (fl / 2) ic sn bn fm fr cm em lg le lf dl (cSK 1 cS cH) (cHK 1 cH) sea noi pl pw an hd bp bo bw c1 c2 c3 c4 c5 e1 e2 e3 e4 e5) H := hP
            exact zw_v M hr hlk () hP hS (by trivial) (by decide) (by decide) dX7_passOne_122
          ·
            have hx1 := hd4 i (by omega) (by omega)
            have hx2 := h_cH i (by omega) (by omega)
            have hx3 := hd3 i (by omega) (by omega)
            refine lv_aload_n M.1 M.2.1 dX7_passOne_68 rfl (lv_at hl 0 rfl) ?_
            refine zi_get (ci := 7) (v := .ref (ad (0 + 2))) M hE hP 0 rfl rfl zu_X7 7 (by decide) zk_fl_RX7_17 rfl rfl dX7_passOne_69 ?_
            refine lv_iload_n M.1 M.2.1 dX7_passOne_72 rfl (lv_at hl 1 rfl) ?_
            refine lv_dup2_11 M.1 M.2.1 dX7_passOne_73 rfl rfl ?_
            refine zi_iald M hE hP 2 (n := 48) (g := xH) rfl (Nat.le_of_ble_eq_true rfl) (by omega) (by omega) dX7_passOne_74 ?_
            refine lv_aload_n M.1 M.2.1 dX7_passOne_75 rfl (lv_at hl 0 rfl) ?_
            refine zi_get (ci := 7) (v := .ref (ad (0 + 2))) M hE hP 0 rfl rfl zu_X7 7 (by decide) zk_fl_RX7_17 rfl rfl dX7_passOne_76 ?_
            refine lv_iload_n M.1 M.2.1 dX7_passOne_79 rfl (lv_at hl 1 rfl) ?_
            refine zi_iald M hE hP 2 (n := 48) (g := xH) rfl (Nat.le_of_ble_eq_true rfl) (by omega) (by omega) dX7_passOne_80 ?_
            refine zi_if_le (tgt := 88) M dX7_passOne_81 (by decide) (by omega) (fun c_8 => ?_) (fun c_8 => ?_)
            ·
              refine zi_push M dX7_passOne_88 ?_
              refine zi_isub M dX7_passOne_89 ?_
              refine zi_iast (ws' := (mdlW ad 0 cy th (h + 1) su y sv (fl / 2) ic sn bn fm fr cm em lg le lf dl xS (zu xH i ((xH i) - 0)) sea noi pl pw an hd bp bo bw c1 c2 c3 c4 c5 e1 e2 e3 e4 e5)) M hE hP hD hS 2 (n := 48) (g := xH) rfl (Nat.le_of_ble_eq_true rfl) (by omega) (by omega) rfl dX7_passOne_90 (fun H locs hP hD hS => ?_)
              refine lv_aload_n M.1 M.2.1 dX7_passOne_91 rfl (lv_at hl 0 rfl) ?_
              refine zi_get (ci := 7) (v := .ref (ad (0 + 1))) M hE hP 0 rfl rfl zu_X7 6 (by decide) zk_fl_RX7_13 rfl rfl dX7_passOne_92 ?_
              refine lv_iload_n M.1 M.2.1 dX7_passOne_95 rfl (lv_at hl 1 rfl) ?_
              refine lv_aload_n M.1 M.2.1 dX7_passOne_96 rfl (lv_at hl 0 rfl) ?_
              refine zi_get (ci := 7) (v := .ref (ad (0 + 2))) M hE hP 0 rfl rfl zu_X7 7 (by decide) zk_fl_RX7_17 rfl rfl dX7_passOne_97 ?_
              refine lv_iload_n M.1 M.2.1 dX7_passOne_100 rfl (lv_at hl 1 rfl) ?_
              refine zi_iald M hE hP 2 (n := 48) (g := (zu xH i ((xH i) - 0))) rfl (Nat.le_of_ble_eq_true rfl) (by omega) (by omega) dX7_passOne_101 ?_
              refine z_rw (zu_s xH i ((xH i) - 0)) ?_
              refine zi_if_le (tgt := 114) M dX7_passOne_102 (by decide) (by omega) (fun c_9 => ?_) (fun c_9 => ?_)
              ·
                refine zi_push M dX7_passOne_114 ?_
                refine zi_iast (ws' := (mdlW ad 0 cy th (h + 1) su y sv (fl / 2) ic sn bn fm fr cm em lg le lf dl (zu xS i 0) (zu xH i ((xH i) - 0)) sea noi pl pw an hd bp bo bw c1 c2 c3 c4 c5 e1 e2 e3 e4 e5)) M hE hP hD hS 1 (n := 48) (g := xS) rfl (Nat.le_of_ble_eq_true rfl) (by omega) (by omega) rfl dX7_passOne_115 (fun H locs hP hD hS => ?_)
                refine zi_iinc (lv' := [(1, .int (iI (i + 1))), (0, .ref (ad 0))]) M dX7_passOne_116 hl 1 rfl (by decide) rfl (fun ls hl => ?_)
                refine zi_goto (tgt := 62) M dX7_passOne_119 (by decide) ?_
                exact ih_62 (i + 1) y sv (zu xS i 0) (zu xH i ((xH i) - 0)) (by omega) hy hsv (zu_step hd1 (by unfold cSK; rw [if_neg (by decide)]; first | (rw [if_pos (by omega)]; done) | (rw [if_neg (by omega)]; omega))) (zu_step hd2 (by unfold cHK; omega)) (zu_rest hd3) (zu_rest hd4) (by omega) _ _ hP hD hS ls (lv_sub hl [1, 0] rfl)
              ·
                refine lv_aload_n M.1 M.2.1 dX7_passOne_105 rfl (lv_at hl 0 rfl) ?_
                refine zi_get (ci := 7) (v := .ref (ad (0 + 1))) M hE hP 0 rfl rfl zu_X7 6 (by decide) zk_fl_RX7_13 rfl rfl dX7_passOne_106 ?_
                refine lv_iload_n M.1 M.2.1 dX7_passOne_109 rfl (lv_at hl 1 rfl) ?_
                refine zi_iald M hE hP 1 (n := 48) (g := xS) rfl (Nat.le_of_ble_eq_true rfl) (by omega) (by omega) dX7_passOne_110 ?_
                refine zi_goto (tgt := 115) M dX7_passOne_111 (by decide) ?_
                refine zi_iast (ws' := (mdlW ad 0 cy th (h + 1) su y sv (fl / 2) ic sn bn fm fr cm em lg le lf dl (zu xS i (xS i)) (zu xH i ((xH i) - 0)) sea noi pl pw an hd bp bo bw c1 c2 c3 c4 c5 e1 e2 e3 e4 e5)) M hE hP hD hS 1 (n := 48) (g := xS) rfl (Nat.le_of_ble_eq_true rfl) (by omega) (by omega) rfl dX7_passOne_115 (fun H locs hP hD hS => ?_)
                refine zi_iinc (lv' := [(1, .int (iI (i + 1))), (0, .ref (ad 0))]) M dX7_passOne_116 hl 1 rfl (by decide) rfl (fun ls hl => ?_)
                refine zi_goto (tgt := 62) M dX7_passOne_119 (by decide) ?_
                exact ih_62 (i + 1) y sv (zu xS i (xS i)) (zu xH i ((xH i) - 0)) (by omega) hy hsv (zu_step hd1 (by unfold cSK; rw [if_neg (by decide)]; first | (rw [if_pos (by omega)]; done) | (rw [if_neg (by omega)]; omega))) (zu_step hd2 (by unfold cHK; omega)) (zu_rest hd3) (zu_rest hd4) (by omega) _ _ hP hD hS ls (lv_sub hl [1, 0] rfl)
            ·
              refine zi_push M dX7_passOne_84 ?_
              refine zi_goto (tgt := 89) M dX7_passOne_85 (by decide) ?_
              refine zi_isub M dX7_passOne_89 ?_
              refine zi_iast (ws' := (mdlW ad 0 cy th (h + 1) su y sv (fl / 2) ic sn bn fm fr cm em lg le lf dl xS (zu xH i ((xH i) - 1)) sea noi pl pw an hd bp bo bw c1 c2 c3 c4 c5 e1 e2 e3 e4 e5)) M hE hP hD hS 2 (n := 48) (g := xH) rfl (Nat.le_of_ble_eq_true rfl) (by omega) (by omega) rfl dX7_passOne_90 (fun H locs hP hD hS => ?_)
              refine lv_aload_n M.1 M.2.1 dX7_passOne_91 rfl (lv_at hl 0 rfl) ?_
              refine zi_get (ci := 7) (v := .ref (ad (0 + 1))) M hE hP 0 rfl rfl zu_X7 6 (by decide) zk_fl_RX7_13 rfl rfl dX7_passOne_92 ?_
              refine lv_iload_n M.1 M.2.1 dX7_passOne_95 rfl (lv_at hl 1 rfl) ?_
              refine lv_aload_n M.1 M.2.1 dX7_passOne_96 rfl (lv_at hl 0 rfl) ?_
              refine zi_get (ci := 7) (v := .ref (ad (0 + 2))) M hE hP 0 rfl rfl zu_X7 7 (by decide) zk_fl_RX7_17 rfl rfl dX7_passOne_97 ?_
              refine lv_iload_n M.1 M.2.1 dX7_passOne_100 rfl (lv_at hl 1 rfl) ?_
              refine zi_iald M hE hP 2 (n := 48) (g := (zu xH i ((xH i) - 1))) rfl (Nat.le_of_ble_eq_true rfl) (by omega) (by omega) dX7_passOne_101 ?_
              refine z_rw (zu_s xH i ((xH i) - 1)) ?_
              refine zi_if_le (tgt := 114) M dX7_passOne_102 (by decide) (by omega) (fun c_10 => ?_) (fun c_10 => ?_)
              ·
                refine zi_push M dX7_passOne_114 ?_
                refine zi_iast (ws' := (mdlW ad 0 cy th (h + 1) su y sv (fl / 2) ic sn bn fm fr cm em lg le lf dl (zu xS i 0) (zu xH i ((xH i) - 1)) sea noi pl pw an hd bp bo bw c1 c2 c3 c4 c5 e1 e2 e3 e4 e5)) M hE hP hD hS 1 (n := 48) (g := xS) rfl (Nat.le_of_ble_eq_true rfl) (by omega) (by omega) rfl dX7_passOne_115 (fun H locs hP hD hS => ?_)
                refine zi_iinc (lv' := [(1, .int (iI (i + 1))), (0, .ref (ad 0))]) M dX7_passOne_116 hl 1 rfl (by decide) rfl (fun ls hl => ?_)
                refine zi_goto (tgt := 62) M dX7_passOne_119 (by decide) ?_
                exact ih_62 (i + 1) y sv (zu xS i 0) (zu xH i ((xH i) - 1)) (by omega) hy hsv (zu_step hd1 (by unfold cSK; rw [if_neg (by decide)]; first | (rw [if_pos (by omega)]; done) | (rw [if_neg (by omega)]; omega))) (zu_step hd2 (by unfold cHK; omega)) (zu_rest hd3) (zu_rest hd4) (by omega) _ _ hP hD hS ls (lv_sub hl [1, 0] rfl)
              ·
                refine lv_aload_n M.1 M.2.1 dX7_passOne_105 rfl (lv_at hl 0 rfl) ?_
                refine zi_get (ci := 7) (v := .ref (ad (0 + 1))) M hE hP 0 rfl rfl zu_X7 6 (by decide) zk_fl_RX7_13 rfl rfl dX7_passOne_106 ?_
                refine lv_iload_n M.1 M.2.1 dX7_passOne_109 rfl (lv_at hl 1 rfl) ?_
                refine zi_iald M hE hP 1 (n := 48) (g := xS) rfl (Nat.le_of_ble_eq_true rfl) (by omega) (by omega) dX7_passOne_110 ?_
                refine zi_goto (tgt := 115) M dX7_passOne_111 (by decide) ?_
                refine zi_iast (ws' := (mdlW ad 0 cy th (h + 1) su y sv (fl / 2) ic sn bn fm fr cm em lg le lf dl (zu xS i (xS i)) (zu xH i ((xH i) - 1)) sea noi pl pw an hd bp bo bw c1 c2 c3 c4 c5 e1 e2 e3 e4 e5)) M hE hP hD hS 1 (n := 48) (g := xS) rfl (Nat.le_of_ble_eq_true rfl) (by omega) (by omega) rfl dX7_passOne_115 (fun H locs hP hD hS => ?_)
                refine zi_iinc (lv' := [(1, .int (iI (i + 1))), (0, .ref (ad 0))]) M dX7_passOne_116 hl 1 rfl (by decide) rfl (fun ls hl => ?_)
                refine zi_goto (tgt := 62) M dX7_passOne_119 (by decide) ?_
                exact ih_62 (i + 1) y sv (zu xS i (xS i)) (zu xH i ((xH i) - 1)) (by omega) hy hsv (zu_step hd1 (by unfold cSK; rw [if_neg (by decide)]; first | (rw [if_pos (by omega)]; done) | (rw [if_neg (by omega)]; omega))) (zu_step hd2 (by unfold cHK; omega)) (zu_rest hd3) (zu_rest hd4) (by omega) _ _ hP hD hS ls (lv_sub hl [1, 0] rfl)
      exact L_62 (Int.toNat (48 - 0) + 1) 0 st (sh - 0) cS cH (by omega) (by unfold stK; rw [if_neg (by decide)]; (repeat' split) <;> omega) (by omega) (fun j h0 h1 => absurd h1 (by omega)) (fun j h0 h1 => absurd h1 (by omega)) (fun j _ _ => rfl) (fun j _ _ => rfl) (by omega) _ _ hP hD hS ls (lv_sub hl [1, 0] rfl)
  ·
    refine zi_push M dX7_passOne_32 ?_
    refine zi_goto (tgt := 37) M dX7_passOne_33 (by decide) ?_
    refine zi_isub M dX7_passOne_37 ?_
    refine zi_put (ci := 7) (ws' := (mdlW ad 0 cy th (h + 1) su st (sh - 1) (fl / 2) ic sn bn fm fr cm em lg le lf dl cS cH sea noi pl pw an hd bp bo bw c1 c2 c3 c4 c5 e1 e2 e3 e4 e5)) M hE hP hD hS 0 rfl rfl zu_X7 4 (by decide) zk_fl_RX7_95 rfl rfl tyX7_ok nmX7 rfl rfl (Nat.le_of_ble_eq_true rfl) rfl dX7_passOne_38 (fun H locs hP hD hS => ?_)
    refine lv_aload_n M.1 M.2.1 dX7_passOne_41 rfl (lv_at hl 0 rfl) ?_
    refine lv_aload_n M.1 M.2.1 dX7_passOne_42 rfl (lv_at hl 0 rfl) ?_
    refine zi_get (ci := 7) (v := .int (iI (sh - 1))) M hE hP 0 rfl rfl zu_X7 4 (by decide) zk_fl_RX7_95 rfl rfl dX7_passOne_43 ?_
    refine zi_if_le (tgt := 56) M dX7_passOne_46 (by decide) (by omega) (fun c_11 => ?_) (fun c_11 => ?_)
    ·
      refine zi_push M dX7_passOne_56 ?_
      refine zi_put (ci := 7) (ws' := (mdlW ad 0 cy th (h + 1) su 0 (sh - 1) (fl / 2) ic sn bn fm fr cm em lg le lf dl cS cH sea noi pl pw an hd bp bo bw c1 c2 c3 c4 c5 e1 e2 e3 e4 e5)) M hE hP hD hS 0 rfl rfl zu_X7 3 (by decide) zk_fl_RX7_92 rfl rfl tyX7_ok nmX7 rfl rfl (Nat.le_of_ble_eq_true rfl) rfl dX7_passOne_57 (fun H locs hP hD hS => ?_)
      refine zi_push M dX7_passOne_60 ?_
      refine lv_istore_n (lv' := [(1, .int (iI 0)), (0, .ref (ad 0))]) M.1 M.2.1 dX7_passOne_61 rfl hl (by decide) rfl (fun ls hl => ?_)
      have L_62 : ∀ (k_62 : Nat) (i : Int) (y : Int) (sv : Int) (xS : Int → Int) (xH : Int → Int) (hi : 0 ≤ i ∧ i ≤ 48) (hy : y = stK 1 st sh) (hsv : sv = max 0 (sh - 1)) (hd1 : ∀ j : Int, 0 ≤ j → j < i → xS j = cSK 1 cS cH j) (hd2 : ∀ j : Int, 0 ≤ j → j < i → xH j = cHK 1 cH j) (hd3 : ∀ j : Int, i ≤ j → j < 48 → xS j = cS j) (hd4 : ∀ j : Int, i ≤ j → j < 48 → xH j = cH j) (hm : 48 - i < (k_62 : Int)) (H : Heap) (locs : List Loc) (hP : va_P D vwCl (mdlW ad 0 cy th (h + 1) su y sv (fl / 2) ic sn bn fm fr cm em lg le lf dl xS xH sea noi pl pw an hd bp bo bw c1 c2 c3 c4 c5 e1 e2 e3 e4 e5) H) (hD : va_D (zIn (mdlW ad 0 cy th h su st sh fl ic sn bn fm fr cm em lg le lf dl cS cH sea noi pl pw an hd bp bo bw c1 c2 c3 c4 c5 e1 e2 e3 e4 e5)) (mdlW ad 0 cy th (h + 1) su y sv (fl / 2) ic sn bn fm fr cm em lg le lf dl xS xH sea noi pl pw an hd bp bo bw c1 c2 c3 c4 c5 e1 e2 e3 e4 e5)) (hS : va_S (zIn (mdlW ad 0 cy th h su st sh fl ic sn bn fm fr cm em lg le lf dl cS cH sea noi pl pw an hd bp bo bw c1 c2 c3 c4 c5 e1 e2 e3 e4 e5)) s.heap H locs) (ls : Array Slot) (hl : lv_has ls 2 [(0, .ref (ad 0)), (1, .int (iI i))]), W p l e (zRm 0 0 0 0) s m args below meth c H locs 0 0 (MQ below (zQ0 D (mdlW ad 0 cy th h su st sh fl ic sn bn fm fr cm em lg le lf dl cS cH sea noi pl pw an hd bp bo bw c1 c2 c3 c4 c5 e1 e2 e3 e4 e5) (fun (_ : Unit) => True) (fun (_ : Unit) => (mdlW ad 0 cy th (h + 1) su (stK 1 st sh) (max 0 (sh - 1)) (fl / 2) ic sn bn fm fr cm em lg le lf dl (cSK 1 cS cH) (cHK 1 cH) sea noi pl pw an hd bp bo bw c1 c2 c3 c4 c5 e1 e2 e3 e4 e5))) args s 0 0 (zIn (mdlW ad 0 cy th h su st sh fl ic sn bn fm fr cm em lg le lf dl cS cH sea noi pl pw an hd bp bo bw c1 c2 c3 c4 c5 e1 e2 e3 e4 e5))) (F0 m 62 ls []) := by
        intro k_62
        induction k_62 with
        | zero =>
          intro i y sv xS xH hi hy hsv hd1 hd2 hd3 hd4 hm H locs hP hD hS ls hl
          exact absurd hm (by omega)
        | succ k_62 ih_62 =>
          intro i y sv xS xH hi hy hsv hd1 hd2 hd3 hd4 hm H locs hP hD hS ls hl
          refine lv_iload_n M.1 M.2.1 dX7_passOne_62 rfl (lv_at hl 1 rfl) ?_
          refine zi_bipush M dX7_passOne_63 ⟨by decide, by decide⟩ ?_
          refine zi_icmp_ge (tgt := 122) M dX7_passOne_65 (by decide) (by omega) ⟨by decide, by decide⟩ (fun c_12 => ?_) (fun c_12 => ?_)
          ·
            have hP := zP_arr hP 1 (g := xS) (g' := cSK 1 cS cH) rfl (fun j h0 h1 => hd1 j h0 (by omega))
            have hP := zP_arr hP 2 (g := xH) (g' := cHK 1 cH) rfl (fun j h0 h1 => hd2 j h0 (by omega))
            subst hy hsv
            have hP : va_P D vwCl (mdlW ad 0 cy th (h + 1) su (stK 1 st sh) (max 0 (sh - 1)) (fl / 2) ic sn bn fm fr cm em lg le lf dl (cSK 1 cS cH) (cHK 1 cH) sea noi pl pw an hd bp bo bw c1 c2 c3 c4 c5 e1 e2 e3 e4 e5) H := hP
            exact zw_v M hr hlk () hP hS (by trivial) (by decide) (by decide) dX7_passOne_122
          ·
            have hx1 := hd4 i (by omega) (by omega)
            have hx2 := h_cH i (by omega) (by omega)
            have hx3 := hd3 i (by omega) (by omega)
            refine lv_aload_n M.1 M.2.1 dX7_passOne_68 rfl (lv_at hl 0 rfl) ?_
            refine zi_get (ci := 7) (v := .ref (ad (0 + 2))) M hE hP 0 rfl rfl zu_X7 7 (by decide) zk_fl_RX7_17 rfl rfl dX7_passOne_69 ?_
            refine lv_iload_n M.1 M.2.1 dX7_passOne_72 rfl (lv_at hl 1 rfl) ?_
            refine lv_dup2_11 M.1 M.2.1 dX7_passOne_73 rfl rfl ?_
            refine zi_iald M hE hP 2 (n := 48) (g := xH) rfl (Nat.le_of_ble_eq_true rfl) (by omega) (by omega) dX7_passOne_74 ?_
            refine lv_aload_n M.1 M.2.1 dX7_passOne_75 rfl (lv_at hl 0 rfl) ?_
            refine zi_get (ci := 7) (v := .ref (ad (0 + 2))) M hE hP 0 rfl rfl zu_X7 7 (by decide) zk_fl_RX7_17 rfl rfl dX7_passOne_76 ?_
            refine lv_iload_n M.1 M.2.1 dX7_passOne_79 rfl (lv_at hl 1 rfl) ?_
            refine zi_iald M hE hP 2 (n := 48) (g := xH) rfl (Nat.le_of_ble_eq_true rfl) (by omega) (by omega) dX7_passOne_80 ?_
            refine zi_if_le (tgt := 88) M dX7_passOne_81 (by decide) (by omega) (fun c_13 => ?_) (fun c_13 => ?_)
            ·
              refine zi_push M dX7_passOne_88 ?_
              refine zi_isub M dX7_passOne_89 ?_
              refine zi_iast (ws' := (mdlW ad 0 cy th (h + 1) su y sv (fl / 2) ic sn bn fm fr cm em lg le lf dl xS (zu xH i ((xH i) - 0)) sea noi pl pw an hd bp bo bw c1 c2 c3 c4 c5 e1 e2 e3 e4 e5)) M hE hP hD hS 2 (n := 48) (g := xH) rfl (Nat.le_of_ble_eq_true rfl) (by omega) (by omega) rfl dX7_passOne_90 (fun H locs hP hD hS => ?_)
              refine lv_aload_n M.1 M.2.1 dX7_passOne_91 rfl (lv_at hl 0 rfl) ?_
              refine zi_get (ci := 7) (v := .ref (ad (0 + 1))) M hE hP 0 rfl rfl zu_X7 6 (by decide) zk_fl_RX7_13 rfl rfl dX7_passOne_92 ?_
              refine lv_iload_n M.1 M.2.1 dX7_passOne_95 rfl (lv_at hl 1 rfl) ?_
              refine lv_aload_n M.1 M.2.1 dX7_passOne_96 rfl (lv_at hl 0 rfl) ?_
              refine zi_get (ci := 7) (v := .ref (ad (0 + 2))) M hE hP 0 rfl rfl zu_X7 7 (by decide) zk_fl_RX7_17 rfl rfl dX7_passOne_97 ?_
              refine lv_iload_n M.1 M.2.1 dX7_passOne_100 rfl (lv_at hl 1 rfl) ?_
              refine zi_iald M hE hP 2 (n := 48) (g := (zu xH i ((xH i) - 0))) rfl (Nat.le_of_ble_eq_true rfl) (by omega) (by omega) dX7_passOne_101 ?_
              refine z_rw (zu_s xH i ((xH i) - 0)) ?_
              refine zi_if_le (tgt := 114) M dX7_passOne_102 (by decide) (by omega) (fun c_14 => ?_) (fun c_14 => ?_)
              ·
                refine zi_push M dX7_passOne_114 ?_
                refine zi_iast (ws' := (mdlW ad 0 cy th (h + 1) su y sv (fl / 2) ic sn bn fm fr cm em lg le lf dl (zu xS i 0) (zu xH i ((xH i) - 0)) sea noi pl pw an hd bp bo bw c1 c2 c3 c4 c5 e1 e2 e3 e4 e5)) M hE hP hD hS 1 (n := 48) (g := xS) rfl (Nat.le_of_ble_eq_true rfl) (by omega) (by omega) rfl dX7_passOne_115 (fun H locs hP hD hS => ?_)
                refine zi_iinc (lv' := [(1, .int (iI (i + 1))), (0, .ref (ad 0))]) M dX7_passOne_116 hl 1 rfl (by decide) rfl (fun ls hl => ?_)
                refine zi_goto (tgt := 62) M dX7_passOne_119 (by decide) ?_
                exact ih_62 (i + 1) y sv (zu xS i 0) (zu xH i ((xH i) - 0)) (by omega) hy hsv (zu_step hd1 (by unfold cSK; rw [if_neg (by decide)]; first | (rw [if_pos (by omega)]; done) | (rw [if_neg (by omega)]; omega))) (zu_step hd2 (by unfold cHK; omega)) (zu_rest hd3) (zu_rest hd4) (by omega) _ _ hP hD hS ls (lv_sub hl [1, 0] rfl)
              ·
                refine lv_aload_n M.1 M.2.1 dX7_passOne_105 rfl (lv_at hl 0 rfl) ?_
                refine zi_get (ci := 7) (v := .ref (ad (0 + 1))) M hE hP 0 rfl rfl zu_X7 6 (by decide) zk_fl_RX7_13 rfl rfl dX7_passOne_106 ?_
                refine lv_iload_n M.1 M.2.1 dX7_passOne_109 rfl (lv_at hl 1 rfl) ?_
                refine zi_iald M hE hP 1 (n := 48) (g := xS) rfl (Nat.le_of_ble_eq_true rfl) (by omega) (by omega) dX7_passOne_110 ?_
                refine zi_goto (tgt := 115) M dX7_passOne_111 (by decide) ?_
                refine zi_iast (ws' := (mdlW ad 0 cy th (h + 1) su y sv (fl / 2) ic sn bn fm fr cm em lg le lf dl (zu xS i (xS i)) (zu xH i ((xH i) - 0)) sea noi pl pw an hd bp bo bw c1 c2 c3 c4 c5 e1 e2 e3 e4 e5)) M hE hP hD hS 1 (n := 48) (g := xS) rfl (Nat.le_of_ble_eq_true rfl) (by omega) (by omega) rfl dX7_passOne_115 (fun H locs hP hD hS => ?_)
                refine zi_iinc (lv' := [(1, .int (iI (i + 1))), (0, .ref (ad 0))]) M dX7_passOne_116 hl 1 rfl (by decide) rfl (fun ls hl => ?_)
                refine zi_goto (tgt := 62) M dX7_passOne_119 (by decide) ?_
                exact ih_62 (i + 1) y sv (zu xS i (xS i)) (zu xH i ((xH i) - 0)) (by omega) hy hsv (zu_step hd1 (by unfold cSK; rw [if_neg (by decide)]; first | (rw [if_pos (by omega)]; done) | (rw [if_neg (by omega)]; omega))) (zu_step hd2 (by unfold cHK; omega)) (zu_rest hd3) (zu_rest hd4) (by omega) _ _ hP hD hS ls (lv_sub hl [1, 0] rfl)
            ·
              refine zi_push M dX7_passOne_84 ?_
              refine zi_goto (tgt := 89) M dX7_passOne_85 (by decide) ?_
              refine zi_isub M dX7_passOne_89 ?_
              refine zi_iast (ws' := (mdlW ad 0 cy th (h + 1) su y sv (fl / 2) ic sn bn fm fr cm em lg le lf dl xS (zu xH i ((xH i) - 1)) sea noi pl pw an hd bp bo bw c1 c2 c3 c4 c5 e1 e2 e3 e4 e5)) M hE hP hD hS 2 (n := 48) (g := xH) rfl (Nat.le_of_ble_eq_true rfl) (by omega) (by omega) rfl dX7_passOne_90 (fun H locs hP hD hS => ?_)
              refine lv_aload_n M.1 M.2.1 dX7_passOne_91 rfl (lv_at hl 0 rfl) ?_
              refine zi_get (ci := 7) (v := .ref (ad (0 + 1))) M hE hP 0 rfl rfl zu_X7 6 (by decide) zk_fl_RX7_13 rfl rfl dX7_passOne_92 ?_
              refine lv_iload_n M.1 M.2.1 dX7_passOne_95 rfl (lv_at hl 1 rfl) ?_
              refine lv_aload_n M.1 M.2.1 dX7_passOne_96 rfl (lv_at hl 0 rfl) ?_
              refine zi_get (ci := 7) (v := .ref (ad (0 + 2))) M hE hP 0 rfl rfl zu_X7 7 (by decide) zk_fl_RX7_17 rfl rfl dX7_passOne_97 ?_
              refine lv_iload_n M.1 M.2.1 dX7_passOne_100 rfl (lv_at hl 1 rfl) ?_
              refine zi_iald M hE hP 2 (n := 48) (g := (zu xH i ((xH i) - 1))) rfl (Nat.le_of_ble_eq_true rfl) (by omega) (by omega) dX7_passOne_101 ?_
              refine z_rw (zu_s xH i ((xH i) - 1)) ?_
              refine zi_if_le (tgt := 114) M dX7_passOne_102 (by decide) (by omega) (fun c_15 => ?_) (fun c_15 => ?_)
              ·
                refine zi_push M dX7_passOne_114 ?_
                refine zi_iast (ws' := (mdlW ad 0 cy th (h + 1) su y sv (fl / 2) ic sn bn fm fr cm em lg le lf dl (zu xS i 0) (zu xH i ((xH i) - 1)) sea noi pl pw an hd bp bo bw c1 c2 c3 c4 c5 e1 e2 e3 e4 e5)) M hE hP hD hS 1 (n := 48) (g := xS) rfl (Nat.le_of_ble_eq_true rfl) (by omega) (by omega) rfl dX7_passOne_115 (fun H locs hP hD hS => ?_)
                refine zi_iinc (lv' := [(1, .int (iI (i + 1))), (0, .ref (ad 0))]) M dX7_passOne_116 hl 1 rfl (by decide) rfl (fun ls hl => ?_)
                refine zi_goto (tgt := 62) M dX7_passOne_119 (by decide) ?_
                exact ih_62 (i + 1) y sv (zu xS i 0) (zu xH i ((xH i) - 1)) (by omega) hy hsv (zu_step hd1 (by unfold cSK; rw [if_neg (by decide)]; first | (rw [if_pos (by omega)]; done) | (rw [if_neg (by omega)]; omega))) (zu_step hd2 (by unfold cHK; omega)) (zu_rest hd3) (zu_rest hd4) (by omega) _ _ hP hD hS ls (lv_sub hl [1, 0] rfl)
              ·
                refine lv_aload_n M.1 M.2.1 dX7_passOne_105 rfl (lv_at hl 0 rfl) ?_
                refine zi_get (ci := 7) (v := .ref (ad (0 + 1))) M hE hP 0 rfl rfl zu_X7 6 (by decide) zk_fl_RX7_13 rfl rfl dX7_passOne_106 ?_
                refine lv_iload_n M.1 M.2.1 dX7_passOne_109 rfl (lv_at hl 1 rfl) ?_
                refine zi_iald M hE hP 1 (n := 48) (g := xS) rfl (Nat.le_of_ble_eq_true rfl) (by omega) (by omega) dX7_passOne_110 ?_
                refine zi_goto (tgt := 115) M dX7_passOne_111 (by decide) ?_
                refine zi_iast (ws' := (mdlW ad 0 cy th (h + 1) su y sv (fl / 2) ic sn bn fm fr cm em lg le lf dl (zu xS i (xS i)) (zu xH i ((xH i) - 1)) sea noi pl pw an hd bp bo bw c1 c2 c3 c4 c5 e1 e2 e3 e4 e5)) M hE hP hD hS 1 (n := 48) (g := xS) rfl (Nat.le_of_ble_eq_true rfl) (by omega) (by omega) rfl dX7_passOne_115 (fun H locs hP hD hS => ?_)
                refine zi_iinc (lv' := [(1, .int (iI (i + 1))), (0, .ref (ad 0))]) M dX7_passOne_116 hl 1 rfl (by decide) rfl (fun ls hl => ?_)
                refine zi_goto (tgt := 62) M dX7_passOne_119 (by decide) ?_
                exact ih_62 (i + 1) y sv (zu xS i (xS i)) (zu xH i ((xH i) - 1)) (by omega) hy hsv (zu_step hd1 (by unfold cSK; rw [if_neg (by decide)]; first | (rw [if_pos (by omega)]; done) | (rw [if_neg (by omega)]; omega))) (zu_step hd2 (by unfold cHK; omega)) (zu_rest hd3) (zu_rest hd4) (by omega) _ _ hP hD hS ls (lv_sub hl [1, 0] rfl)
      exact L_62 (Int.toNat (48 - 0) + 1) 0 0 (sh - 1) cS cH (by omega) (by unfold stK; rw [if_neg (by decide)]; (repeat' split) <;> omega) (by omega) (fun j h0 h1 => absurd h1 (by omega)) (fun j h0 h1 => absurd h1 (by omega)) (fun j _ _ => rfl) (fun j _ _ => rfl) (by omega) _ _ hP hD hS ls (lv_sub hl [1, 0] rfl)
    ·
      refine lv_aload_n M.1 M.2.1 dX7_passOne_49 rfl (lv_at hl 0 rfl) ?_
      refine zi_get (ci := 7) (v := .int (iI st)) M hE hP 0 rfl rfl zu_X7 3 (by decide) zk_fl_RX7_92 rfl rfl dX7_passOne_50 ?_
      refine zi_goto (tgt := 57) M dX7_passOne_53 (by decide) ?_
      refine zi_put (ci := 7) (ws' := (mdlW ad 0 cy th (h + 1) su st (sh - 1) (fl / 2) ic sn bn fm fr cm em lg le lf dl cS cH sea noi pl pw an hd bp bo bw c1 c2 c3 c4 c5 e1 e2 e3 e4 e5)) M hE hP hD hS 0 rfl rfl zu_X7 3 (by decide) zk_fl_RX7_92 rfl rfl tyX7_ok nmX7 rfl rfl (Nat.le_of_ble_eq_true rfl) rfl dX7_passOne_57 (fun H locs hP hD hS => ?_)
      refine zi_push M dX7_passOne_60 ?_
      refine lv_istore_n (lv' := [(1, .int (iI 0)), (0, .ref (ad 0))]) M.1 M.2.1 dX7_passOne_61 rfl hl (by decide) rfl (fun ls hl => ?_)
      have L_62 : ∀ (k_62 : Nat) (i : Int) (y : Int) (sv : Int) (xS : Int → Int) (xH : Int → Int) (hi : 0 ≤ i ∧ i ≤ 48) (hy : y = stK 1 st sh) (hsv : sv = max 0 (sh - 1)) (hd1 : ∀ j : Int, 0 ≤ j → j < i → xS j = cSK 1 cS cH j) (hd2 : ∀ j : Int, 0 ≤ j → j < i → xH j = cHK 1 cH j) (hd3 : ∀ j : Int, i ≤ j → j < 48 → xS j = cS j) (hd4 : ∀ j : Int, i ≤ j → j < 48 → xH j = cH j) (hm : 48 - i < (k_62 : Int)) (H : Heap) (locs : List Loc) (hP : va_P D vwCl (mdlW ad 0 cy th (h + 1) su y sv (fl / 2) ic sn bn fm fr cm em lg le lf dl xS xH sea noi pl pw an hd bp bo bw c1 c2 c3 c4 c5 e1 e2 e3 e4 e5) H) (hD : va_D (zIn (mdlW ad 0 cy th h su st sh fl ic sn bn fm fr cm em lg le lf dl cS cH sea noi pl pw an hd bp bo bw c1 c2 c3 c4 c5 e1 e2 e3 e4 e5)) (mdlW ad 0 cy th (h + 1) su y sv (fl / 2) ic sn bn fm fr cm em lg le lf dl xS xH sea noi pl pw an hd bp bo bw c1 c2 c3 c4 c5 e1 e2 e3 e4 e5)) (hS : va_S (zIn (mdlW ad 0 cy th h su st sh fl ic sn bn fm fr cm em lg le lf dl cS cH sea noi pl pw an hd bp bo bw c1 c2 c3 c4 c5 e1 e2 e3 e4 e5)) s.heap H locs) (ls : Array Slot) (hl : lv_has ls 2 [(0, .ref (ad 0)), (1, .int (iI i))]), W p l e (zRm 0 0 0 0) s m args below meth c H locs 0 0 (MQ below (zQ0 D (mdlW ad 0 cy th h su st sh fl ic sn bn fm fr cm em lg le lf dl cS cH sea noi pl pw an hd bp bo bw c1 c2 c3 c4 c5 e1 e2 e3 e4 e5) (fun (_ : Unit) => True) (fun (_ : Unit) => (mdlW ad 0 cy th (h + 1) su (stK 1 st sh) (max 0 (sh - 1)) (fl / 2) ic sn bn fm fr cm em lg le lf dl (cSK 1 cS cH) (cHK 1 cH) sea noi pl pw an hd bp bo bw c1 c2 c3 c4 c5 e1 e2 e3 e4 e5))) args s 0 0 (zIn (mdlW ad 0 cy th h su st sh fl ic sn bn fm fr cm em lg le lf dl cS cH sea noi pl pw an hd bp bo bw c1 c2 c3 c4 c5 e1 e2 e3 e4 e5))) (F0 m 62 ls []) := by
        intro k_62
        induction k_62 with
        | zero =>
          intro i y sv xS xH hi hy hsv hd1 hd2 hd3 hd4 hm H locs hP hD hS ls hl
          exact absurd hm (by omega)
        | succ k_62 ih_62 =>
          intro i y sv xS xH hi hy hsv hd1 hd2 hd3 hd4 hm H locs hP hD hS ls hl
          refine lv_iload_n M.1 M.2.1 dX7_passOne_62 rfl (lv_at hl 1 rfl) ?_
          refine zi_bipush M dX7_passOne_63 ⟨by decide, by decide⟩ ?_
          refine zi_icmp_ge (tgt := 122) M dX7_passOne_65 (by decide) (by omega) ⟨by decide, by decide⟩ (fun c_16 => ?_) (fun c_16 => ?_)
          ·
            have hP := zP_arr hP 1 (g := xS) (g' := cSK 1 cS cH) rfl (fun j h0 h1 => hd1 j h0 (by omega))
            have hP := zP_arr hP 2 (g := xH) (g' := cHK 1 cH) rfl (fun j h0 h1 => hd2 j h0 (by omega))
            subst hy hsv
            have hP : va_P D vwCl (mdlW ad 0 cy th (h + 1) su (stK 1 st sh) (max 0 (sh - 1)) (fl / 2) ic sn bn fm fr cm em lg le lf dl (cSK 1 cS cH) (cHK 1 cH) sea noi pl pw an hd bp bo bw c1 c2 c3 c4 c5 e1 e2 e3 e4 e5) H := hP
            exact zw_v M hr hlk () hP hS (by trivial) (by decide) (by decide) dX7_passOne_122
          ·
            have hx1 := hd4 i (by omega) (by omega)
            have hx2 := h_cH i (by omega) (by omega)
            have hx3 := hd3 i (by omega) (by omega)
            refine lv_aload_n M.1 M.2.1 dX7_passOne_68 rfl (lv_at hl 0 rfl) ?_
            refine zi_get (ci := 7) (v := .ref (ad (0 + 2))) M hE hP 0 rfl rfl zu_X7 7 (by decide) zk_fl_RX7_17 rfl rfl dX7_passOne_69 ?_
            refine lv_iload_n M.1 M.2.1 dX7_passOne_72 rfl (lv_at hl 1 rfl) ?_
            refine lv_dup2_11 M.1 M.2.1 dX7_passOne_73 rfl rfl ?_
            refine zi_iald M hE hP 2 (n := 48) (g := xH) rfl (Nat.le_of_ble_eq_true rfl) (by omega) (by omega) dX7_passOne_74 ?_
            refine lv_aload_n M.1 M.2.1 dX7_passOne_75 rfl (lv_at hl 0 rfl) ?_
            refine zi_get (ci := 7) (v := .ref (ad (0 + 2))) M hE hP 0 rfl rfl zu_X7 7 (by decide) zk_fl_RX7_17 rfl rfl dX7_passOne_76 ?_
            refine lv_iload_n M.1 M.2.1 dX7_passOne_79 rfl (lv_at hl 1 rfl) ?_
            refine zi_iald M hE hP 2 (n := 48) (g := xH) rfl (Nat.le_of_ble_eq_true rfl) (by omega) (by omega) dX7_passOne_80 ?_
            refine zi_if_le (tgt := 88) M dX7_passOne_81 (by decide) (by omega) (fun c_17 => ?_) (fun c_17 => ?_)
            ·
              refine zi_push M dX7_passOne_88 ?_
              refine zi_isub M dX7_passOne_89 ?_
              refine zi_iast (ws' := (mdlW ad 0 cy th (h + 1) su y sv (fl / 2) ic sn bn fm fr cm em lg le lf dl xS (zu xH i ((xH i) - 0)) sea noi pl pw an hd bp bo bw c1 c2 c3 c4 c5 e1 e2 e3 e4 e5)) M hE hP hD hS 2 (n := 48) (g := xH) rfl (Nat.le_of_ble_eq_true rfl) (by omega) (by omega) rfl dX7_passOne_90 (fun H locs hP hD hS => ?_)
              refine lv_aload_n M.1 M.2.1 dX7_passOne_91 rfl (lv_at hl 0 rfl) ?_
              refine zi_get (ci := 7) (v := .ref (ad (0 + 1))) M hE hP 0 rfl rfl zu_X7 6 (by decide) zk_fl_RX7_13 rfl rfl dX7_passOne_92 ?_
              refine lv_iload_n M.1 M.2.1 dX7_passOne_95 rfl (lv_at hl 1 rfl) ?_
              refine lv_aload_n M.1 M.2.1 dX7_passOne_96 rfl (lv_at hl 0 rfl) ?_
              refine zi_get (ci := 7) (v := .ref (ad (0 + 2))) M hE hP 0 rfl rfl zu_X7 7 (by decide) zk_fl_RX7_17 rfl rfl dX7_passOne_97 ?_
              refine lv_iload_n M.1 M.2.1 dX7_passOne_100 rfl (lv_at hl 1 rfl) ?_
              refine zi_iald M hE hP 2 (n := 48) (g := (zu xH i ((xH i) - 0))) rfl (Nat.le_of_ble_eq_true rfl) (by omega) (by omega) dX7_passOne_101 ?_
              refine z_rw (zu_s xH i ((xH i) - 0)) ?_
              refine zi_if_le (tgt := 114) M dX7_passOne_102 (by decide) (by omega) (fun c_18 => ?_) (fun c_18 => ?_)
              ·
                refine zi_push M dX7_passOne_114 ?_
                refine zi_iast (ws' := (mdlW ad 0 cy th (h + 1) su y sv (fl / 2) ic sn bn fm fr cm em lg le lf dl (zu xS i 0) (zu xH i ((xH i) - 0)) sea noi pl pw an hd bp bo bw c1 c2 c3 c4 c5 e1 e2 e3 e4 e5)) M hE hP hD hS 1 (n := 48) (g := xS) rfl (Nat.le_of_ble_eq_true rfl) (by omega) (by omega) rfl dX7_passOne_115 (fun H locs hP hD hS => ?_)
                refine zi_iinc (lv' := [(1, .int (iI (i + 1))), (0, .ref (ad 0))]) M dX7_passOne_116 hl 1 rfl (by decide) rfl (fun ls hl => ?_)
                refine zi_goto (tgt := 62) M dX7_passOne_119 (by decide) ?_
                exact ih_62 (i + 1) y sv (zu xS i 0) (zu xH i ((xH i) - 0)) (by omega) hy hsv (zu_step hd1 (by unfold cSK; rw [if_neg (by decide)]; first | (rw [if_pos (by omega)]; done) | (rw [if_neg (by omega)]; omega))) (zu_step hd2 (by unfold cHK; omega)) (zu_rest hd3) (zu_rest hd4) (by omega) _ _ hP hD hS ls (lv_sub hl [1, 0] rfl)
              ·
                refine lv_aload_n M.1 M.2.1 dX7_passOne_105 rfl (lv_at hl 0 rfl) ?_
                refine zi_get (ci := 7) (v := .ref (ad (0 + 1))) M hE hP 0 rfl rfl zu_X7 6 (by decide) zk_fl_RX7_13 rfl rfl dX7_passOne_106 ?_
                refine lv_iload_n M.1 M.2.1 dX7_passOne_109 rfl (lv_at hl 1 rfl) ?_
                refine zi_iald M hE hP 1 (n := 48) (g := xS) rfl (Nat.le_of_ble_eq_true rfl) (by omega) (by omega) dX7_passOne_110 ?_
                refine zi_goto (tgt := 115) M dX7_passOne_111 (by decide) ?_
                refine zi_iast (ws' := (mdlW ad 0 cy th (h + 1) su y sv (fl / 2) ic sn bn fm fr cm em lg le lf dl (zu xS i (xS i)) (zu xH i ((xH i) - 0)) sea noi pl pw an hd bp bo bw c1 c2 c3 c4 c5 e1 e2 e3 e4 e5)) M hE hP hD hS 1 (n := 48) (g := xS) rfl (Nat.le_of_ble_eq_true rfl) (by omega) (by omega) rfl dX7_passOne_115 (fun H locs hP hD hS => ?_)
                refine zi_iinc (lv' := [(1, .int (iI (i + 1))), (0, .ref (ad 0))]) M dX7_passOne_116 hl 1 rfl (by decide) rfl (fun ls hl => ?_)
                refine zi_goto (tgt := 62) M dX7_passOne_119 (by decide) ?_
                exact ih_62 (i + 1) y sv (zu xS i (xS i)) (zu xH i ((xH i) - 0)) (by omega) hy hsv (zu_step hd1 (by unfold cSK; rw [if_neg (by decide)]; first | (rw [if_pos (by omega)]; done) | (rw [if_neg (by omega)]; omega))) (zu_step hd2 (by unfold cHK; omega)) (zu_rest hd3) (zu_rest hd4) (by omega) _ _ hP hD hS ls (lv_sub hl [1, 0] rfl)
            ·
              refine zi_push M dX7_passOne_84 ?_
              refine zi_goto (tgt := 89) M dX7_passOne_85 (by decide) ?_
              refine zi_isub M dX7_passOne_89 ?_
              refine zi_iast (ws' := (mdlW ad 0 cy th (h + 1) su y sv (fl / 2) ic sn bn fm fr cm em lg le lf dl xS (zu xH i ((xH i) - 1)) sea noi pl pw an hd bp bo bw c1 c2 c3 c4 c5 e1 e2 e3 e4 e5)) M hE hP hD hS 2 (n := 48) (g := xH) rfl (Nat.le_of_ble_eq_true rfl) (by omega) (by omega) rfl dX7_passOne_90 (fun H locs hP hD hS => ?_)
              refine lv_aload_n M.1 M.2.1 dX7_passOne_91 rfl (lv_at hl 0 rfl) ?_
              refine zi_get (ci := 7) (v := .ref (ad (0 + 1))) M hE hP 0 rfl rfl zu_X7 6 (by decide) zk_fl_RX7_13 rfl rfl dX7_passOne_92 ?_
              refine lv_iload_n M.1 M.2.1 dX7_passOne_95 rfl (lv_at hl 1 rfl) ?_
              refine lv_aload_n M.1 M.2.1 dX7_passOne_96 rfl (lv_at hl 0 rfl) ?_
              refine zi_get (ci := 7) (v := .ref (ad (0 + 2))) M hE hP 0 rfl rfl zu_X7 7 (by decide) zk_fl_RX7_17 rfl rfl dX7_passOne_97 ?_
              refine lv_iload_n M.1 M.2.1 dX7_passOne_100 rfl (lv_at hl 1 rfl) ?_
              refine zi_iald M hE hP 2 (n := 48) (g := (zu xH i ((xH i) - 1))) rfl (Nat.le_of_ble_eq_true rfl) (by omega) (by omega) dX7_passOne_101 ?_
              refine z_rw (zu_s xH i ((xH i) - 1)) ?_
              refine zi_if_le (tgt := 114) M dX7_passOne_102 (by decide) (by omega) (fun c_19 => ?_) (fun c_19 => ?_)
              ·
                refine zi_push M dX7_passOne_114 ?_
                refine zi_iast (ws' := (mdlW ad 0 cy th (h + 1) su y sv (fl / 2) ic sn bn fm fr cm em lg le lf dl (zu xS i 0) (zu xH i ((xH i) - 1)) sea noi pl pw an hd bp bo bw c1 c2 c3 c4 c5 e1 e2 e3 e4 e5)) M hE hP hD hS 1 (n := 48) (g := xS) rfl (Nat.le_of_ble_eq_true rfl) (by omega) (by omega) rfl dX7_passOne_115 (fun H locs hP hD hS => ?_)
                refine zi_iinc (lv' := [(1, .int (iI (i + 1))), (0, .ref (ad 0))]) M dX7_passOne_116 hl 1 rfl (by decide) rfl (fun ls hl => ?_)
                refine zi_goto (tgt := 62) M dX7_passOne_119 (by decide) ?_
                exact ih_62 (i + 1) y sv (zu xS i 0) (zu xH i ((xH i) - 1)) (by omega) hy hsv (zu_step hd1 (by unfold cSK; rw [if_neg (by decide)]; first | (rw [if_pos (by omega)]; done) | (rw [if_neg (by omega)]; omega))) (zu_step hd2 (by unfold cHK; omega)) (zu_rest hd3) (zu_rest hd4) (by omega) _ _ hP hD hS ls (lv_sub hl [1, 0] rfl)
              ·
                refine lv_aload_n M.1 M.2.1 dX7_passOne_105 rfl (lv_at hl 0 rfl) ?_
                refine zi_get (ci := 7) (v := .ref (ad (0 + 1))) M hE hP 0 rfl rfl zu_X7 6 (by decide) zk_fl_RX7_13 rfl rfl dX7_passOne_106 ?_
                refine lv_iload_n M.1 M.2.1 dX7_passOne_109 rfl (lv_at hl 1 rfl) ?_
                refine zi_iald M hE hP 1 (n := 48) (g := xS) rfl (Nat.le_of_ble_eq_true rfl) (by omega) (by omega) dX7_passOne_110 ?_
                refine zi_goto (tgt := 115) M dX7_passOne_111 (by decide) ?_
                refine zi_iast (ws' := (mdlW ad 0 cy th (h + 1) su y sv (fl / 2) ic sn bn fm fr cm em lg le lf dl (zu xS i (xS i)) (zu xH i ((xH i) - 1)) sea noi pl pw an hd bp bo bw c1 c2 c3 c4 c5 e1 e2 e3 e4 e5)) M hE hP hD hS 1 (n := 48) (g := xS) rfl (Nat.le_of_ble_eq_true rfl) (by omega) (by omega) rfl dX7_passOne_115 (fun H locs hP hD hS => ?_)
                refine zi_iinc (lv' := [(1, .int (iI (i + 1))), (0, .ref (ad 0))]) M dX7_passOne_116 hl 1 rfl (by decide) rfl (fun ls hl => ?_)
                refine zi_goto (tgt := 62) M dX7_passOne_119 (by decide) ?_
                exact ih_62 (i + 1) y sv (zu xS i (xS i)) (zu xH i ((xH i) - 1)) (by omega) hy hsv (zu_step hd1 (by unfold cSK; rw [if_neg (by decide)]; first | (rw [if_pos (by omega)]; done) | (rw [if_neg (by omega)]; omega))) (zu_step hd2 (by unfold cHK; omega)) (zu_rest hd3) (zu_rest hd4) (by omega) _ _ hP hD hS ls (lv_sub hl [1, 0] rfl)
      exact L_62 (Int.toNat (48 - 0) + 1) 0 st (sh - 1) cS cH (by omega) (by unfold stK; rw [if_neg (by decide)]; (repeat' split) <;> omega) (by omega) (fun j h0 h1 => absurd h1 (by omega)) (fun j h0 h1 => absurd h1 (by omega)) (fun j _ _ => rfl) (fun j _ _ => rfl) (by omega) _ _ hP hD hS ls (lv_sub hl [1, 0] rfl)

set_option maxRecDepth 100000 in
set_option maxHeartbeats 4000000 in
theorem c_X7_pass (l : Launch) (D : va_G) (cy : Nat → ClassId) (z0 : Nat) (ad : Nat → Nat) (th h su st sh fl ic sn bn fm fr cm em lg le lf dl : Int) (cS cH sea noi pl pw an hd bp bo bw c1 c2 c3 c4 c5 e1 e2 e3 e4 e5 : Int → Int) (k : Int) (r_k : r32 k) (h_h : 0 ≤ h ∧ h ≤ 5000) (h_su : 0 ≤ su ∧ su ≤ 100) (h_st : 0 ≤ st ∧ st ≤ 60) (h_sh : 0 ≤ sh ∧ sh ≤ 72) (h_fl : 0 ≤ fl ∧ fl ≤ 80) (h_cS : zrg 48 0 100 cS) (h_cH : zrg 48 0 24 cH) (h_ic : 0 ≤ ic ∧ ic ≤ 1) : Met l yX7_pass [.code yX7_pass cX7_pass 4 (some .int)] (zRm 1 0 0 22) (zPc [.ref (ad 0), .int (iI k)] D cy z0 (zWl D z0 (mdlW ad 0 cy th h su st sh fl ic sn bn fm fr cm em lg le lf dl cS cH sea noi pl pw an hd bp bo bw c1 c2 c3 c4 c5 e1 e2 e3 e4 e5))) (zQ1 D (mdlW ad 0 cy th h su st sh fl ic sn bn fm fr cm em lg le lf dl cS cH sea noi pl pw an hd bp bo bw c1 c2 c3 c4 c5 e1 e2 e3 e4 e5) (fun (r : Int32) (u : Int) => (u = 0 ∧ ((1 ≤ k ∧ k ≤ 48) ∧ (h + k ≤ 5000)) ∧ r = iI (h + k)) ∨ (u = 1 ∧ (¬ (1 ≤ k ∧ k ≤ 48)) ∧ r = iI 0) ∨ (u = 2 ∧ ((1 ≤ k ∧ k ≤ 48) ∧ ¬ (h + k ≤ 5000)) ∧ r = iI 0)) (fun (u : Int) => (mdlW ad 0 cy u (if u = 0 then (h + k) else h) su (if u = 0 then (stK k st sh) else st) (if u = 0 then (max 0 (sh - k)) else sh) (if u = 0 then (flK k.toNat fl) else fl) ic sn bn fm fr cm em lg le lf dl (if u = 0 then (cSK k cS cH) else cS) (if u = 0 then (cHK k cH) else cH) sea noi pl pw an hd bp bo bw c1 c2 c3 c4 c5 e1 e2 e3 e4 e5))) 0 0 (zIn (mdlW ad 0 cy th h su st sh fl ic sn bn fm fr cm em lg le lf dl cS cH sea noi pl pw an hd bp bo bw c1 c2 c3 c4 c5 e1 e2 e3 e4 e5)) := by
  refine z_of (by decide) (Nat.le_of_ble_eq_true rfl) ?_
  intro p e s m args below meth c M hr hlk hini hargs hP0 hE ls hl
  have hP : va_P D vwCl (mdlW ad 0 cy th h su st sh fl ic sn bn fm fr cm em lg le lf dl cS cH sea noi pl pw an hd bp bo bw c1 c2 c3 c4 c5 e1 e2 e3 e4 e5) s.heap := hP0.1
  have hD : va_D (zIn (mdlW ad 0 cy th h su st sh fl ic sn bn fm fr cm em lg le lf dl cS cH sea noi pl pw an hd bp bo bw c1 c2 c3 c4 c5 e1 e2 e3 e4 e5)) (mdlW ad 0 cy th h su st sh fl ic sn bn fm fr cm em lg le lf dl cS cH sea noi pl pw an hd bp bo bw c1 c2 c3 c4 c5 e1 e2 e3 e4 e5) := hP0.self
  have hAz := hP0.A
  have hS : va_S (zIn (mdlW ad 0 cy th h su st sh fl ic sn bn fm fr cm em lg le lf dl cS cH sea noi pl pw an hd bp bo bw c1 c2 c3 c4 c5 e1 e2 e3 e4 e5)) s.heap s.heap [] := va_S.rf
  have hl : lv_has ls 4 [(0, .ref (ad 0)), (1, .int (iI k))] := hl
  refine lv_iload_n M.1 M.2.1 dX7_pass_0 rfl (lv_at hl 1 rfl) ?_
  refine zi_push M dX7_pass_1 ?_
  refine zi_bipush M dX7_pass_2 ⟨by decide, by decide⟩ ?_
  refine z_cR (z_runS (As := [.int (iI k), .int (iI 1), .int (iI 48)]) (rest := []) M (c_X7_in l D cy z0 k 1 48 (by omega) (by omega) (by omega)) hE hS hAz trivial zk_cd_X7_in zk_in_RX7 zk_st_X7_in zk_ml_RX7_81 rfl rfl zd_X7_in ⟨by decide, by decide⟩ rfl hl.1 rfl (Nat.le_of_ble_eq_true rfl) dX7_pass_4 ⟨by decide, by decide⟩) ?_
  refine zi_b (P := 1 ≤ k ∧ k ≤ 48) (g := fun r => F0 m 7 ls (.int r :: [])) (fun b_1 => ?_) (fun b_1 => ?_)
  ·
    refine lv_istore_n (lv' := [(2, .int (iI 1)), (0, .ref (ad 0)), (1, .int (iI k))]) M.1 M.2.1 dX7_pass_7 rfl hl (by decide) rfl (fun ls hl => ?_)
    refine lv_aload_n M.1 M.2.1 dX7_pass_8 rfl (lv_at hl 1 rfl) ?_
    refine lv_iload_n M.1 M.2.1 dX7_pass_9 rfl (lv_at hl 0 rfl) ?_
    refine zi_if_ne (tgt := 17) M dX7_pass_10 (by decide) ⟨by decide, by decide⟩ (fun _ => ?_) (fun q => absurd q (by decide))
    refine lv_aload_n M.1 M.2.1 dX7_pass_17 rfl (lv_at hl 1 rfl) ?_
    refine zi_get (ci := 7) (v := .int (iI h)) M hE hP 0 rfl rfl zu_X7 1 (by decide) zk_fl_RX7_104 rfl rfl dX7_pass_18 ?_
    refine lv_iload_n M.1 M.2.1 dX7_pass_21 rfl (lv_at hl 2 rfl) ?_
    refine zi_iadd M dX7_pass_22 ?_
    refine zi_sipush M dX7_pass_23 ⟨by decide, by decide⟩ ?_
    refine zi_icmp_le (tgt := 33) M dX7_pass_26 (by decide) (by omega) ⟨by decide, by decide⟩ (fun c_2 => ?_) (fun c_2 => ?_)
    ·
      refine zi_push M dX7_pass_33 ?_
      refine z_cW (z_runV (As := [.int (iI 0)]) (rest := []) M (c_X7_goesWell l D cy z0 ad th h su st sh fl ic sn bn fm fr cm em lg le lf dl cS cH sea noi pl pw an hd bp bo bw c1 c2 c3 c4 c5 e1 e2 e3 e4 e5 0 (by omega)) hE hS hAz (z_cut hP hD hAz [0, 1, 2, 3, 4, 5, 6, 7, 8, 9, 10, 11, 12, 13, 14, 15, 16, 17, 18, 19, 20, 21] rfl (by decide +kernel)) (zRc.of (ci := 7) (q0 := 0) hE hP rfl rfl) zk_cd_X7_goesWell zk_in_RX7 zk_im_X7_goesWell zk_se_X7_goesWell zk_ml_RX7_88 rfl rfl zd_X7_goesWell ⟨by decide, by decide⟩ rfl hl.1 rfl (Nat.le_of_ble_eq_true rfl) dX7_pass_34 ⟨by decide, by decide⟩) hP hD hS [0, 1, 2, 3, 4, 5, 6, 7, 8, 9, 10, 11, 12, 13, 14, 15, 16, 17, 18, 19, 20, 21] rfl (fun _ => rfl) (fun r_3 u_3 H locs hp_3 hP hD hS => ?_)
      have hP : va_P D vwCl (mdlW ad 0 cy 0 h su st sh fl ic sn bn fm fr cm em lg le lf dl cS cH sea noi pl pw an hd bp bo bw c1 c2 c3 c4 c5 e1 e2 e3 e4 e5) H := hP
      have hD : va_D (zIn (mdlW ad 0 cy th h su st sh fl ic sn bn fm fr cm em lg le lf dl cS cH sea noi pl pw an hd bp bo bw c1 c2 c3 c4 c5 e1 e2 e3 e4 e5)) (mdlW ad 0 cy 0 h su st sh fl ic sn bn fm fr cm em lg le lf dl cS cH sea noi pl pw an hd bp bo bw c1 c2 c3 c4 c5 e1 e2 e3 e4 e5) := hD
      subst hp_3
      refine z_rw (b := 1) rfl ?_
      refine zi_if_ne (tgt := 42) M dX7_pass_37 (by decide) ⟨by decide, by decide⟩ (fun _ => ?_) (fun q => absurd q (by decide))
      refine zi_push M dX7_pass_42 ?_
      refine lv_istore_n (lv' := [(3, .int (iI 0)), (2, .int (iI 1)), (0, .ref (ad 0)), (1, .int (iI k))]) M.1 M.2.1 dX7_pass_43 rfl hl (by decide) rfl (fun ls hl => ?_)
      have L_44 : ∀ (k_44 : Nat) (i : Int) (hv : Int) (sv : Int) (uv : Int) (fv : Int) (xS : Int → Int) (xH : Int → Int) (hi : 0 ≤ i ∧ i ≤ k) (h1 : hv = h + i) (h2 : sv = stK i st sh) (h3 : uv = max 0 (sh - i)) (h4 : fv = flK i.toNat fl) (hd1 : ∀ j : Int, 0 ≤ j → j < 48 → xS j = cSK i cS cH j) (hd2 : ∀ j : Int, 0 ≤ j → j < 48 → xH j = cHK i cH j) (hm : k - i < (k_44 : Int)) (H : Heap) (locs : List Loc) (hP : va_P D vwCl (mdlW ad 0 cy 0 hv su sv uv fv ic sn bn fm fr cm em lg le lf dl xS xH sea noi pl pw an hd bp bo bw c1 c2 c3 c4 c5 e1 e2 e3 e4 e5) H) (hD : va_D (zIn (mdlW ad 0 cy th h su st sh fl ic sn bn fm fr cm em lg le lf dl cS cH sea noi pl pw an hd bp bo bw c1 c2 c3 c4 c5 e1 e2 e3 e4 e5)) (mdlW ad 0 cy 0 hv su sv uv fv ic sn bn fm fr cm em lg le lf dl xS xH sea noi pl pw an hd bp bo bw c1 c2 c3 c4 c5 e1 e2 e3 e4 e5)) (hS : va_S (zIn (mdlW ad 0 cy th h su st sh fl ic sn bn fm fr cm em lg le lf dl cS cH sea noi pl pw an hd bp bo bw c1 c2 c3 c4 c5 e1 e2 e3 e4 e5)) s.heap H locs) (ls : Array Slot) (hl : lv_has ls 4 [(0, .ref (ad 0)), (1, .int (iI k)), (2, .int (iI 1)), (3, .int (iI i))]), W p l e (zRm 1 0 0 22) s m args below meth c H locs 0 0 (MQ below (zQ1 D (mdlW ad 0 cy th h su st sh fl ic sn bn fm fr cm em lg le lf dl cS cH sea noi pl pw an hd bp bo bw c1 c2 c3 c4 c5 e1 e2 e3 e4 e5) (fun (r : Int32) (u : Int) => (u = 0 ∧ ((1 ≤ k ∧ k ≤ 48) ∧ (h + k ≤ 5000)) ∧ r = iI (h + k)) ∨ (u = 1 ∧ (¬ (1 ≤ k ∧ k ≤ 48)) ∧ r = iI 0) ∨ (u = 2 ∧ ((1 ≤ k ∧ k ≤ 48) ∧ ¬ (h + k ≤ 5000)) ∧ r = iI 0)) (fun (u : Int) => (mdlW ad 0 cy u (if u = 0 then (h + k) else h) su (if u = 0 then (stK k st sh) else st) (if u = 0 then (max 0 (sh - k)) else sh) (if u = 0 then (flK k.toNat fl) else fl) ic sn bn fm fr cm em lg le lf dl (if u = 0 then (cSK k cS cH) else cS) (if u = 0 then (cHK k cH) else cH) sea noi pl pw an hd bp bo bw c1 c2 c3 c4 c5 e1 e2 e3 e4 e5))) args s 0 0 (zIn (mdlW ad 0 cy th h su st sh fl ic sn bn fm fr cm em lg le lf dl cS cH sea noi pl pw an hd bp bo bw c1 c2 c3 c4 c5 e1 e2 e3 e4 e5))) (F0 m 44 ls []) := by
        intro k_44
        induction k_44 with
        | zero =>
          intro i hv sv uv fv xS xH hi h1 h2 h3 h4 hd1 hd2 hm H locs hP hD hS ls hl
          exact absurd hm (by omega)
        | succ k_44 ih_44 =>
          intro i hv sv uv fv xS xH hi h1 h2 h3 h4 hd1 hd2 hm H locs hP hD hS ls hl
          have hq1 := stK_rg (k := i) (sh := sh) h_st
          rw [← h2] at hq1
          have hq2 := flK_rg h_fl i.toNat
          rw [← h4] at hq2
          have hq3 := zrg_eq (cSK_rg (k := i) (cH := cH) h_cS) hd1
          have hq4 := zrg_eq (cHK_rg hi.1 h_cH) hd2
          refine lv_iload_n M.1 M.2.1 dX7_pass_44 rfl (lv_at hl 3 rfl) ?_
          refine lv_iload_n M.1 M.2.1 dX7_pass_45 rfl (lv_at hl 1 rfl) ?_
          refine zi_icmp_ge (tgt := 59) M dX7_pass_46 (by decide) (by omega) (by omega) (fun c_4 => ?_) (fun c_4 => ?_)
          ·
            refine lv_aload_n M.1 M.2.1 dX7_pass_59 rfl (lv_at hl 0 rfl) ?_
            refine zi_get (ci := 7) (v := .int (iI hv)) M hE hP 0 rfl rfl zu_X7 1 (by decide) zk_fl_RX7_104 rfl rfl dX7_pass_60 ?_
            have hik : i = k := by omega
            rw [hik] at hd1 hd2 h1 h2 h3 h4
            have hP := zP_arr hP 1 (g := xS) (g' := cSK k cS cH) rfl hd1
            have hP := zP_arr hP 2 (g := xH) (g' := cHK k cH) rfl hd2
            subst h1 h2 h3 h4
            have hP : va_P D vwCl (mdlW ad 0 cy 0 (h + k) su (stK k st sh) (max 0 (sh - k)) (flK k.toNat fl) ic sn bn fm fr cm em lg le lf dl (cSK k cS cH) (cHK k cH) sea noi pl pw an hd bp bo bw c1 c2 c3 c4 c5 e1 e2 e3 e4 e5) H := hP
            have hP : va_P D vwCl (mdlW ad 0 cy 0 (if 0 = 0 then (h + k) else h) su (if 0 = 0 then (stK k st sh) else st) (if 0 = 0 then (max 0 (sh - k)) else sh) (if 0 = 0 then (flK k.toNat fl) else fl) ic sn bn fm fr cm em lg le lf dl (if 0 = 0 then (cSK k cS cH) else cS) (if 0 = 0 then (cHK k cH) else cH) sea noi pl pw an hd bp bo bw c1 c2 c3 c4 c5 e1 e2 e3 e4 e5) H := hP
            exact zw_i M hr hlk 0 hP hS (by exact Or.inl ⟨rfl, by omega, congrArg iI (show ((h + k) : Int) = h + k by rfl)⟩) (by decide) (by decide) dX7_pass_63
          ·
            refine lv_aload_n M.1 M.2.1 dX7_pass_49 rfl (lv_at hl 0 rfl) ?_
            refine z_cV (z_runV (As := []) (rest := []) M (c_X7_passOne l D cy z0 ad 0 hv su sv uv fv ic sn bn fm fr cm em lg le lf dl xS xH sea noi pl pw an hd bp bo bw c1 c2 c3 c4 c5 e1 e2 e3 e4 e5 (by omega) (by omega) (by omega) (by omega) (by omega) hq3 hq4 (by omega)) hE hS hAz (z_cut hP hD hAz [0, 1, 2, 3, 4, 5, 6, 7, 8, 9, 10, 11, 12, 13, 14, 15, 16, 17, 18, 19, 20, 21] rfl (by decide +kernel)) (zRc.of (ci := 7) (q0 := 0) hE hP rfl rfl) zk_cd_X7_passOne zk_in_RX7 zk_im_X7_passOne zk_se_X7_passOne zk_ml_RX7_107 rfl rfl zd_X7_passOne ⟨by decide, by decide⟩ rfl hl.1 rfl (Nat.le_of_ble_eq_true rfl) dX7_pass_50 ⟨by decide, by decide⟩) hP hD hS [0, 1, 2, 3, 4, 5, 6, 7, 8, 9, 10, 11, 12, 13, 14, 15, 16, 17, 18, 19, 20, 21] rfl (fun _ => rfl) (fun u_5 H locs hp_5 hP hD hS => ?_)
            have hP : va_P D vwCl (mdlW ad 0 cy 0 (hv + 1) su (stK 1 sv uv) (max 0 (uv - 1)) (fv / 2) ic sn bn fm fr cm em lg le lf dl (cSK 1 xS xH) (cHK 1 xH) sea noi pl pw an hd bp bo bw c1 c2 c3 c4 c5 e1 e2 e3 e4 e5) H := hP
            have hD : va_D (zIn (mdlW ad 0 cy th h su st sh fl ic sn bn fm fr cm em lg le lf dl cS cH sea noi pl pw an hd bp bo bw c1 c2 c3 c4 c5 e1 e2 e3 e4 e5)) (mdlW ad 0 cy 0 (hv + 1) su (stK 1 sv uv) (max 0 (uv - 1)) (fv / 2) ic sn bn fm fr cm em lg le lf dl (cSK 1 xS xH) (cHK 1 xH) sea noi pl pw an hd bp bo bw c1 c2 c3 c4 c5 e1 e2 e3 e4 e5) := hD
            refine zi_iinc (lv' := [(3, .int (iI (i + 1))), (0, .ref (ad 0)), (1, .int (iI k)), (2, .int (iI 1))]) M dX7_pass_53 hl 3 rfl (by decide) rfl (fun ls hl => ?_)
            refine zi_goto (tgt := 44) M dX7_pass_56 (by decide) ?_
            exact ih_44 (i + 1) (hv + 1) (stK 1 sv uv) (max 0 (uv - 1)) (fv / 2) (cSK 1 xS xH) (cHK 1 xH) (by omega) (by omega) (stK_step hi.1 h_sh.1 h2 h3) (by omega) (by rw [show (i + 1).toNat = i.toNat + 1 from by omega]; unfold flK; rw [h4]) (fun j h0 h1 => cSK_step hi.1 (h_cH j h0 h1).1 (hd1 j h0 h1) (hd2 j h0 h1)) (fun j h0 h1 => cHK_step hi.1 (hd2 j h0 h1)) (by omega) _ _ hP hD hS ls (lv_sub hl [1, 2, 3, 0] rfl)
      exact L_44 (Int.toNat (k - 0) + 1) 0 h st sh fl cS cH (by omega) (by omega) rfl (by omega) rfl (fun j _ _ => rfl) (fun j h0 h1 => by have := h_cH j h0 h1; unfold cHK; omega) (by omega) _ _ hP hD hS ls (lv_sub hl [2, 3, 1, 0] rfl)
    ·
      refine zi_push M dX7_pass_29 ?_
      refine zi_goto (tgt := 34) M dX7_pass_30 (by decide) ?_
      refine z_cW (z_runV (As := [.int (iI 2)]) (rest := []) M (c_X7_goesWell l D cy z0 ad th h su st sh fl ic sn bn fm fr cm em lg le lf dl cS cH sea noi pl pw an hd bp bo bw c1 c2 c3 c4 c5 e1 e2 e3 e4 e5 2 (by omega)) hE hS hAz (z_cut hP hD hAz [0, 1, 2, 3, 4, 5, 6, 7, 8, 9, 10, 11, 12, 13, 14, 15, 16, 17, 18, 19, 20, 21] rfl (by decide +kernel)) (zRc.of (ci := 7) (q0 := 0) hE hP rfl rfl) zk_cd_X7_goesWell zk_in_RX7 zk_im_X7_goesWell zk_se_X7_goesWell zk_ml_RX7_88 rfl rfl zd_X7_goesWell ⟨by decide, by decide⟩ rfl hl.1 rfl (Nat.le_of_ble_eq_true rfl) dX7_pass_34 ⟨by decide, by decide⟩) hP hD hS [0, 1, 2, 3, 4, 5, 6, 7, 8, 9, 10, 11, 12, 13, 14, 15, 16, 17, 18, 19, 20, 21] rfl (fun _ => rfl) (fun r_6 u_6 H locs hp_6 hP hD hS => ?_)
      have hP : va_P D vwCl (mdlW ad 0 cy 2 h su st sh fl ic sn bn fm fr cm em lg le lf dl cS cH sea noi pl pw an hd bp bo bw c1 c2 c3 c4 c5 e1 e2 e3 e4 e5) H := hP
      have hD : va_D (zIn (mdlW ad 0 cy th h su st sh fl ic sn bn fm fr cm em lg le lf dl cS cH sea noi pl pw an hd bp bo bw c1 c2 c3 c4 c5 e1 e2 e3 e4 e5)) (mdlW ad 0 cy 2 h su st sh fl ic sn bn fm fr cm em lg le lf dl cS cH sea noi pl pw an hd bp bo bw c1 c2 c3 c4 c5 e1 e2 e3 e4 e5) := hD
      subst hp_6
      refine z_rw (b := 0) rfl ?_
      refine zi_if_ne (tgt := 42) M dX7_pass_37 (by decide) ⟨by decide, by decide⟩ (fun q => absurd q (by decide)) (fun _ => ?_)
      refine zi_push M dX7_pass_40 ?_
      have hP : va_P D vwCl (mdlW ad 0 cy 2 (if 2 = 0 then (h + k) else h) su (if 2 = 0 then (stK k st sh) else st) (if 2 = 0 then (max 0 (sh - k)) else sh) (if 2 = 0 then (flK k.toNat fl) else fl) ic sn bn fm fr cm em lg le lf dl (if 2 = 0 then (cSK k cS cH) else cS) (if 2 = 0 then (cHK k cH) else cH) sea noi pl pw an hd bp bo bw c1 c2 c3 c4 c5 e1 e2 e3 e4 e5) H := hP
      exact zw_i M hr hlk 2 hP hS (by exact Or.inr (Or.inr (⟨rfl, by omega, rfl⟩))) (by decide) (by decide) dX7_pass_41
  ·
    refine lv_istore_n (lv' := [(2, .int (iI 0)), (0, .ref (ad 0)), (1, .int (iI k))]) M.1 M.2.1 dX7_pass_7 rfl hl (by decide) rfl (fun ls hl => ?_)
    refine lv_aload_n M.1 M.2.1 dX7_pass_8 rfl (lv_at hl 1 rfl) ?_
    refine lv_iload_n M.1 M.2.1 dX7_pass_9 rfl (lv_at hl 0 rfl) ?_
    refine zi_if_ne (tgt := 17) M dX7_pass_10 (by decide) ⟨by decide, by decide⟩ (fun q => absurd q (by decide)) (fun _ => ?_)
    refine zi_push M dX7_pass_13 ?_
    refine zi_goto (tgt := 34) M dX7_pass_14 (by decide) ?_
    refine z_cW (z_runV (As := [.int (iI 1)]) (rest := []) M (c_X7_goesWell l D cy z0 ad th h su st sh fl ic sn bn fm fr cm em lg le lf dl cS cH sea noi pl pw an hd bp bo bw c1 c2 c3 c4 c5 e1 e2 e3 e4 e5 1 (by omega)) hE hS hAz (z_cut hP hD hAz [0, 1, 2, 3, 4, 5, 6, 7, 8, 9, 10, 11, 12, 13, 14, 15, 16, 17, 18, 19, 20, 21] rfl (by decide +kernel)) (zRc.of (ci := 7) (q0 := 0) hE hP rfl rfl) zk_cd_X7_goesWell zk_in_RX7 zk_im_X7_goesWell zk_se_X7_goesWell zk_ml_RX7_88 rfl rfl zd_X7_goesWell ⟨by decide, by decide⟩ rfl hl.1 rfl (Nat.le_of_ble_eq_true rfl) dX7_pass_34 ⟨by decide, by decide⟩) hP hD hS [0, 1, 2, 3, 4, 5, 6, 7, 8, 9, 10, 11, 12, 13, 14, 15, 16, 17, 18, 19, 20, 21] rfl (fun _ => rfl) (fun r_7 u_7 H locs hp_7 hP hD hS => ?_)
    have hP : va_P D vwCl (mdlW ad 0 cy 1 h su st sh fl ic sn bn fm fr cm em lg le lf dl cS cH sea noi pl pw an hd bp bo bw c1 c2 c3 c4 c5 e1 e2 e3 e4 e5) H := hP
    have hD : va_D (zIn (mdlW ad 0 cy th h su st sh fl ic sn bn fm fr cm em lg le lf dl cS cH sea noi pl pw an hd bp bo bw c1 c2 c3 c4 c5 e1 e2 e3 e4 e5)) (mdlW ad 0 cy 1 h su st sh fl ic sn bn fm fr cm em lg le lf dl cS cH sea noi pl pw an hd bp bo bw c1 c2 c3 c4 c5 e1 e2 e3 e4 e5) := hD
    subst hp_7
    refine z_rw (b := 0) rfl ?_
    refine zi_if_ne (tgt := 42) M dX7_pass_37 (by decide) ⟨by decide, by decide⟩ (fun q => absurd q (by decide)) (fun _ => ?_)
    refine zi_push M dX7_pass_40 ?_
    have hP : va_P D vwCl (mdlW ad 0 cy 1 (if 1 = 0 then (h + k) else h) su (if 1 = 0 then (stK k st sh) else st) (if 1 = 0 then (max 0 (sh - k)) else sh) (if 1 = 0 then (flK k.toNat fl) else fl) ic sn bn fm fr cm em lg le lf dl (if 1 = 0 then (cSK k cS cH) else cS) (if 1 = 0 then (cHK k cH) else cH) sea noi pl pw an hd bp bo bw c1 c2 c3 c4 c5 e1 e2 e3 e4 e5) H := hP
    exact zw_i M hr hlk 1 hP hS (by exact Or.inr (Or.inl (⟨rfl, by omega, rfl⟩))) (by decide) (by decide) dX7_pass_41
