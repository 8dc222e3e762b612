/-! contracts of methods that write: the air -/
set_option maxRecDepth 100000 in
set_option maxHeartbeats 4000000 in
theorem c_X0_settle (l : Launch) (D : va_G) (cy : Nat → ClassId) (z0 : Nat) (ad : Nat → Nat) (b : Nat) (h su st sh fl : Int) (cS cH dD dE dF : Int → Int) (hh : 0 ≤ h ∧ h ≤ 5000) (hsu : 0 ≤ su ∧ su ≤ 100) (hst0 : 0 ≤ st ∧ st ≤ 60) (hfl : 0 ≤ fl ∧ fl ≤ 80) (hcS : zrg 48 0 100 cS) : Met l yX0_settle [.code yX0_settle cX0_settle 5 none] (zRm 2 0 0 43) (zPc [.ref (ad b)] D cy z0 (zWl D z0 (airW ad b cy h su st sh fl cS cH dD dE dF))) (zQ0 D (airW ad b cy h su st sh fl cS cH dD dE dF) (fun (_ : Unit) => True) (fun (_ : Unit) => (airW ad b cy h su st sh fl cS cH (dnD h fl) (dnE h cS) (dnF h su st)))) 0 0 (zIn (airW ad b cy h su st sh fl cS cH dD dE dF)) := by
  refine z_of (by decide) (Nat.le_of_ble_eq_true rfl) ?_
  intro p e s m args below meth c M hr hlk hini hargs hP0 hE ls hl
  have hP : va_P D vwCl (airW ad b cy h su st sh fl cS cH dD dE dF) s.heap := hP0.1
  have hD : va_D (zIn (airW ad b cy h su st sh fl cS cH dD dE dF)) (airW ad b cy h su st sh fl cS cH dD dE dF) := hP0.self
  have hAz := hP0.A
  have hS : va_S (zIn (airW ad b cy h su st sh fl cS cH dD dE dF)) s.heap s.heap [] := va_S.rf
  have hl : lv_has ls 5 [(0, .ref (ad b))] := hl
  refine zi_push M dX0_settle_0 ?_
  refine lv_istore_n (lv' := [(1, .int (iI 0)), (0, .ref (ad b))]) M.1 M.2.1 dX0_settle_1 rfl hl (by decide) rfl (fun ls hl => ?_)
  have L_2 : ∀ (k_2 : Nat) (i : Int) (xD : Int → Int) (xE : Int → Int) (xF : Int → Int) (hi : 0 ≤ i ∧ i ≤ 48) (hd1 : ∀ j : Int, 0 ≤ j → j < i → xD j = dnD h fl j) (hd2 : ∀ j : Int, 0 ≤ j → j < i → xE j = dnE h cS j) (hd3 : ∀ j : Int, 0 ≤ j → j < i → xF j = dnF h su st j) (hm : 48 - i < (k_2 : Int)) (H : Heap) (locs : List Loc) (hP : va_P D vwCl (airW ad b cy h su st sh fl cS cH xD xE xF) H) (hD : va_D (zIn (airW ad b cy h su st sh fl cS cH dD dE dF)) (airW ad b cy h su st sh fl cS cH xD xE xF)) (hS : va_S (zIn (airW ad b cy h su st sh fl cS cH dD dE dF)) s.heap H locs) (ls : Array Slot) (hl : lv_has ls 5 [(0, .ref (ad b)), (1, .int (iI i))]), W p l e (zRm 2 0 0 43) s m args below meth c H locs 0 0 (MQ below (zQ0 D (airW ad b cy h su st sh fl cS cH dD dE dF) (fun (_ : Unit) => True) (fun (_ : Unit) => (airW ad b cy h su st sh fl cS cH (dnD h fl) (dnE h cS) (dnF h su st)))) args s 0 0 (zIn (airW ad b cy h su st sh fl cS cH dD dE dF))) (F0 m 2 ls []) := by
    intro k_2
    induction k_2 with
    | zero =>
      intro i xD xE xF hi hd1 hd2 hd3 hm H locs hP hD hS ls hl
      exact absurd hm (by omega)
    | succ k_2 ih_2 =>
      intro i xD xE xF hi hd1 hd2 hd3 hm H locs hP hD hS ls hl
      refine lv_iload_n M.1 M.2.1 dX0_settle_2 rfl (lv_at hl 1 rfl) ?_
      refine zi_bipush M dX0_settle_3 ⟨by decide, by decide⟩ ?_
      refine zi_icmp_ge (tgt := 118) M dX0_settle_5 (by decide) (by omega) ⟨by decide, by decide⟩ (fun c_1 => ?_) (fun c_1 => ?_)
      ·
        have h48 : i = 48 := by omega
        have hP := zP_arr hP 4 (g := xD) (g' := dnD h fl) rfl (fun j h0 h1 => hd1 j h0 (by omega))
        have hP := zP_arr hP 5 (g := xE) (g' := dnE h cS) rfl (fun j h0 h1 => hd2 j h0 (by omega))
        have hP := zP_arr hP 6 (g := xF) (g' := dnF h su st) rfl (fun j h0 h1 => hd3 j h0 (by omega))
        have hP : va_P D vwCl (airW ad b cy h su st sh fl cS cH (dnD h fl) (dnE h cS) (dnF h su st)) H := hP
        exact zw_v M hr hlk () hP hS (by trivial) (by decide) (by decide) dX0_settle_118
      ·
        refine lv_aload_n M.1 M.2.1 dX0_settle_8 rfl (lv_at hl 0 rfl) ?_
        refine zi_get (ci := 0) (v := .int (iI h)) M hE hP 0 rfl rfl zu_X0 0 (by decide) zk_fl_RX0_42 rfl rfl dX0_settle_9 ?_
        refine lv_iload_n M.1 M.2.1 dX0_settle_12 rfl (lv_at hl 1 rfl) ?_
        refine z_cR (z_runSN (As := [.int (iI h), .int (iI i)]) (rest := []) M (c_X6_lightIn l D cy z0 h i (by omega) (by omega)) hE hS hAz trivial zk_cd_X6_lightIn zk_in_RX6 zk_st_X6_lightIn zk_mn_RX0_51 rfl rfl zd_X6_lightIn ⟨by decide, by decide⟩ rfl hl.1 rfl (Nat.le_of_ble_eq_true rfl) dX0_settle_13 ⟨by decide, by decide⟩) ?_
        have hx_2 := lightZ_rg h i
        refine lv_istore_n (lv' := [(2, .int (iI (lightZ h i))), (0, .ref (ad b)), (1, .int (iI i))]) M.1 M.2.1 dX0_settle_16 rfl hl (by decide) rfl (fun ls hl => ?_)
        refine lv_iload_n M.1 M.2.1 dX0_settle_17 rfl (lv_at hl 0 rfl) ?_
        refine zi_if_le (tgt := 28) M dX0_settle_18 (by decide) (by omega) (fun c_3 => ?_) (fun c_3 => ?_)
        ·
          refine zi_push M dX0_settle_28 ?_
          refine lv_istore_n (lv' := [(3, .int (iI 0)), (2, .int (iI (lightZ h i))), (0, .ref (ad b)), (1, .int (iI i))]) M.1 M.2.1 dX0_settle_29 rfl hl (by decide) rfl (fun ls hl => ?_)
          refine lv_iload_n M.1 M.2.1 dX0_settle_30 rfl (lv_at hl 1 rfl) ?_
          refine zi_if_le (tgt := 43) M dX0_settle_31 (by decide) (by omega) (fun _ => ?_) (fun q => absurd c_3 q)
          refine lv_aload_n M.1 M.2.1 dX0_settle_43 rfl (lv_at hl 2 rfl) ?_
          refine zi_get (ci := 0) (v := .int (iI su)) M hE hP 0 rfl rfl zu_X0 1 (by decide) zk_fl_RX0_9 rfl rfl dX0_settle_44 ?_
          refine zi_push M dX0_settle_47 ?_
          refine zi_idiv M dX0_settle_48 (by omega) (by omega) (by omega) (by omega) ?_
          refine lv_istore (lv' := [(4, .int (iI (su / 4))), (3, .int (iI 0)), (2, .int (iI (lightZ h i))), (0, .ref (ad b)), (1, .int (iI i))]) M.1 M.2.1 dX0_settle_49 hl (by decide) rfl (fun ls hl => ?_)
          refine lv_aload_n M.1 M.2.1 dX0_settle_51 rfl (lv_at hl 3 rfl) ?_
          refine zi_get (ci := 0) (v := .ref (ad (b + 3))) M hE hP 0 rfl rfl zu_X0 7 (by decide) zk_fl_RX0_24 rfl rfl dX0_settle_52 ?_
          refine zi_push M dX0_settle_55 ?_
          refine zi_aald (n := 3) (f := fun i => ad (b + (4 + i))) M hE hP 3 rfl (by decide) (by decide) (by decide) dX0_settle_56 ?_
          refine z_re (v := .ref (ad (b + 4))) rfl ?_
          refine lv_iload_n M.1 M.2.1 dX0_settle_57 rfl (lv_at hl 4 rfl) ?_
          refine zi_push M dX0_settle_58 ?_
          refine lv_iload_n M.1 M.2.1 dX0_settle_59 rfl (lv_at hl 2 rfl) ?_
          refine zi_imul M dX0_settle_60 ?_
          refine lv_iload_n M.1 M.2.1 dX0_settle_61 rfl (lv_at hl 1 rfl) ?_
          refine zi_iadd M dX0_settle_62 ?_
          refine zi_iast (ws' := (airW ad b cy h su st sh fl cS cH (zu xD i ((2 * (lightZ h i)) + 0)) xE xF)) M hE hP hD hS 4 (n := 48) (g := xD) rfl (Nat.le_of_ble_eq_true rfl) (by omega) (by omega) rfl dX0_settle_63 (fun H locs hP hD hS => ?_)
          refine lv_aload_n M.1 M.2.1 dX0_settle_64 rfl (lv_at hl 3 rfl) ?_
          refine zi_get (ci := 0) (v := .ref (ad (b + 3))) M hE hP 0 rfl rfl zu_X0 7 (by decide) zk_fl_RX0_24 rfl rfl dX0_settle_65 ?_
          refine zi_push M dX0_settle_68 ?_
          refine zi_aald (n := 3) (f := fun i => ad (b + (4 + i))) M hE hP 3 rfl (by decide) (by decide) (by decide) dX0_settle_69 ?_
          refine z_re (v := .ref (ad (b + 5))) rfl ?_
          refine lv_iload_n M.1 M.2.1 dX0_settle_70 rfl (lv_at hl 4 rfl) ?_
          refine zi_bipush M dX0_settle_71 ⟨by decide, by decide⟩ ?_
          refine zi_bipush M dX0_settle_73 ⟨by decide, by decide⟩ ?_
          refine lv_iload_n M.1 M.2.1 dX0_settle_75 rfl (lv_at hl 2 rfl) ?_
          refine zi_imul M dX0_settle_76 ?_
          refine zi_iadd M dX0_settle_77 ?_
          refine lv_aload_n M.1 M.2.1 dX0_settle_78 rfl (lv_at hl 3 rfl) ?_
          refine zi_get (ci := 0) (v := .ref (ad (b + 1))) M hE hP 0 rfl rfl zu_X0 5 (by decide) zk_fl_RX0_15 rfl rfl dX0_settle_79 ?_
          refine lv_iload_n M.1 M.2.1 dX0_settle_82 rfl (lv_at hl 4 rfl) ?_
          refine zi_iald M hE hP 1 (n := 48) (g := cS) rfl (Nat.le_of_ble_eq_true rfl) (by omega) (by omega) dX0_settle_83 ?_
          have hr_4 := hcS i (by omega) (by omega)
          refine zi_iadd M dX0_settle_84 ?_
          refine zi_iast (ws' := (airW ad b cy h su st sh fl cS cH (zu xD i ((2 * (lightZ h i)) + 0)) (zu xE i ((10 + (6 * (lightZ h i))) + (cS i))) xF)) M hE hP hD hS 5 (n := 48) (g := xE) rfl (Nat.le_of_ble_eq_true rfl) (by omega) (by omega) rfl dX0_settle_85 (fun H locs hP hD hS => ?_)
          refine lv_aload_n M.1 M.2.1 dX0_settle_86 rfl (lv_at hl 3 rfl) ?_
          refine zi_get (ci := 0) (v := .ref (ad (b + 3))) M hE hP 0 rfl rfl zu_X0 7 (by decide) zk_fl_RX0_24 rfl rfl dX0_settle_87 ?_
          refine zi_push M dX0_settle_90 ?_
          refine zi_aald (n := 3) (f := fun i => ad (b + (4 + i))) M hE hP 3 rfl (by decide) (by decide) (by decide) dX0_settle_91 ?_
          refine z_re (v := .ref (ad (b + 6))) rfl ?_
          refine lv_iload_n M.1 M.2.1 dX0_settle_92 rfl (lv_at hl 4 rfl) ?_
          refine zi_push M dX0_settle_93 ?_
          refine zi_bipush M dX0_settle_94 ⟨by decide, by decide⟩ ?_
          refine zi_push M dX0_settle_96 ?_
          refine lv_iload_n M.1 M.2.1 dX0_settle_97 rfl (lv_at hl 2 rfl) ?_
          refine zi_imul M dX0_settle_98 ?_
          refine zi_iadd M dX0_settle_99 ?_
          refine lv_iload M.1 M.2.1 dX0_settle_100 (lv_at hl 0 rfl) ?_
          refine zi_iadd M dX0_settle_102 ?_
          refine lv_aload_n M.1 M.2.1 dX0_settle_103 rfl (lv_at hl 3 rfl) ?_
          refine zi_get (ci := 0) (v := .int (iI st)) M hE hP 0 rfl rfl zu_X0 2 (by decide) zk_fl_RX0_30 rfl rfl dX0_settle_104 ?_
          refine zi_isub M dX0_settle_107 ?_
          refine zi_max M hl.1 zk_ml_RX0_45 (by decide) (Nat.le_of_ble_eq_true rfl) (by decide) (by decide) ⟨by decide, by decide⟩ (by omega) dX0_settle_108 ?_
          refine zi_iast (ws' := (airW ad b cy h su st sh fl cS cH (zu xD i ((2 * (lightZ h i)) + 0)) (zu xE i ((10 + (6 * (lightZ h i))) + (cS i))) (zu xF i (max 5 (((30 + (5 * (lightZ h i))) + (su / 4)) - st))))) M hE hP hD hS 6 (n := 48) (g := xF) rfl (Nat.le_of_ble_eq_true rfl) (by omega) (by omega) rfl dX0_settle_111 (fun H locs hP hD hS => ?_)
          refine zi_iinc (lv' := [(1, .int (iI (i + 1))), (4, .int (iI (su / 4))), (3, .int (iI 0)), (2, .int (iI (lightZ h i))), (0, .ref (ad b))]) M dX0_settle_112 hl 4 rfl (by decide) rfl (fun ls hl => ?_)
          refine zi_goto (tgt := 2) M dX0_settle_115 (by decide) ?_
          exact ih_2 (i + 1) (zu xD i ((2 * (lightZ h i)) + 0)) (zu xE i ((10 + (6 * (lightZ h i))) + (cS i))) (zu xF i (max 5 (((30 + (5 * (lightZ h i))) + (su / 4)) - st))) (by omega) (zu_step hd1 (by unfold dnD; split <;> omega)) (zu_step hd2 (by unfold dnE; omega)) (zu_step hd3 (by unfold dnF; split <;> omega)) (by omega) _ _ hP hD hS ls (lv_sub hl [4, 0] rfl)
        ·
          refine lv_aload_n M.1 M.2.1 dX0_settle_21 rfl (lv_at hl 1 rfl) ?_
          refine zi_get (ci := 0) (v := .int (iI fl)) M hE hP 0 rfl rfl zu_X0 4 (by decide) zk_fl_RX0_36 rfl rfl dX0_settle_22 ?_
          refine zi_goto (tgt := 29) M dX0_settle_25 (by decide) ?_
          refine lv_istore_n (lv' := [(3, .int (iI fl)), (2, .int (iI (lightZ h i))), (0, .ref (ad b)), (1, .int (iI i))]) M.1 M.2.1 dX0_settle_29 rfl hl (by decide) rfl (fun ls hl => ?_)
          refine lv_iload_n M.1 M.2.1 dX0_settle_30 rfl (lv_at hl 1 rfl) ?_
          refine zi_if_le (tgt := 43) M dX0_settle_31 (by decide) (by omega) (fun q => absurd q c_3) (fun _ => ?_)
          refine lv_aload_n M.1 M.2.1 dX0_settle_34 rfl (lv_at hl 2 rfl) ?_
          refine zi_get (ci := 0) (v := .int (iI su)) M hE hP 0 rfl rfl zu_X0 1 (by decide) zk_fl_RX0_9 rfl rfl dX0_settle_35 ?_
          refine zi_push M dX0_settle_38 ?_
          refine zi_idiv M dX0_settle_39 (by omega) (by omega) (by omega) (by omega) ?_
          refine zi_goto (tgt := 49) M dX0_settle_40 (by decide) ?_
          refine lv_istore (lv' := [(4, .int (iI (su / 2))), (3, .int (iI fl)), (2, .int (iI (lightZ h i))), (0, .ref (ad b)), (1, .int (iI i))]) M.1 M.2.1 dX0_settle_49 hl (by decide) rfl (fun ls hl => ?_)
          refine lv_aload_n M.1 M.2.1 dX0_settle_51 rfl (lv_at hl 3 rfl) ?_
          refine zi_get (ci := 0) (v := .ref (ad (b + 3))) M hE hP 0 rfl rfl zu_X0 7 (by decide) zk_fl_RX0_24 rfl rfl dX0_settle_52 ?_
          refine zi_push M dX0_settle_55 ?_
          refine zi_aald (n := 3) (f := fun i => ad (b + (4 + i))) M hE hP 3 rfl (by decide) (by decide) (by decide) dX0_settle_56 ?_
          refine z_re (v := .ref (ad (b + 4))) rfl ?_
          refine lv_iload_n M.1 M.2.1 dX0_settle_57 rfl (lv_at hl 4 rfl) ?_
          refine zi_push M dX0_settle_58 ?_
          refine lv_iload_n M.1 M.2.1 dX0_settle_59 rfl (lv_at hl 2 rfl) ?_
          refine zi_imul M dX0_settle_60 ?_
          refine lv_iload_n M.1 M.2.1 dX0_settle_61 rfl (lv_at hl 1 rfl) ?_
          refine zi_iadd M dX0_settle_62 ?_
          refine zi_iast (ws' := (airW ad b cy h su st sh fl cS cH (zu xD i ((2 * (lightZ h i)) + fl)) xE xF)) M hE hP hD hS 4 (n := 48) (g := xD) rfl (Nat.le_of_ble_eq_true rfl) (by omega) (by omega) rfl dX0_settle_63 (fun H locs hP hD hS => ?_)
          refine lv_aload_n M.1 M.2.1 dX0_settle_64 rfl (lv_at hl 3 rfl) ?_
          refine zi_get (ci := 0) (v := .ref (ad (b + 3))) M hE hP 0 rfl rfl zu_X0 7 (by decide) zk_fl_RX0_24 rfl rfl dX0_settle_65 ?_
          refine zi_push M dX0_settle_68 ?_
          refine zi_aald (n := 3) (f := fun i => ad (b + (4 + i))) M hE hP 3 rfl (by decide) (by decide) (by decide) dX0_settle_69 ?_
          refine z_re (v := .ref (ad (b + 5))) rfl ?_
          refine lv_iload_n M.1 M.2.1 dX0_settle_70 rfl (lv_at hl 4 rfl) ?_
          refine zi_bipush M dX0_settle_71 ⟨by decide, by decide⟩ ?_
          refine zi_bipush M dX0_settle_73 ⟨by decide, by decide⟩ ?_
          refine lv_iload_n M.1 M.2.1 dX0_settle_75 rfl (lv_at hl 2 rfl) ?_
          refine zi_imul M dX0_settle_76 ?_
          refine zi_iadd M dX0_settle_77 ?_
          refine lv_aload_n M.1 M.2.1 dX0_settle_78 rfl (lv_at hl 3 rfl) ?_
          refine zi_get (ci := 0) (v := .ref (ad (b + 1))) M hE hP 0 rfl rfl zu_X0 5 (by decide) zk_fl_RX0_15 rfl rfl dX0_settle_79 ?_
          refine lv_iload_n M.1 M.2.1 dX0_settle_82 rfl (lv_at hl 4 rfl) ?_
          refine zi_iald M hE hP 1 (n := 48) (g := cS) rfl (Nat.le_of_ble_eq_true rfl) (by omega) (by omega) dX0_settle_83 ?_
          have hr_5 := hcS i (by omega) (by omega)
          refine zi_iadd M dX0_settle_84 ?_
          refine zi_iast (ws' := (airW ad b cy h su st sh fl cS cH (zu xD i ((2 * (lightZ h i)) + fl)) (zu xE i ((10 + (6 * (lightZ h i))) + (cS i))) xF)) M hE hP hD hS 5 (n := 48) (g := xE) rfl (Nat.le_of_ble_eq_true rfl) (by omega) (by omega) rfl dX0_settle_85 (fun H locs hP hD hS => ?_)
          refine lv_aload_n M.1 M.2.1 dX0_settle_86 rfl (lv_at hl 3 rfl) ?_
          refine zi_get (ci := 0) (v := .ref (ad (b + 3))) M hE hP 0 rfl rfl zu_X0 7 (by decide) zk_fl_RX0_24 rfl rfl dX0_settle_87 ?_
          refine zi_push M dX0_settle_90 ?_
          refine zi_aald (n := 3) (f := fun i => ad (b + (4 + i))) M hE hP 3 rfl (by decide) (by decide) (by decide) dX0_settle_91 ?_
          refine z_re (v := .ref (ad (b + 6))) rfl ?_
          refine lv_iload_n M.1 M.2.1 dX0_settle_92 rfl (lv_at hl 4 rfl) ?_
          refine zi_push M dX0_settle_93 ?_
          refine zi_bipush M dX0_settle_94 ⟨by decide, by decide⟩ ?_
          refine zi_push M dX0_settle_96 ?_
          refine lv_iload_n M.1 M.2.1 dX0_settle_97 rfl (lv_at hl 2 rfl) ?_
          refine zi_imul M dX0_settle_98 ?_
          refine zi_iadd M dX0_settle_99 ?_
          refine lv_iload M.1 M.2.1 dX0_settle_100 (lv_at hl 0 rfl) ?_
          refine zi_iadd M dX0_settle_102 ?_
          refine lv_aload_n M.1 M.2.1 dX0_settle_103 rfl (lv_at hl 3 rfl) ?_
          refine zi_get (ci := 0) (v := .int (iI st)) M hE hP 0 rfl rfl zu_X0 2 (by decide) zk_fl_RX0_30 rfl rfl dX0_settle_104 ?_
          refine zi_isub M dX0_settle_107 ?_
          refine zi_max M hl.1 zk_ml_RX0_45 (by decide) (Nat.le_of_ble_eq_true rfl) (by decide) (by decide) ⟨by decide, by decide⟩ (by omega) dX0_settle_108 ?_
          refine zi_iast (ws' := (airW ad b cy h su st sh fl cS cH (zu xD i ((2 * (lightZ h i)) + fl)) (zu xE i ((10 + (6 * (lightZ h i))) + (cS i))) (zu xF i (max 5 (((30 + (5 * (lightZ h i))) + (su / 2)) - st))))) M hE hP hD hS 6 (n := 48) (g := xF) rfl (Nat.le_of_ble_eq_true rfl) (by omega) (by omega) rfl dX0_settle_111 (fun H locs hP hD hS => ?_)
          refine zi_iinc (lv' := [(1, .int (iI (i + 1))), (4, .int (iI (su / 2))), (3, .int (iI fl)), (2, .int (iI (lightZ h i))), (0, .ref (ad b))]) M dX0_settle_112 hl 4 rfl (by decide) rfl (fun ls hl => ?_)
          refine zi_goto (tgt := 2) M dX0_settle_115 (by decide) ?_
          exact ih_2 (i + 1) (zu xD i ((2 * (lightZ h i)) + fl)) (zu xE i ((10 + (6 * (lightZ h i))) + (cS i))) (zu xF i (max 5 (((30 + (5 * (lightZ h i))) + (su / 2)) - st))) (by omega) (zu_step hd1 (by unfold dnD; split <;> omega)) (zu_step hd2 (by unfold dnE; omega)) (zu_step hd3 (by unfold dnF; split <;> omega)) (by omega) _ _ hP hD hS ls (lv_sub hl [4, 0] rfl)
  exact L_2 (Int.toNat (48 - 0) + 1) 0 dD dE dF (by omega) (fun j h0 h1 => absurd h1 (by omega)) (fun j h0 h1 => absurd h1 (by omega)) (fun j h0 h1 => absurd h1 (by omega)) (by omega) _ _ hP hD hS ls (lv_sub hl [1, 0] rfl)

set_option maxRecDepth 100000 in
set_option maxHeartbeats 4000000 in
theorem c_X0_shineFrom (l : Launch) (D : va_G) (cy : Nat → ClassId) (z0 : Nat) (ad : Nat → Nat) (b : Nat) (h su st sh fl : Int) (cS cH dD dE dF : Int → Int) (v : Int) (hh : 0 ≤ h ∧ h ≤ 5000) (hst0 : 0 ≤ st ∧ st ≤ 60) (hfl : 0 ≤ fl ∧ fl ≤ 80) (hcS : zrg 48 0 100 cS) (hv : 0 ≤ v ∧ v ≤ 100) : Met l yX0_shineFrom [.code yX0_shineFrom cX0_shineFrom 2 none] (zRm 3 0 0 67) (zPc [.ref (ad b), .int (iI v)] D cy z0 (zWl D z0 (airW ad b cy h su st sh fl cS cH dD dE dF))) (zQ0 D (airW ad b cy h su st sh fl cS cH dD dE dF) (fun (_ : Unit) => True) (fun (_ : Unit) => (airW ad b cy h v st sh fl cS cH (dnD h fl) (dnE h cS) (dnF h v st)))) 0 0 (zIn (airW ad b cy h su st sh fl cS cH dD dE dF)) := by
  refine z_of (by decide) (Nat.le_of_ble_eq_true rfl) ?_
  intro p e s m args below meth c M hr hlk hini hargs hP0 hE ls hl
  have hP : va_P D vwCl (airW ad b cy h su st sh fl cS cH dD dE dF) s.heap := hP0.1
  have hD : va_D (zIn (airW ad b cy h su st sh fl cS cH dD dE dF)) (airW ad b cy h su st sh fl cS cH dD dE dF) := hP0.self
  have hAz := hP0.A
  have hS : va_S (zIn (airW ad b cy h su st sh fl cS cH dD dE dF)) s.heap s.heap [] := va_S.rf
  have hl : lv_has ls 2 [(0, .ref (ad b)), (1, .int (iI v))] := hl
  refine lv_aload_n M.1 M.2.1 dX0_shineFrom_0 rfl (lv_at hl 0 rfl) ?_
  refine lv_iload_n M.1 M.2.1 dX0_shineFrom_1 rfl (lv_at hl 1 rfl) ?_
  refine zi_put (ci := 0) (ws' := (airW ad b cy h v st sh fl cS cH dD dE dF)) M hE hP hD hS 0 rfl rfl zu_X0 1 (by decide) zk_fl_RX0_9 rfl rfl tyX0_ok nmX0 rfl rfl (Nat.le_of_ble_eq_true rfl) rfl dX0_shineFrom_2 (fun H locs hP hD hS => ?_)
  refine lv_aload_n M.1 M.2.1 dX0_shineFrom_5 rfl (lv_at hl 0 rfl) ?_
  refine z_cV (z_runV (As := []) (rest := []) M (c_X0_settle l D cy z0 ad b h v st sh fl cS cH dD dE dF (by omega) (by omega) (by omega) (by omega) (by omega)) hE hS hAz (z_cut hP hD hAz [0, 1, 2, 3, 4, 5, 6] rfl (by decide +kernel)) (zRc.of (ci := 0) (q0 := 0) hE hP rfl rfl) zk_cd_X0_settle zk_in_RX0 zk_im_X0_settle zk_se_X0_settle zk_ml_RX0_27 rfl rfl zd_X0_settle ⟨by decide, by decide⟩ rfl hl.1 rfl (Nat.le_of_ble_eq_true rfl) dX0_shineFrom_6 ⟨by decide, by decide⟩) hP hD hS [0, 1, 2, 3, 4, 5, 6] rfl (fun _ => rfl) (fun u_1 H locs hp_1 hP hD hS => ?_)
  have hP : va_P D vwCl (airW ad b cy h v st sh fl cS cH (dnD h fl) (dnE h cS) (dnF h v st)) H := hP
  have hD : va_D (zIn (airW ad b cy h su st sh fl cS cH dD dE dF)) (airW ad b cy h v st sh fl cS cH (dnD h fl) (dnE h cS) (dnF h v st)) := hD
  have hP : va_P D vwCl (airW ad b cy h v st sh fl cS cH (dnD h fl) (dnE h cS) (dnF h v st)) H := hP
  exact zw_v M hr hlk () hP hS (by trivial) (by decide) (by decide) dX0_shineFrom_9

set_option maxRecDepth 100000 in
set_option maxHeartbeats 4000000 in
theorem c_X0_beginStorm (l : Launch) (D : va_G) (cy : Nat → ClassId) (z0 : Nat) (ad : Nat → Nat) (b : Nat) (h su st sh fl : Int) (cS cH dD dE dF : Int → Int) (v : Int) (k : Int) (hh : 0 ≤ h ∧ h ≤ 5000) (hsu : 0 ≤ su ∧ su ≤ 100) (hfl : 0 ≤ fl ∧ fl ≤ 80) (hcS : zrg 48 0 100 cS) (hv : 1 ≤ v ∧ v ≤ 60) (hk : 1 ≤ k ∧ k ≤ 72) : Met l yX0_beginStorm [.code yX0_beginStorm cX0_beginStorm 3 none] (zRm 3 0 0 67) (zPc [.ref (ad b), .int (iI v), .int (iI k)] D cy z0 (zWl D z0 (airW ad b cy h su st sh fl cS cH dD dE dF))) (zQ0 D (airW ad b cy h su st sh fl cS cH dD dE dF) (fun (_ : Unit) => True) (fun (_ : Unit) => (airW ad b cy h su v k fl cS cH (dnD h fl) (dnE h cS) (dnF h su v)))) 0 0 (zIn (airW ad b cy h su st sh fl cS cH dD dE dF)) := by
  refine z_of (by decide) (Nat.le_of_ble_eq_true rfl) ?_
  intro p e s m args below meth c M hr hlk hini hargs hP0 hE ls hl
  have hP : va_P D vwCl (airW ad b cy h su st sh fl cS cH dD dE dF) s.heap := hP0.1
  have hD : va_D (zIn (airW ad b cy h su st sh fl cS cH dD dE dF)) (airW ad b cy h su st sh fl cS cH dD dE dF) := hP0.self
  have hAz := hP0.A
  have hS : va_S (zIn (airW ad b cy h su st sh fl cS cH dD dE dF)) s.heap s.heap [] := va_S.rf
  have hl : lv_has ls 3 [(0, .ref (ad b)), (1, .int (iI v)), (2, .int (iI k))] := hl
  refine lv_aload_n M.1 M.2.1 dX0_beginStorm_0 rfl (lv_at hl 0 rfl) ?_
  refine lv_iload_n M.1 M.2.1 dX0_beginStorm_1 rfl (lv_at hl 1 rfl) ?_
  refine zi_put (ci := 0) (ws' := (airW ad b cy h su v sh fl cS cH dD dE dF)) M hE hP hD hS 0 rfl rfl zu_X0 2 (by decide) zk_fl_RX0_30 rfl rfl tyX0_ok nmX0 rfl rfl (Nat.le_of_ble_eq_true rfl) rfl dX0_beginStorm_2 (fun H locs hP hD hS => ?_)
  refine lv_aload_n M.1 M.2.1 dX0_beginStorm_5 rfl (lv_at hl 0 rfl) ?_
  refine lv_iload_n M.1 M.2.1 dX0_beginStorm_6 rfl (lv_at hl 2 rfl) ?_
  refine zi_put (ci := 0) (ws' := (airW ad b cy h su v k fl cS cH dD dE dF)) M hE hP hD hS 0 rfl rfl zu_X0 3 (by decide) zk_fl_RX0_33 rfl rfl tyX0_ok nmX0 rfl rfl (Nat.le_of_ble_eq_true rfl) rfl dX0_beginStorm_7 (fun H locs hP hD hS => ?_)
  refine lv_aload_n M.1 M.2.1 dX0_beginStorm_10 rfl (lv_at hl 0 rfl) ?_
  refine z_cV (z_runV (As := []) (rest := []) M (c_X0_settle l D cy z0 ad b h su v k fl cS cH dD dE dF (by omega) (by omega) (by omega) (by omega) (by omega)) hE hS hAz (z_cut hP hD hAz [0, 1, 2, 3, 4, 5, 6] rfl (by decide +kernel)) (zRc.of (ci := 0) (q0 := 0) hE hP rfl rfl) zk_cd_X0_settle zk_in_RX0 zk_im_X0_settle zk_se_X0_settle zk_ml_RX0_27 rfl rfl zd_X0_settle ⟨by decide, by decide⟩ rfl hl.1 rfl (Nat.le_of_ble_eq_true rfl) dX0_beginStorm_11 ⟨by decide, by decide⟩) hP hD hS [0, 1, 2, 3, 4, 5, 6] rfl (fun _ => rfl) (fun u_1 H locs hp_1 hP hD hS => ?_)
  have hP : va_P D vwCl (airW ad b cy h su v k fl cS cH (dnD h fl) (dnE h cS) (dnF h su v)) H := hP
  have hD : va_D (zIn (airW ad b cy h su st sh fl cS cH dD dE dF)) (airW ad b cy h su v k fl cS cH (dnD h fl) (dnE h cS) (dnF h su v)) := hD
  have hP : va_P D vwCl (airW ad b cy h su v k fl cS cH (dnD h fl) (dnE h cS) (dnF h su v)) H := hP
  exact zw_v M hr hlk () hP hS (by trivial) (by decide) (by decide) dX0_beginStorm_14

set_option maxRecDepth 100000 in
set_option maxHeartbeats 4000000 in
theorem c_X0_burst (l : Launch) (D : va_G) (cy : Nat → ClassId) (z0 : Nat) (ad : Nat → Nat) (b : Nat) (h su st sh fl : Int) (cS cH dD dE dF : Int → Int) (v : Int) (hh : 0 ≤ h ∧ h ≤ 5000) (hsu : 0 ≤ su ∧ su ≤ 100) (hst0 : 0 ≤ st ∧ st ≤ 60) (hcS : zrg 48 0 100 cS) (hv : 1 ≤ v ∧ v ≤ 80) : Met l yX0_burst [.code yX0_burst cX0_burst 2 none] (zRm 3 0 0 67) (zPc [.ref (ad b), .int (iI v)] D cy z0 (zWl D z0 (airW ad b cy h su st sh fl cS cH dD dE dF))) (zQ0 D (airW ad b cy h su st sh fl cS cH dD dE dF) (fun (_ : Unit) => True) (fun (_ : Unit) => (airW ad b cy h su st sh v cS cH (dnD h v) (dnE h cS) (dnF h su st)))) 0 0 (zIn (airW ad b cy h su st sh fl cS cH dD dE dF)) := by
  refine z_of (by decide) (Nat.le_of_ble_eq_true rfl) ?_
  intro p e s m args below meth c M hr hlk hini hargs hP0 hE ls hl
  have hP : va_P D vwCl (airW ad b cy h su st sh fl cS cH dD dE dF) s.heap := hP0.1
  have hD : va_D (zIn (airW ad b cy h su st sh fl cS cH dD dE dF)) (airW ad b cy h su st sh fl cS cH dD dE dF) := hP0.self
  have hAz := hP0.A
  have hS : va_S (zIn (airW ad b cy h su st sh fl cS cH dD dE dF)) s.heap s.heap [] := va_S.rf
  have hl : lv_has ls 2 [(0, .ref (ad b)), (1, .int (iI v))] := hl
  refine lv_aload_n M.1 M.2.1 dX0_burst_0 rfl (lv_at hl 0 rfl) ?_
  refine lv_iload_n M.1 M.2.1 dX0_burst_1 rfl (lv_at hl 1 rfl) ?_
  refine zi_put (ci := 0) (ws' := (airW ad b cy h su st sh v cS cH dD dE dF)) M hE hP hD hS 0 rfl rfl zu_X0 4 (by decide) zk_fl_RX0_36 rfl rfl tyX0_ok nmX0 rfl rfl (Nat.le_of_ble_eq_true rfl) rfl dX0_burst_2 (fun H locs hP hD hS => ?_)
  refine lv_aload_n M.1 M.2.1 dX0_burst_5 rfl (lv_at hl 0 rfl) ?_
  refine z_cV (z_runV (As := []) (rest := []) M (c_X0_settle l D cy z0 ad b h su st sh v cS cH dD dE dF (by omega) (by omega) (by omega) (by omega) (by omega)) hE hS hAz (z_cut hP hD hAz [0, 1, 2, 3, 4, 5, 6] rfl (by decide +kernel)) (zRc.of (ci := 0) (q0 := 0) hE hP rfl rfl) zk_cd_X0_settle zk_in_RX0 zk_im_X0_settle zk_se_X0_settle zk_ml_RX0_27 rfl rfl zd_X0_settle ⟨by decide, by decide⟩ rfl hl.1 rfl (Nat.le_of_ble_eq_true rfl) dX0_burst_6 ⟨by decide, by decide⟩) hP hD hS [0, 1, 2, 3, 4, 5, 6] rfl (fun _ => rfl) (fun u_1 H locs hp_1 hP hD hS => ?_)
  have hP : va_P D vwCl (airW ad b cy h su st sh v cS cH (dnD h v) (dnE h cS) (dnF h su st)) H := hP
  have hD : va_D (zIn (airW ad b cy h su st sh fl cS cH dD dE dF)) (airW ad b cy h su st sh v cS cH (dnD h v) (dnE h cS) (dnF h su st)) := hD
  have hP : va_P D vwCl (airW ad b cy h su st sh v cS cH (dnD h v) (dnE h cS) (dnF h su st)) H := hP
  exact zw_v M hr hlk () hP hS (by trivial) (by decide) (by decide) dX0_burst_9

set_option maxRecDepth 100000 in
set_option maxHeartbeats 4000000 in
theorem c_X0_coverPlace (l : Launch) (D : va_G) (cy : Nat → ClassId) (z0 : Nat) (ad : Nat → Nat) (b : Nat) (h su st sh fl : Int) (cS cH dD dE dF : Int → Int) (q : Int) (v : Int) (k : Int) (hh : 0 ≤ h ∧ h ≤ 5000) (hsu : 0 ≤ su ∧ su ≤ 100) (hst0 : 0 ≤ st ∧ st ≤ 60) (hfl : 0 ≤ fl ∧ fl ≤ 80) (hcS : zrg 48 0 100 cS) (hq : 0 ≤ q ∧ q < 48) (hv : 1 ≤ v ∧ v ≤ 100) (hk : 1 ≤ k ∧ k ≤ 24) : Met l yX0_coverPlace [.code yX0_coverPlace cX0_coverPlace 4 none] (zRm 3 0 0 67) (zPc [.ref (ad b), .int (iI q), .int (iI v), .int (iI k)] D cy z0 (zWl D z0 (airW ad b cy h su st sh fl cS cH dD dE dF))) (zQ0 D (airW ad b cy h su st sh fl cS cH dD dE dF) (fun (_ : Unit) => True) (fun (_ : Unit) => (airW ad b cy h su st sh fl (zu cS q v) (zu cH q k) (dnD h fl) (dnE h (zu cS q v)) (dnF h su st)))) 0 0 (zIn (airW ad b cy h su st sh fl cS cH dD dE dF)) := by
  refine z_of (by decide) (Nat.le_of_ble_eq_true rfl) ?_
  intro p e s m args below meth c M hr hlk hini hargs hP0 hE ls hl
  have hP : va_P D vwCl (airW ad b cy h su st sh fl cS cH dD dE dF) s.heap := hP0.1
  have hD : va_D (zIn (airW ad b cy h su st sh fl cS cH dD dE dF)) (airW ad b cy h su st sh fl cS cH dD dE dF) := hP0.self
  have hAz := hP0.A
  have hS : va_S (zIn (airW ad b cy h su st sh fl cS cH dD dE dF)) s.heap s.heap [] := va_S.rf
  have hl : lv_has ls 4 [(0, .ref (ad b)), (1, .int (iI q)), (2, .int (iI v)), (3, .int (iI k))] := hl
  have hcS2 : zrg 48 0 100 (zu cS q v) := fun j h0 h1 => by unfold zu; split; exact ⟨by omega, by omega⟩; exact hcS j h0 h1
  refine lv_aload_n M.1 M.2.1 dX0_coverPlace_0 rfl (lv_at hl 0 rfl) ?_
  refine zi_get (ci := 0) (v := .ref (ad (b + 1))) M hE hP 0 rfl rfl zu_X0 5 (by decide) zk_fl_RX0_15 rfl rfl dX0_coverPlace_1 ?_
  refine lv_iload_n M.1 M.2.1 dX0_coverPlace_4 rfl (lv_at hl 1 rfl) ?_
  refine lv_iload_n M.1 M.2.1 dX0_coverPlace_5 rfl (lv_at hl 2 rfl) ?_
  refine zi_iast (ws' := (airW ad b cy h su st sh fl (zu cS q v) cH dD dE dF)) M hE hP hD hS 1 (n := 48) (g := cS) rfl (Nat.le_of_ble_eq_true rfl) (by omega) (by omega) rfl dX0_coverPlace_6 (fun H locs hP hD hS => ?_)
  refine lv_aload_n M.1 M.2.1 dX0_coverPlace_7 rfl (lv_at hl 0 rfl) ?_
  refine zi_get (ci := 0) (v := .ref (ad (b + 2))) M hE hP 0 rfl rfl zu_X0 6 (by decide) zk_fl_RX0_19 rfl rfl dX0_coverPlace_8 ?_
  refine lv_iload_n M.1 M.2.1 dX0_coverPlace_11 rfl (lv_at hl 1 rfl) ?_
  refine lv_iload_n M.1 M.2.1 dX0_coverPlace_12 rfl (lv_at hl 3 rfl) ?_
  refine zi_iast (ws' := (airW ad b cy h su st sh fl (zu cS q v) (zu cH q k) dD dE dF)) M hE hP hD hS 2 (n := 48) (g := cH) rfl (Nat.le_of_ble_eq_true rfl) (by omega) (by omega) rfl dX0_coverPlace_13 (fun H locs hP hD hS => ?_)
  refine lv_aload_n M.1 M.2.1 dX0_coverPlace_14 rfl (lv_at hl 0 rfl) ?_
  refine z_cV (z_runV (As := []) (rest := []) M (c_X0_settle l D cy z0 ad b h su st sh fl (zu cS q v) (zu cH q k) dD dE dF (by omega) (by omega) (by omega) (by omega) hcS2) hE hS hAz (z_cut hP hD hAz [0, 1, 2, 3, 4, 5, 6] rfl (by decide +kernel)) (zRc.of (ci := 0) (q0 := 0) hE hP rfl rfl) zk_cd_X0_settle zk_in_RX0 zk_im_X0_settle zk_se_X0_settle zk_ml_RX0_27 rfl rfl zd_X0_settle ⟨by decide, by decide⟩ rfl hl.1 rfl (Nat.le_of_ble_eq_true rfl) dX0_coverPlace_15 ⟨by decide, by decide⟩) hP hD hS [0, 1, 2, 3, 4, 5, 6] rfl (fun _ => rfl) (fun u_1 H locs hp_1 hP hD hS => ?_)
  have hP : va_P D vwCl (airW ad b cy h su st sh fl (zu cS q v) (zu cH q k) (dnD h fl) (dnE h (zu cS q v)) (dnF h su st)) H := hP
  have hD : va_D (zIn (airW ad b cy h su st sh fl cS cH dD dE dF)) (airW ad b cy h su st sh fl (zu cS q v) (zu cH q k) (dnD h fl) (dnE h (zu cS q v)) (dnF h su st)) := hD
  have hP : va_P D vwCl (airW ad b cy h su st sh fl (zu cS q v) (zu cH q k) (dnD h fl) (dnE h (zu cS q v)) (dnF h su st)) H := hP
  exact zw_v M hr hlk () hP hS (by trivial) (by decide) (by decide) dX0_coverPlace_18

set_option maxRecDepth 100000 in
set_option maxHeartbeats 4000000 in
theorem c_X0_letOneGoBy (l : Launch) (D : va_G) (cy : Nat → ClassId) (z0 : Nat) (ad : Nat → Nat) (b : Nat) (h su st sh fl : Int) (cS cH dD dE dF : Int → Int) (hh : 0 ≤ h ∧ h < 5000) (hst0 : 0 ≤ st ∧ st ≤ 60) (hfl : 0 ≤ fl ∧ fl ≤ 80) (hsh : 0 ≤ sh ∧ sh ≤ 72) (hcS : zrg 48 0 100 cS) (hcH : zrg 48 0 24 cH) : Met l yX0_letOneGoBy [.code yX0_letOneGoBy cX0_letOneGoBy 2 none] (zRm 1 0 0 21) (zPc [.ref (ad b)] D cy z0 (zWl D z0 (airW ad b cy h su st sh fl cS cH dD dE dF))) (zQ0 D (airW ad b cy h su st sh fl cS cH dD dE dF) (fun (_ : Unit) => True) (fun (_ : Unit) => (airW ad b cy (h + 1) su (stK 1 st sh) (max 0 (sh - 1)) (fl / 2) (cSK 1 cS cH) (cHK 1 cH) dD dE dF))) 0 0 (zIn (airW ad b cy h su st sh fl cS cH dD dE dF)) := by
  refine z_of (by decide) (Nat.le_of_ble_eq_true rfl) ?_
  intro p e s m args below meth c M hr hlk hini hargs hP0 hE ls hl
  have hP : va_P D vwCl (airW ad b cy h su st sh fl cS cH dD dE dF) s.heap := hP0.1
  have hD : va_D (zIn (airW ad b cy h su st sh fl cS cH dD dE dF)) (airW ad b cy h su st sh fl cS cH dD dE dF) := hP0.self
  have hAz := hP0.A
  have hS : va_S (zIn (airW ad b cy h su st sh fl cS cH dD dE dF)) s.heap s.heap [] := va_S.rf
  have hl : lv_has ls 2 [(0, .ref (ad b))] := hl
  refine lv_aload_n M.1 M.2.1 dX0_letOneGoBy_0 rfl (lv_at hl 0 rfl) ?_
  refine lv_dup M.1 M.2.1 dX0_letOneGoBy_1 rfl ?_
  refine zi_get (ci := 0) (v := .int (iI h)) M hE hP 0 rfl rfl zu_X0 0 (by decide) zk_fl_RX0_42 rfl rfl dX0_letOneGoBy_2 ?_
  refine zi_push M dX0_letOneGoBy_5 ?_
  refine zi_iadd M dX0_letOneGoBy_6 ?_
  refine zi_put (ci := 0) (ws' := (airW ad b cy (h + 1) su st sh fl cS cH dD dE dF)) M hE hP hD hS 0 rfl rfl zu_X0 0 (by decide) zk_fl_RX0_42 rfl rfl tyX0_ok nmX0 rfl rfl (Nat.le_of_ble_eq_true rfl) rfl dX0_letOneGoBy_7 (fun H locs hP hD hS => ?_)
  refine lv_aload_n M.1 M.2.1 dX0_letOneGoBy_10 rfl (lv_at hl 0 rfl) ?_
  refine lv_dup M.1 M.2.1 dX0_letOneGoBy_11 rfl ?_
  refine zi_get (ci := 0) (v := .int (iI fl)) M hE hP 0 rfl rfl zu_X0 4 (by decide) zk_fl_RX0_36 rfl rfl dX0_letOneGoBy_12 ?_
  refine zi_push M dX0_letOneGoBy_15 ?_
  refine zi_idiv M dX0_letOneGoBy_16 (by omega) (by omega) (by omega) (by omega) ?_
  refine zi_put (ci := 0) (ws' := (airW ad b cy (h + 1) su st sh (fl / 2) cS cH dD dE dF)) M hE hP hD hS 0 rfl rfl zu_X0 4 (by decide) zk_fl_RX0_36 rfl rfl tyX0_ok nmX0 rfl rfl (Nat.le_of_ble_eq_true rfl) rfl dX0_letOneGoBy_17 (fun H locs hP hD hS => ?_)
  refine lv_aload_n M.1 M.2.1 dX0_letOneGoBy_20 rfl (lv_at hl 0 rfl) ?_
  refine zi_push M dX0_letOneGoBy_21 ?_
  refine lv_aload_n M.1 M.2.1 dX0_letOneGoBy_22 rfl (lv_at hl 0 rfl) ?_
  refine zi_get (ci := 0) (v := .int (iI sh)) M hE hP 0 rfl rfl zu_X0 3 (by decide) zk_fl_RX0_33 rfl rfl dX0_letOneGoBy_23 ?_
  refine zi_push M dX0_letOneGoBy_26 ?_
  refine zi_isub M dX0_letOneGoBy_27 ?_
  refine zi_max M hl.1 zk_ml_RX0_45 (by decide) (Nat.le_of_ble_eq_true rfl) (by decide) (by decide) ⟨by decide, by decide⟩ (by omega) dX0_letOneGoBy_28 ?_
  refine zi_put (ci := 0) (ws' := (airW ad b cy (h + 1) su st (max 0 (sh - 1)) (fl / 2) cS cH dD dE dF)) M hE hP hD hS 0 rfl rfl zu_X0 3 (by decide) zk_fl_RX0_33 rfl rfl tyX0_ok nmX0 rfl rfl (Nat.le_of_ble_eq_true rfl) rfl dX0_letOneGoBy_31 (fun H locs hP hD hS => ?_)
  refine lv_aload_n M.1 M.2.1 dX0_letOneGoBy_34 rfl (lv_at hl 0 rfl) ?_
  refine zi_get (ci := 0) (v := .int (iI (max 0 (sh - 1)))) M hE hP 0 rfl rfl zu_X0 3 (by decide) zk_fl_RX0_33 rfl rfl dX0_letOneGoBy_35 ?_
  refine zi_if_ne (tgt := 46) M dX0_letOneGoBy_38 (by decide) (by omega) (fun c_1 => ?_) (fun c_1 => ?_)
  ·
    refine zi_push M dX0_letOneGoBy_46 ?_
    refine lv_istore_n (lv' := [(1, .int (iI 0)), (0, .ref (ad b))]) M.1 M.2.1 dX0_letOneGoBy_47 rfl hl (by decide) rfl (fun ls hl => ?_)
    have L_48 : ∀ (k_48 : Nat) (i : Int) (y : Int) (xS : Int → Int) (xH : Int → Int) (hi : 0 ≤ i ∧ i ≤ 48) (hy : y = stK 1 st sh) (hd1 : ∀ j : Int, 0 ≤ j → j < i → xS j = cSK 1 cS cH j) (hd2 : ∀ j : Int, 0 ≤ j → j < i → xH j = cHK 1 cH j) (hd3 : ∀ j : Int, i ≤ j → j < 48 → xS j = cS j) (hd4 : ∀ j : Int, i ≤ j → j < 48 → xH j = cH j) (hm : 48 - i < (k_48 : Int)) (H : Heap) (locs : List Loc) (hP : va_P D vwCl (airW ad b cy (h + 1) su y (max 0 (sh - 1)) (fl / 2) xS xH dD dE dF) H) (hD : va_D (zIn (airW ad b cy h su st sh fl cS cH dD dE dF)) (airW ad b cy (h + 1) su y (max 0 (sh - 1)) (fl / 2) xS xH dD dE dF)) (hS : va_S (zIn (airW ad b cy h su st sh fl cS cH dD dE dF)) s.heap H locs) (ls : Array Slot) (hl : lv_has ls 2 [(0, .ref (ad b)), (1, .int (iI i))]), W p l e (zRm 1 0 0 21) s m args below meth c H locs 0 0 (MQ below (zQ0 D (airW ad b cy h su st sh fl cS cH dD dE dF) (fun (_ : Unit) => True) (fun (_ : Unit) => (airW ad b cy (h + 1) su (stK 1 st sh) (max 0 (sh - 1)) (fl / 2) (cSK 1 cS cH) (cHK 1 cH) dD dE dF))) args s 0 0 (zIn (airW ad b cy h su st sh fl cS cH dD dE dF))) (F0 m 48 ls []) := by
      intro k_48
      induction k_48 with
      | zero =>
        intro i y xS xH hi hy hd1 hd2 hd3 hd4 hm H locs hP hD hS ls hl
        exact absurd hm (by omega)
      | succ k_48 ih_48 =>
        intro i y xS xH hi hy hd1 hd2 hd3 hd4 hm H locs hP hD hS ls hl
        refine lv_iload_n M.1 M.2.1 dX0_letOneGoBy_48 rfl (lv_at hl 1 rfl) ?_
        refine zi_bipush M dX0_letOneGoBy_49 ⟨by decide, by decide⟩ ?_
        refine zi_icmp_ge (tgt := 94) M dX0_letOneGoBy_51 (by decide) (by omega) ⟨by decide, by decide⟩ (fun c_2 => ?_) (fun c_2 => ?_)
        ·
          have h48 : i = 48 := by omega
          have hP := zP_arr hP 1 (g := xS) (g' := cSK 1 cS cH) rfl (fun j h0 h1 => hd1 j h0 (by omega))
          have hP := zP_arr hP 2 (g := xH) (g' := cHK 1 cH) rfl (fun j h0 h1 => hd2 j h0 (by omega))
          subst hy
          have hP : va_P D vwCl (airW ad b cy (h + 1) su (stK 1 st sh) (max 0 (sh - 1)) (fl / 2) (cSK 1 cS cH) (cHK 1 cH) dD dE dF) H := hP
          exact zw_v M hr hlk () hP hS (by trivial) (by decide) (by decide) dX0_letOneGoBy_94
        ·
          have hx1 := hd4 i (by omega) (by omega)
          have hx2 := hcH i (by omega) (by omega)
          have hx3 := hd3 i (by omega) (by omega)
          refine lv_aload_n M.1 M.2.1 dX0_letOneGoBy_54 rfl (lv_at hl 0 rfl) ?_
          refine zi_get (ci := 0) (v := .ref (ad (b + 2))) M hE hP 0 rfl rfl zu_X0 6 (by decide) zk_fl_RX0_19 rfl rfl dX0_letOneGoBy_55 ?_
          refine lv_iload_n M.1 M.2.1 dX0_letOneGoBy_58 rfl (lv_at hl 1 rfl) ?_
          refine zi_push M dX0_letOneGoBy_59 ?_
          refine lv_aload_n M.1 M.2.1 dX0_letOneGoBy_60 rfl (lv_at hl 0 rfl) ?_
          refine zi_get (ci := 0) (v := .ref (ad (b + 2))) M hE hP 0 rfl rfl zu_X0 6 (by decide) zk_fl_RX0_19 rfl rfl dX0_letOneGoBy_61 ?_
          refine lv_iload_n M.1 M.2.1 dX0_letOneGoBy_64 rfl (lv_at hl 1 rfl) ?_
          refine zi_iald M hE hP 2 (n := 48) (g := xH) rfl (Nat.le_of_ble_eq_true rfl) (by omega) (by omega) dX0_letOneGoBy_65 ?_
          refine zi_push M dX0_letOneGoBy_66 ?_
          refine zi_isub M dX0_letOneGoBy_67 ?_
          refine zi_max M hl.1 zk_ml_RX0_45 (by decide) (Nat.le_of_ble_eq_true rfl) (by decide) (by decide) ⟨by decide, by decide⟩ (by omega) dX0_letOneGoBy_68 ?_
          refine zi_iast (ws' := (airW ad b cy (h + 1) su y (max 0 (sh - 1)) (fl / 2) xS (zu xH i (max 0 ((xH i) - 1))) dD dE dF)) M hE hP hD hS 2 (n := 48) (g := xH) rfl (Nat.le_of_ble_eq_true rfl) (by omega) (by omega) rfl dX0_letOneGoBy_71 (fun H locs hP hD hS => ?_)
          refine lv_aload_n M.1 M.2.1 dX0_letOneGoBy_72 rfl (lv_at hl 0 rfl) ?_
          refine zi_get (ci := 0) (v := .ref (ad (b + 2))) M hE hP 0 rfl rfl zu_X0 6 (by decide) zk_fl_RX0_19 rfl rfl dX0_letOneGoBy_73 ?_
          refine lv_iload_n M.1 M.2.1 dX0_letOneGoBy_76 rfl (lv_at hl 1 rfl) ?_
          refine zi_iald M hE hP 2 (n := 48) (g := (zu xH i (max 0 ((xH i) - 1)))) rfl (Nat.le_of_ble_eq_true rfl) (by omega) (by omega) dX0_letOneGoBy_77 ?_
          refine z_rw (zu_s xH i (max 0 (xH i - 1))) ?_
          refine zi_if_ne (tgt := 88) M dX0_letOneGoBy_78 (by decide) (by omega) (fun c_3 => ?_) (fun c_3 => ?_)
          ·
            refine zi_iinc (lv' := [(1, .int (iI (i + 1))), (0, .ref (ad b))]) M dX0_letOneGoBy_88 hl 1 rfl (by decide) rfl (fun ls hl => ?_)
            refine zi_goto (tgt := 48) M dX0_letOneGoBy_91 (by decide) ?_
            exact ih_48 (i + 1) y xS (zu xH i (max 0 ((xH i) - 1))) (by omega) hy (zk_step hd1 (by rw [hx3]; unfold cSK; rw [if_neg (by decide), if_neg (by omega)])) (zu_step hd2 (by unfold cHK; omega)) (fun j h0 h1 => hd3 j (by omega) h1) (zu_rest hd4) (by omega) _ _ hP hD hS ls (lv_sub hl [1, 0] rfl)
          ·
            refine lv_aload_n M.1 M.2.1 dX0_letOneGoBy_81 rfl (lv_at hl 0 rfl) ?_
            refine zi_get (ci := 0) (v := .ref (ad (b + 1))) M hE hP 0 rfl rfl zu_X0 5 (by decide) zk_fl_RX0_15 rfl rfl dX0_letOneGoBy_82 ?_
            refine lv_iload_n M.1 M.2.1 dX0_letOneGoBy_85 rfl (lv_at hl 1 rfl) ?_
            refine zi_push M dX0_letOneGoBy_86 ?_
            refine zi_iast (ws' := (airW ad b cy (h + 1) su y (max 0 (sh - 1)) (fl / 2) (zu xS i 0) (zu xH i (max 0 ((xH i) - 1))) dD dE dF)) M hE hP hD hS 1 (n := 48) (g := xS) rfl (Nat.le_of_ble_eq_true rfl) (by omega) (by omega) rfl dX0_letOneGoBy_87 (fun H locs hP hD hS => ?_)
            refine zi_iinc (lv' := [(1, .int (iI (i + 1))), (0, .ref (ad b))]) M dX0_letOneGoBy_88 hl 1 rfl (by decide) rfl (fun ls hl => ?_)
            refine zi_goto (tgt := 48) M dX0_letOneGoBy_91 (by decide) ?_
            exact ih_48 (i + 1) y (zu xS i 0) (zu xH i (max 0 ((xH i) - 1))) (by omega) hy (zu_step hd1 (by unfold cSK; rw [if_neg (by decide), if_pos (by omega)])) (zu_step hd2 (by unfold cHK; omega)) (zu_rest hd3) (zu_rest hd4) (by omega) _ _ hP hD hS ls (lv_sub hl [1, 0] rfl)
    exact L_48 (Int.toNat (48 - 0) + 1) 0 st cS cH (by omega) (by unfold stK; rw [if_neg (by decide)]; first | rw [if_pos (by omega)] | rw [if_neg (by omega)]) (fun j h0 h1 => absurd h1 (by omega)) (fun j h0 h1 => absurd h1 (by omega)) (fun j _ _ => rfl) (fun j _ _ => rfl) (by omega) _ _ hP hD hS ls (lv_sub hl [1, 0] rfl)
  ·
    refine lv_aload_n M.1 M.2.1 dX0_letOneGoBy_41 rfl (lv_at hl 0 rfl) ?_
    refine zi_push M dX0_letOneGoBy_42 ?_
    refine zi_put (ci := 0) (ws' := (airW ad b cy (h + 1) su 0 (max 0 (sh - 1)) (fl / 2) cS cH dD dE dF)) M hE hP hD hS 0 rfl rfl zu_X0 2 (by decide) zk_fl_RX0_30 rfl rfl tyX0_ok nmX0 rfl rfl (Nat.le_of_ble_eq_true rfl) rfl dX0_letOneGoBy_43 (fun H locs hP hD hS => ?_)
    refine zi_push M dX0_letOneGoBy_46 ?_
    refine lv_istore_n (lv' := [(1, .int (iI 0)), (0, .ref (ad b))]) M.1 M.2.1 dX0_letOneGoBy_47 rfl hl (by decide) rfl (fun ls hl => ?_)
    have L_48 : ∀ (k_48 : Nat) (i : Int) (y : Int) (xS : Int → Int) (xH : Int → Int) (hi : 0 ≤ i ∧ i ≤ 48) (hy : y = stK 1 st sh) (hd1 : ∀ j : Int, 0 ≤ j → j < i → xS j = cSK 1 cS cH j) (hd2 : ∀ j : Int, 0 ≤ j → j < i → xH j = cHK 1 cH j) (hd3 : ∀ j : Int, i ≤ j → j < 48 → xS j = cS j) (hd4 : ∀ j : Int, i ≤ j → j < 48 → xH j = cH j) (hm : 48 - i < (k_48 : Int)) (H : Heap) (locs : List Loc) (hP : va_P D vwCl (airW ad b cy (h + 1) su y (max 0 (sh - 1)) (fl / 2) xS xH dD dE dF) H) (hD : va_D (zIn (airW ad b cy h su st sh fl cS cH dD dE dF)) (airW ad b cy (h + 1) su y (max 0 (sh - 1)) (fl / 2) xS xH dD dE dF)) (hS : va_S (zIn (airW ad b cy h su st sh fl cS cH dD dE dF)) s.heap H locs) (ls : Array Slot) (hl : lv_has ls 2 [(0, .ref (ad b)), (1, .int (iI i))]), W p l e (zRm 1 0 0 21) s m args below meth c H locs 0 0 (MQ below (zQ0 D (airW ad b cy h su st sh fl cS cH dD dE dF) (fun (_ : Unit) => True) (fun (_ : Unit) => (airW ad b cy (h + 1) su (stK 1 st sh) (max 0 (sh - 1)) (fl / 2) (cSK 1 cS cH) (cHK 1 cH) dD dE dF))) args s 0 0 (zIn (airW ad b cy h su st sh fl cS cH dD dE dF))) (F0 m 48 ls []) := by
      intro k_48
      induction k_48 with
      | zero =>
        intro i y xS xH hi hy hd1 hd2 hd3 hd4 hm H locs hP hD hS ls hl
        exact absurd hm (by omega)
      | succ k_48 ih_48 =>
        intro i y xS xH hi hy hd1 hd2 hd3 hd4 hm H locs hP hD hS ls hl
        refine lv_iload_n M.1 M.2.1 dX0_letOneGoBy_48 rfl (lv_at hl 1 rfl) ?_
        refine zi_bipush M dX0_letOneGoBy_49 ⟨by decide, by decide⟩ ?_
        refine zi_icmp_ge (tgt := 94) M dX0_letOneGoBy_51 (by decide) (by omega) ⟨by decide, by decide⟩ (fun c_4 => ?_) (fun c_4 => ?_)
        ·
          have h48 : i = 48 := by omega
          have hP := zP_arr hP 1 (g := xS) (g' := cSK 1 cS cH) rfl (fun j h0 h1 => hd1 j h0 (by omega))
          have hP := zP_arr hP 2 (g := xH) (g' := cHK 1 cH) rfl (fun j h0 h1 => hd2 j h0 (by omega))
          subst hy
          have hP : va_P D vwCl (airW ad b cy (h + 1) su (stK 1 st sh) (max 0 (sh - 1)) (fl / 2) (cSK 1 cS cH) (cHK 1 cH) dD dE dF) H := hP
          exact zw_v M hr hlk () hP hS (by trivial) (by decide) (by decide) dX0_letOneGoBy_94
        ·
          have hx1 := hd4 i (by omega) (by omega)
          have hx2 := hcH i (by omega) (by omega)
          have hx3 := hd3 i (by omega) (by omega)
          refine lv_aload_n M.1 M.2.1 dX0_letOneGoBy_54 rfl (lv_at hl 0 rfl) ?_
          refine zi_get (ci := 0) (v := .ref (ad (b + 2))) M hE hP 0 rfl rfl zu_X0 6 (by decide) zk_fl_RX0_19 rfl rfl dX0_letOneGoBy_55 ?_
          refine lv_iload_n M.1 M.2.1 dX0_letOneGoBy_58 rfl (lv_at hl 1 rfl) ?_
          refine zi_push M dX0_letOneGoBy_59 ?_
          refine lv_aload_n M.1 M.2.1 dX0_letOneGoBy_60 rfl (lv_at hl 0 rfl) ?_
          refine zi_get (ci := 0) (v := .ref (ad (b + 2))) M hE hP 0 rfl rfl zu_X0 6 (by decide) zk_fl_RX0_19 rfl rfl dX0_letOneGoBy_61 ?_
          refine lv_iload_n M.1 M.2.1 dX0_letOneGoBy_64 rfl (lv_at hl 1 rfl) ?_
          refine zi_iald M hE hP 2 (n := 48) (g := xH) rfl (Nat.le_of_ble_eq_true rfl) (by omega) (by omega) dX0_letOneGoBy_65 ?_
          refine zi_push M dX0_letOneGoBy_66 ?_
          refine zi_isub M dX0_letOneGoBy_67 ?_
          refine zi_max M hl.1 zk_ml_RX0_45 (by decide) (Nat.le_of_ble_eq_true rfl) (by decide) (by decide) ⟨by decide, by decide⟩ (by omega) dX0_letOneGoBy_68 ?_
          refine zi_iast (ws' := (airW ad b cy (h + 1) su y (max 0 (sh - 1)) (fl / 2) xS (zu xH i (max 0 ((xH i) - 1))) dD dE dF)) M hE hP hD hS 2 (n := 48) (g := xH) rfl (Nat.le_of_ble_eq_true rfl) (by omega) (by omega) rfl dX0_letOneGoBy_71 (fun H locs hP hD hS => ?_)
          refine lv_aload_n M.1 M.2.1 dX0_letOneGoBy_72 rfl (lv_at hl 0 rfl) ?_
          refine zi_get (ci := 0) (v := .ref (ad (b + 2))) M hE hP 0 rfl rfl zu_X0 6 (by decide) zk_fl_RX0_19 rfl rfl dX0_letOneGoBy_73 ?_
          refine lv_iload_n M.1 M.2.1 dX0_letOneGoBy_76 rfl (lv_at hl 1 rfl) ?_
          refine zi_iald M hE hP 2 (n := 48) (g := (zu xH i (max 0 ((xH i) - 1)))) rfl (Nat.le_of_ble_eq_true rfl) (by omega) (by omega) dX0_letOneGoBy_77 ?_
          refine z_rw (zu_s xH i (max 0 (xH i - 1))) ?_
          refine zi_if_ne (tgt := 88) M dX0_letOneGoBy_78 (by decide) (by omega) (fun c_5 => ?_) (fun c_5 => ?_)
          ·
            refine zi_iinc (lv' := [(1, .int (iI (i + 1))), (0, .ref (ad b))]) M dX0_letOneGoBy_88 hl 1 rfl (by decide) rfl (fun ls hl => ?_)
            refine zi_goto (tgt := 48) M dX0_letOneGoBy_91 (by decide) ?_
            exact ih_48 (i + 1) y xS (zu xH i (max 0 ((xH i) - 1))) (by omega) hy (zk_step hd1 (by rw [hx3]; unfold cSK; rw [if_neg (by decide), if_neg (by omega)])) (zu_step hd2 (by unfold cHK; omega)) (fun j h0 h1 => hd3 j (by omega) h1) (zu_rest hd4) (by omega) _ _ hP hD hS ls (lv_sub hl [1, 0] rfl)
          ·
            refine lv_aload_n M.1 M.2.1 dX0_letOneGoBy_81 rfl (lv_at hl 0 rfl) ?_
            refine zi_get (ci := 0) (v := .ref (ad (b + 1))) M hE hP 0 rfl rfl zu_X0 5 (by decide) zk_fl_RX0_15 rfl rfl dX0_letOneGoBy_82 ?_
            refine lv_iload_n M.1 M.2.1 dX0_letOneGoBy_85 rfl (lv_at hl 1 rfl) ?_
            refine zi_push M dX0_letOneGoBy_86 ?_
            refine zi_iast (ws' := (airW ad b cy (h + 1) su y (max 0 (sh - 1)) (fl / 2) (zu xS i 0) (zu xH i (max 0 ((xH i) - 1))) dD dE dF)) M hE hP hD hS 1 (n := 48) (g := xS) rfl (Nat.le_of_ble_eq_true rfl) (by omega) (by omega) rfl dX0_letOneGoBy_87 (fun H locs hP hD hS => ?_)
            refine zi_iinc (lv' := [(1, .int (iI (i + 1))), (0, .ref (ad b))]) M dX0_letOneGoBy_88 hl 1 rfl (by decide) rfl (fun ls hl => ?_)
            refine zi_goto (tgt := 48) M dX0_letOneGoBy_91 (by decide) ?_
            exact ih_48 (i + 1) y (zu xS i 0) (zu xH i (max 0 ((xH i) - 1))) (by omega) hy (zu_step hd1 (by unfold cSK; rw [if_neg (by decide), if_pos (by omega)])) (zu_step hd2 (by unfold cHK; omega)) (zu_rest hd3) (zu_rest hd4) (by omega) _ _ hP hD hS ls (lv_sub hl [1, 0] rfl)
    exact L_48 (Int.toNat (48 - 0) + 1) 0 0 cS cH (by omega) (by unfold stK; rw [if_neg (by decide)]; first | rw [if_pos (by omega)] | rw [if_neg (by omega)]) (fun j h0 h1 => absurd h1 (by omega)) (fun j h0 h1 => absurd h1 (by omega)) (fun j _ _ => rfl) (fun j _ _ => rfl) (by omega) _ _ hP hD hS ls (lv_sub hl [1, 0] rfl)

set_option maxRecDepth 100000 in
set_option maxHeartbeats 4000000 in
theorem c_X0_letGoBy (l : Launch) (D : va_G) (cy : Nat → ClassId) (z0 : Nat) (ad : Nat → Nat) (b : Nat) (h su st sh fl : Int) (cS cH dD dE dF : Int → Int) (k : Int) (hh : 0 ≤ h ∧ h ≤ 5000) (hsu : 0 ≤ su ∧ su ≤ 100) (hst0 : 0 ≤ st ∧ st ≤ 60) (hfl : 0 ≤ fl ∧ fl ≤ 80) (hsh : 0 ≤ sh ∧ sh ≤ 72) (hcS : zrg 48 0 100 cS) (hcH : zrg 48 0 24 cH) (hk : 1 ≤ k ∧ k ≤ 48) (hhk : h + k ≤ 5000) : Met l yX0_letGoBy [.code yX0_letGoBy cX0_letGoBy 3 none] (zRm 3 0 0 67) (zPc [.ref (ad b), .int (iI k)] D cy z0 (zWl D z0 (airW ad b cy h su st sh fl cS cH dD dE dF))) (zQ0 D (airW ad b cy h su st sh fl cS cH dD dE dF) (fun (_ : Unit) => True) (fun (_ : Unit) => (airW ad b cy (h + k) su (stK k st sh) (max 0 (sh - k)) (flK k.toNat fl) (cSK k cS cH) (cHK k cH) (dnD (h + k) (flK k.toNat fl)) (dnE (h + k) (cSK k cS cH)) (dnF (h + k) su (stK k st sh))))) 0 0 (zIn (airW ad b cy h su st sh fl cS cH dD dE dF)) := by
  refine z_of (by decide) (Nat.le_of_ble_eq_true rfl) ?_
  intro p e s m args below meth c M hr hlk hini hargs hP0 hE ls hl
  have hP : va_P D vwCl (airW ad b cy h su st sh fl cS cH dD dE dF) s.heap := hP0.1
  have hD : va_D (zIn (airW ad b cy h su st sh fl cS cH dD dE dF)) (airW ad b cy h su st sh fl cS cH dD dE dF) := hP0.self
  have hAz := hP0.A
  have hS : va_S (zIn (airW ad b cy h su st sh fl cS cH dD dE dF)) s.heap s.heap [] := va_S.rf
  have hl : lv_has ls 3 [(0, .ref (ad b)), (1, .int (iI k))] := hl
  refine zi_push M dX0_letGoBy_0 ?_
  refine lv_istore_n (lv' := [(2, .int (iI 0)), (0, .ref (ad b)), (1, .int (iI k))]) M.1 M.2.1 dX0_letGoBy_1 rfl hl (by decide) rfl (fun ls hl => ?_)
  have L_2 : ∀ (k_2 : Nat) (i : Int) (hv : Int) (sv : Int) (uv : Int) (fv : Int) (xS : Int → Int) (xH : Int → Int) (hi : 0 ≤ i ∧ i ≤ k) (h1 : hv = h + i) (h2 : sv = stK i st sh) (h3 : uv = max 0 (sh - i)) (h4 : fv = flK i.toNat fl) (hd1 : ∀ j : Int, 0 ≤ j → j < 48 → xS j = cSK i cS cH j) (hd2 : ∀ j : Int, 0 ≤ j → j < 48 → xH j = cHK i cH j) (hm : k - i < (k_2 : Int)) (H : Heap) (locs : List Loc) (hP : va_P D vwCl (airW ad b cy hv su sv uv fv xS xH dD dE dF) H) (hD : va_D (zIn (airW ad b cy h su st sh fl cS cH dD dE dF)) (airW ad b cy hv su sv uv fv xS xH dD dE dF)) (hS : va_S (zIn (airW ad b cy h su st sh fl cS cH dD dE dF)) s.heap H locs) (ls : Array Slot) (hl : lv_has ls 3 [(0, .ref (ad b)), (1, .int (iI k)), (2, .int (iI i))]), W p l e (zRm 3 0 0 67) s m args below meth c H locs 0 0 (MQ below (zQ0 D (airW ad b cy h su st sh fl cS cH dD dE dF) (fun (_ : Unit) => True) (fun (_ : Unit) => (airW ad b cy (h + k) su (stK k st sh) (max 0 (sh - k)) (flK k.toNat fl) (cSK k cS cH) (cHK k cH) (dnD (h + k) (flK k.toNat fl)) (dnE (h + k) (cSK k cS cH)) (dnF (h + k) su (stK k st sh))))) args s 0 0 (zIn (airW ad b cy h su st sh fl cS cH dD dE dF))) (F0 m 2 ls []) := by
    intro k_2
    induction k_2 with
    | zero =>
      intro i hv sv uv fv xS xH hi h1 h2 h3 h4 hd1 hd2 hm H locs hP hD hS ls hl
      exact absurd hm (by omega)
    | succ k_2 ih_2 =>
      intro i hv sv uv fv xS xH hi h1 h2 h3 h4 hd1 hd2 hm H locs hP hD hS ls hl
      have hq1 := stK_rg (k := i) (sh := sh) hst0
      rw [← h2] at hq1
      have hq2 := flK_rg hfl i.toNat
      rw [← h4] at hq2
      have hq3 := zrg_eq (cSK_rg (k := i) (cH := cH) hcS) hd1
      have hq4 := zrg_eq (cHK_rg hi.1 hcH) hd2
      refine lv_iload_n M.1 M.2.1 dX0_letGoBy_2 rfl (lv_at hl 2 rfl) ?_
      refine lv_iload_n M.1 M.2.1 dX0_letGoBy_3 rfl (lv_at hl 1 rfl) ?_
      refine zi_icmp_ge (tgt := 17) M dX0_letGoBy_4 (by decide) (by omega) (by omega) (fun c_1 => ?_) (fun c_1 => ?_)
      ·
        have hik : i = k := by omega
        subst hik
        have hP := zP_arr hP 1 (g := xS) (g' := cSK i cS cH) rfl hd1
        have hP := zP_arr hP 2 (g := xH) (g' := cHK i cH) rfl hd2
        subst h1 h2 h3 h4
        have hP : va_P D vwCl (airW ad b cy (h + i) su (stK i st sh) (max 0 (sh - i)) (flK i.toNat fl) (cSK i cS cH) (cHK i cH) dD dE dF) H := hP
        have hD : va_D (zIn (airW ad b cy h su st sh fl cS cH dD dE dF)) (airW ad b cy (h + i) su (stK i st sh) (max 0 (sh - i)) (flK i.toNat fl) (cSK i cS cH) (cHK i cH) dD dE dF) := va_D.to hD rfl
        have hq1 := stK_rg (k := i) (sh := sh) hst0
        have hq2 := flK_rg hfl i.toNat
        have hq3 := cSK_rg (k := i) (cH := cH) hcS
        refine lv_aload_n M.1 M.2.1 dX0_letGoBy_17 rfl (lv_at hl 0 rfl) ?_
        refine z_cV (z_runV (As := []) (rest := []) M (c_X0_settle l D cy z0 ad b (h + i) su (stK i st sh) (max 0 (sh - i)) (flK i.toNat fl) (cSK i cS cH) (cHK i cH) dD dE dF (by omega) (by omega) (by omega) (by omega) hq3) hE hS hAz (z_cut hP hD hAz [0, 1, 2, 3, 4, 5, 6] rfl (by decide +kernel)) (zRc.of (ci := 0) (q0 := 0) hE hP rfl rfl) zk_cd_X0_settle zk_in_RX0 zk_im_X0_settle zk_se_X0_settle zk_ml_RX0_27 rfl rfl zd_X0_settle ⟨by decide, by decide⟩ rfl hl.1 rfl (Nat.le_of_ble_eq_true rfl) dX0_letGoBy_18 ⟨by decide, by decide⟩) hP hD hS [0, 1, 2, 3, 4, 5, 6] rfl (fun _ => rfl) (fun u_2 H locs hp_2 hP hD hS => ?_)
        have hP : va_P D vwCl (airW ad b cy (h + i) su (stK i st sh) (max 0 (sh - i)) (flK i.toNat fl) (cSK i cS cH) (cHK i cH) (dnD (h + i) (flK i.toNat fl)) (dnE (h + i) (cSK i cS cH)) (dnF (h + i) su (stK i st sh))) H := hP
        have hD : va_D (zIn (airW ad b cy h su st sh fl cS cH dD dE dF)) (airW ad b cy (h + i) su (stK i st sh) (max 0 (sh - i)) (flK i.toNat fl) (cSK i cS cH) (cHK i cH) (dnD (h + i) (flK i.toNat fl)) (dnE (h + i) (cSK i cS cH)) (dnF (h + i) su (stK i st sh))) := hD
        have hP : va_P D vwCl (airW ad b cy (h + i) su (stK i st sh) (max 0 (sh - i)) (flK i.toNat fl) (cSK i cS cH) (cHK i cH) (dnD (h + i) (flK i.toNat fl)) (dnE (h + i) (cSK i cS cH)) (dnF (h + i) su (stK i st sh))) H := hP
        exact zw_v M hr hlk () hP hS (by trivial) (by decide) (by decide) dX0_letGoBy_21
      ·
        refine lv_aload_n M.1 M.2.1 dX0_letGoBy_7 rfl (lv_at hl 0 rfl) ?_
        refine z_cV (z_runV (As := []) (rest := []) M (c_X0_letOneGoBy l D cy z0 ad b hv su sv uv fv xS xH dD dE dF (by omega) (by omega) (by omega) (by omega) hq3 hq4) hE hS hAz (z_cut hP hD hAz [0, 1, 2, 3, 4, 5, 6] rfl (by decide +kernel)) (zRc.of (ci := 0) (q0 := 0) hE hP rfl rfl) zk_cd_X0_letOneGoBy zk_in_RX0 zk_im_X0_letOneGoBy zk_se_X0_letOneGoBy zk_ml_RX0_39 rfl rfl zd_X0_letOneGoBy ⟨by decide, by decide⟩ rfl hl.1 rfl (Nat.le_of_ble_eq_true rfl) dX0_letGoBy_8 ⟨by decide, by decide⟩) hP hD hS [0, 1, 2, 3, 4, 5, 6] rfl (fun _ => rfl) (fun u_3 H locs hp_3 hP hD hS => ?_)
        have hP : va_P D vwCl (airW ad b cy (hv + 1) su (stK 1 sv uv) (max 0 (uv - 1)) (fv / 2) (cSK 1 xS xH) (cHK 1 xH) dD dE dF) H := hP
        have hD : va_D (zIn (airW ad b cy h su st sh fl cS cH dD dE dF)) (airW ad b cy (hv + 1) su (stK 1 sv uv) (max 0 (uv - 1)) (fv / 2) (cSK 1 xS xH) (cHK 1 xH) dD dE dF) := hD
        refine zi_iinc (lv' := [(2, .int (iI (i + 1))), (0, .ref (ad b)), (1, .int (iI k))]) M dX0_letGoBy_11 hl 2 rfl (by decide) rfl (fun ls hl => ?_)
        refine zi_goto (tgt := 2) M dX0_letGoBy_14 (by decide) ?_
        exact ih_2 (i + 1) (hv + 1) (stK 1 sv uv) (max 0 (uv - 1)) (fv / 2) (cSK 1 xS xH) (cHK 1 xH) (by omega) (by omega) (stK_step hi.1 hsh.1 h2 h3) (by omega) (by rw [show (i + 1).toNat = i.toNat + 1 from by omega]; unfold flK; rw [h4]) (fun j h0 h1 => cSK_step hi.1 (hcH j h0 h1).1 (hd1 j h0 h1) (hd2 j h0 h1)) (fun j h0 h1 => cHK_step hi.1 (hd2 j h0 h1)) (by omega) _ _ hP hD hS ls (lv_sub hl [1, 2, 0] rfl)
  exact L_2 (Int.toNat (k - 0) + 1) 0 h st sh fl cS cH (by omega) (by omega) rfl (by omega) rfl (fun j _ _ => rfl) (fun j h0 h1 => by have := hcH j h0 h1; unfold cHK; omega) (by omega) _ _ hP hD hS ls (lv_sub hl [1, 2, 0] rfl)
