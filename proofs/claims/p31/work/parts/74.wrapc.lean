/-! contracts: the law's own catching methods -/
set_option maxRecDepth 100000 in
set_option maxHeartbeats 8000000 in
theorem c_L_explain (l : Launch) (hst : l.stackTraces = false) (D : va_G) (cy : Nat → ClassId) (z0 : Nat) (ad : Nat → Nat) (fm fr h su st sh fl ypl ydr yan yfr yst ylg yle ydl : Int) (cS cH dD dE dF sea noi : Int → Int) (q : Int) (t : Int) (f : Int) (w : Int) (mm : Int) (r_q : r32 q) (r_t : r32 t) (r_f : r32 f) (r_w : r32 w) (r_mm : r32 mm) (g_dD : zrg 48 0 1000 dD) (g_dE : zrg 48 0 1000 dE) (g_dF : zrg 48 0 1000 dF) (g_sea : zrg 48 0 1 sea) : vx_Met l yL_explain [.codeWith yL_explain cL_explain 7 (some .int) [(0, 11, 12, 28), (0, 11, 17, 14)]] (zRm 10 5 30 185) (zPcN [.ref (ad 0), .int (iI q), .int (iI t), .int (iI f), .int (iI w), .int (iI mm)] D cy z0 (zWl D z0 ((rooW ad 0 cy fm fr) ++ ((airW ad 1 cy h su st sh fl cS cH dD dE dF) ++ ((grdW ad 15 cy sea noi) ++ (rayW ad 18 cy ypl ydr yan yfr yst ylg yle ydl)))))) (zQ1 D ((rooW ad 0 cy fm fr) ++ ((airW ad 1 cy h su st sh fl cS cH dD dE dF) ++ ((grdW ad 15 cy sea noi) ++ (rayW ad 18 cy ypl ydr yan yfr yst ylg yle ydl)))) (fun (r : Int32) (u : Int × Int × (Nat → Int)) => r = iI u.2.1 ∧ ((u.1 = 0 ∧ (((0 ≤ q ∧ q < 48) ∧ (0 ≤ t ∧ t < 48)) ∧ ((10 ≤ f ∧ f ≤ 300) ∧ (0 ≤ w ∧ w ≤ 100) ∧ (0 ≤ mm ∧ mm ≤ 1000))) ∧ (u.2.1 = ((exF dE dF dD sea q t f w mm 18).2.1))) ∨ (u.1 = 1 ∧ ((¬ ((0 ≤ q ∧ q < 48) ∧ (0 ≤ t ∧ t < 48))) ∨ (((0 ≤ q ∧ q < 48) ∧ (0 ≤ t ∧ t < 48)) ∧ ¬ ((10 ≤ f ∧ f ≤ 300) ∧ (0 ≤ w ∧ w ≤ 100) ∧ (0 ≤ mm ∧ mm ≤ 1000)))) ∧ u.2.1 = (-2000000000)))) (fun (u : Int × Int × (Nat → Int)) => ((rooW ad 0 cy fm fr) ++ ((airW ad 1 cy h su st sh fl cS cH dD dE dF) ++ ((grdW ad 15 cy sea noi) ++ (rayW ad 18 cy (u.2.2 0) (u.2.2 1) (u.2.2 2) (u.2.2 3) (u.2.2 4) (u.2.2 5) (u.2.2 6) (u.2.2 7))))))) (fun _ _ _ => False) 5 30 (zIn ((rooW ad 0 cy fm fr) ++ ((airW ad 1 cy h su st sh fl cS cH dD dE dF) ++ ((grdW ad 15 cy sea noi) ++ (rayW ad 18 cy ypl ydr yan yfr yst ylg yle ydl))))) := by
  refine z_ofH (by decide) (Nat.le_of_ble_eq_true rfl) ?_
  intro p e s m args below meth c M hr hlk ht hargs hP0 hE hN ls hl
  have hP : va_P D vwCl ((rooW ad 0 cy fm fr) ++ ((airW ad 1 cy h su st sh fl cS cH dD dE dF) ++ ((grdW ad 15 cy sea noi) ++ (rayW ad 18 cy ypl ydr yan yfr yst ylg yle ydl)))) s.heap := hP0.1
  have hD : va_D (zIn ((rooW ad 0 cy fm fr) ++ ((airW ad 1 cy h su st sh fl cS cH dD dE dF) ++ ((grdW ad 15 cy sea noi) ++ (rayW ad 18 cy ypl ydr yan yfr yst ylg yle ydl))))) ((rooW ad 0 cy fm fr) ++ ((airW ad 1 cy h su st sh fl cS cH dD dE dF) ++ ((grdW ad 15 cy sea noi) ++ (rayW ad 18 cy ypl ydr yan yfr yst ylg yle ydl)))) := hP0.self
  have hAz := hP0.A
  have hS : va_S (zIn ((rooW ad 0 cy fm fr) ++ ((airW ad 1 cy h su st sh fl cS cH dD dE dF) ++ ((grdW ad 15 cy sea noi) ++ (rayW ad 18 cy ypl ydr yan yfr yst ylg yle ydl))))) s.heap s.heap [] := va_S.rf
  have hl : lv_has ls 7 [(0, .ref (ad 0)), (1, .int (iI q)), (2, .int (iI t)), (3, .int (iI f)), (4, .int (iI w)), (5, .int (iI mm))] := hl
  refine lv_aload_n M.1 M.2.1 dL_explain_0 rfl (lv_at hl 0 rfl) ?_
  refine lv_iload_n M.1 M.2.1 dL_explain_1 rfl (lv_at hl 1 rfl) ?_
  refine lv_iload_n M.1 M.2.1 dL_explain_2 rfl (lv_at hl 2 rfl) ?_
  refine lv_iload_n M.1 M.2.1 dL_explain_3 rfl (lv_at hl 3 rfl) ?_
  refine lv_iload M.1 M.2.1 dL_explain_4 (lv_at hl 4 rfl) ?_
  refine lv_iload M.1 M.2.1 dL_explain_6 (lv_at hl 5 rfl) ?_
  refine z_tW (zx_runV (As := [.int (iI q), .int (iI t), .int (iI f), .int (iI w), .int (iI mm)]) (rest := []) M (c_X6_explain l hst D cy z0 ad fm fr h su st sh fl ypl ydr yan yfr yst ylg yle ydl cS cH dD dE dF sea noi q t f w mm r_q r_t r_f r_w r_mm g_dD g_dE g_dF g_sea) hE hS hAz (z_cut hP hD hAz [0, 1, 2, 3, 4, 5, 6, 7, 8, 9, 10, 11] rfl (by decide +kernel)) (zRc.of (ci := 6) (q0 := 0) hE hP rfl rfl) zk_cd_X6_explain zk_in_RX6 zk_im_X6_explain zk_se_X6_explain zk_ml_RL_78 rfl rfl zd_X6_explain ⟨by decide, by decide⟩ rfl hl.1 rfl (Nat.le_of_ble_eq_true rfl) dL_explain_8 ⟨by decide, by decide⟩) hP hD hS [0, 1, 2, 3, 4, 5, 6, 7, 8, 9, 10, 11] rfl (fun _ => rfl) (fun r1 u1 H locs hp hP hD hS => ?_) (fun Ex qx ce H locs hC hP hS hce hcv hcl => ?_)
  ·
    have hP : va_P D vwCl ((rooW ad 0 cy fm fr) ++ ((airW ad 1 cy h su st sh fl cS cH dD dE dF) ++ ((grdW ad 15 cy sea noi) ++ (rayW ad 18 cy (u1 0) (u1 1) (u1 2) (u1 3) (u1 4) (u1 5) (u1 6) (u1 7))))) H := hP
    obtain ⟨hN1, rfl⟩ := hp
    have hP : va_P D vwCl ((rooW ad 0 cy fm fr) ++ ((airW ad 1 cy h su st sh fl cS cH dD dE dF) ++ ((grdW ad 15 cy sea noi) ++ (rayW ad 18 cy (((0 : Int), (((exF dE dF dD sea q t f w mm 18).2.1) : Int), u1).2.2 0) (((0 : Int), (((exF dE dF dD sea q t f w mm 18).2.1) : Int), u1).2.2 1) (((0 : Int), (((exF dE dF dD sea q t f w mm 18).2.1) : Int), u1).2.2 2) (((0 : Int), (((exF dE dF dD sea q t f w mm 18).2.1) : Int), u1).2.2 3) (((0 : Int), (((exF dE dF dD sea q t f w mm 18).2.1) : Int), u1).2.2 4) (((0 : Int), (((exF dE dF dD sea q t f w mm 18).2.1) : Int), u1).2.2 5) (((0 : Int), (((exF dE dF dD sea q t f w mm 18).2.1) : Int), u1).2.2 6) (((0 : Int), (((exF dE dF dD sea q t f w mm 18).2.1) : Int), u1).2.2 7))))) H := hP
    exact vx_ret (zw_i M hr hlk ((0 : Int), (((exF dE dF dD sea q t f w mm 18).2.1) : Int), u1) hP hS ⟨rfl, Or.inl ⟨rfl, hN1, rfl⟩⟩ (by decide) (by decide) dL_explain_11)
  ·
    rcases hC with ⟨rfl, hC1⟩ | ⟨rfl, hC1⟩
    ·
      refine vx_catch (own := RL) (name := eIB) (E := eIB) M.2.2.2.1 [] ⟨0, 11, 12, 28⟩ [⟨0, 11, 17, 14⟩] (ht.trans rfl) (fun z hz => nomatch hz) (by decide) (by decide) (M.w zk_cl_RL_28) (M.w zk_ca_390) hce hcv hcl ?_
      refine lv_astore (lv' := [(6, .ref qx), (0, .ref (ad 0)), (1, .int (iI q)), (2, .int (iI t)), (3, .int (iI f)), (4, .int (iI w)), (5, .int (iI mm))]) M.1 M.2.1 dL_explain_12 hl (by decide) rfl (fun ls hl => ?_)
      refine zi_ldc M (z := -2000000000) (by decide) zk_ct_RL_16 dL_explain_14 ?_
      have hP : va_P D vwCl ((rooW ad 0 cy fm fr) ++ ((airW ad 1 cy h su st sh fl cS cH dD dE dF) ++ ((grdW ad 15 cy sea noi) ++ (rayW ad 18 cy (((1 : Int), (-2000000000 : Int), (u8 ypl ydr yan yfr yst ylg yle ydl)).2.2 0) (((1 : Int), (-2000000000 : Int), (u8 ypl ydr yan yfr yst ylg yle ydl)).2.2 1) (((1 : Int), (-2000000000 : Int), (u8 ypl ydr yan yfr yst ylg yle ydl)).2.2 2) (((1 : Int), (-2000000000 : Int), (u8 ypl ydr yan yfr yst ylg yle ydl)).2.2 3) (((1 : Int), (-2000000000 : Int), (u8 ypl ydr yan yfr yst ylg yle ydl)).2.2 4) (((1 : Int), (-2000000000 : Int), (u8 ypl ydr yan yfr yst ylg yle ydl)).2.2 5) (((1 : Int), (-2000000000 : Int), (u8 ypl ydr yan yfr yst ylg yle ydl)).2.2 6) (((1 : Int), (-2000000000 : Int), (u8 ypl ydr yan yfr yst ylg yle ydl)).2.2 7))))) H := hP
      exact vx_ret (zw_i M hr hlk ((1 : Int), (-2000000000 : Int), (u8 ypl ydr yan yfr yst ylg yle ydl)) hP hS ⟨rfl, Or.inr ⟨rfl, Or.inl hC1, rfl⟩⟩ (by decide) (by decide) dL_explain_16)
    ·
      refine vx_catch (own := RL) (name := eIA) (E := eIA) M.2.2.2.1 [⟨0, 11, 12, 28⟩] ⟨0, 11, 17, 14⟩ [] (ht.trans rfl) (fun z hz => by rw [List.mem_singleton.mp hz]; exact Or.inr ⟨by decide, _, M.w zk_cl_RL_28, hN.1⟩) (by decide) (by decide) (M.w zk_cl_RL_14) (M.w zk_ca_284) hce hcv hcl ?_
      refine lv_astore (lv' := [(6, .ref qx), (0, .ref (ad 0)), (1, .int (iI q)), (2, .int (iI t)), (3, .int (iI f)), (4, .int (iI w)), (5, .int (iI mm))]) M.1 M.2.1 dL_explain_17 hl (by decide) rfl (fun ls hl => ?_)
      refine zi_ldc M (z := -2000000000) (by decide) zk_ct_RL_16 dL_explain_19 ?_
      have hP : va_P D vwCl ((rooW ad 0 cy fm fr) ++ ((airW ad 1 cy h su st sh fl cS cH dD dE dF) ++ ((grdW ad 15 cy sea noi) ++ (rayW ad 18 cy (((1 : Int), (-2000000000 : Int), (u8 ypl ydr yan yfr yst ylg yle ydl)).2.2 0) (((1 : Int), (-2000000000 : Int), (u8 ypl ydr yan yfr yst ylg yle ydl)).2.2 1) (((1 : Int), (-2000000000 : Int), (u8 ypl ydr yan yfr yst ylg yle ydl)).2.2 2) (((1 : Int), (-2000000000 : Int), (u8 ypl ydr yan yfr yst ylg yle ydl)).2.2 3) (((1 : Int), (-2000000000 : Int), (u8 ypl ydr yan yfr yst ylg yle ydl)).2.2 4) (((1 : Int), (-2000000000 : Int), (u8 ypl ydr yan yfr yst ylg yle ydl)).2.2 5) (((1 : Int), (-2000000000 : Int), (u8 ypl ydr yan yfr yst ylg yle ydl)).2.2 6) (((1 : Int), (-2000000000 : Int), (u8 ypl ydr yan yfr yst ylg yle ydl)).2.2 7))))) H := hP
      exact vx_ret (zw_i M hr hlk ((1 : Int), (-2000000000 : Int), (u8 ypl ydr yan yfr yst ylg yle ydl)) hP hS ⟨rfl, Or.inr ⟨rfl, Or.inr (hC1), rfl⟩⟩ (by decide) (by decide) dL_explain_21)

set_option maxRecDepth 100000 in
set_option maxHeartbeats 8000000 in
theorem c_L_usable (l : Launch) (hst : l.stackTraces = false) (D : va_G) (cy : Nat → ClassId) (z0 : Nat) (ad : Nat → Nat) (fm fr h su st sh fl ypl ydr yan yfr yst ylg yle ydl : Int) (cS cH dD dE dF sea noi : Int → Int) (q : Int) (t : Int) (w : Int) (g : Int) (r_q : r32 q) (r_t : r32 t) (r_w : r32 w) (hg : 0 ≤ g ∧ g ≤ 1) (g_dD : zrg 48 0 1000 dD) (g_dE : zrg 48 0 1000 dE) (g_dF : zrg 48 0 1000 dF) (g_sea : zrg 48 0 1 sea) : vx_Met l yL_usable [.codeWith yL_usable cL_usable 6 (some .int) [(0, 9, 10, 28), (0, 9, 15, 14)]] (zRm 9 3 18 161) (zPcN [.ref (ad 0), .int (iI q), .int (iI t), .int (iI w), .int (iI g)] D cy z0 (zWl D z0 ((rooW ad 0 cy fm fr) ++ ((airW ad 1 cy h su st sh fl cS cH dD dE dF) ++ ((grdW ad 15 cy sea noi) ++ (rayW ad 18 cy ypl ydr yan yfr yst ylg yle ydl)))))) (zQ1 D ((rooW ad 0 cy fm fr) ++ ((airW ad 1 cy h su st sh fl cS cH dD dE dF) ++ ((grdW ad 15 cy sea noi) ++ (rayW ad 18 cy ypl ydr yan yfr yst ylg yle ydl)))) (fun (r : Int32) (u : Int × Int × (Nat → Int)) => r = iI u.2.1 ∧ ((u.1 = 0 ∧ (((0 ≤ q ∧ q < 48) ∧ (0 ≤ t ∧ t < 48)) ∧ (0 ≤ w ∧ w ≤ 100)) ∧ (∃ v : Int, isUse dE dF dD sea q t w g v ∧ u.2.1 = v)) ∨ (u.1 = 1 ∧ ((¬ ((0 ≤ q ∧ q < 48) ∧ (0 ≤ t ∧ t < 48))) ∨ (((0 ≤ q ∧ q < 48) ∧ (0 ≤ t ∧ t < 48)) ∧ ¬ (0 ≤ w ∧ w ≤ 100))) ∧ u.2.1 = (-2000000000)))) (fun (u : Int × Int × (Nat → Int)) => ((rooW ad 0 cy fm fr) ++ ((airW ad 1 cy h su st sh fl cS cH dD dE dF) ++ ((grdW ad 15 cy sea noi) ++ (rayW ad 18 cy (u.2.2 0) (u.2.2 1) (u.2.2 2) (u.2.2 3) (u.2.2 4) (u.2.2 5) (u.2.2 6) (u.2.2 7))))))) (fun _ _ _ => False) 3 18 (zIn ((rooW ad 0 cy fm fr) ++ ((airW ad 1 cy h su st sh fl cS cH dD dE dF) ++ ((grdW ad 15 cy sea noi) ++ (rayW ad 18 cy ypl ydr yan yfr yst ylg yle ydl))))) := by
  refine z_ofH (by decide) (Nat.le_of_ble_eq_true rfl) ?_
  intro p e s m args below meth c M hr hlk ht hargs hP0 hE hN ls hl
  have hP : va_P D vwCl ((rooW ad 0 cy fm fr) ++ ((airW ad 1 cy h su st sh fl cS cH dD dE dF) ++ ((grdW ad 15 cy sea noi) ++ (rayW ad 18 cy ypl ydr yan yfr yst ylg yle ydl)))) s.heap := hP0.1
  have hD : va_D (zIn ((rooW ad 0 cy fm fr) ++ ((airW ad 1 cy h su st sh fl cS cH dD dE dF) ++ ((grdW ad 15 cy sea noi) ++ (rayW ad 18 cy ypl ydr yan yfr yst ylg yle ydl))))) ((rooW ad 0 cy fm fr) ++ ((airW ad 1 cy h su st sh fl cS cH dD dE dF) ++ ((grdW ad 15 cy sea noi) ++ (rayW ad 18 cy ypl ydr yan yfr yst ylg yle ydl)))) := hP0.self
  have hAz := hP0.A
  have hS : va_S (zIn ((rooW ad 0 cy fm fr) ++ ((airW ad 1 cy h su st sh fl cS cH dD dE dF) ++ ((grdW ad 15 cy sea noi) ++ (rayW ad 18 cy ypl ydr yan yfr yst ylg yle ydl))))) s.heap s.heap [] := va_S.rf
  have hl : lv_has ls 6 [(0, .ref (ad 0)), (1, .int (iI q)), (2, .int (iI t)), (3, .int (iI w)), (4, .int (iI g))] := hl
  refine lv_aload_n M.1 M.2.1 dL_usable_0 rfl (lv_at hl 0 rfl) ?_
  refine lv_iload_n M.1 M.2.1 dL_usable_1 rfl (lv_at hl 1 rfl) ?_
  refine lv_iload_n M.1 M.2.1 dL_usable_2 rfl (lv_at hl 2 rfl) ?_
  refine lv_iload_n M.1 M.2.1 dL_usable_3 rfl (lv_at hl 3 rfl) ?_
  refine lv_iload M.1 M.2.1 dL_usable_4 (lv_at hl 4 rfl) ?_
  refine z_tW (zx_runV (As := [.int (iI q), .int (iI t), .int (iI w), .int (iI g)]) (rest := []) M (c_X6_usable l hst D cy z0 ad fm fr h su st sh fl ypl ydr yan yfr yst ylg yle ydl cS cH dD dE dF sea noi q t w g r_q r_t r_w hg g_dD g_dE g_dF g_sea) hE hS hAz (z_cut hP hD hAz [0, 1, 2, 3, 4, 5, 6, 7, 8, 9, 10, 11] rfl (by decide +kernel)) (zRc.of (ci := 6) (q0 := 0) hE hP rfl rfl) zk_cd_X6_usable zk_in_RX6 zk_im_X6_usable zk_se_X6_usable zk_ml_RL_82 rfl rfl zd_X6_usable ⟨by decide, by decide⟩ rfl hl.1 rfl (Nat.le_of_ble_eq_true rfl) dL_usable_6 ⟨by decide, by decide⟩) hP hD hS [0, 1, 2, 3, 4, 5, 6, 7, 8, 9, 10, 11] rfl (fun _ => rfl) (fun r1 u1 H locs hp hP hD hS => ?_) (fun Ex qx ce H locs hC hP hS hce hcv hcl => ?_)
  ·
    have hP : va_P D vwCl ((rooW ad 0 cy fm fr) ++ ((airW ad 1 cy h su st sh fl cS cH dD dE dF) ++ ((grdW ad 15 cy sea noi) ++ (rayW ad 18 cy (u1 0) (u1 1) (u1 2) (u1 3) (u1 4) (u1 5) (u1 6) (u1 7))))) H := hP
    obtain ⟨hN1, v9, hu9, rfl⟩ := hp
    have hP : va_P D vwCl ((rooW ad 0 cy fm fr) ++ ((airW ad 1 cy h su st sh fl cS cH dD dE dF) ++ ((grdW ad 15 cy sea noi) ++ (rayW ad 18 cy (((0 : Int), (v9 : Int), u1).2.2 0) (((0 : Int), (v9 : Int), u1).2.2 1) (((0 : Int), (v9 : Int), u1).2.2 2) (((0 : Int), (v9 : Int), u1).2.2 3) (((0 : Int), (v9 : Int), u1).2.2 4) (((0 : Int), (v9 : Int), u1).2.2 5) (((0 : Int), (v9 : Int), u1).2.2 6) (((0 : Int), (v9 : Int), u1).2.2 7))))) H := hP
    exact vx_ret (zw_i M hr hlk ((0 : Int), (v9 : Int), u1) hP hS ⟨rfl, Or.inl ⟨rfl, hN1, ⟨v9, hu9, rfl⟩⟩⟩ (by decide) (by decide) dL_usable_9)
  ·
    rcases hC with ⟨rfl, hC1⟩ | ⟨rfl, hC1⟩
    ·
      refine vx_catch (own := RL) (name := eIB) (E := eIB) M.2.2.2.1 [] ⟨0, 9, 10, 28⟩ [⟨0, 9, 15, 14⟩] (ht.trans rfl) (fun z hz => nomatch hz) (by decide) (by decide) (M.w zk_cl_RL_28) (M.w zk_ca_390) hce hcv hcl ?_
      refine lv_astore (lv' := [(5, .ref qx), (0, .ref (ad 0)), (1, .int (iI q)), (2, .int (iI t)), (3, .int (iI w)), (4, .int (iI g))]) M.1 M.2.1 dL_usable_10 hl (by decide) rfl (fun ls hl => ?_)
      refine zi_ldc M (z := -2000000000) (by decide) zk_ct_RL_16 dL_usable_12 ?_
      have hP : va_P D vwCl ((rooW ad 0 cy fm fr) ++ ((airW ad 1 cy h su st sh fl cS cH dD dE dF) ++ ((grdW ad 15 cy sea noi) ++ (rayW ad 18 cy (((1 : Int), (-2000000000 : Int), (u8 ypl ydr yan yfr yst ylg yle ydl)).2.2 0) (((1 : Int), (-2000000000 : Int), (u8 ypl ydr yan yfr yst ylg yle ydl)).2.2 1) (((1 : Int), (-2000000000 : Int), (u8 ypl ydr yan yfr yst ylg yle ydl)).2.2 2) (((1 : Int), (-2000000000 : Int), (u8 ypl ydr yan yfr yst ylg yle ydl)).2.2 3) (((1 : Int), (-2000000000 : Int), (u8 ypl ydr yan yfr yst ylg yle ydl)).2.2 4) (((1 : Int), (-2000000000 : Int), (u8 ypl ydr yan yfr yst ylg yle ydl)).2.2 5) (((1 : Int), (-2000000000 : Int), (u8 ypl ydr yan yfr yst ylg yle ydl)).2.2 6) (((1 : Int), (-2000000000 : Int), (u8 ypl ydr yan yfr yst ylg yle ydl)).2.2 7))))) H := hP
      exact vx_ret (zw_i M hr hlk ((1 : Int), (-2000000000 : Int), (u8 ypl ydr yan yfr yst ylg yle ydl)) hP hS ⟨rfl, Or.inr ⟨rfl, Or.inl hC1, rfl⟩⟩ (by decide) (by decide) dL_usable_14)
    ·
      refine vx_catch (own := RL) (name := eIA) (E := eIA) M.2.2.2.1 [⟨0, 9, 10, 28⟩] ⟨0, 9, 15, 14⟩ [] (ht.trans rfl) (fun z hz => by rw [List.mem_singleton.mp hz]; exact Or.inr ⟨by decide, _, M.w zk_cl_RL_28, hN.1⟩) (by decide) (by decide) (M.w zk_cl_RL_14) (M.w zk_ca_284) hce hcv hcl ?_
      refine lv_astore (lv' := [(5, .ref qx), (0, .ref (ad 0)), (1, .int (iI q)), (2, .int (iI t)), (3, .int (iI w)), (4, .int (iI g))]) M.1 M.2.1 dL_usable_15 hl (by decide) rfl (fun ls hl => ?_)
      refine zi_ldc M (z := -2000000000) (by decide) zk_ct_RL_16 dL_usable_17 ?_
      have hP : va_P D vwCl ((rooW ad 0 cy fm fr) ++ ((airW ad 1 cy h su st sh fl cS cH dD dE dF) ++ ((grdW ad 15 cy sea noi) ++ (rayW ad 18 cy (((1 : Int), (-2000000000 : Int), (u8 ypl ydr yan yfr yst ylg yle ydl)).2.2 0) (((1 : Int), (-2000000000 : Int), (u8 ypl ydr yan yfr yst ylg yle ydl)).2.2 1) (((1 : Int), (-2000000000 : Int), (u8 ypl ydr yan yfr yst ylg yle ydl)).2.2 2) (((1 : Int), (-2000000000 : Int), (u8 ypl ydr yan yfr yst ylg yle ydl)).2.2 3) (((1 : Int), (-2000000000 : Int), (u8 ypl ydr yan yfr yst ylg yle ydl)).2.2 4) (((1 : Int), (-2000000000 : Int), (u8 ypl ydr yan yfr yst ylg yle ydl)).2.2 5) (((1 : Int), (-2000000000 : Int), (u8 ypl ydr yan yfr yst ylg yle ydl)).2.2 6) (((1 : Int), (-2000000000 : Int), (u8 ypl ydr yan yfr yst ylg yle ydl)).2.2 7))))) H := hP
      exact vx_ret (zw_i M hr hlk ((1 : Int), (-2000000000 : Int), (u8 ypl ydr yan yfr yst ylg yle ydl)) hP hS ⟨rfl, Or.inr ⟨rfl, Or.inr (hC1), rfl⟩⟩ (by decide) (by decide) dL_usable_19)

set_option maxRecDepth 100000 in
set_option maxHeartbeats 8000000 in
theorem c_L_skipped (l : Launch) (hst : l.stackTraces = false) (D : va_G) (cy : Nat → ClassId) (z0 : Nat) (ad : Nat → Nat) (fm fr h su st sh fl : Int) (cS cH dD dE dF : Int → Int) (q : Int) (g : Int) (f : Int) (r_q : r32 q) (r_f : r32 f) (hg : 0 ≤ g ∧ g ≤ 1) (g_dE : zrg 48 0 1000 dE) (g_dF : zrg 48 0 1000 dF) : vx_Met l yL_skipped [.codeWith yL_skipped cL_skipped 5 (some .int) [(0, 7, 8, 28), (0, 7, 13, 14)]] (zRm 9 2 12 159) (zPcN [.ref (ad 0), .int (iI q), .int (iI g), .int (iI f)] D cy z0 (zWl D z0 ((rooW ad 0 cy fm fr) ++ (airW ad 1 cy h su st sh fl cS cH dD dE dF)))) (zQ1 D ((rooW ad 0 cy fm fr) ++ (airW ad 1 cy h su st sh fl cS cH dD dE dF)) (fun (r : Int32) (u : Int × Int × (Nat → Int)) => r = iI u.2.1 ∧ ((u.1 = 0 ∧ ((0 ≤ q ∧ q < 48) ∧ (10 ≤ f ∧ f ≤ 300)) ∧ (u.2.1 = (skpZ (skF dE dF g q f 9)))) ∨ (u.1 = 1 ∧ ((¬ (0 ≤ q ∧ q < 48)) ∨ ((0 ≤ q ∧ q < 48) ∧ ¬ (10 ≤ f ∧ f ≤ 300))) ∧ u.2.1 = (-2000000000)))) (fun (u : Int × Int × (Nat → Int)) => ((rooW ad 0 cy fm fr) ++ (airW ad 1 cy h su st sh fl cS cH dD dE dF)))) (fun _ _ _ => False) 2 12 (zIn ((rooW ad 0 cy fm fr) ++ (airW ad 1 cy h su st sh fl cS cH dD dE dF))) := by
  refine z_ofH (by decide) (Nat.le_of_ble_eq_true rfl) ?_
  intro p e s m args below meth c M hr hlk ht hargs hP0 hE hN ls hl
  have hP : va_P D vwCl ((rooW ad 0 cy fm fr) ++ (airW ad 1 cy h su st sh fl cS cH dD dE dF)) s.heap := hP0.1
  have hD : va_D (zIn ((rooW ad 0 cy fm fr) ++ (airW ad 1 cy h su st sh fl cS cH dD dE dF))) ((rooW ad 0 cy fm fr) ++ (airW ad 1 cy h su st sh fl cS cH dD dE dF)) := hP0.self
  have hAz := hP0.A
  have hS : va_S (zIn ((rooW ad 0 cy fm fr) ++ (airW ad 1 cy h su st sh fl cS cH dD dE dF))) s.heap s.heap [] := va_S.rf
  have hl : lv_has ls 5 [(0, .ref (ad 0)), (1, .int (iI q)), (2, .int (iI g)), (3, .int (iI f))] := hl
  refine lv_aload_n M.1 M.2.1 dL_skipped_0 rfl (lv_at hl 0 rfl) ?_
  refine lv_iload_n M.1 M.2.1 dL_skipped_1 rfl (lv_at hl 1 rfl) ?_
  refine lv_iload_n M.1 M.2.1 dL_skipped_2 rfl (lv_at hl 2 rfl) ?_
  refine lv_iload_n M.1 M.2.1 dL_skipped_3 rfl (lv_at hl 3 rfl) ?_
  refine z_tW (zx_runV (As := [.int (iI q), .int (iI g), .int (iI f)]) (rest := []) M (c_X6_skipped l hst D cy z0 ad fm fr h su st sh fl cS cH dD dE dF q g f r_q r_f hg g_dE g_dF) hE hS hAz (z_cut hP hD hAz [0, 1, 2, 3, 4, 5, 6, 7] rfl (by decide +kernel)) (zRc.of (ci := 6) (q0 := 0) hE hP rfl rfl) zk_cd_X6_skipped zk_in_RX6 zk_im_X6_skipped zk_se_X6_skipped zk_ml_RL_86 rfl rfl zd_X6_skipped ⟨by decide, by decide⟩ rfl hl.1 rfl (Nat.le_of_ble_eq_true rfl) dL_skipped_4 ⟨by decide, by decide⟩) hP hD hS [0, 1, 2, 3, 4, 5, 6, 7] rfl (fun _ => rfl) (fun r1 u1 H locs hp hP hD hS => ?_) (fun Ex qx ce H locs hC hP hS hce hcv hcl => ?_)
  ·
    have hP : va_P D vwCl ((rooW ad 0 cy fm fr) ++ (airW ad 1 cy h su st sh fl cS cH dD dE dF)) H := hP
    obtain ⟨hN1, rfl⟩ := hp
    have hP : va_P D vwCl ((rooW ad 0 cy fm fr) ++ (airW ad 1 cy h su st sh fl cS cH dD dE dF)) H := hP
    exact vx_ret (zw_i M hr hlk ((0 : Int), ((skpZ (skF dE dF g q f 9)) : Int), (fun (_ : Nat) => (0 : Int))) hP hS ⟨rfl, Or.inl ⟨rfl, hN1, rfl⟩⟩ (by decide) (by decide) dL_skipped_7)
  ·
    rcases hC with ⟨rfl, hC1⟩ | ⟨rfl, hC1⟩
    ·
      refine vx_catch (own := RL) (name := eIB) (E := eIB) M.2.2.2.1 [] ⟨0, 7, 8, 28⟩ [⟨0, 7, 13, 14⟩] (ht.trans rfl) (fun z hz => nomatch hz) (by decide) (by decide) (M.w zk_cl_RL_28) (M.w zk_ca_390) hce hcv hcl ?_
      refine lv_astore (lv' := [(4, .ref qx), (0, .ref (ad 0)), (1, .int (iI q)), (2, .int (iI g)), (3, .int (iI f))]) M.1 M.2.1 dL_skipped_8 hl (by decide) rfl (fun ls hl => ?_)
      refine zi_ldc M (z := -2000000000) (by decide) zk_ct_RL_16 dL_skipped_10 ?_
      have hP : va_P D vwCl ((rooW ad 0 cy fm fr) ++ (airW ad 1 cy h su st sh fl cS cH dD dE dF)) H := hP
      exact vx_ret (zw_i M hr hlk ((1 : Int), (-2000000000 : Int), (fun (_ : Nat) => (0 : Int))) hP hS ⟨rfl, Or.inr ⟨rfl, Or.inl hC1, rfl⟩⟩ (by decide) (by decide) dL_skipped_12)
    ·
      refine vx_catch (own := RL) (name := eIA) (E := eIA) M.2.2.2.1 [⟨0, 7, 8, 28⟩] ⟨0, 7, 13, 14⟩ [] (ht.trans rfl) (fun z hz => by rw [List.mem_singleton.mp hz]; exact Or.inr ⟨by decide, _, M.w zk_cl_RL_28, hN.1⟩) (by decide) (by decide) (M.w zk_cl_RL_14) (M.w zk_ca_284) hce hcv hcl ?_
      refine lv_astore (lv' := [(4, .ref qx), (0, .ref (ad 0)), (1, .int (iI q)), (2, .int (iI g)), (3, .int (iI f))]) M.1 M.2.1 dL_skipped_13 hl (by decide) rfl (fun ls hl => ?_)
      refine zi_ldc M (z := -2000000000) (by decide) zk_ct_RL_16 dL_skipped_15 ?_
      have hP : va_P D vwCl ((rooW ad 0 cy fm fr) ++ (airW ad 1 cy h su st sh fl cS cH dD dE dF)) H := hP
      exact vx_ret (zw_i M hr hlk ((1 : Int), (-2000000000 : Int), (fun (_ : Nat) => (0 : Int))) hP hS ⟨rfl, Or.inr ⟨rfl, Or.inr (hC1), rfl⟩⟩ (by decide) (by decide) dL_skipped_17)

set_option maxRecDepth 100000 in
set_option maxHeartbeats 8000000 in
theorem c_L_signal (l : Launch) (hst : l.stackTraces = false) (D : va_G) (cy : Nat → ClassId) (z0 : Nat) (ad : Nat → Nat) (fm fr h su st sh fl ypl ydr yan yfr yst ylg yle ydl sm : Int) (cS cH dD dE dF sea noi pl pw an hd fq : Int → Int) (x : Int) (y : Int) (f : Int) (r_x : r32 x) (r_y : r32 y) (r_f : r32 f) (g_dD : zrg 48 0 1000 dD) (g_dE : zrg 48 0 1000 dE) (g_dF : zrg 48 0 1000 dF) (g_sea : zrg 48 0 1 sea) (g_noi : zrg 48 0 40 noi) (g_pl : zrg 12 0 47 pl) (g_pw : zrg 12 0 80 pw) (g_an : zrg 12 0 2 an) (g_hd : zrg 12 0 2 hd) (hsm : 0 ≤ sm ∧ sm ≤ 12) (h_h : 0 ≤ h ∧ h ≤ 5000) : vx_Met l yL_signal [.codeWith yL_signal cL_signal 5 (some .int) [(0, 7, 8, 28), (0, 7, 13, 14)]] (zRm 9 4 24 177) (zPcN [.ref (ad 0), .int (iI x), .int (iI y), .int (iI f)] D cy z0 (zWl D z0 ((rooW ad 0 cy fm fr) ++ ((airW ad 1 cy h su st sh fl cS cH dD dE dF) ++ ((grdW ad 15 cy sea noi) ++ ((rayW ad 18 cy ypl ydr yan yfr yst ylg yle ydl) ++ (sndW ad 19 cy 12 sm pl pw an hd fq))))))) (zQ1 D ((rooW ad 0 cy fm fr) ++ ((airW ad 1 cy h su st sh fl cS cH dD dE dF) ++ ((grdW ad 15 cy sea noi) ++ ((rayW ad 18 cy ypl ydr yan yfr yst ylg yle ydl) ++ (sndW ad 19 cy 12 sm pl pw an hd fq))))) (fun (r : Int32) (u : Int × Int × (Nat → Int)) => r = iI u.2.1 ∧ ((u.1 = 0 ∧ (((0 ≤ x ∧ x < sm) ∧ (0 ≤ y ∧ y < sm)) ∧ ((10 ≤ f ∧ f ≤ 300) ∧ (¬ x = y))) ∧ (u.2.1 = (sigZ dE dF dD sea noi h (pl x) (pl y) f (pw x) (an x) (hd x)))) ∨ (u.1 = 1 ∧ ((¬ ((0 ≤ x ∧ x < sm) ∧ (0 ≤ y ∧ y < sm))) ∨ (((0 ≤ x ∧ x < sm) ∧ (0 ≤ y ∧ y < sm)) ∧ ¬ ((10 ≤ f ∧ f ≤ 300) ∧ (¬ x = y)))) ∧ u.2.1 = (-2000000000)))) (fun (u : Int × Int × (Nat → Int)) => ((rooW ad 0 cy fm fr) ++ ((airW ad 1 cy h su st sh fl cS cH dD dE dF) ++ ((grdW ad 15 cy sea noi) ++ ((rayW ad 18 cy (u.2.2 0) (u.2.2 1) (u.2.2 2) (u.2.2 3) (u.2.2 4) (u.2.2 5) (u.2.2 6) (u.2.2 7)) ++ (sndW ad 19 cy 12 sm pl pw an hd fq))))))) (fun _ _ _ => False) 4 24 (zIn ((rooW ad 0 cy fm fr) ++ ((airW ad 1 cy h su st sh fl cS cH dD dE dF) ++ ((grdW ad 15 cy sea noi) ++ ((rayW ad 18 cy ypl ydr yan yfr yst ylg yle ydl) ++ (sndW ad 19 cy 12 sm pl pw an hd fq)))))) := by
  refine z_ofH (by decide) (Nat.le_of_ble_eq_true rfl) ?_
  intro p e s m args below meth c M hr hlk ht hargs hP0 hE hN ls hl
  have hP : va_P D vwCl ((rooW ad 0 cy fm fr) ++ ((airW ad 1 cy h su st sh fl cS cH dD dE dF) ++ ((grdW ad 15 cy sea noi) ++ ((rayW ad 18 cy ypl ydr yan yfr yst ylg yle ydl) ++ (sndW ad 19 cy 12 sm pl pw an hd fq))))) s.heap := hP0.1
  have hD : va_D (zIn ((rooW ad 0 cy fm fr) ++ ((airW ad 1 cy h su st sh fl cS cH dD dE dF) ++ ((grdW ad 15 cy sea noi) ++ ((rayW ad 18 cy ypl ydr yan yfr yst ylg yle ydl) ++ (sndW ad 19 cy 12 sm pl pw an hd fq)))))) ((rooW ad 0 cy fm fr) ++ ((airW ad 1 cy h su st sh fl cS cH dD dE dF) ++ ((grdW ad 15 cy sea noi) ++ ((rayW ad 18 cy ypl ydr yan yfr yst ylg yle ydl) ++ (sndW ad 19 cy 12 sm pl pw an hd fq))))) := hP0.self
  have hAz := hP0.A
  have hS : va_S (zIn ((rooW ad 0 cy fm fr) ++ ((airW ad 1 cy h su st sh fl cS cH dD dE dF) ++ ((grdW ad 15 cy sea noi) ++ ((rayW ad 18 cy ypl ydr yan yfr yst ylg yle ydl) ++ (sndW ad 19 cy 12 sm pl pw an hd fq)))))) s.heap s.heap [] := va_S.rf
  have hl : lv_has ls 5 [(0, .ref (ad 0)), (1, .int (iI x)), (2, .int (iI y)), (3, .int (iI f))] := hl
  refine lv_aload_n M.1 M.2.1 dL_signal_0 rfl (lv_at hl 0 rfl) ?_
  refine lv_iload_n M.1 M.2.1 dL_signal_1 rfl (lv_at hl 1 rfl) ?_
  refine lv_iload_n M.1 M.2.1 dL_signal_2 rfl (lv_at hl 2 rfl) ?_
  refine lv_iload_n M.1 M.2.1 dL_signal_3 rfl (lv_at hl 3 rfl) ?_
  refine z_tW (zx_runV (As := [.int (iI x), .int (iI y), .int (iI f)]) (rest := []) M (c_X6_signal l hst D cy z0 ad fm fr h su st sh fl ypl ydr yan yfr yst ylg yle ydl sm cS cH dD dE dF sea noi pl pw an hd fq x y f r_x r_y r_f g_dD g_dE g_dF g_sea g_noi g_pl g_pw g_an g_hd hsm h_h) hE hS hAz (z_cut hP hD hAz [0, 1, 2, 3, 4, 5, 6, 7, 8, 9, 10, 11, 12, 13, 14, 15, 16, 17] rfl (by decide +kernel)) (zRc.of (ci := 6) (q0 := 0) hE hP rfl rfl) zk_cd_X6_signal zk_in_RX6 zk_im_X6_signal zk_se_X6_signal zk_ml_RL_90 rfl rfl zd_X6_signal ⟨by decide, by decide⟩ rfl hl.1 rfl (Nat.le_of_ble_eq_true rfl) dL_signal_4 ⟨by decide, by decide⟩) hP hD hS [0, 1, 2, 3, 4, 5, 6, 7, 8, 9, 10, 11, 12, 13, 14, 15, 16, 17] rfl (fun _ => rfl) (fun r1 u1 H locs hp hP hD hS => ?_) (fun Ex qx ce H locs hC hP hS hce hcv hcl => ?_)
  ·
    have hP : va_P D vwCl ((rooW ad 0 cy fm fr) ++ ((airW ad 1 cy h su st sh fl cS cH dD dE dF) ++ ((grdW ad 15 cy sea noi) ++ ((rayW ad 18 cy (u1 0) (u1 1) (u1 2) (u1 3) (u1 4) (u1 5) (u1 6) (u1 7)) ++ (sndW ad 19 cy 12 sm pl pw an hd fq))))) H := hP
    obtain ⟨hN1, rfl⟩ := hp
    have hP : va_P D vwCl ((rooW ad 0 cy fm fr) ++ ((airW ad 1 cy h su st sh fl cS cH dD dE dF) ++ ((grdW ad 15 cy sea noi) ++ ((rayW ad 18 cy (((0 : Int), ((sigZ dE dF dD sea noi h (pl x) (pl y) f (pw x) (an x) (hd x)) : Int), u1).2.2 0) (((0 : Int), ((sigZ dE dF dD sea noi h (pl x) (pl y) f (pw x) (an x) (hd x)) : Int), u1).2.2 1) (((0 : Int), ((sigZ dE dF dD sea noi h (pl x) (pl y) f (pw x) (an x) (hd x)) : Int), u1).2.2 2) (((0 : Int), ((sigZ dE dF dD sea noi h (pl x) (pl y) f (pw x) (an x) (hd x)) : Int), u1).2.2 3) (((0 : Int), ((sigZ dE dF dD sea noi h (pl x) (pl y) f (pw x) (an x) (hd x)) : Int), u1).2.2 4) (((0 : Int), ((sigZ dE dF dD sea noi h (pl x) (pl y) f (pw x) (an x) (hd x)) : Int), u1).2.2 5) (((0 : Int), ((sigZ dE dF dD sea noi h (pl x) (pl y) f (pw x) (an x) (hd x)) : Int), u1).2.2 6) (((0 : Int), ((sigZ dE dF dD sea noi h (pl x) (pl y) f (pw x) (an x) (hd x)) : Int), u1).2.2 7)) ++ (sndW ad 19 cy 12 sm pl pw an hd fq))))) H := hP
    exact vx_ret (zw_i M hr hlk ((0 : Int), ((sigZ dE dF dD sea noi h (pl x) (pl y) f (pw x) (an x) (hd x)) : Int), u1) hP hS ⟨rfl, Or.inl ⟨rfl, hN1, rfl⟩⟩ (by decide) (by decide) dL_signal_7)
  ·
    rcases hC with ⟨rfl, hC1⟩ | ⟨rfl, hC1⟩
    ·
      refine vx_catch (own := RL) (name := eIB) (E := eIB) M.2.2.2.1 [] ⟨0, 7, 8, 28⟩ [⟨0, 7, 13, 14⟩] (ht.trans rfl) (fun z hz => nomatch hz) (by decide) (by decide) (M.w zk_cl_RL_28) (M.w zk_ca_390) hce hcv hcl ?_
      refine lv_astore (lv' := [(4, .ref qx), (0, .ref (ad 0)), (1, .int (iI x)), (2, .int (iI y)), (3, .int (iI f))]) M.1 M.2.1 dL_signal_8 hl (by decide) rfl (fun ls hl => ?_)
      refine zi_ldc M (z := -2000000000) (by decide) zk_ct_RL_16 dL_signal_10 ?_
      have hP : va_P D vwCl ((rooW ad 0 cy fm fr) ++ ((airW ad 1 cy h su st sh fl cS cH dD dE dF) ++ ((grdW ad 15 cy sea noi) ++ ((rayW ad 18 cy (((1 : Int), (-2000000000 : Int), (u8 ypl ydr yan yfr yst ylg yle ydl)).2.2 0) (((1 : Int), (-2000000000 : Int), (u8 ypl ydr yan yfr yst ylg yle ydl)).2.2 1) (((1 : Int), (-2000000000 : Int), (u8 ypl ydr yan yfr yst ylg yle ydl)).2.2 2) (((1 : Int), (-2000000000 : Int), (u8 ypl ydr yan yfr yst ylg yle ydl)).2.2 3) (((1 : Int), (-2000000000 : Int), (u8 ypl ydr yan yfr yst ylg yle ydl)).2.2 4) (((1 : Int), (-2000000000 : Int), (u8 ypl ydr yan yfr yst ylg yle ydl)).2.2 5) (((1 : Int), (-2000000000 : Int), (u8 ypl ydr yan yfr yst ylg yle ydl)).2.2 6) (((1 : Int), (-2000000000 : Int), (u8 ypl ydr yan yfr yst ylg yle ydl)).2.2 7)) ++ (sndW ad 19 cy 12 sm pl pw an hd fq))))) H := hP
      exact vx_ret (zw_i M hr hlk ((1 : Int), (-2000000000 : Int), (u8 ypl ydr yan yfr yst ylg yle ydl)) hP hS ⟨rfl, Or.inr ⟨rfl, Or.inl hC1, rfl⟩⟩ (by decide) (by decide) dL_signal_12)
    ·
      refine vx_catch (own := RL) (name := eIA) (E := eIA) M.2.2.2.1 [⟨0, 7, 8, 28⟩] ⟨0, 7, 13, 14⟩ [] (ht.trans rfl) (fun z hz => by rw [List.mem_singleton.mp hz]; exact Or.inr ⟨by decide, _, M.w zk_cl_RL_28, hN.1⟩) (by decide) (by decide) (M.w zk_cl_RL_14) (M.w zk_ca_284) hce hcv hcl ?_
      refine lv_astore (lv' := [(4, .ref qx), (0, .ref (ad 0)), (1, .int (iI x)), (2, .int (iI y)), (3, .int (iI f))]) M.1 M.2.1 dL_signal_13 hl (by decide) rfl (fun ls hl => ?_)
      refine zi_ldc M (z := -2000000000) (by decide) zk_ct_RL_16 dL_signal_15 ?_
      have hP : va_P D vwCl ((rooW ad 0 cy fm fr) ++ ((airW ad 1 cy h su st sh fl cS cH dD dE dF) ++ ((grdW ad 15 cy sea noi) ++ ((rayW ad 18 cy (((1 : Int), (-2000000000 : Int), (u8 ypl ydr yan yfr yst ylg yle ydl)).2.2 0) (((1 : Int), (-2000000000 : Int), (u8 ypl ydr yan yfr yst ylg yle ydl)).2.2 1) (((1 : Int), (-2000000000 : Int), (u8 ypl ydr yan yfr yst ylg yle ydl)).2.2 2) (((1 : Int), (-2000000000 : Int), (u8 ypl ydr yan yfr yst ylg yle ydl)).2.2 3) (((1 : Int), (-2000000000 : Int), (u8 ypl ydr yan yfr yst ylg yle ydl)).2.2 4) (((1 : Int), (-2000000000 : Int), (u8 ypl ydr yan yfr yst ylg yle ydl)).2.2 5) (((1 : Int), (-2000000000 : Int), (u8 ypl ydr yan yfr yst ylg yle ydl)).2.2 6) (((1 : Int), (-2000000000 : Int), (u8 ypl ydr yan yfr yst ylg yle ydl)).2.2 7)) ++ (sndW ad 19 cy 12 sm pl pw an hd fq))))) H := hP
      exact vx_ret (zw_i M hr hlk ((1 : Int), (-2000000000 : Int), (u8 ypl ydr yan yfr yst ylg yle ydl)) hP hS ⟨rfl, Or.inr ⟨rfl, Or.inr (hC1), rfl⟩⟩ (by decide) (by decide) dL_signal_17)

set_option maxRecDepth 100000 in
set_option maxHeartbeats 8000000 in
theorem c_L_contactOf (l : Launch) (hst : l.stackTraces = false) (D : va_G) (cy : Nat → ClassId) (z0 : Nat) (ad : Nat → Nat) (fm fr cm : Int) (c1 c2 c3 c4 c5 : Int → Int) (k : Int) (wh : Int) (r_k : r32 k) (r_wh : r32 wh) (hcm : 0 ≤ cm ∧ cm ≤ 60) : vx_Met l yL_contactOf [.codeWith yL_contactOf cL_contactOf 4 (some .int) [(0, 6, 7, 28), (0, 6, 11, 14)]] (zRm 8 1 6 134) (zPcN [.ref (ad 0), .int (iI k), .int (iI wh)] D cy z0 (zWl D z0 ((rooW ad 0 cy fm fr) ++ (conW ad 31 cy cm c1 c2 c3 c4 c5)))) (zQ1 D ((rooW ad 0 cy fm fr) ++ (conW ad 31 cy cm c1 c2 c3 c4 c5)) (fun (r : Int32) (u : Int × Int × (Nat → Int)) => r = iI u.2.1 ∧ ((u.1 = 0 ∧ ((0 ≤ k ∧ k < cm) ∧ (0 ≤ wh ∧ wh ≤ 4)) ∧ (u.2.1 = (tell5 (c1 k) (c2 k) (c3 k) (c4 k) (c5 k) wh))) ∨ (u.1 = 1 ∧ ((¬ (0 ≤ k ∧ k < cm)) ∨ ((0 ≤ k ∧ k < cm) ∧ ¬ (0 ≤ wh ∧ wh ≤ 4))) ∧ u.2.1 = (-2000000000)))) (fun (u : Int × Int × (Nat → Int)) => ((rooW ad 0 cy fm fr) ++ (conW ad 31 cy cm c1 c2 c3 c4 c5)))) (fun _ _ _ => False) 1 6 (zIn ((rooW ad 0 cy fm fr) ++ (conW ad 31 cy cm c1 c2 c3 c4 c5))) := by
  refine z_ofH (by decide) (Nat.le_of_ble_eq_true rfl) ?_
  intro p e s m args below meth c M hr hlk ht hargs hP0 hE hN ls hl
  have hP : va_P D vwCl ((rooW ad 0 cy fm fr) ++ (conW ad 31 cy cm c1 c2 c3 c4 c5)) s.heap := hP0.1
  have hD : va_D (zIn ((rooW ad 0 cy fm fr) ++ (conW ad 31 cy cm c1 c2 c3 c4 c5))) ((rooW ad 0 cy fm fr) ++ (conW ad 31 cy cm c1 c2 c3 c4 c5)) := hP0.self
  have hAz := hP0.A
  have hS : va_S (zIn ((rooW ad 0 cy fm fr) ++ (conW ad 31 cy cm c1 c2 c3 c4 c5))) s.heap s.heap [] := va_S.rf
  have hl : lv_has ls 4 [(0, .ref (ad 0)), (1, .int (iI k)), (2, .int (iI wh))] := hl
  refine lv_aload_n M.1 M.2.1 dL_contactOf_0 rfl (lv_at hl 0 rfl) ?_
  refine lv_iload_n M.1 M.2.1 dL_contactOf_1 rfl (lv_at hl 1 rfl) ?_
  refine lv_iload_n M.1 M.2.1 dL_contactOf_2 rfl (lv_at hl 2 rfl) ?_
  refine z_tW (zx_runV (As := [.int (iI k), .int (iI wh)]) (rest := []) M (c_X6_contactOf l hst D cy z0 ad fm fr cm c1 c2 c3 c4 c5 k wh r_k r_wh hcm) hE hS hAz (z_cut hP hD hAz [0, 1, 2, 3, 4, 5, 6] rfl (by decide +kernel)) (zRc.of (ci := 6) (q0 := 0) hE hP rfl rfl) zk_cd_X6_contactOf zk_in_RX6 zk_im_X6_contactOf zk_se_X6_contactOf zk_ml_RL_93 rfl rfl zd_X6_contactOf ⟨by decide, by decide⟩ rfl hl.1 rfl (Nat.le_of_ble_eq_true rfl) dL_contactOf_3 ⟨by decide, by decide⟩) hP hD hS [0, 1, 2, 3, 4, 5, 6] rfl (fun _ => rfl) (fun r1 u1 H locs hp hP hD hS => ?_) (fun Ex qx ce H locs hC hP hS hce hcv hcl => ?_)
  ·
    have hP : va_P D vwCl ((rooW ad 0 cy fm fr) ++ (conW ad 31 cy cm c1 c2 c3 c4 c5)) H := hP
    obtain ⟨hN1, rfl⟩ := hp
    have hP : va_P D vwCl ((rooW ad 0 cy fm fr) ++ (conW ad 31 cy cm c1 c2 c3 c4 c5)) H := hP
    exact vx_ret (zw_i M hr hlk ((0 : Int), ((tell5 (c1 k) (c2 k) (c3 k) (c4 k) (c5 k) wh) : Int), (fun (_ : Nat) => (0 : Int))) hP hS ⟨rfl, Or.inl ⟨rfl, hN1, rfl⟩⟩ (by decide) (by decide) dL_contactOf_6)
  ·
    rcases hC with ⟨rfl, hC1⟩ | ⟨rfl, hC1⟩
    ·
      refine vx_catch (own := RL) (name := eIB) (E := eIB) M.2.2.2.1 [] ⟨0, 6, 7, 28⟩ [⟨0, 6, 11, 14⟩] (ht.trans rfl) (fun z hz => nomatch hz) (by decide) (by decide) (M.w zk_cl_RL_28) (M.w zk_ca_390) hce hcv hcl ?_
      refine lv_astore_n (lv' := [(3, .ref qx), (0, .ref (ad 0)), (1, .int (iI k)), (2, .int (iI wh))]) M.1 M.2.1 dL_contactOf_7 rfl hl (by decide) rfl (fun ls hl => ?_)
      refine zi_ldc M (z := -2000000000) (by decide) zk_ct_RL_16 dL_contactOf_8 ?_
      have hP : va_P D vwCl ((rooW ad 0 cy fm fr) ++ (conW ad 31 cy cm c1 c2 c3 c4 c5)) H := hP
      exact vx_ret (zw_i M hr hlk ((1 : Int), (-2000000000 : Int), (fun (_ : Nat) => (0 : Int))) hP hS ⟨rfl, Or.inr ⟨rfl, Or.inl hC1, rfl⟩⟩ (by decide) (by decide) dL_contactOf_10)
    ·
      refine vx_catch (own := RL) (name := eIA) (E := eIA) M.2.2.2.1 [⟨0, 6, 7, 28⟩] ⟨0, 6, 11, 14⟩ [] (ht.trans rfl) (fun z hz => by rw [List.mem_singleton.mp hz]; exact Or.inr ⟨by decide, _, M.w zk_cl_RL_28, hN.1⟩) (by decide) (by decide) (M.w zk_cl_RL_14) (M.w zk_ca_284) hce hcv hcl ?_
      refine lv_astore_n (lv' := [(3, .ref qx), (0, .ref (ad 0)), (1, .int (iI k)), (2, .int (iI wh))]) M.1 M.2.1 dL_contactOf_11 rfl hl (by decide) rfl (fun ls hl => ?_)
      refine zi_ldc M (z := -2000000000) (by decide) zk_ct_RL_16 dL_contactOf_12 ?_
      have hP : va_P D vwCl ((rooW ad 0 cy fm fr) ++ (conW ad 31 cy cm c1 c2 c3 c4 c5)) H := hP
      exact vx_ret (zw_i M hr hlk ((1 : Int), (-2000000000 : Int), (fun (_ : Nat) => (0 : Int))) hP hS ⟨rfl, Or.inr ⟨rfl, Or.inr (hC1), rfl⟩⟩ (by decide) (by decide) dL_contactOf_14)

set_option maxRecDepth 100000 in
set_option maxHeartbeats 8000000 in
theorem c_L_entryOf (l : Launch) (hst : l.stackTraces = false) (D : va_G) (cy : Nat → ClassId) (z0 : Nat) (ad : Nat → Nat) (fm fr cm em ep : Int) (c1 c2 c3 c4 c5 e1 e2 e3 e4 e5 : Int → Int) (k : Int) (wh : Int) (r_k : r32 k) (r_wh : r32 wh) (g_c1 : zrg 60 0 11 c1) (g_c2 : zrg 60 0 11 c2) (g_c3 : zrg 60 0 300 c3) (g_c5 : zrg 60 0 5000 c5) (g_e1 : zrg 80 0 11 e1) (g_e2 : zrg 80 0 11 e2) (g_e3 : zrg 80 0 300 e3) (g_e4 : zrg 80 0 5000 e4) (g_e5 : zrg 80 (-1) 79 e5) (hcm : 0 ≤ cm ∧ cm ≤ 60) (hem : 0 ≤ em ∧ em ≤ 80) : vx_Met l yL_entryOf [.codeWith yL_entryOf cL_entryOf 4 (some .int) [(0, 6, 7, 28), (0, 6, 11, 14)]] (zRm 8 1 6 134) (zPcN [.ref (ad 0), .int (iI k), .int (iI wh)] D cy z0 (zWl D z0 ((rooW ad 0 cy fm fr) ++ ((conW ad 31 cy cm c1 c2 c3 c4 c5) ++ (entW ad 37 cy em ep e1 e2 e3 e4 e5))))) (zQ1 D ((rooW ad 0 cy fm fr) ++ ((conW ad 31 cy cm c1 c2 c3 c4 c5) ++ (entW ad 37 cy em ep e1 e2 e3 e4 e5))) (fun (r : Int32) (u : Int × Int × (Nat → Int)) => r = iI u.2.1 ∧ ((u.1 = 0 ∧ ((0 ≤ k ∧ k < em) ∧ (0 ≤ wh ∧ wh ≤ 5)) ∧ (u.2.1 = (if wh = 5 then zif (cntZ cm c1 c2 c3 c5 e1 e2 e3 e4 e5 k) 1 0 else tell5 (e1 k) (e2 k) (e3 k) (e4 k) (e5 k) wh))) ∨ (u.1 = 1 ∧ ((¬ (0 ≤ k ∧ k < em)) ∨ ((0 ≤ k ∧ k < em) ∧ ¬ (0 ≤ wh ∧ wh ≤ 5))) ∧ u.2.1 = (-2000000000)))) (fun (u : Int × Int × (Nat → Int)) => ((rooW ad 0 cy fm fr) ++ ((conW ad 31 cy cm c1 c2 c3 c4 c5) ++ (entW ad 37 cy em ep e1 e2 e3 e4 e5))))) (fun _ _ _ => False) 1 6 (zIn ((rooW ad 0 cy fm fr) ++ ((conW ad 31 cy cm c1 c2 c3 c4 c5) ++ (entW ad 37 cy em ep e1 e2 e3 e4 e5)))) := by
  refine z_ofH (by decide) (Nat.le_of_ble_eq_true rfl) ?_
  intro p e s m args below meth c M hr hlk ht hargs hP0 hE hN ls hl
  have hP : va_P D vwCl ((rooW ad 0 cy fm fr) ++ ((conW ad 31 cy cm c1 c2 c3 c4 c5) ++ (entW ad 37 cy em ep e1 e2 e3 e4 e5))) s.heap := hP0.1
  have hD : va_D (zIn ((rooW ad 0 cy fm fr) ++ ((conW ad 31 cy cm c1 c2 c3 c4 c5) ++ (entW ad 37 cy em ep e1 e2 e3 e4 e5)))) ((rooW ad 0 cy fm fr) ++ ((conW ad 31 cy cm c1 c2 c3 c4 c5) ++ (entW ad 37 cy em ep e1 e2 e3 e4 e5))) := hP0.self
  have hAz := hP0.A
  have hS : va_S (zIn ((rooW ad 0 cy fm fr) ++ ((conW ad 31 cy cm c1 c2 c3 c4 c5) ++ (entW ad 37 cy em ep e1 e2 e3 e4 e5)))) s.heap s.heap [] := va_S.rf
  have hl : lv_has ls 4 [(0, .ref (ad 0)), (1, .int (iI k)), (2, .int (iI wh))] := hl
  refine lv_aload_n M.1 M.2.1 dL_entryOf_0 rfl (lv_at hl 0 rfl) ?_
  refine lv_iload_n M.1 M.2.1 dL_entryOf_1 rfl (lv_at hl 1 rfl) ?_
  refine lv_iload_n M.1 M.2.1 dL_entryOf_2 rfl (lv_at hl 2 rfl) ?_
  refine z_tW (zx_runV (As := [.int (iI k), .int (iI wh)]) (rest := []) M (c_X6_entryOf l hst D cy z0 ad fm fr cm em ep c1 c2 c3 c4 c5 e1 e2 e3 e4 e5 k wh r_k r_wh g_c1 g_c2 g_c3 g_c5 g_e1 g_e2 g_e3 g_e4 g_e5 hcm hem) hE hS hAz (z_cut hP hD hAz [0, 1, 2, 3, 4, 5, 6, 7, 8, 9, 10, 11, 12] rfl (by decide +kernel)) (zRc.of (ci := 6) (q0 := 0) hE hP rfl rfl) zk_cd_X6_entryOf zk_in_RX6 zk_im_X6_entryOf zk_se_X6_entryOf zk_ml_RL_96 rfl rfl zd_X6_entryOf ⟨by decide, by decide⟩ rfl hl.1 rfl (Nat.le_of_ble_eq_true rfl) dL_entryOf_3 ⟨by decide, by decide⟩) hP hD hS [0, 1, 2, 3, 4, 5, 6, 7, 8, 9, 10, 11, 12] rfl (fun _ => rfl) (fun r1 u1 H locs hp hP hD hS => ?_) (fun Ex qx ce H locs hC hP hS hce hcv hcl => ?_)
  ·
    have hP : va_P D vwCl ((rooW ad 0 cy fm fr) ++ ((conW ad 31 cy cm c1 c2 c3 c4 c5) ++ (entW ad 37 cy em ep e1 e2 e3 e4 e5))) H := hP
    obtain ⟨hN1, rfl⟩ := hp
    have hP : va_P D vwCl ((rooW ad 0 cy fm fr) ++ ((conW ad 31 cy cm c1 c2 c3 c4 c5) ++ (entW ad 37 cy em ep e1 e2 e3 e4 e5))) H := hP
    exact vx_ret (zw_i M hr hlk ((0 : Int), ((if wh = 5 then zif (cntZ cm c1 c2 c3 c5 e1 e2 e3 e4 e5 k) 1 0 else tell5 (e1 k) (e2 k) (e3 k) (e4 k) (e5 k) wh) : Int), (fun (_ : Nat) => (0 : Int))) hP hS ⟨rfl, Or.inl ⟨rfl, hN1, rfl⟩⟩ (by decide) (by decide) dL_entryOf_6)
  ·
    rcases hC with ⟨rfl, hC1⟩ | ⟨rfl, hC1⟩
    ·
      refine vx_catch (own := RL) (name := eIB) (E := eIB) M.2.2.2.1 [] ⟨0, 6, 7, 28⟩ [⟨0, 6, 11, 14⟩] (ht.trans rfl) (fun z hz => nomatch hz) (by decide) (by decide) (M.w zk_cl_RL_28) (M.w zk_ca_390) hce hcv hcl ?_
      refine lv_astore_n (lv' := [(3, .ref qx), (0, .ref (ad 0)), (1, .int (iI k)), (2, .int (iI wh))]) M.1 M.2.1 dL_entryOf_7 rfl hl (by decide) rfl (fun ls hl => ?_)
      refine zi_ldc M (z := -2000000000) (by decide) zk_ct_RL_16 dL_entryOf_8 ?_
      have hP : va_P D vwCl ((rooW ad 0 cy fm fr) ++ ((conW ad 31 cy cm c1 c2 c3 c4 c5) ++ (entW ad 37 cy em ep e1 e2 e3 e4 e5))) H := hP
      exact vx_ret (zw_i M hr hlk ((1 : Int), (-2000000000 : Int), (fun (_ : Nat) => (0 : Int))) hP hS ⟨rfl, Or.inr ⟨rfl, Or.inl hC1, rfl⟩⟩ (by decide) (by decide) dL_entryOf_10)
    ·
      refine vx_catch (own := RL) (name := eIA) (E := eIA) M.2.2.2.1 [⟨0, 6, 7, 28⟩] ⟨0, 6, 11, 14⟩ [] (ht.trans rfl) (fun z hz => by rw [List.mem_singleton.mp hz]; exact Or.inr ⟨by decide, _, M.w zk_cl_RL_28, hN.1⟩) (by decide) (by decide) (M.w zk_cl_RL_14) (M.w zk_ca_284) hce hcv hcl ?_
      refine lv_astore_n (lv' := [(3, .ref qx), (0, .ref (ad 0)), (1, .int (iI k)), (2, .int (iI wh))]) M.1 M.2.1 dL_entryOf_11 rfl hl (by decide) rfl (fun ls hl => ?_)
      refine zi_ldc M (z := -2000000000) (by decide) zk_ct_RL_16 dL_entryOf_12 ?_
      have hP : va_P D vwCl ((rooW ad 0 cy fm fr) ++ ((conW ad 31 cy cm c1 c2 c3 c4 c5) ++ (entW ad 37 cy em ep e1 e2 e3 e4 e5))) H := hP
      exact vx_ret (zw_i M hr hlk ((1 : Int), (-2000000000 : Int), (fun (_ : Nat) => (0 : Int))) hP hS ⟨rfl, Or.inr ⟨rfl, Or.inr (hC1), rfl⟩⟩ (by decide) (by decide) dL_entryOf_14)

set_option maxRecDepth 100000 in
set_option maxHeartbeats 8000000 in
theorem c_L_score (l : Launch) (hst : l.stackTraces = false) (D : va_G) (cy : Nat → ClassId) (z0 : Nat) (ad : Nat → Nat) (fm fr h su st sh fl sm cm em ep : Int) (cS cH dD dE dF pl pw an hd fq c1 c2 c3 c4 c5 e1 e2 e3 e4 e5 : Int → Int) (x : Int) (r_x : r32 x) (g_pl : zrg 12 0 47 pl) (g_c1 : zrg 60 0 11 c1) (g_c2 : zrg 60 0 11 c2) (g_c3 : zrg 60 0 300 c3) (g_c5 : zrg 60 0 5000 c5) (g_e1 : zrg 80 0 11 e1) (g_e2 : zrg 80 0 11 e2) (g_e3 : zrg 80 0 300 e3) (g_e4 : zrg 80 0 5000 e4) (g_e5 : zrg 80 (-1) 79 e5) (hsm : 0 ≤ sm ∧ sm ≤ 12) (hcm : 0 ≤ cm ∧ cm ≤ 60) (hem : 0 ≤ em ∧ em ≤ 80) (h_h : 0 ≤ h ∧ h ≤ 5000) : vx_Met l yL_score [.codeWith yL_score cL_score 3 (some .int) [(0, 5, 6, 28)]] (zRm 8 1 6 137) (zPcN [.ref (ad 0), .int (iI x)] D cy z0 (zWl D z0 ((rooW ad 0 cy fm fr) ++ ((airW ad 1 cy h su st sh fl cS cH dD dE dF) ++ ((sndW ad 19 cy 12 sm pl pw an hd fq) ++ ((conW ad 31 cy cm c1 c2 c3 c4 c5) ++ (entW ad 37 cy em ep e1 e2 e3 e4 e5))))))) (zQ1 D ((rooW ad 0 cy fm fr) ++ ((airW ad 1 cy h su st sh fl cS cH dD dE dF) ++ ((sndW ad 19 cy 12 sm pl pw an hd fq) ++ ((conW ad 31 cy cm c1 c2 c3 c4 c5) ++ (entW ad 37 cy em ep e1 e2 e3 e4 e5))))) (fun (r : Int32) (u : Int × Int × (Nat → Int)) => r = iI u.2.1 ∧ ((u.1 = 0 ∧ ((0 ≤ x ∧ x < sm)) ∧ (u.2.1 = (scZ cm c1 c2 c3 c5 e1 e2 e3 e4 e5 pl em h x))) ∨ (u.1 = 1 ∧ ((¬ (0 ≤ x ∧ x < sm))) ∧ u.2.1 = (-2000000000)))) (fun (u : Int × Int × (Nat → Int)) => ((rooW ad 0 cy fm fr) ++ ((airW ad 1 cy h su st sh fl cS cH dD dE dF) ++ ((sndW ad 19 cy 12 sm pl pw an hd fq) ++ ((conW ad 31 cy cm c1 c2 c3 c4 c5) ++ (entW ad 37 cy em ep e1 e2 e3 e4 e5))))))) (fun _ _ _ => False) 1 6 (zIn ((rooW ad 0 cy fm fr) ++ ((airW ad 1 cy h su st sh fl cS cH dD dE dF) ++ ((sndW ad 19 cy 12 sm pl pw an hd fq) ++ ((conW ad 31 cy cm c1 c2 c3 c4 c5) ++ (entW ad 37 cy em ep e1 e2 e3 e4 e5)))))) := by
  refine z_ofH (by decide) (Nat.le_of_ble_eq_true rfl) ?_
  intro p e s m args below meth c M hr hlk ht hargs hP0 hE hN ls hl
  have hP : va_P D vwCl ((rooW ad 0 cy fm fr) ++ ((airW ad 1 cy h su st sh fl cS cH dD dE dF) ++ ((sndW ad 19 cy 12 sm pl pw an hd fq) ++ ((conW ad 31 cy cm c1 c2 c3 c4 c5) ++ (entW ad 37 cy em ep e1 e2 e3 e4 e5))))) s.heap := hP0.1
  have hD : va_D (zIn ((rooW ad 0 cy fm fr) ++ ((airW ad 1 cy h su st sh fl cS cH dD dE dF) ++ ((sndW ad 19 cy 12 sm pl pw an hd fq) ++ ((conW ad 31 cy cm c1 c2 c3 c4 c5) ++ (entW ad 37 cy em ep e1 e2 e3 e4 e5)))))) ((rooW ad 0 cy fm fr) ++ ((airW ad 1 cy h su st sh fl cS cH dD dE dF) ++ ((sndW ad 19 cy 12 sm pl pw an hd fq) ++ ((conW ad 31 cy cm c1 c2 c3 c4 c5) ++ (entW ad 37 cy em ep e1 e2 e3 e4 e5))))) := hP0.self
  have hAz := hP0.A
  have hS : va_S (zIn ((rooW ad 0 cy fm fr) ++ ((airW ad 1 cy h su st sh fl cS cH dD dE dF) ++ ((sndW ad 19 cy 12 sm pl pw an hd fq) ++ ((conW ad 31 cy cm c1 c2 c3 c4 c5) ++ (entW ad 37 cy em ep e1 e2 e3 e4 e5)))))) s.heap s.heap [] := va_S.rf
  have hl : lv_has ls 3 [(0, .ref (ad 0)), (1, .int (iI x))] := hl
  refine lv_aload_n M.1 M.2.1 dL_score_0 rfl (lv_at hl 0 rfl) ?_
  refine lv_iload_n M.1 M.2.1 dL_score_1 rfl (lv_at hl 1 rfl) ?_
  refine z_tW (zx_runV (As := [.int (iI x)]) (rest := []) M (c_X6_score l hst D cy z0 ad fm fr h su st sh fl sm cm em ep cS cH dD dE dF pl pw an hd fq c1 c2 c3 c4 c5 e1 e2 e3 e4 e5 x r_x g_pl g_c1 g_c2 g_c3 g_c5 g_e1 g_e2 g_e3 g_e4 g_e5 hsm hcm hem h_h) hE hS hAz (z_cut hP hD hAz [0, 1, 2, 3, 4, 5, 6, 7, 8, 9, 10, 11, 12, 13, 14, 15, 16, 17, 18, 19, 20, 21, 22, 23, 24, 25] rfl (by decide +kernel)) (zRc.of (ci := 6) (q0 := 0) hE hP rfl rfl) zk_cd_X6_score zk_in_RX6 zk_im_X6_score zk_se_X6_score zk_ml_RL_99 rfl rfl zd_X6_score ⟨by decide, by decide⟩ rfl hl.1 rfl (Nat.le_of_ble_eq_true rfl) dL_score_2 ⟨by decide, by decide⟩) hP hD hS [0, 1, 2, 3, 4, 5, 6, 7, 8, 9, 10, 11, 12, 13, 14, 15, 16, 17, 18, 19, 20, 21, 22, 23, 24, 25] rfl (fun _ => rfl) (fun r1 u1 H locs hp hP hD hS => ?_) (fun Ex qx ce H locs hC hP hS hce hcv hcl => ?_)
  ·
    have hP : va_P D vwCl ((rooW ad 0 cy fm fr) ++ ((airW ad 1 cy h su st sh fl cS cH dD dE dF) ++ ((sndW ad 19 cy 12 sm pl pw an hd fq) ++ ((conW ad 31 cy cm c1 c2 c3 c4 c5) ++ (entW ad 37 cy em ep e1 e2 e3 e4 e5))))) H := hP
    obtain ⟨hN1, rfl⟩ := hp
    have hP : va_P D vwCl ((rooW ad 0 cy fm fr) ++ ((airW ad 1 cy h su st sh fl cS cH dD dE dF) ++ ((sndW ad 19 cy 12 sm pl pw an hd fq) ++ ((conW ad 31 cy cm c1 c2 c3 c4 c5) ++ (entW ad 37 cy em ep e1 e2 e3 e4 e5))))) H := hP
    exact vx_ret (zw_i M hr hlk ((0 : Int), ((scZ cm c1 c2 c3 c5 e1 e2 e3 e4 e5 pl em h x) : Int), (fun (_ : Nat) => (0 : Int))) hP hS ⟨rfl, Or.inl ⟨rfl, hN1, rfl⟩⟩ (by decide) (by decide) dL_score_5)
  ·
    obtain ⟨rfl, hC1⟩ := hC
    refine vx_catch (own := RL) (name := eIB) (E := eIB) M.2.2.2.1 [] ⟨0, 5, 6, 28⟩ [] (ht.trans rfl) (fun z hz => nomatch hz) (by decide) (by decide) (M.w zk_cl_RL_28) (M.w zk_ca_390) hce hcv hcl ?_
    refine lv_astore_n (lv' := [(2, .ref qx), (0, .ref (ad 0)), (1, .int (iI x))]) M.1 M.2.1 dL_score_6 rfl hl (by decide) rfl (fun ls hl => ?_)
    refine zi_ldc M (z := -2000000000) (by decide) zk_ct_RL_16 dL_score_7 ?_
    have hP : va_P D vwCl ((rooW ad 0 cy fm fr) ++ ((airW ad 1 cy h su st sh fl cS cH dD dE dF) ++ ((sndW ad 19 cy 12 sm pl pw an hd fq) ++ ((conW ad 31 cy cm c1 c2 c3 c4 c5) ++ (entW ad 37 cy em ep e1 e2 e3 e4 e5))))) H := hP
    exact vx_ret (zw_i M hr hlk ((1 : Int), (-2000000000 : Int), (fun (_ : Nat) => (0 : Int))) hP hS ⟨rfl, Or.inr ⟨rfl, hC1, rfl⟩⟩ (by decide) (by decide) dL_score_9)

set_option maxRecDepth 100000 in
set_option maxHeartbeats 8000000 in
theorem c_L_count (l : Launch) (hst : l.stackTraces = false) (D : va_G) (cy : Nat → ClassId) (z0 : Nat) (ad : Nat → Nat) (fm fr sm bsm cm em ep : Int) (pl pw an hd fq bpl bpw ban bhd bfq c1 c2 c3 c4 c5 e1 e2 e3 e4 e5 : Int → Int) (wh : Int) (r_wh : r32 wh) : vx_Met l yL_count [.codeWith yL_count cL_count 3 (some .int) [(0, 5, 6, 14)]] (zRm 8 1 6 133) (zPcN [.ref (ad 0), .int (iI wh)] D cy z0 (zWl D z0 ((rooW ad 0 cy fm fr) ++ ((sndW ad 19 cy 12 sm pl pw an hd fq) ++ ((sndW ad 25 cy 6 bsm bpl bpw ban bhd bfq) ++ ((conW ad 31 cy cm c1 c2 c3 c4 c5) ++ (entW ad 37 cy em ep e1 e2 e3 e4 e5))))))) (zQ1 D ((rooW ad 0 cy fm fr) ++ ((sndW ad 19 cy 12 sm pl pw an hd fq) ++ ((sndW ad 25 cy 6 bsm bpl bpw ban bhd bfq) ++ ((conW ad 31 cy cm c1 c2 c3 c4 c5) ++ (entW ad 37 cy em ep e1 e2 e3 e4 e5))))) (fun (r : Int32) (u : Int × Int × (Nat → Int)) => r = iI u.2.1 ∧ ((u.1 = 0 ∧ ((0 ≤ wh ∧ wh ≤ 4)) ∧ (u.2.1 = (tell5 sm bsm cm em ep wh))) ∨ (u.1 = 1 ∧ ((¬ (0 ≤ wh ∧ wh ≤ 4))) ∧ u.2.1 = (-2000000000)))) (fun (u : Int × Int × (Nat → Int)) => ((rooW ad 0 cy fm fr) ++ ((sndW ad 19 cy 12 sm pl pw an hd fq) ++ ((sndW ad 25 cy 6 bsm bpl bpw ban bhd bfq) ++ ((conW ad 31 cy cm c1 c2 c3 c4 c5) ++ (entW ad 37 cy em ep e1 e2 e3 e4 e5))))))) (fun _ _ _ => False) 1 6 (zIn ((rooW ad 0 cy fm fr) ++ ((sndW ad 19 cy 12 sm pl pw an hd fq) ++ ((sndW ad 25 cy 6 bsm bpl bpw ban bhd bfq) ++ ((conW ad 31 cy cm c1 c2 c3 c4 c5) ++ (entW ad 37 cy em ep e1 e2 e3 e4 e5)))))) := by
  refine z_ofH (by decide) (Nat.le_of_ble_eq_true rfl) ?_
  intro p e s m args below meth c M hr hlk ht hargs hP0 hE hN ls hl
  have hP : va_P D vwCl ((rooW ad 0 cy fm fr) ++ ((sndW ad 19 cy 12 sm pl pw an hd fq) ++ ((sndW ad 25 cy 6 bsm bpl bpw ban bhd bfq) ++ ((conW ad 31 cy cm c1 c2 c3 c4 c5) ++ (entW ad 37 cy em ep e1 e2 e3 e4 e5))))) s.heap := hP0.1
  have hD : va_D (zIn ((rooW ad 0 cy fm fr) ++ ((sndW ad 19 cy 12 sm pl pw an hd fq) ++ ((sndW ad 25 cy 6 bsm bpl bpw ban bhd bfq) ++ ((conW ad 31 cy cm c1 c2 c3 c4 c5) ++ (entW ad 37 cy em ep e1 e2 e3 e4 e5)))))) ((rooW ad 0 cy fm fr) ++ ((sndW ad 19 cy 12 sm pl pw an hd fq) ++ ((sndW ad 25 cy 6 bsm bpl bpw ban bhd bfq) ++ ((conW ad 31 cy cm c1 c2 c3 c4 c5) ++ (entW ad 37 cy em ep e1 e2 e3 e4 e5))))) := hP0.self
  have hAz := hP0.A
  have hS : va_S (zIn ((rooW ad 0 cy fm fr) ++ ((sndW ad 19 cy 12 sm pl pw an hd fq) ++ ((sndW ad 25 cy 6 bsm bpl bpw ban bhd bfq) ++ ((conW ad 31 cy cm c1 c2 c3 c4 c5) ++ (entW ad 37 cy em ep e1 e2 e3 e4 e5)))))) s.heap s.heap [] := va_S.rf
  have hl : lv_has ls 3 [(0, .ref (ad 0)), (1, .int (iI wh))] := hl
  refine lv_aload_n M.1 M.2.1 dL_count_0 rfl (lv_at hl 0 rfl) ?_
  refine lv_iload_n M.1 M.2.1 dL_count_1 rfl (lv_at hl 1 rfl) ?_
  refine z_tW (zx_runV (As := [.int (iI wh)]) (rest := []) M (c_X6_count l hst D cy z0 ad fm fr sm bsm cm em ep pl pw an hd fq bpl bpw ban bhd bfq c1 c2 c3 c4 c5 e1 e2 e3 e4 e5 wh r_wh) hE hS hAz (z_cut hP hD hAz [0, 1, 2, 3, 4, 5, 6, 7, 8, 9, 10, 11, 12, 13, 14, 15, 16, 17, 18, 19, 20, 21, 22, 23, 24] rfl (by decide +kernel)) (zRc.of (ci := 6) (q0 := 0) hE hP rfl rfl) zk_cd_X6_count zk_in_RX6 zk_im_X6_count zk_se_X6_count zk_ml_RL_102 rfl rfl zd_X6_count ⟨by decide, by decide⟩ rfl hl.1 rfl (Nat.le_of_ble_eq_true rfl) dL_count_2 ⟨by decide, by decide⟩) hP hD hS [0, 1, 2, 3, 4, 5, 6, 7, 8, 9, 10, 11, 12, 13, 14, 15, 16, 17, 18, 19, 20, 21, 22, 23, 24] rfl (fun _ => rfl) (fun r1 u1 H locs hp hP hD hS => ?_) (fun Ex qx ce H locs hC hP hS hce hcv hcl => ?_)
  ·
    have hP : va_P D vwCl ((rooW ad 0 cy fm fr) ++ ((sndW ad 19 cy 12 sm pl pw an hd fq) ++ ((sndW ad 25 cy 6 bsm bpl bpw ban bhd bfq) ++ ((conW ad 31 cy cm c1 c2 c3 c4 c5) ++ (entW ad 37 cy em ep e1 e2 e3 e4 e5))))) H := hP
    obtain ⟨hN1, rfl⟩ := hp
    have hP : va_P D vwCl ((rooW ad 0 cy fm fr) ++ ((sndW ad 19 cy 12 sm pl pw an hd fq) ++ ((sndW ad 25 cy 6 bsm bpl bpw ban bhd bfq) ++ ((conW ad 31 cy cm c1 c2 c3 c4 c5) ++ (entW ad 37 cy em ep e1 e2 e3 e4 e5))))) H := hP
    exact vx_ret (zw_i M hr hlk ((0 : Int), ((tell5 sm bsm cm em ep wh) : Int), (fun (_ : Nat) => (0 : Int))) hP hS ⟨rfl, Or.inl ⟨rfl, hN1, rfl⟩⟩ (by decide) (by decide) dL_count_5)
  ·
    obtain ⟨rfl, hC1⟩ := hC
    refine vx_catch (own := RL) (name := eIA) (E := eIA) M.2.2.2.1 [] ⟨0, 5, 6, 14⟩ [] (ht.trans rfl) (fun z hz => nomatch hz) (by decide) (by decide) (M.w zk_cl_RL_14) (M.w zk_ca_284) hce hcv hcl ?_
    refine lv_astore_n (lv' := [(2, .ref qx), (0, .ref (ad 0)), (1, .int (iI wh))]) M.1 M.2.1 dL_count_6 rfl hl (by decide) rfl (fun ls hl => ?_)
    refine zi_ldc M (z := -2000000000) (by decide) zk_ct_RL_16 dL_count_7 ?_
    have hP : va_P D vwCl ((rooW ad 0 cy fm fr) ++ ((sndW ad 19 cy 12 sm pl pw an hd fq) ++ ((sndW ad 25 cy 6 bsm bpl bpw ban bhd bfq) ++ ((conW ad 31 cy cm c1 c2 c3 c4 c5) ++ (entW ad 37 cy em ep e1 e2 e3 e4 e5))))) H := hP
    exact vx_ret (zw_i M hr hlk ((1 : Int), (-2000000000 : Int), (fun (_ : Nat) => (0 : Int))) hP hS ⟨rfl, Or.inr ⟨rfl, hC1, rfl⟩⟩ (by decide) (by decide) dL_count_9)
