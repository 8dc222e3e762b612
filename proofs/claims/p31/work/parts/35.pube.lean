/-! contracts: what everybody may call, 2 -/
set_option maxRecDepth 100000 in
set_option maxHeartbeats 4000000 in
theorem c_X6_paths (l : Launch) (hst : l.stackTraces = false) (D : va_G) (cy : Nat → ClassId) (z0 : Nat) (ad : Nat → Nat) (fm fr h su st sh fl ypl ydr yan yfr yst ylg yle ydl : Int) (cS cH dD dE dF sea noi : Int → Int) (q : Int) (t : Int) (f : Int) (w : Int) (r_q : r32 q) (r_t : r32 t) (r_f : r32 f) (r_w : r32 w) (g_dD : zrg 48 0 1000 dD) (g_dE : zrg 48 0 1000 dE) (g_dF : zrg 48 0 1000 dF) (g_sea : zrg 48 0 1 sea) : vx_Met l yX6_paths [.code yX6_paths cX6_paths 7 (some .int)] (zRm 9 4 24 155) (zPc [.ref (ad 0), .int (iI q), .int (iI t), .int (iI f), .int (iI w)] D cy z0 (zWl D z0 ((rooW ad 0 cy fm fr) ++ ((airW ad 1 cy h su st sh fl cS cH dD dE dF) ++ ((grdW ad 15 cy sea noi) ++ (rayW ad 18 cy ypl ydr yan yfr yst ylg yle ydl)))))) (zQ1 D ((rooW ad 0 cy fm fr) ++ ((airW ad 1 cy h su st sh fl cS cH dD dE dF) ++ ((grdW ad 15 cy sea noi) ++ (rayW ad 18 cy ypl ydr yan yfr yst ylg yle ydl)))) (fun (r : Int32) (u : Nat → Int) => (((0 ≤ q ∧ q < 48) ∧ (0 ≤ t ∧ t < 48)) ∧ ((10 ≤ f ∧ f ≤ 300) ∧ (0 ≤ w ∧ w ≤ 100))) ∧ r = iI (cntR dE dF dD sea q t f w 18)) (fun (u : Nat → Int) => ((rooW ad 0 cy fm fr) ++ ((airW ad 1 cy h su st sh fl cS cH dD dE dF) ++ ((grdW ad 15 cy sea noi) ++ (rayW ad 18 cy (u 0) (u 1) (u 2) (u 3) (u 4) (u 5) (u 6) (u 7))))))) (zXC (fun E => (E = eIB ∧ (¬ ((0 ≤ q ∧ q < 48) ∧ (0 ≤ t ∧ t < 48)))) ∨ (E = eIA ∧ (((0 ≤ q ∧ q < 48) ∧ (0 ≤ t ∧ t < 48)) ∧ ¬ ((10 ≤ f ∧ f ≤ 300) ∧ (0 ≤ w ∧ w ≤ 100)))))) 4 24 (zIn ((rooW ad 0 cy fm fr) ++ ((airW ad 1 cy h su st sh fl cS cH dD dE dF) ++ ((grdW ad 15 cy sea noi) ++ (rayW ad 18 cy ypl ydr yan yfr yst ylg yle ydl))))) := by
  refine z_ofX (by decide) (Nat.le_of_ble_eq_true rfl) ?_
  intro p e s m args below meth c M hr hlk ht hargs hP0 hE ls hl
  have hP : va_P D vwCl ((rooW ad 0 cy fm fr) ++ ((airW ad 1 cy h su st sh fl cS cH dD dE dF) ++ ((grdW ad 15 cy sea noi) ++ (rayW ad 18 cy ypl ydr yan yfr yst ylg yle ydl)))) s.heap := hP0.1
  have hD : va_D (zIn ((rooW ad 0 cy fm fr) ++ ((airW ad 1 cy h su st sh fl cS cH dD dE dF) ++ ((grdW ad 15 cy sea noi) ++ (rayW ad 18 cy ypl ydr yan yfr yst ylg yle ydl))))) ((rooW ad 0 cy fm fr) ++ ((airW ad 1 cy h su st sh fl cS cH dD dE dF) ++ ((grdW ad 15 cy sea noi) ++ (rayW ad 18 cy ypl ydr yan yfr yst ylg yle ydl)))) := hP0.self
  have hAz := hP0.A
  have hS : va_S (zIn ((rooW ad 0 cy fm fr) ++ ((airW ad 1 cy h su st sh fl cS cH dD dE dF) ++ ((grdW ad 15 cy sea noi) ++ (rayW ad 18 cy ypl ydr yan yfr yst ylg yle ydl))))) s.heap s.heap [] := va_S.rf
  have hl : lv_has ls 7 [(0, .ref (ad 0)), (1, .int (iI q)), (2, .int (iI t)), (3, .int (iI f)), (4, .int (iI w))] := hl
  refine lv_iload_n M.1 M.2.1 dX6_paths_0 rfl (lv_at hl 1 rfl) ?_
  refine lv_iload_n M.1 M.2.1 dX6_paths_1 rfl (lv_at hl 2 rfl) ?_
  refine lv_iload_n M.1 M.2.1 dX6_paths_2 rfl (lv_at hl 3 rfl) ?_
  refine lv_iload M.1 M.2.1 dX6_paths_3 (lv_at hl 4 rfl) ?_
  refine zx_need (zx_runS (As := [.int (iI q), .int (iI t), .int (iI f), .int (iI w)]) (rest := []) M (c_X6_needPath l hst D cy z0 q t f w (by omega) (by omega) (by omega) (by omega)) hE hS hAz trivial zk_cd_X6_needPath zk_in_RX6 zk_st_X6_needPath zk_ml_RX6_193 rfl rfl zd_X6_needPath ⟨by decide, by decide⟩ rfl hl.1 rfl (Nat.le_of_ble_eq_true rfl) dX6_paths_5 ⟨by decide, by decide⟩) ht hlk (by decide) (by decide) (fun E t hA9 hC hz hq => ⟨by rcases hC with ⟨rfl, h9⟩ | ⟨rfl, h9⟩ <;> first | exact Or.inl (⟨rfl, by omega⟩) | exact Or.inr (⟨rfl, by omega⟩), hz, hq⟩) (fun hn_1 => ?_)
  refine zi_push M dX6_paths_8 ?_
  refine lv_istore (lv' := [(5, .int (iI 0)), (0, .ref (ad 0)), (1, .int (iI q)), (2, .int (iI t)), (3, .int (iI f)), (4, .int (iI w))]) M.1 M.2.1 dX6_paths_9 hl (by decide) rfl (fun ls hl => ?_)
  refine zi_push M dX6_paths_11 ?_
  refine lv_istore (lv' := [(6, .int (iI 0)), (5, .int (iI 0)), (0, .ref (ad 0)), (1, .int (iI q)), (2, .int (iI t)), (3, .int (iI f)), (4, .int (iI w))]) M.1 M.2.1 dX6_paths_12 hl (by decide) rfl (fun ls hl => ?_)
  have L_14 : ∀ (k_14 : Nat) (x : Int) (i : Int) (ur : Nat → Int) (hi : 0 ≤ i ∧ i ≤ 18) (hx : x = cntR dE dF dD sea q t f w i.toNat) (hm : 18 - i < (k_14 : Int)) (H : Heap) (locs : List Loc) (hP : va_P D vwCl ((rooW ad 0 cy fm fr) ++ ((airW ad 1 cy h su st sh fl cS cH dD dE dF) ++ ((grdW ad 15 cy sea noi) ++ (rayW ad 18 cy (ur 0) (ur 1) (ur 2) (ur 3) (ur 4) (ur 5) (ur 6) (ur 7))))) H) (hD : va_D (zIn ((rooW ad 0 cy fm fr) ++ ((airW ad 1 cy h su st sh fl cS cH dD dE dF) ++ ((grdW ad 15 cy sea noi) ++ (rayW ad 18 cy ypl ydr yan yfr yst ylg yle ydl))))) ((rooW ad 0 cy fm fr) ++ ((airW ad 1 cy h su st sh fl cS cH dD dE dF) ++ ((grdW ad 15 cy sea noi) ++ (rayW ad 18 cy (ur 0) (ur 1) (ur 2) (ur 3) (ur 4) (ur 5) (ur 6) (ur 7)))))) (hS : va_S (zIn ((rooW ad 0 cy fm fr) ++ ((airW ad 1 cy h su st sh fl cS cH dD dE dF) ++ ((grdW ad 15 cy sea noi) ++ (rayW ad 18 cy ypl ydr yan yfr yst ylg yle ydl))))) s.heap H locs) (ls : Array Slot) (hl : lv_has ls 7 [(0, .ref (ad 0)), (1, .int (iI q)), (2, .int (iI t)), (3, .int (iI f)), (4, .int (iI w)), (5, .int (iI x)), (6, .int (iI i))]), W p l e (zRm 9 4 24 155) s m args below meth c H locs 4 24 (vx_MQ below (zQ1 D ((rooW ad 0 cy fm fr) ++ ((airW ad 1 cy h su st sh fl cS cH dD dE dF) ++ ((grdW ad 15 cy sea noi) ++ (rayW ad 18 cy ypl ydr yan yfr yst ylg yle ydl)))) (fun (r : Int32) (u : Nat → Int) => (((0 ≤ q ∧ q < 48) ∧ (0 ≤ t ∧ t < 48)) ∧ ((10 ≤ f ∧ f ≤ 300) ∧ (0 ≤ w ∧ w ≤ 100))) ∧ r = iI (cntR dE dF dD sea q t f w 18)) (fun (u : Nat → Int) => ((rooW ad 0 cy fm fr) ++ ((airW ad 1 cy h su st sh fl cS cH dD dE dF) ++ ((grdW ad 15 cy sea noi) ++ (rayW ad 18 cy (u 0) (u 1) (u 2) (u 3) (u 4) (u 5) (u 6) (u 7))))))) (zXC (fun E => (E = eIB ∧ (¬ ((0 ≤ q ∧ q < 48) ∧ (0 ≤ t ∧ t < 48)))) ∨ (E = eIA ∧ (((0 ≤ q ∧ q < 48) ∧ (0 ≤ t ∧ t < 48)) ∧ ¬ ((10 ≤ f ∧ f ≤ 300) ∧ (0 ≤ w ∧ w ≤ 100)))))) args s 4 24 (zIn ((rooW ad 0 cy fm fr) ++ ((airW ad 1 cy h su st sh fl cS cH dD dE dF) ++ ((grdW ad 15 cy sea noi) ++ (rayW ad 18 cy ypl ydr yan yfr yst ylg yle ydl)))))) (F0 m 14 ls []) := by
    intro k_14
    induction k_14 with
    | zero =>
      intro x i ur hi hx hm H locs hP hD hS ls hl
      exact absurd hm (by omega)
    | succ k_14 ih_14 =>
      intro x i ur hi hx hm H locs hP hD hS ls hl
      refine lv_iload M.1 M.2.1 dX6_paths_14 (lv_at hl 6 rfl) ?_
      refine zi_bipush M dX6_paths_16 ⟨by decide, by decide⟩ ?_
      refine zi_icmp_ge (tgt := 48) M dX6_paths_18 (by decide) (by omega) ⟨by decide, by decide⟩ (fun c_2 => ?_) (fun c_2 => ?_)
      ·
        refine lv_iload M.1 M.2.1 dX6_paths_48 (lv_at hl 5 rfl) ?_
        have hP : va_P D vwCl ((rooW ad 0 cy fm fr) ++ ((airW ad 1 cy h su st sh fl cS cH dD dE dF) ++ ((grdW ad 15 cy sea noi) ++ (rayW ad 18 cy (ur 0) (ur 1) (ur 2) (ur 3) (ur 4) (ur 5) (ur 6) (ur 7))))) H := hP
        exact vx_ret (zw_i M hr hlk ur hP hS (by exact ⟨by omega, congrArg iI (show (x : Int) = cntR dE dF dD sea q t f w 18 by (rw [hx, show i = 18 from by omega]; rfl))⟩) (by decide) (by decide) dX6_paths_50)
      ·
        refine lv_aload_n M.1 M.2.1 dX6_paths_21 rfl (lv_at hl 0 rfl) ?_
        refine lv_aload_n M.1 M.2.1 dX6_paths_22 rfl (lv_at hl 0 rfl) ?_
        refine zi_get (ci := 6) (v := .ref (ad 1)) M hE hP 0 rfl rfl zu_X6 0 (by decide) zk_fl_RX6_12 rfl rfl dX6_paths_23 ?_
        refine lv_iload_n M.1 M.2.1 dX6_paths_26 rfl (lv_at hl 1 rfl) ?_
        refine lv_iload_n M.1 M.2.1 dX6_paths_27 rfl (lv_at hl 2 rfl) ?_
        refine lv_iload M.1 M.2.1 dX6_paths_28 (lv_at hl 6 rfl) ?_
        refine lv_iload_n M.1 M.2.1 dX6_paths_30 rfl (lv_at hl 3 rfl) ?_
        refine lv_iload M.1 M.2.1 dX6_paths_31 (lv_at hl 4 rfl) ?_
        refine z_cW (z_runV (As := [.ref (ad 1), .int (iI q), .int (iI t), .int (iI i), .int (iI f), .int (iI w)]) (rest := []) M (c_X6_reaches l D cy z0 ad 1 fm fr h su st sh fl (ur 0) (ur 1) (ur 2) (ur 3) (ur 4) (ur 5) (ur 6) (ur 7) cS cH dD dE dF sea noi q t i f w g_dD g_dE g_dF g_sea (by omega) (by omega) (by omega) (by omega) (by omega)) hE hS hAz (z_cut hP hD hAz [0, 1, 2, 3, 4, 5, 6, 7, 8, 9, 10, 11] rfl (by decide +kernel)) (zRc.of (ci := 6) (q0 := 0) hE hP rfl rfl) zk_cd_X6_reaches zk_in_RX6 zk_im_X6_reaches zk_se_X6_reaches zk_ml_RX6_196 rfl rfl zd_X6_reaches ⟨by decide, by decide⟩ rfl hl.1 rfl (Nat.le_of_ble_eq_true rfl) dX6_paths_33 ⟨by decide, by decide⟩) hP hD hS [0, 1, 2, 3, 4, 5, 6, 7, 8, 9, 10, 11] rfl (fun _ => rfl) (fun r_3 u_3 H locs hp_3 hP hD hS => ?_)
        have hP : va_P D vwCl ((rooW ad 0 cy fm fr) ++ ((airW ad 1 cy h su st sh fl cS cH dD dE dF) ++ ((grdW ad 15 cy sea noi) ++ (rayW ad 18 cy (u_3 0) (u_3 1) (u_3 2) (u_3 3) (u_3 4) (u_3 5) (u_3 6) (u_3 7))))) H := hP
        have hD : va_D (zIn ((rooW ad 0 cy fm fr) ++ ((airW ad 1 cy h su st sh fl cS cH dD dE dF) ++ ((grdW ad 15 cy sea noi) ++ (rayW ad 18 cy ypl ydr yan yfr yst ylg yle ydl))))) ((rooW ad 0 cy fm fr) ++ ((airW ad 1 cy h su st sh fl cS cH dD dE dF) ++ ((grdW ad 15 cy sea noi) ++ (rayW ad 18 cy (u_3 0) (u_3 1) (u_3 2) (u_3 3) (u_3 4) (u_3 5) (u_3 6) (u_3 7))))) := hD
        rcases hp_3 with ⟨w_3, lg_3, le_3, dl_3, hs_3, rfl, rfl⟩ | ⟨hs_3, rfl⟩
        ·
          have hP : va_P D vwCl ((rooW ad 0 cy fm fr) ++ ((airW ad 1 cy h su st sh fl cS cH dD dE dF) ++ ((grdW ad 15 cy sea noi) ++ (rayW ad 18 cy t (drZ i) (i % 9 + 1) f w_3 lg_3 le_3 dl_3)))) H := hP
          have hD : va_D (zIn ((rooW ad 0 cy fm fr) ++ ((airW ad 1 cy h su st sh fl cS cH dD dE dF) ++ ((grdW ad 15 cy sea noi) ++ (rayW ad 18 cy ypl ydr yan yfr yst ylg yle ydl))))) ((rooW ad 0 cy fm fr) ++ ((airW ad 1 cy h su st sh fl cS cH dD dE dF) ++ ((grdW ad 15 cy sea noi) ++ (rayW ad 18 cy t (drZ i) (i % 9 + 1) f w_3 lg_3 le_3 dl_3)))) := hD
          have hb_3 := rayZ_rg g_dD (by omega) (by omega) hs_3
          refine zi_if_eq (tgt := 42) M dX6_paths_36 (by decide) ⟨by decide, by decide⟩ (fun q => absurd q (by decide)) (fun _ => ?_)
          refine zi_iinc (lv' := [(5, .int (iI (x + 1))), (0, .ref (ad 0)), (1, .int (iI q)), (2, .int (iI t)), (3, .int (iI f)), (4, .int (iI w)), (6, .int (iI i))]) M dX6_paths_39 hl 5 rfl (by decide) rfl (fun ls hl => ?_)
          refine zi_iinc (lv' := [(6, .int (iI (i + 1))), (5, .int (iI (x + 1))), (0, .ref (ad 0)), (1, .int (iI q)), (2, .int (iI t)), (3, .int (iI f)), (4, .int (iI w))]) M dX6_paths_42 hl 6 rfl (by decide) rfl (fun ls hl => ?_)
          refine zi_goto (tgt := 14) M dX6_paths_45 (by decide) ?_
          exact ih_14 (x + 1) (i + 1) (u8 t (drZ i) (i % 9 + 1) f w_3 lg_3 le_3 dl_3) (by omega) (by rw [cntR_s hi.1 hs_3, ← hx]) (by omega) _ _ hP hD hS ls (lv_sub hl [2, 3, 4, 5, 6, 1, 0] rfl)
        ·
          refine zi_if_eq (tgt := 42) M dX6_paths_36 (by decide) ⟨by decide, by decide⟩ (fun _ => ?_) (fun q => absurd q (by decide))
          refine zi_iinc (lv' := [(6, .int (iI (i + 1))), (0, .ref (ad 0)), (1, .int (iI q)), (2, .int (iI t)), (3, .int (iI f)), (4, .int (iI w)), (5, .int (iI x))]) M dX6_paths_42 hl 6 rfl (by decide) rfl (fun ls hl => ?_)
          refine zi_goto (tgt := 14) M dX6_paths_45 (by decide) ?_
          exact ih_14 x (i + 1) u_3 (by omega) (by rw [cntR_n hi.1 hs_3, ← hx]) (by omega) _ _ hP hD hS ls (lv_sub hl [1, 2, 3, 4, 5, 6, 0] rfl)
  exact L_14 (Int.toNat (18 - 0) + 1) 0 0 (u8 ypl ydr yan yfr yst ylg yle ydl) (by omega) rfl (by omega) _ _ hP hD hS ls (lv_sub hl [2, 3, 4, 5, 6, 1, 0] rfl)

set_option maxRecDepth 100000 in
set_option maxHeartbeats 4000000 in
theorem c_X6_explain (l : Launch) (hst : l.stackTraces = false) (D : va_G) (cy : Nat → ClassId) (z0 : Nat) (ad : Nat → Nat) (fm fr h su st sh fl ypl ydr yan yfr yst ylg yle ydl : Int) (cS cH dD dE dF sea noi : Int → Int) (q : Int) (t : Int) (f : Int) (w : Int) (mm : Int) (r_q : r32 q) (r_t : r32 t) (r_f : r32 f) (r_w : r32 w) (r_mm : r32 mm) (g_dD : zrg 48 0 1000 dD) (g_dE : zrg 48 0 1000 dE) (g_dF : zrg 48 0 1000 dF) (g_sea : zrg 48 0 1 sea) : vx_Met l yX6_explain [.code yX6_explain cX6_explain 11 (some .int)] (zRm 9 5 30 155) (zPc [.ref (ad 0), .int (iI q), .int (iI t), .int (iI f), .int (iI w), .int (iI mm)] D cy z0 (zWl D z0 ((rooW ad 0 cy fm fr) ++ ((airW ad 1 cy h su st sh fl cS cH dD dE dF) ++ ((grdW ad 15 cy sea noi) ++ (rayW ad 18 cy ypl ydr yan yfr yst ylg yle ydl)))))) (zQ1 D ((rooW ad 0 cy fm fr) ++ ((airW ad 1 cy h su st sh fl cS cH dD dE dF) ++ ((grdW ad 15 cy sea noi) ++ (rayW ad 18 cy ypl ydr yan yfr yst ylg yle ydl)))) (fun (r : Int32) (u : Nat → Int) => (((0 ≤ q ∧ q < 48) ∧ (0 ≤ t ∧ t < 48)) ∧ ((10 ≤ f ∧ f ≤ 300) ∧ (0 ≤ w ∧ w ≤ 100) ∧ (0 ≤ mm ∧ mm ≤ 1000))) ∧ r = iI ((exF dE dF dD sea q t f w mm 18).2.1)) (fun (u : Nat → Int) => ((rooW ad 0 cy fm fr) ++ ((airW ad 1 cy h su st sh fl cS cH dD dE dF) ++ ((grdW ad 15 cy sea noi) ++ (rayW ad 18 cy (u 0) (u 1) (u 2) (u 3) (u 4) (u 5) (u 6) (u 7))))))) (zXC (fun E => (E = eIB ∧ (¬ ((0 ≤ q ∧ q < 48) ∧ (0 ≤ t ∧ t < 48)))) ∨ (E = eIA ∧ (((0 ≤ q ∧ q < 48) ∧ (0 ≤ t ∧ t < 48)) ∧ ¬ ((10 ≤ f ∧ f ≤ 300) ∧ (0 ≤ w ∧ w ≤ 100) ∧ (0 ≤ mm ∧ mm ≤ 1000)))))) 5 30 (zIn ((rooW ad 0 cy fm fr) ++ ((airW ad 1 cy h su st sh fl cS cH dD dE dF) ++ ((grdW ad 15 cy sea noi) ++ (rayW ad 18 cy ypl ydr yan yfr yst ylg yle ydl))))) := by
  refine z_ofX (by decide) (Nat.le_of_ble_eq_true rfl) ?_
  intro p e s m args below meth c M hr hlk ht hargs hP0 hE ls hl
  have hP : va_P D vwCl ((rooW ad 0 cy fm fr) ++ ((airW ad 1 cy h su st sh fl cS cH dD dE dF) ++ ((grdW ad 15 cy sea noi) ++ (rayW ad 18 cy ypl ydr yan yfr yst ylg yle ydl)))) s.heap := hP0.1
  have hD : va_D (zIn ((rooW ad 0 cy fm fr) ++ ((airW ad 1 cy h su st sh fl cS cH dD dE dF) ++ ((grdW ad 15 cy sea noi) ++ (rayW ad 18 cy ypl ydr yan yfr yst ylg yle ydl))))) ((rooW ad 0 cy fm fr) ++ ((airW ad 1 cy h su st sh fl cS cH dD dE dF) ++ ((grdW ad 15 cy sea noi) ++ (rayW ad 18 cy ypl ydr yan yfr yst ylg yle ydl)))) := hP0.self
  have hAz := hP0.A
  have hS : va_S (zIn ((rooW ad 0 cy fm fr) ++ ((airW ad 1 cy h su st sh fl cS cH dD dE dF) ++ ((grdW ad 15 cy sea noi) ++ (rayW ad 18 cy ypl ydr yan yfr yst ylg yle ydl))))) s.heap s.heap [] := va_S.rf
  have hl : lv_has ls 11 [(0, .ref (ad 0)), (1, .int (iI q)), (2, .int (iI t)), (3, .int (iI f)), (4, .int (iI w)), (5, .int (iI mm))] := hl
  refine lv_iload_n M.1 M.2.1 dX6_explain_0 rfl (lv_at hl 1 rfl) ?_
  refine lv_iload_n M.1 M.2.1 dX6_explain_1 rfl (lv_at hl 2 rfl) ?_
  refine lv_iload_n M.1 M.2.1 dX6_explain_2 rfl (lv_at hl 3 rfl) ?_
  refine lv_iload M.1 M.2.1 dX6_explain_3 (lv_at hl 4 rfl) ?_
  refine zx_need (zx_runS (As := [.int (iI q), .int (iI t), .int (iI f), .int (iI w)]) (rest := []) M (c_X6_needPath l hst D cy z0 q t f w (by omega) (by omega) (by omega) (by omega)) hE hS hAz trivial zk_cd_X6_needPath zk_in_RX6 zk_st_X6_needPath zk_ml_RX6_193 rfl rfl zd_X6_needPath ⟨by decide, by decide⟩ rfl hl.1 rfl (Nat.le_of_ble_eq_true rfl) dX6_explain_5 ⟨by decide, by decide⟩) ht hlk (by decide) (by decide) (fun E t hA9 hC hz hq => ⟨by rcases hC with ⟨rfl, h9⟩ | ⟨rfl, h9⟩ <;> first | exact Or.inl (⟨rfl, by omega⟩) | exact Or.inr (⟨rfl, by omega⟩), hz, hq⟩) (fun hn_1 => ?_)
  refine lv_iload M.1 M.2.1 dX6_explain_8 (lv_at hl 5 rfl) ?_
  refine zi_push M dX6_explain_10 ?_
  refine zi_sipush M dX6_explain_11 ⟨by decide, by decide⟩ ?_
  refine zx_need (zx_runS (As := [.int (iI mm), .int (iI 0), .int (iI 1000)]) (rest := []) M (c_X6_needRange l hst D cy z0 mm 0 1000 (by omega) (by omega) (by omega)) hE hS hAz trivial zk_cd_X6_needRange zk_in_RX6 zk_st_X6_needRange zk_ml_RX6_59 rfl rfl zd_X6_needRange ⟨by decide, by decide⟩ rfl hl.1 rfl (Nat.le_of_ble_eq_true rfl) dX6_explain_14 ⟨by decide, by decide⟩) ht hlk (by decide) (by decide) (fun E t hA9 hC hz hq => ⟨by obtain ⟨rfl, h9⟩ := hC; exact Or.inr (⟨rfl, by omega⟩), hz, hq⟩) (fun hn_2 => ?_)
  refine zi_push M dX6_explain_17 ?_
  refine lv_istore (lv' := [(6, .int (iI 0)), (0, .ref (ad 0)), (1, .int (iI q)), (2, .int (iI t)), (3, .int (iI f)), (4, .int (iI w)), (5, .int (iI mm))]) M.1 M.2.1 dX6_explain_18 hl (by decide) rfl (fun ls hl => ?_)
  refine zi_push M dX6_explain_20 ?_
  refine lv_istore (lv' := [(7, .int (iI (-1))), (6, .int (iI 0)), (0, .ref (ad 0)), (1, .int (iI q)), (2, .int (iI t)), (3, .int (iI f)), (4, .int (iI w)), (5, .int (iI mm))]) M.1 M.2.1 dX6_explain_21 hl (by decide) rfl (fun ls hl => ?_)
  refine zi_push M dX6_explain_23 ?_
  refine lv_istore (lv' := [(8, .int (iI 0)), (7, .int (iI (-1))), (6, .int (iI 0)), (0, .ref (ad 0)), (1, .int (iI q)), (2, .int (iI t)), (3, .int (iI f)), (4, .int (iI w)), (5, .int (iI mm))]) M.1 M.2.1 dX6_explain_24 hl (by decide) rfl (fun ls hl => ?_)
  refine zi_push M dX6_explain_26 ?_
  refine lv_istore (lv' := [(9, .int (iI 0)), (8, .int (iI 0)), (7, .int (iI (-1))), (6, .int (iI 0)), (0, .ref (ad 0)), (1, .int (iI q)), (2, .int (iI t)), (3, .int (iI f)), (4, .int (iI w)), (5, .int (iI mm))]) M.1 M.2.1 dX6_explain_27 hl (by decide) rfl (fun ls hl => ?_)
  have L_29 : ∀ (k_29 : Nat) (x : Int) (y : Int) (z : Int) (i : Int) (ur : Nat → Int) (hi : 0 ≤ i ∧ i ≤ 18) (hx : (x, y, z) = exF dE dF dD sea q t f w mm i.toNat) (hy : -1 ≤ y ∧ y ≤ x ∧ x ≤ i) (hz : 0 ≤ z ∧ z ≤ 1000) (hm : 18 - i < (k_29 : Int)) (H : Heap) (locs : List Loc) (hP : va_P D vwCl ((rooW ad 0 cy fm fr) ++ ((airW ad 1 cy h su st sh fl cS cH dD dE dF) ++ ((grdW ad 15 cy sea noi) ++ (rayW ad 18 cy (ur 0) (ur 1) (ur 2) (ur 3) (ur 4) (ur 5) (ur 6) (ur 7))))) H) (hD : va_D (zIn ((rooW ad 0 cy fm fr) ++ ((airW ad 1 cy h su st sh fl cS cH dD dE dF) ++ ((grdW ad 15 cy sea noi) ++ (rayW ad 18 cy ypl ydr yan yfr yst ylg yle ydl))))) ((rooW ad 0 cy fm fr) ++ ((airW ad 1 cy h su st sh fl cS cH dD dE dF) ++ ((grdW ad 15 cy sea noi) ++ (rayW ad 18 cy (ur 0) (ur 1) (ur 2) (ur 3) (ur 4) (ur 5) (ur 6) (ur 7)))))) (hS : va_S (zIn ((rooW ad 0 cy fm fr) ++ ((airW ad 1 cy h su st sh fl cS cH dD dE dF) ++ ((grdW ad 15 cy sea noi) ++ (rayW ad 18 cy ypl ydr yan yfr yst ylg yle ydl))))) s.heap H locs) (ls : Array Slot) (hl : lv_has ls 11 [(0, .ref (ad 0)), (1, .int (iI q)), (2, .int (iI t)), (3, .int (iI f)), (4, .int (iI w)), (5, .int (iI mm)), (6, .int (iI x)), (7, .int (iI y)), (8, .int (iI z)), (9, .int (iI i))]), W p l e (zRm 9 5 30 155) s m args below meth c H locs 5 30 (vx_MQ below (zQ1 D ((rooW ad 0 cy fm fr) ++ ((airW ad 1 cy h su st sh fl cS cH dD dE dF) ++ ((grdW ad 15 cy sea noi) ++ (rayW ad 18 cy ypl ydr yan yfr yst ylg yle ydl)))) (fun (r : Int32) (u : Nat → Int) => (((0 ≤ q ∧ q < 48) ∧ (0 ≤ t ∧ t < 48)) ∧ ((10 ≤ f ∧ f ≤ 300) ∧ (0 ≤ w ∧ w ≤ 100) ∧ (0 ≤ mm ∧ mm ≤ 1000))) ∧ r = iI ((exF dE dF dD sea q t f w mm 18).2.1)) (fun (u : Nat → Int) => ((rooW ad 0 cy fm fr) ++ ((airW ad 1 cy h su st sh fl cS cH dD dE dF) ++ ((grdW ad 15 cy sea noi) ++ (rayW ad 18 cy (u 0) (u 1) (u 2) (u 3) (u 4) (u 5) (u 6) (u 7))))))) (zXC (fun E => (E = eIB ∧ (¬ ((0 ≤ q ∧ q < 48) ∧ (0 ≤ t ∧ t < 48)))) ∨ (E = eIA ∧ (((0 ≤ q ∧ q < 48) ∧ (0 ≤ t ∧ t < 48)) ∧ ¬ ((10 ≤ f ∧ f ≤ 300) ∧ (0 ≤ w ∧ w ≤ 100) ∧ (0 ≤ mm ∧ mm ≤ 1000)))))) args s 5 30 (zIn ((rooW ad 0 cy fm fr) ++ ((airW ad 1 cy h su st sh fl cS cH dD dE dF) ++ ((grdW ad 15 cy sea noi) ++ (rayW ad 18 cy ypl ydr yan yfr yst ylg yle ydl)))))) (F0 m 29 ls []) := by
    intro k_29
    induction k_29 with
    | zero =>
      intro x y z i ur hi hx hy hz hm H locs hP hD hS ls hl
      exact absurd hm (by omega)
    | succ k_29 ih_29 =>
      intro x y z i ur hi hx hy hz hm H locs hP hD hS ls hl
      refine lv_iload M.1 M.2.1 dX6_explain_29 (lv_at hl 9 rfl) ?_
      refine zi_bipush M dX6_explain_31 ⟨by decide, by decide⟩ ?_
      refine zi_icmp_ge (tgt := 99) M dX6_explain_33 (by decide) (by omega) ⟨by decide, by decide⟩ (fun c_3 => ?_) (fun c_3 => ?_)
      ·
        refine lv_iload M.1 M.2.1 dX6_explain_99 (lv_at hl 7 rfl) ?_
        have hP : va_P D vwCl ((rooW ad 0 cy fm fr) ++ ((airW ad 1 cy h su st sh fl cS cH dD dE dF) ++ ((grdW ad 15 cy sea noi) ++ (rayW ad 18 cy (ur 0) (ur 1) (ur 2) (ur 3) (ur 4) (ur 5) (ur 6) (ur 7))))) H := hP
        exact vx_ret (zw_i M hr hlk ur hP hS (by exact ⟨by omega, congrArg iI (show (y : Int) = (exF dE dF dD sea q t f w mm 18).2.1 by (have h18 : i = 18 := (by omega); subst h18; exact congrArg (fun v : Int × Int × Int => v.2.1) hx))⟩) (by decide) (by decide) dX6_explain_101)
      ·
        refine lv_aload_n M.1 M.2.1 dX6_explain_36 rfl (lv_at hl 0 rfl) ?_
        refine lv_aload_n M.1 M.2.1 dX6_explain_37 rfl (lv_at hl 0 rfl) ?_
        refine zi_get (ci := 6) (v := .ref (ad 1)) M hE hP 0 rfl rfl zu_X6 0 (by decide) zk_fl_RX6_12 rfl rfl dX6_explain_38 ?_
        refine lv_iload_n M.1 M.2.1 dX6_explain_41 rfl (lv_at hl 1 rfl) ?_
        refine lv_iload_n M.1 M.2.1 dX6_explain_42 rfl (lv_at hl 2 rfl) ?_
        refine lv_iload M.1 M.2.1 dX6_explain_43 (lv_at hl 9 rfl) ?_
        refine lv_iload_n M.1 M.2.1 dX6_explain_45 rfl (lv_at hl 3 rfl) ?_
        refine lv_iload M.1 M.2.1 dX6_explain_46 (lv_at hl 4 rfl) ?_
        refine z_cW (z_runV (As := [.ref (ad 1), .int (iI q), .int (iI t), .int (iI i), .int (iI f), .int (iI w)]) (rest := []) M (c_X6_reaches l D cy z0 ad 1 fm fr h su st sh fl (ur 0) (ur 1) (ur 2) (ur 3) (ur 4) (ur 5) (ur 6) (ur 7) cS cH dD dE dF sea noi q t i f w g_dD g_dE g_dF g_sea (by omega) (by omega) (by omega) (by omega) (by omega)) hE hS hAz (z_cut hP hD hAz [0, 1, 2, 3, 4, 5, 6, 7, 8, 9, 10, 11] rfl (by decide +kernel)) (zRc.of (ci := 6) (q0 := 0) hE hP rfl rfl) zk_cd_X6_reaches zk_in_RX6 zk_im_X6_reaches zk_se_X6_reaches zk_ml_RX6_196 rfl rfl zd_X6_reaches ⟨by decide, by decide⟩ rfl hl.1 rfl (Nat.le_of_ble_eq_true rfl) dX6_explain_48 ⟨by decide, by decide⟩) hP hD hS [0, 1, 2, 3, 4, 5, 6, 7, 8, 9, 10, 11] rfl (fun _ => rfl) (fun r_4 u_4 H locs hp_4 hP hD hS => ?_)
        have hP : va_P D vwCl ((rooW ad 0 cy fm fr) ++ ((airW ad 1 cy h su st sh fl cS cH dD dE dF) ++ ((grdW ad 15 cy sea noi) ++ (rayW ad 18 cy (u_4 0) (u_4 1) (u_4 2) (u_4 3) (u_4 4) (u_4 5) (u_4 6) (u_4 7))))) H := hP
        have hD : va_D (zIn ((rooW ad 0 cy fm fr) ++ ((airW ad 1 cy h su st sh fl cS cH dD dE dF) ++ ((grdW ad 15 cy sea noi) ++ (rayW ad 18 cy ypl ydr yan yfr yst ylg yle ydl))))) ((rooW ad 0 cy fm fr) ++ ((airW ad 1 cy h su st sh fl cS cH dD dE dF) ++ ((grdW ad 15 cy sea noi) ++ (rayW ad 18 cy (u_4 0) (u_4 1) (u_4 2) (u_4 3) (u_4 4) (u_4 5) (u_4 6) (u_4 7))))) := hD
        rcases hp_4 with ⟨w_4, lg_4, le_4, dl_4, hs_4, rfl, rfl⟩ | ⟨hs_4, rfl⟩
        ·
          have hP : va_P D vwCl ((rooW ad 0 cy fm fr) ++ ((airW ad 1 cy h su st sh fl cS cH dD dE dF) ++ ((grdW ad 15 cy sea noi) ++ (rayW ad 18 cy t (drZ i) (i % 9 + 1) f w_4 lg_4 le_4 dl_4)))) H := hP
          have hD : va_D (zIn ((rooW ad 0 cy fm fr) ++ ((airW ad 1 cy h su st sh fl cS cH dD dE dF) ++ ((grdW ad 15 cy sea noi) ++ (rayW ad 18 cy ypl ydr yan yfr yst ylg yle ydl))))) ((rooW ad 0 cy fm fr) ++ ((airW ad 1 cy h su st sh fl cS cH dD dE dF) ++ ((grdW ad 15 cy sea noi) ++ (rayW ad 18 cy t (drZ i) (i % 9 + 1) f w_4 lg_4 le_4 dl_4)))) := hD
          have hb_4 := rayZ_rg g_dD (by omega) (by omega) hs_4
          refine zi_if_eq (tgt := 93) M dX6_explain_51 (by decide) ⟨by decide, by decide⟩ (fun q => absurd q (by decide)) (fun _ => ?_)
          refine lv_aload_n M.1 M.2.1 dX6_explain_54 rfl (lv_at hl 0 rfl) ?_
          refine zi_get (ci := 6) (v := .ref (ad 18)) M hE hP 0 rfl rfl zu_X6 3 (by decide) zk_fl_RX6_29 rfl rfl dX6_explain_55 ?_
          refine zi_getN (ci := 4) (v := .int (iI dl_4)) M hE hP 11 rfl rfl zu_X4 7 (by decide) zk_fn_RX6_208 rfl rfl dX6_explain_58 ?_
          refine lv_iload M.1 M.2.1 dX6_explain_61 (lv_at hl 5 rfl) ?_
          refine zi_isub M dX6_explain_63 ?_
          refine zi_abs M hl.1 zk_ml_RX6_211 (by decide) (Nat.le_of_ble_eq_true rfl) (by decide) (by decide) (by omega) dX6_explain_64 ?_
          refine lv_istore (lv' := [(10, .int (iI (max (dl_4 - mm) (-(dl_4 - mm))))), (0, .ref (ad 0)), (1, .int (iI q)), (2, .int (iI t)), (3, .int (iI f)), (4, .int (iI w)), (5, .int (iI mm)), (6, .int (iI x)), (7, .int (iI y)), (8, .int (iI z)), (9, .int (iI i))]) M.1 M.2.1 dX6_explain_67 hl (by decide) rfl (fun ls hl => ?_)
          refine lv_iload M.1 M.2.1 dX6_explain_69 (lv_at hl 8 rfl) ?_
          refine zi_push M dX6_explain_71 ?_
          refine zi_icmp_eq (tgt := 82) M dX6_explain_72 (by decide) (by omega) ⟨by decide, by decide⟩ (fun c_5 => ?_) (fun c_5 => ?_)
          ·
            refine lv_iload M.1 M.2.1 dX6_explain_82 (lv_at hl 7 rfl) ?_
            refine lv_istore (lv' := [(7, .int (iI x)), (10, .int (iI (max (dl_4 - mm) (-(dl_4 - mm))))), (0, .ref (ad 0)), (1, .int (iI q)), (2, .int (iI t)), (3, .int (iI f)), (4, .int (iI w)), (5, .int (iI mm)), (6, .int (iI x)), (8, .int (iI z)), (9, .int (iI i))]) M.1 M.2.1 dX6_explain_84 hl (by decide) rfl (fun ls hl => ?_)
            refine lv_iload M.1 M.2.1 dX6_explain_86 (lv_at hl 1 rfl) ?_
            refine lv_istore (lv' := [(8, .int (iI (max (dl_4 - mm) (-(dl_4 - mm))))), (7, .int (iI x)), (10, .int (iI (max (dl_4 - mm) (-(dl_4 - mm))))), (0, .ref (ad 0)), (1, .int (iI q)), (2, .int (iI t)), (3, .int (iI f)), (4, .int (iI w)), (5, .int (iI mm)), (6, .int (iI x)), (9, .int (iI i))]) M.1 M.2.1 dX6_explain_88 hl (by decide) rfl (fun ls hl => ?_)
            refine zi_iinc (lv' := [(6, .int (iI (x + 1))), (8, .int (iI (max (dl_4 - mm) (-(dl_4 - mm))))), (7, .int (iI x)), (10, .int (iI (max (dl_4 - mm) (-(dl_4 - mm))))), (0, .ref (ad 0)), (1, .int (iI q)), (2, .int (iI t)), (3, .int (iI f)), (4, .int (iI w)), (5, .int (iI mm)), (9, .int (iI i))]) M dX6_explain_90 hl 9 rfl (by decide) rfl (fun ls hl => ?_)
            refine zi_iinc (lv' := [(9, .int (iI (i + 1))), (6, .int (iI (x + 1))), (8, .int (iI (max (dl_4 - mm) (-(dl_4 - mm))))), (7, .int (iI x)), (10, .int (iI (max (dl_4 - mm) (-(dl_4 - mm))))), (0, .ref (ad 0)), (1, .int (iI q)), (2, .int (iI t)), (3, .int (iI f)), (4, .int (iI w)), (5, .int (iI mm))]) M dX6_explain_93 hl 10 rfl (by decide) rfl (fun ls hl => ?_)
            refine zi_goto (tgt := 29) M dX6_explain_96 (by decide) ?_
            exact ih_29 (x + 1) x (max (dl_4 - mm) (-(dl_4 - mm))) (i + 1) (u8 t (drZ i) (i % 9 + 1) f w_4 lg_4 le_4 dl_4) (by omega) (exF_a hi.1 hx hs_4 rfl (by omega)) (by omega) (by omega) (by omega) _ _ hP hD hS ls (lv_sub hl [5, 6, 7, 8, 9, 10, 1, 3, 2, 0] rfl)
          ·
            refine lv_iload M.1 M.2.1 dX6_explain_75 (lv_at hl 0 rfl) ?_
            refine lv_iload M.1 M.2.1 dX6_explain_77 (lv_at hl 9 rfl) ?_
            refine zi_icmp_ge (tgt := 90) M dX6_explain_79 (by decide) (by omega) (by omega) (fun c_6 => ?_) (fun c_6 => ?_)
            ·
              refine zi_iinc (lv' := [(6, .int (iI (x + 1))), (10, .int (iI (max (dl_4 - mm) (-(dl_4 - mm))))), (0, .ref (ad 0)), (1, .int (iI q)), (2, .int (iI t)), (3, .int (iI f)), (4, .int (iI w)), (5, .int (iI mm)), (7, .int (iI y)), (8, .int (iI z)), (9, .int (iI i))]) M dX6_explain_90 hl 7 rfl (by decide) rfl (fun ls hl => ?_)
              refine zi_iinc (lv' := [(9, .int (iI (i + 1))), (6, .int (iI (x + 1))), (10, .int (iI (max (dl_4 - mm) (-(dl_4 - mm))))), (0, .ref (ad 0)), (1, .int (iI q)), (2, .int (iI t)), (3, .int (iI f)), (4, .int (iI w)), (5, .int (iI mm)), (7, .int (iI y)), (8, .int (iI z))]) M dX6_explain_93 hl 10 rfl (by decide) rfl (fun ls hl => ?_)
              refine zi_goto (tgt := 29) M dX6_explain_96 (by decide) ?_
              exact ih_29 (x + 1) y z (i + 1) (u8 t (drZ i) (i % 9 + 1) f w_4 lg_4 le_4 dl_4) (by omega) (exF_b hi.1 hx hs_4 rfl (by omega)) (by omega) (by omega) (by omega) _ _ hP hD hS ls (lv_sub hl [3, 4, 5, 6, 7, 8, 1, 9, 10, 0] rfl)
            ·
              refine lv_iload M.1 M.2.1 dX6_explain_82 (lv_at hl 7 rfl) ?_
              refine lv_istore (lv' := [(7, .int (iI x)), (10, .int (iI (max (dl_4 - mm) (-(dl_4 - mm))))), (0, .ref (ad 0)), (1, .int (iI q)), (2, .int (iI t)), (3, .int (iI f)), (4, .int (iI w)), (5, .int (iI mm)), (6, .int (iI x)), (8, .int (iI z)), (9, .int (iI i))]) M.1 M.2.1 dX6_explain_84 hl (by decide) rfl (fun ls hl => ?_)
              refine lv_iload M.1 M.2.1 dX6_explain_86 (lv_at hl 1 rfl) ?_
              refine lv_istore (lv' := [(8, .int (iI (max (dl_4 - mm) (-(dl_4 - mm))))), (7, .int (iI x)), (10, .int (iI (max (dl_4 - mm) (-(dl_4 - mm))))), (0, .ref (ad 0)), (1, .int (iI q)), (2, .int (iI t)), (3, .int (iI f)), (4, .int (iI w)), (5, .int (iI mm)), (6, .int (iI x)), (9, .int (iI i))]) M.1 M.2.1 dX6_explain_88 hl (by decide) rfl (fun ls hl => ?_)
              refine zi_iinc (lv' := [(6, .int (iI (x + 1))), (8, .int (iI (max (dl_4 - mm) (-(dl_4 - mm))))), (7, .int (iI x)), (10, .int (iI (max (dl_4 - mm) (-(dl_4 - mm))))), (0, .ref (ad 0)), (1, .int (iI q)), (2, .int (iI t)), (3, .int (iI f)), (4, .int (iI w)), (5, .int (iI mm)), (9, .int (iI i))]) M dX6_explain_90 hl 9 rfl (by decide) rfl (fun ls hl => ?_)
              refine zi_iinc (lv' := [(9, .int (iI (i + 1))), (6, .int (iI (x + 1))), (8, .int (iI (max (dl_4 - mm) (-(dl_4 - mm))))), (7, .int (iI x)), (10, .int (iI (max (dl_4 - mm) (-(dl_4 - mm))))), (0, .ref (ad 0)), (1, .int (iI q)), (2, .int (iI t)), (3, .int (iI f)), (4, .int (iI w)), (5, .int (iI mm))]) M dX6_explain_93 hl 10 rfl (by decide) rfl (fun ls hl => ?_)
              refine zi_goto (tgt := 29) M dX6_explain_96 (by decide) ?_
              exact ih_29 (x + 1) x (max (dl_4 - mm) (-(dl_4 - mm))) (i + 1) (u8 t (drZ i) (i % 9 + 1) f w_4 lg_4 le_4 dl_4) (by omega) (exF_a hi.1 hx hs_4 rfl (by omega)) (by omega) (by omega) (by omega) _ _ hP hD hS ls (lv_sub hl [5, 6, 7, 8, 9, 10, 1, 3, 2, 0] rfl)
        ·
          refine zi_if_eq (tgt := 93) M dX6_explain_51 (by decide) ⟨by decide, by decide⟩ (fun _ => ?_) (fun q => absurd q (by decide))
          refine zi_iinc (lv' := [(9, .int (iI (i + 1))), (0, .ref (ad 0)), (1, .int (iI q)), (2, .int (iI t)), (3, .int (iI f)), (4, .int (iI w)), (5, .int (iI mm)), (6, .int (iI x)), (7, .int (iI y)), (8, .int (iI z))]) M dX6_explain_93 hl 9 rfl (by decide) rfl (fun ls hl => ?_)
          refine zi_goto (tgt := 29) M dX6_explain_96 (by decide) ?_
          exact ih_29 x y z (i + 1) u_4 (by omega) (exF_n hi.1 hx hs_4) (by omega) (by omega) (by omega) _ _ hP hD hS ls (lv_sub hl [1, 2, 3, 4, 5, 6, 7, 8, 9, 0] rfl)
  exact L_29 (Int.toNat (18 - 0) + 1) 0 (-1) 0 0 (u8 ypl ydr yan yfr yst ylg yle ydl) (by omega) rfl (by omega) (by omega) (by omega) _ _ hP hD hS ls (lv_sub hl [4, 5, 6, 7, 8, 9, 3, 2, 1, 0] rfl)
