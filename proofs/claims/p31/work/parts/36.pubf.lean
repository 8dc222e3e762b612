/-! contracts: what everybody may call, 2 -/
set_option maxRecDepth 100000 in
set_option maxHeartbeats 4000000 in
theorem c_X6_usable (l : Launch) (hst : l.stackTraces = false) (D : va_G) (cy : Nat → ClassId) (z0 : Nat) (ad : Nat → Nat) (fm fr h su st sh fl ypl ydr yan yfr yst ylg yle ydl : Int) (cS cH dD dE dF sea noi : Int → Int) (q : Int) (t : Int) (w : Int) (g : Int) (r_q : r32 q) (r_t : r32 t) (r_w : r32 w) (hg : 0 ≤ g ∧ g ≤ 1) (g_dD : zrg 48 0 1000 dD) (g_dE : zrg 48 0 1000 dE) (g_dF : zrg 48 0 1000 dF) (g_sea : zrg 48 0 1 sea) : vx_Met l yX6_usable [.code yX6_usable cX6_usable 10 (some .int)] (zRm 8 3 18 132) (zPc [.ref (ad 0), .int (iI q), .int (iI t), .int (iI w), .int (iI g)] D cy z0 (zWl D z0 ((rooW ad 0 cy fm fr) ++ ((airW ad 1 cy h su st sh fl cS cH dD dE dF) ++ ((grdW ad 15 cy sea noi) ++ (rayW ad 18 cy ypl ydr yan yfr yst ylg yle ydl)))))) (zQ1 D ((rooW ad 0 cy fm fr) ++ ((airW ad 1 cy h su st sh fl cS cH dD dE dF) ++ ((grdW ad 15 cy sea noi) ++ (rayW ad 18 cy ypl ydr yan yfr yst ylg yle ydl)))) (fun (r : Int32) (u : Nat → Int) => (((0 ≤ q ∧ q < 48) ∧ (0 ≤ t ∧ t < 48)) ∧ (0 ≤ w ∧ w ≤ 100)) ∧ ∃ v : Int, isUse dE dF dD sea q t w g v ∧ r = iI v) (fun (u : Nat → Int) => ((rooW ad 0 cy fm fr) ++ ((airW ad 1 cy h su st sh fl cS cH dD dE dF) ++ ((grdW ad 15 cy sea noi) ++ (rayW ad 18 cy (u 0) (u 1) (u 2) (u 3) (u 4) (u 5) (u 6) (u 7))))))) (zXC (fun E => (E = eIB ∧ (¬ ((0 ≤ q ∧ q < 48) ∧ (0 ≤ t ∧ t < 48)))) ∨ (E = eIA ∧ (((0 ≤ q ∧ q < 48) ∧ (0 ≤ t ∧ t < 48)) ∧ ¬ (0 ≤ w ∧ w ≤ 100))))) 3 18 (zIn ((rooW ad 0 cy fm fr) ++ ((airW ad 1 cy h su st sh fl cS cH dD dE dF) ++ ((grdW ad 15 cy sea noi) ++ (rayW ad 18 cy ypl ydr yan yfr yst ylg yle ydl))))) := by
  refine z_ofX (by decide) (Nat.le_of_ble_eq_true rfl) ?_
  intro p e s m args below meth c M hr hlk ht hargs hP0 hE ls hl
  have hP : va_P D vwCl ((rooW ad 0 cy fm fr) ++ ((airW ad 1 cy h su st sh fl cS cH dD dE dF) ++ ((grdW ad 15 cy sea noi) ++ (rayW ad 18 cy ypl ydr yan yfr yst ylg yle ydl)))) s.heap := hP0.1
  have hD : va_D (zIn ((rooW ad 0 cy fm fr) ++ ((airW ad 1 cy h su st sh fl cS cH dD dE dF) ++ ((grdW ad 15 cy sea noi) ++ (rayW ad 18 cy ypl ydr yan yfr yst ylg yle ydl))))) ((rooW ad 0 cy fm fr) ++ ((airW ad 1 cy h su st sh fl cS cH dD dE dF) ++ ((grdW ad 15 cy sea noi) ++ (rayW ad 18 cy ypl ydr yan yfr yst ylg yle ydl)))) := hP0.self
  have hAz := hP0.A
  have hS : va_S (zIn ((rooW ad 0 cy fm fr) ++ ((airW ad 1 cy h su st sh fl cS cH dD dE dF) ++ ((grdW ad 15 cy sea noi) ++ (rayW ad 18 cy ypl ydr yan yfr yst ylg yle ydl))))) s.heap s.heap [] := va_S.rf
  have hl : lv_has ls 10 [(0, .ref (ad 0)), (1, .int (iI q)), (2, .int (iI t)), (3, .int (iI w)), (4, .int (iI g))] := hl
  refine lv_iload_n M.1 M.2.1 dX6_usable_0 rfl (lv_at hl 1 rfl) ?_
  refine zx_need (zx_runS (As := [.int (iI q)]) (rest := []) M (c_X6_needPlace l hst D cy z0 q (by omega)) hE hS hAz trivial zk_cd_X6_needPlace zk_in_RX6 zk_st_X6_needPlace zk_ml_RX6_80 rfl rfl zd_X6_needPlace ⟨by decide, by decide⟩ rfl hl.1 rfl (Nat.le_of_ble_eq_true rfl) dX6_usable_1 ⟨by decide, by decide⟩) ht hlk (by decide) (by decide) (fun E t hA9 hC hz hq => ⟨by obtain ⟨rfl, h9⟩ := hC; exact Or.inl (⟨rfl, by omega⟩), hz, hq⟩) (fun hn_1 => ?_)
  refine lv_iload_n M.1 M.2.1 dX6_usable_4 rfl (lv_at hl 2 rfl) ?_
  refine zx_need (zx_runS (As := [.int (iI t)]) (rest := []) M (c_X6_needPlace l hst D cy z0 t (by omega)) hE hS hAz trivial zk_cd_X6_needPlace zk_in_RX6 zk_st_X6_needPlace zk_ml_RX6_80 rfl rfl zd_X6_needPlace ⟨by decide, by decide⟩ rfl hl.1 rfl (Nat.le_of_ble_eq_true rfl) dX6_usable_5 ⟨by decide, by decide⟩) ht hlk (by decide) (by decide) (fun E t hA9 hC hz hq => ⟨by obtain ⟨rfl, h9⟩ := hC; exact Or.inl (⟨rfl, by omega⟩), hz, hq⟩) (fun hn_2 => ?_)
  refine lv_iload_n M.1 M.2.1 dX6_usable_8 rfl (lv_at hl 3 rfl) ?_
  refine zx_need (zx_runS (As := [.int (iI w)]) (rest := []) M (c_X6_needStrength l hst D cy z0 w (by omega)) hE hS hAz trivial zk_cd_X6_needStrength zk_in_RX6 zk_st_X6_needStrength zk_ml_RX6_216 rfl rfl zd_X6_needStrength ⟨by decide, by decide⟩ rfl hl.1 rfl (Nat.le_of_ble_eq_true rfl) dX6_usable_9 ⟨by decide, by decide⟩) ht hlk (by decide) (by decide) (fun E t hA9 hC hz hq => ⟨by obtain ⟨rfl, h9⟩ := hC; exact Or.inr (⟨rfl, by omega⟩), hz, hq⟩) (fun hn_3 => ?_)
  refine lv_iload M.1 M.2.1 dX6_usable_12 (lv_at hl 4 rfl) ?_
  refine zi_if_eq (tgt := 23) M dX6_usable_14 (by decide) (by omega) (fun c_4 => ?_) (fun c_4 => ?_)
  ·
    refine zi_bipush M dX6_usable_23 ⟨by decide, by decide⟩ ?_
    refine lv_istore (lv' := [(5, .int (iI 10)), (0, .ref (ad 0)), (1, .int (iI q)), (2, .int (iI t)), (3, .int (iI w)), (4, .int (iI g))]) M.1 M.2.1 dX6_usable_25 hl (by decide) rfl (fun ls hl => ?_)
    refine lv_iload M.1 M.2.1 dX6_usable_27 (lv_at hl 5 rfl) ?_
    refine zi_if_eq (tgt := 37) M dX6_usable_29 (by decide) (by omega) (fun _ => ?_) (fun q => absurd c_4 q)
    refine zi_bipush M dX6_usable_37 ⟨by decide, by decide⟩ ?_
    refine lv_istore (lv' := [(6, .int (iI 10)), (5, .int (iI 10)), (0, .ref (ad 0)), (1, .int (iI q)), (2, .int (iI t)), (3, .int (iI w)), (4, .int (iI g))]) M.1 M.2.1 dX6_usable_39 hl (by decide) rfl (fun ls hl => ?_)
    refine zi_bipush M dX6_usable_41 ⟨by decide, by decide⟩ ?_
    refine lv_istore (lv' := [(7, .int (iI 30)), (6, .int (iI 10)), (5, .int (iI 10)), (0, .ref (ad 0)), (1, .int (iI q)), (2, .int (iI t)), (3, .int (iI w)), (4, .int (iI g))]) M.1 M.2.1 dX6_usable_43 hl (by decide) rfl (fun ls hl => ?_)
    refine zi_push M dX6_usable_45 ?_
    refine lv_istore (lv' := [(8, .int (iI 0)), (7, .int (iI 30)), (6, .int (iI 10)), (5, .int (iI 10)), (0, .ref (ad 0)), (1, .int (iI q)), (2, .int (iI t)), (3, .int (iI w)), (4, .int (iI g))]) M.1 M.2.1 dX6_usable_46 hl (by decide) rfl (fun ls hl => ?_)
    have L_48 : ∀ (k_48 : Nat) (i : Int) (ur : Nat → Int) (hi : 0 ≤ i ∧ i ≤ 30) (hno : ∀ j : Int, 0 ≤ j → j < i → ¬ hasZ dE dF dD sea q t (10 + (j * 10)) w) (hm : 30 - i < (k_48 : Int)) (H : Heap) (locs : List Loc) (hP : va_P D vwCl ((rooW ad 0 cy fm fr) ++ ((airW ad 1 cy h su st sh fl cS cH dD dE dF) ++ ((grdW ad 15 cy sea noi) ++ (rayW ad 18 cy (ur 0) (ur 1) (ur 2) (ur 3) (ur 4) (ur 5) (ur 6) (ur 7))))) H) (hD : va_D (zIn ((rooW ad 0 cy fm fr) ++ ((airW ad 1 cy h su st sh fl cS cH dD dE dF) ++ ((grdW ad 15 cy sea noi) ++ (rayW ad 18 cy ypl ydr yan yfr yst ylg yle ydl))))) ((rooW ad 0 cy fm fr) ++ ((airW ad 1 cy h su st sh fl cS cH dD dE dF) ++ ((grdW ad 15 cy sea noi) ++ (rayW ad 18 cy (ur 0) (ur 1) (ur 2) (ur 3) (ur 4) (ur 5) (ur 6) (ur 7)))))) (hS : va_S (zIn ((rooW ad 0 cy fm fr) ++ ((airW ad 1 cy h su st sh fl cS cH dD dE dF) ++ ((grdW ad 15 cy sea noi) ++ (rayW ad 18 cy ypl ydr yan yfr yst ylg yle ydl))))) s.heap H locs) (ls : Array Slot) (hl : lv_has ls 10 [(0, .ref (ad 0)), (1, .int (iI q)), (2, .int (iI t)), (3, .int (iI w)), (4, .int (iI g)), (5, .int (iI 10)), (6, .int (iI 10)), (7, .int (iI 30)), (8, .int (iI i))]), W p l e (zRm 8 3 18 132) s m args below meth c H locs 3 18 (vx_MQ below (zQ1 D ((rooW ad 0 cy fm fr) ++ ((airW ad 1 cy h su st sh fl cS cH dD dE dF) ++ ((grdW ad 15 cy sea noi) ++ (rayW ad 18 cy ypl ydr yan yfr yst ylg yle ydl)))) (fun (r : Int32) (u : Nat → Int) => (((0 ≤ q ∧ q < 48) ∧ (0 ≤ t ∧ t < 48)) ∧ (0 ≤ w ∧ w ≤ 100)) ∧ ∃ v : Int, isUse dE dF dD sea q t w g v ∧ r = iI v) (fun (u : Nat → Int) => ((rooW ad 0 cy fm fr) ++ ((airW ad 1 cy h su st sh fl cS cH dD dE dF) ++ ((grdW ad 15 cy sea noi) ++ (rayW ad 18 cy (u 0) (u 1) (u 2) (u 3) (u 4) (u 5) (u 6) (u 7))))))) (zXC (fun E => (E = eIB ∧ (¬ ((0 ≤ q ∧ q < 48) ∧ (0 ≤ t ∧ t < 48)))) ∨ (E = eIA ∧ (((0 ≤ q ∧ q < 48) ∧ (0 ≤ t ∧ t < 48)) ∧ ¬ (0 ≤ w ∧ w ≤ 100))))) args s 3 18 (zIn ((rooW ad 0 cy fm fr) ++ ((airW ad 1 cy h su st sh fl cS cH dD dE dF) ++ ((grdW ad 15 cy sea noi) ++ (rayW ad 18 cy ypl ydr yan yfr yst ylg yle ydl)))))) (F0 m 48 ls []) := by
      intro k_48
      induction k_48 with
      | zero =>
        intro i ur hi hno hm H locs hP hD hS ls hl
        exact absurd hm (by omega)
      | succ k_48 ih_48 =>
        intro i ur hi hno hm H locs hP hD hS ls hl
        refine lv_iload M.1 M.2.1 dX6_usable_48 (lv_at hl 8 rfl) ?_
        refine lv_iload M.1 M.2.1 dX6_usable_50 (lv_at hl 7 rfl) ?_
        refine zi_icmp_ge (tgt := 86) M dX6_usable_52 (by decide) (by omega) ⟨by decide, by decide⟩ (fun c_5 => ?_) (fun c_5 => ?_)
        ·
          refine zi_push M dX6_usable_86 ?_
          have hP : va_P D vwCl ((rooW ad 0 cy fm fr) ++ ((airW ad 1 cy h su st sh fl cS cH dD dE dF) ++ ((grdW ad 15 cy sea noi) ++ (rayW ad 18 cy (ur 0) (ur 1) (ur 2) (ur 3) (ur 4) (ur 5) (ur 6) (ur 7))))) H := hP
          exact vx_ret (zw_i M hr hlk ur hP hS (by (exact ⟨by omega, -1, Or.inl ⟨rfl, fun k h1 h2 h3 => (hno (k - 1) (by omega) (by omega) (by rw [show (10 + ((k - 1) * 10)) = 10 * k from by omega]; exact h3))⟩, rfl⟩)) (by decide) (by decide) dX6_usable_87)
        ·
          refine lv_iload M.1 M.2.1 dX6_usable_55 (lv_at hl 5 rfl) ?_
          refine lv_iload M.1 M.2.1 dX6_usable_57 (lv_at hl 8 rfl) ?_
          refine lv_iload M.1 M.2.1 dX6_usable_59 (lv_at hl 6 rfl) ?_
          refine zi_imul M dX6_usable_61 ?_
          refine zi_iadd M dX6_usable_62 ?_
          refine lv_istore (lv' := [(9, .int (iI (10 + (i * 10)))), (0, .ref (ad 0)), (1, .int (iI q)), (2, .int (iI t)), (3, .int (iI w)), (4, .int (iI g)), (5, .int (iI 10)), (6, .int (iI 10)), (7, .int (iI 30)), (8, .int (iI i))]) M.1 M.2.1 dX6_usable_63 hl (by decide) rfl (fun ls hl => ?_)
          refine lv_aload_n M.1 M.2.1 dX6_usable_65 rfl (lv_at hl 1 rfl) ?_
          refine lv_iload_n M.1 M.2.1 dX6_usable_66 rfl (lv_at hl 2 rfl) ?_
          refine lv_iload_n M.1 M.2.1 dX6_usable_67 rfl (lv_at hl 3 rfl) ?_
          refine lv_iload M.1 M.2.1 dX6_usable_68 (lv_at hl 0 rfl) ?_
          refine lv_iload_n M.1 M.2.1 dX6_usable_70 rfl (lv_at hl 4 rfl) ?_
          refine z_cW (z_runV (As := [.int (iI q), .int (iI t), .int (iI (10 + (i * 10))), .int (iI w)]) (rest := []) M (c_X6_hasPath l D cy z0 ad fm fr h su st sh fl (ur 0) (ur 1) (ur 2) (ur 3) (ur 4) (ur 5) (ur 6) (ur 7) cS cH dD dE dF sea noi q t (10 + (i * 10)) w g_dD g_dE g_dF g_sea (by omega) (by omega) (by omega) (by omega)) hE hS hAz (z_cut hP hD hAz [0, 1, 2, 3, 4, 5, 6, 7, 8, 9, 10, 11] rfl (by decide +kernel)) (zRc.of (ci := 6) (q0 := 0) hE hP rfl rfl) zk_cd_X6_hasPath zk_in_RX6 zk_im_X6_hasPath zk_se_X6_hasPath zk_ml_RX6_219 rfl rfl zd_X6_hasPath ⟨by decide, by decide⟩ rfl hl.1 rfl (Nat.le_of_ble_eq_true rfl) dX6_usable_71 ⟨by decide, by decide⟩) hP hD hS [0, 1, 2, 3, 4, 5, 6, 7, 8, 9, 10, 11] rfl (fun _ => rfl) (fun r_6 u_6 H locs hp_6 hP hD hS => ?_)
          have hP : va_P D vwCl ((rooW ad 0 cy fm fr) ++ ((airW ad 1 cy h su st sh fl cS cH dD dE dF) ++ ((grdW ad 15 cy sea noi) ++ (rayW ad 18 cy (u_6 0) (u_6 1) (u_6 2) (u_6 3) (u_6 4) (u_6 5) (u_6 6) (u_6 7))))) H := hP
          have hD : va_D (zIn ((rooW ad 0 cy fm fr) ++ ((airW ad 1 cy h su st sh fl cS cH dD dE dF) ++ ((grdW ad 15 cy sea noi) ++ (rayW ad 18 cy ypl ydr yan yfr yst ylg yle ydl))))) ((rooW ad 0 cy fm fr) ++ ((airW ad 1 cy h su st sh fl cS cH dD dE dF) ++ ((grdW ad 15 cy sea noi) ++ (rayW ad 18 cy (u_6 0) (u_6 1) (u_6 2) (u_6 3) (u_6 4) (u_6 5) (u_6 6) (u_6 7))))) := hD
          rcases hp_6 with ⟨hs_6, rfl⟩ | ⟨hs_6, rfl⟩
          ·
            refine zi_if_eq (tgt := 80) M dX6_usable_74 (by decide) ⟨by decide, by decide⟩ (fun q => absurd q (by decide)) (fun _ => ?_)
            refine lv_iload M.1 M.2.1 dX6_usable_77 (lv_at hl 0 rfl) ?_
            have hP : va_P D vwCl ((rooW ad 0 cy fm fr) ++ ((airW ad 1 cy h su st sh fl cS cH dD dE dF) ++ ((grdW ad 15 cy sea noi) ++ (rayW ad 18 cy (u_6 0) (u_6 1) (u_6 2) (u_6 3) (u_6 4) (u_6 5) (u_6 6) (u_6 7))))) H := hP
            exact vx_ret (zw_i M hr hlk u_6 hP hS (by (exact ⟨by omega, (10 + (i * 10)), Or.inr ⟨(i + 1), by omega, by omega, by rw [show 10 * (i + 1) = (10 + (i * 10)) from by omega]; exact hs_6, fun j h1 h2 h3 => by rw [if_pos (by omega : g = 0)]; rcases Int.lt_or_le j (i + 1) with h4 | h4; exact absurd h3 (fun h3 => (hno (j - 1) (by omega) (by omega) (by rw [show (10 + ((j - 1) * 10)) = 10 * j from by omega]; exact h3))); exact h4⟩, rfl⟩)) (by decide) (by decide) dX6_usable_79)
          ·
            refine zi_if_eq (tgt := 80) M dX6_usable_74 (by decide) ⟨by decide, by decide⟩ (fun _ => ?_) (fun q => absurd q (by decide))
            refine zi_iinc (lv' := [(8, .int (iI (i + 1))), (9, .int (iI (10 + (i * 10)))), (0, .ref (ad 0)), (1, .int (iI q)), (2, .int (iI t)), (3, .int (iI w)), (4, .int (iI g)), (5, .int (iI 10)), (6, .int (iI 10)), (7, .int (iI 30))]) M dX6_usable_80 hl 9 rfl (by decide) rfl (fun ls hl => ?_)
            refine zi_goto (tgt := 48) M dX6_usable_83 (by decide) ?_
            exact ih_48 (i + 1) u_6 (by omega) (fun j h0 h1 => by rcases Int.lt_or_le j i with hj | hj; exact hno j h0 hj; (have hji : j = i := (by omega)); subst hji; exact hs_6) (by omega) _ _ hP hD hS ls (lv_sub hl [2, 3, 4, 5, 6, 7, 8, 9, 0] rfl)
    exact L_48 (Int.toNat (30 - 0) + 1) 0 (u8 ypl ydr yan yfr yst ylg yle ydl) (by omega) (fun j h0 h1 => absurd h1 (by omega)) (by omega) _ _ hP hD hS ls (lv_sub hl [4, 5, 6, 7, 8, 3, 2, 1, 0] rfl)
  ·
    refine zi_sipush M dX6_usable_17 ⟨by decide, by decide⟩ ?_
    refine zi_goto (tgt := 25) M dX6_usable_20 (by decide) ?_
    refine lv_istore (lv' := [(5, .int (iI 300)), (0, .ref (ad 0)), (1, .int (iI q)), (2, .int (iI t)), (3, .int (iI w)), (4, .int (iI g))]) M.1 M.2.1 dX6_usable_25 hl (by decide) rfl (fun ls hl => ?_)
    refine lv_iload M.1 M.2.1 dX6_usable_27 (lv_at hl 5 rfl) ?_
    refine zi_if_eq (tgt := 37) M dX6_usable_29 (by decide) (by omega) (fun q => absurd q c_4) (fun _ => ?_)
    refine zi_bipush M dX6_usable_32 ⟨by decide, by decide⟩ ?_
    refine zi_goto (tgt := 39) M dX6_usable_34 (by decide) ?_
    refine lv_istore (lv' := [(6, .int (iI (-10))), (5, .int (iI 300)), (0, .ref (ad 0)), (1, .int (iI q)), (2, .int (iI t)), (3, .int (iI w)), (4, .int (iI g))]) M.1 M.2.1 dX6_usable_39 hl (by decide) rfl (fun ls hl => ?_)
    refine zi_bipush M dX6_usable_41 ⟨by decide, by decide⟩ ?_
    refine lv_istore (lv' := [(7, .int (iI 30)), (6, .int (iI (-10))), (5, .int (iI 300)), (0, .ref (ad 0)), (1, .int (iI q)), (2, .int (iI t)), (3, .int (iI w)), (4, .int (iI g))]) M.1 M.2.1 dX6_usable_43 hl (by decide) rfl (fun ls hl => ?_)
    refine zi_push M dX6_usable_45 ?_
    refine lv_istore (lv' := [(8, .int (iI 0)), (7, .int (iI 30)), (6, .int (iI (-10))), (5, .int (iI 300)), (0, .ref (ad 0)), (1, .int (iI q)), (2, .int (iI t)), (3, .int (iI w)), (4, .int (iI g))]) M.1 M.2.1 dX6_usable_46 hl (by decide) rfl (fun ls hl => ?_)
    have L_48 : ∀ (k_48 : Nat) (i : Int) (ur : Nat → Int) (hi : 0 ≤ i ∧ i ≤ 30) (hno : ∀ j : Int, 0 ≤ j → j < i → ¬ hasZ dE dF dD sea q t (300 + (j * (-10))) w) (hm : 30 - i < (k_48 : Int)) (H : Heap) (locs : List Loc) (hP : va_P D vwCl ((rooW ad 0 cy fm fr) ++ ((airW ad 1 cy h su st sh fl cS cH dD dE dF) ++ ((grdW ad 15 cy sea noi) ++ (rayW ad 18 cy (ur 0) (ur 1) (ur 2) (ur 3) (ur 4) (ur 5) (ur 6) (ur 7))))) H) (hD : va_D (zIn ((rooW ad 0 cy fm fr) ++ ((airW ad 1 cy h su st sh fl cS cH dD dE dF) ++ ((grdW ad 15 cy sea noi) ++ (rayW ad 18 cy ypl ydr yan yfr yst ylg yle ydl))))) ((rooW ad 0 cy fm fr) ++ ((airW ad 1 cy h su st sh fl cS cH dD dE dF) ++ ((grdW ad 15 cy sea noi) ++ (rayW ad 18 cy (ur 0) (ur 1) (ur 2) (ur 3) (ur 4) (ur 5) (ur 6) (ur 7)))))) (hS : va_S (zIn ((rooW ad 0 cy fm fr) ++ ((airW ad 1 cy h su st sh fl cS cH dD dE dF) ++ ((grdW ad 15 cy sea noi) ++ (rayW ad 18 cy ypl ydr yan yfr yst ylg yle ydl))))) s.heap H locs) (ls : Array Slot) (hl : lv_has ls 10 [(0, .ref (ad 0)), (1, .int (iI q)), (2, .int (iI t)), (3, .int (iI w)), (4, .int (iI g)), (5, .int (iI 300)), (6, .int (iI (-10))), (7, .int (iI 30)), (8, .int (iI i))]), W p l e (zRm 8 3 18 132) s m args below meth c H locs 3 18 (vx_MQ below (zQ1 D ((rooW ad 0 cy fm fr) ++ ((airW ad 1 cy h su st sh fl cS cH dD dE dF) ++ ((grdW ad 15 cy sea noi) ++ (rayW ad 18 cy ypl ydr yan yfr yst ylg yle ydl)))) (fun (r : Int32) (u : Nat → Int) => (((0 ≤ q ∧ q < 48) ∧ (0 ≤ t ∧ t < 48)) ∧ (0 ≤ w ∧ w ≤ 100)) ∧ ∃ v : Int, isUse dE dF dD sea q t w g v ∧ r = iI v) (fun (u : Nat → Int) => ((rooW ad 0 cy fm fr) ++ ((airW ad 1 cy h su st sh fl cS cH dD dE dF) ++ ((grdW ad 15 cy sea noi) ++ (rayW ad 18 cy (u 0) (u 1) (u 2) (u 3) (u 4) (u 5) (u 6) (u 7))))))) (zXC (fun E => (E = eIB ∧ (¬ ((0 ≤ q ∧ q < 48) ∧ (0 ≤ t ∧ t < 48)))) ∨ (E = eIA ∧ (((0 ≤ q ∧ q < 48) ∧ (0 ≤ t ∧ t < 48)) ∧ ¬ (0 ≤ w ∧ w ≤ 100))))) args s 3 18 (zIn ((rooW ad 0 cy fm fr) ++ ((airW ad 1 cy h su st sh fl cS cH dD dE dF) ++ ((grdW ad 15 cy sea noi) ++ (rayW ad 18 cy ypl ydr yan yfr yst ylg yle ydl)))))) (F0 m 48 ls []) := by
      intro k_48
      induction k_48 with
      | zero =>
        intro i ur hi hno hm H locs hP hD hS ls hl
        exact absurd hm (by omega)
      | succ k_48 ih_48 =>
        intro i ur hi hno hm H locs hP hD hS ls hl
        refine lv_iload M.1 M.2.1 dX6_usable_48 (lv_at hl 8 rfl) ?_
        refine lv_iload M.1 M.2.1 dX6_usable_50 (lv_at hl 7 rfl) ?_
        refine zi_icmp_ge (tgt := 86) M dX6_usable_52 (by decide) (by omega) ⟨by decide, by decide⟩ (fun c_7 => ?_) (fun c_7 => ?_)
        ·
          refine zi_push M dX6_usable_86 ?_
          have hP : va_P D vwCl ((rooW ad 0 cy fm fr) ++ ((airW ad 1 cy h su st sh fl cS cH dD dE dF) ++ ((grdW ad 15 cy sea noi) ++ (rayW ad 18 cy (ur 0) (ur 1) (ur 2) (ur 3) (ur 4) (ur 5) (ur 6) (ur 7))))) H := hP
          exact vx_ret (zw_i M hr hlk ur hP hS (by (exact ⟨by omega, -1, Or.inl ⟨rfl, fun k h1 h2 h3 => (hno (30 - k) (by omega) (by omega) (by rw [show (300 + ((30 - k) * (-10))) = 10 * k from by omega]; exact h3))⟩, rfl⟩)) (by decide) (by decide) dX6_usable_87)
        ·
          refine lv_iload M.1 M.2.1 dX6_usable_55 (lv_at hl 5 rfl) ?_
          refine lv_iload M.1 M.2.1 dX6_usable_57 (lv_at hl 8 rfl) ?_
          refine lv_iload M.1 M.2.1 dX6_usable_59 (lv_at hl 6 rfl) ?_
          refine zi_imul M dX6_usable_61 ?_
          refine zi_iadd M dX6_usable_62 ?_
          refine lv_istore (lv' := [(9, .int (iI (300 + (i * (-10))))), (0, .ref (ad 0)), (1, .int (iI q)), (2, .int (iI t)), (3, .int (iI w)), (4, .int (iI g)), (5, .int (iI 300)), (6, .int (iI (-10))), (7, .int (iI 30)), (8, .int (iI i))]) M.1 M.2.1 dX6_usable_63 hl (by decide) rfl (fun ls hl => ?_)
          refine lv_aload_n M.1 M.2.1 dX6_usable_65 rfl (lv_at hl 1 rfl) ?_
          refine lv_iload_n M.1 M.2.1 dX6_usable_66 rfl (lv_at hl 2 rfl) ?_
          refine lv_iload_n M.1 M.2.1 dX6_usable_67 rfl (lv_at hl 3 rfl) ?_
          refine lv_iload M.1 M.2.1 dX6_usable_68 (lv_at hl 0 rfl) ?_
          refine lv_iload_n M.1 M.2.1 dX6_usable_70 rfl (lv_at hl 4 rfl) ?_
          refine z_cW (z_runV (As := [.int (iI q), .int (iI t), .int (iI (300 + (i * (-10)))), .int (iI w)]) (rest := []) M (c_X6_hasPath l D cy z0 ad fm fr h su st sh fl (ur 0) (ur 1) (ur 2) (ur 3) (ur 4) (ur 5) (ur 6) (ur 7) cS cH dD dE dF sea noi q t (300 + (i * (-10))) w g_dD g_dE g_dF g_sea (by omega) (by omega) (by omega) (by omega)) hE hS hAz (z_cut hP hD hAz [0, 1, 2, 3, 4, 5, 6, 7, 8, 9, 10, 11] rfl (by decide +kernel)) (zRc.of (ci := 6) (q0 := 0) hE hP rfl rfl) zk_cd_X6_hasPath zk_in_RX6 zk_im_X6_hasPath zk_se_X6_hasPath zk_ml_RX6_219 rfl rfl zd_X6_hasPath ⟨by decide, by decide⟩ rfl hl.1 rfl (Nat.le_of_ble_eq_true rfl) dX6_usable_71 ⟨by decide, by decide⟩) hP hD hS [0, 1, 2, 3, 4, 5, 6, 7, 8, 9, 10, 11] rfl (fun _ => rfl) (fun r_8 u_8 H locs hp_8 hP hD hS => ?_)
          have hP : va_P D vwCl ((rooW ad 0 cy fm fr) ++ ((airW ad 1 cy h su st sh fl cS cH dD dE dF) ++ ((grdW ad 15 cy sea noi) ++ (rayW ad 18 cy (u_8 0) (u_8 1) (u_8 2) (u_8 3) (u_8 4) (u_8 5) (u_8 6) (u_8 7))))) H := hP
          have hD : va_D (zIn ((rooW ad 0 cy fm fr) ++ ((airW ad 1 cy h su st sh fl cS cH dD dE dF) ++ ((grdW ad 15 cy sea noi) ++ (rayW ad 18 cy ypl ydr yan yfr yst ylg yle ydl))))) ((rooW ad 0 cy fm fr) ++ ((airW ad 1 cy h su st sh fl cS cH dD dE dF) ++ ((grdW ad 15 cy sea noi) ++ (rayW ad 18 cy (u_8 0) (u_8 1) (u_8 2) (u_8 3) (u_8 4) (u_8 5) (u_8 6) (u_8 7))))) := hD
          rcases hp_8 with ⟨hs_8, rfl⟩ | ⟨hs_8, rfl⟩
          ·
            refine zi_if_eq (tgt := 80) M dX6_usable_74 (by decide) ⟨by decide, by decide⟩ (fun q => absurd q (by decide)) (fun _ => ?_)
            refine lv_iload M.1 M.2.1 dX6_usable_77 (lv_at hl 0 rfl) ?_
            have hP : va_P D vwCl ((rooW ad 0 cy fm fr) ++ ((airW ad 1 cy h su st sh fl cS cH dD dE dF) ++ ((grdW ad 15 cy sea noi) ++ (rayW ad 18 cy (u_8 0) (u_8 1) (u_8 2) (u_8 3) (u_8 4) (u_8 5) (u_8 6) (u_8 7))))) H := hP
            exact vx_ret (zw_i M hr hlk u_8 hP hS (by (exact ⟨by omega, (300 + (i * (-10))), Or.inr ⟨(30 - i), by omega, by omega, by rw [show 10 * (30 - i) = (300 + (i * (-10))) from by omega]; exact hs_8, fun j h1 h2 h3 => by rw [if_neg (by omega : ¬ g = 0)]; rcases Int.lt_or_le (30 - i) j with h4 | h4; exact absurd h3 (fun h3 => (hno (30 - j) (by omega) (by omega) (by rw [show (300 + ((30 - j) * (-10))) = 10 * j from by omega]; exact h3))); exact h4⟩, rfl⟩)) (by decide) (by decide) dX6_usable_79)
          ·
            refine zi_if_eq (tgt := 80) M dX6_usable_74 (by decide) ⟨by decide, by decide⟩ (fun _ => ?_) (fun q => absurd q (by decide))
            refine zi_iinc (lv' := [(8, .int (iI (i + 1))), (9, .int (iI (300 + (i * (-10))))), (0, .ref (ad 0)), (1, .int (iI q)), (2, .int (iI t)), (3, .int (iI w)), (4, .int (iI g)), (5, .int (iI 300)), (6, .int (iI (-10))), (7, .int (iI 30))]) M dX6_usable_80 hl 9 rfl (by decide) rfl (fun ls hl => ?_)
            refine zi_goto (tgt := 48) M dX6_usable_83 (by decide) ?_
            exact ih_48 (i + 1) u_8 (by omega) (fun j h0 h1 => by rcases Int.lt_or_le j i with hj | hj; exact hno j h0 hj; (have hji : j = i := (by omega)); subst hji; exact hs_8) (by omega) _ _ hP hD hS ls (lv_sub hl [2, 3, 4, 5, 6, 7, 8, 9, 0] rfl)
    exact L_48 (Int.toNat (30 - 0) + 1) 0 (u8 ypl ydr yan yfr yst ylg yle ydl) (by omega) (fun j h0 h1 => absurd h1 (by omega)) (by omega) _ _ hP hD hS ls (lv_sub hl [4, 5, 6, 7, 8, 3, 2, 1, 0] rfl)

set_option maxRecDepth 100000 in
set_option maxHeartbeats 4000000 in
theorem c_X6_skipped (l : Launch) (hst : l.stackTraces = false) (D : va_G) (cy : Nat → ClassId) (z0 : Nat) (ad : Nat → Nat) (fm fr h su st sh fl : Int) (cS cH dD dE dF : Int → Int) (q : Int) (g : Int) (f : Int) (r_q : r32 q) (r_f : r32 f) (hg : 0 ≤ g ∧ g ≤ 1) (g_dE : zrg 48 0 1000 dE) (g_dF : zrg 48 0 1000 dF) : vx_Met l yX6_skipped [.code yX6_skipped cX6_skipped 8 (some .int)] (zRm 8 2 12 132) (zPc [.ref (ad 0), .int (iI q), .int (iI g), .int (iI f)] D cy z0 (zWl D z0 ((rooW ad 0 cy fm fr) ++ (airW ad 1 cy h su st sh fl cS cH dD dE dF)))) (zQ1 D ((rooW ad 0 cy fm fr) ++ (airW ad 1 cy h su st sh fl cS cH dD dE dF)) (fun (r : Int32) (_ : Unit) => ((0 ≤ q ∧ q < 48) ∧ (10 ≤ f ∧ f ≤ 300)) ∧ r = iI (skpZ (skF dE dF g q f 9))) (fun (_ : Unit) => ((rooW ad 0 cy fm fr) ++ (airW ad 1 cy h su st sh fl cS cH dD dE dF)))) (zXC (fun E => (E = eIB ∧ (¬ (0 ≤ q ∧ q < 48))) ∨ (E = eIA ∧ ((0 ≤ q ∧ q < 48) ∧ ¬ (10 ≤ f ∧ f ≤ 300))))) 2 12 (zIn ((rooW ad 0 cy fm fr) ++ (airW ad 1 cy h su st sh fl cS cH dD dE dF))) := by
  refine z_ofX (by decide) (Nat.le_of_ble_eq_true rfl) ?_
  intro p e s m args below meth c M hr hlk ht hargs hP0 hE ls hl
  have hP : va_P D vwCl ((rooW ad 0 cy fm fr) ++ (airW ad 1 cy h su st sh fl cS cH dD dE dF)) s.heap := hP0.1
  have hD : va_D (zIn ((rooW ad 0 cy fm fr) ++ (airW ad 1 cy h su st sh fl cS cH dD dE dF))) ((rooW ad 0 cy fm fr) ++ (airW ad 1 cy h su st sh fl cS cH dD dE dF)) := hP0.self
  have hAz := hP0.A
  have hS : va_S (zIn ((rooW ad 0 cy fm fr) ++ (airW ad 1 cy h su st sh fl cS cH dD dE dF))) s.heap s.heap [] := va_S.rf
  have hl : lv_has ls 8 [(0, .ref (ad 0)), (1, .int (iI q)), (2, .int (iI g)), (3, .int (iI f))] := hl
  refine lv_iload_n M.1 M.2.1 dX6_skipped_0 rfl (lv_at hl 1 rfl) ?_
  refine zx_need (zx_runS (As := [.int (iI q)]) (rest := []) M (c_X6_needPlace l hst D cy z0 q (by omega)) hE hS hAz trivial zk_cd_X6_needPlace zk_in_RX6 zk_st_X6_needPlace zk_ml_RX6_80 rfl rfl zd_X6_needPlace ⟨by decide, by decide⟩ rfl hl.1 rfl (Nat.le_of_ble_eq_true rfl) dX6_skipped_1 ⟨by decide, by decide⟩) ht hlk (by decide) (by decide) (fun E t hA9 hC hz hq => ⟨by obtain ⟨rfl, h9⟩ := hC; exact Or.inl (⟨rfl, by omega⟩), hz, hq⟩) (fun hn_1 => ?_)
  refine lv_iload_n M.1 M.2.1 dX6_skipped_4 rfl (lv_at hl 3 rfl) ?_
  refine zx_need (zx_runS (As := [.int (iI f)]) (rest := []) M (c_X6_needFrequency l hst D cy z0 f (by omega)) hE hS hAz trivial zk_cd_X6_needFrequency zk_in_RX6 zk_st_X6_needFrequency zk_ml_RX6_117 rfl rfl zd_X6_needFrequency ⟨by decide, by decide⟩ rfl hl.1 rfl (Nat.le_of_ble_eq_true rfl) dX6_skipped_5 ⟨by decide, by decide⟩) ht hlk (by decide) (by decide) (fun E t hA9 hC hz hq => ⟨by obtain ⟨rfl, h9⟩ := hC; exact Or.inr (⟨rfl, by omega⟩), hz, hq⟩) (fun hn_2 => ?_)
  refine zi_push M dX6_skipped_8 ?_
  refine lv_istore (lv' := [(4, .int (iI (-1))), (0, .ref (ad 0)), (1, .int (iI q)), (2, .int (iI g)), (3, .int (iI f))]) M.1 M.2.1 dX6_skipped_9 hl (by decide) rfl (fun ls hl => ?_)
  refine zi_push M dX6_skipped_11 ?_
  refine lv_istore (lv' := [(5, .int (iI 1)), (4, .int (iI (-1))), (0, .ref (ad 0)), (1, .int (iI q)), (2, .int (iI g)), (3, .int (iI f))]) M.1 M.2.1 dX6_skipped_12 hl (by decide) rfl (fun ls hl => ?_)
  have L_14 : ∀ (k_14 : Nat) (i : Int) (x : Int) (hi : 1 ≤ i ∧ i ≤ 10) (hx : x = skF dE dF g q f (i - 1).toNat) (hm : 10 - i < (k_14 : Int)) (ls : Array Slot) (hl : lv_has ls 8 [(0, .ref (ad 0)), (1, .int (iI q)), (2, .int (iI g)), (3, .int (iI f)), (4, .int (iI x)), (5, .int (iI i))]), W p l e (zRm 8 2 12 132) s m args below meth c s.heap [] 2 12 (vx_MQ below (zQ1 D ((rooW ad 0 cy fm fr) ++ (airW ad 1 cy h su st sh fl cS cH dD dE dF)) (fun (r : Int32) (_ : Unit) => ((0 ≤ q ∧ q < 48) ∧ (10 ≤ f ∧ f ≤ 300)) ∧ r = iI (skpZ (skF dE dF g q f 9))) (fun (_ : Unit) => ((rooW ad 0 cy fm fr) ++ (airW ad 1 cy h su st sh fl cS cH dD dE dF)))) (zXC (fun E => (E = eIB ∧ (¬ (0 ≤ q ∧ q < 48))) ∨ (E = eIA ∧ ((0 ≤ q ∧ q < 48) ∧ ¬ (10 ≤ f ∧ f ≤ 300))))) args s 2 12 (zIn ((rooW ad 0 cy fm fr) ++ (airW ad 1 cy h su st sh fl cS cH dD dE dF)))) (F0 m 14 ls []) := by
    intro k_14
    induction k_14 with
    | zero =>
      intro i x hi hx hm ls hl
      exact absurd hm (by omega)
    | succ k_14 ih_14 =>
      intro i x hi hx hm ls hl
      have hxr := skF_rg (dE := dE) (dF := dF) (ea := g) (q := q) (f := f) (i - 1).toNat (by omega)
      rw [← hx] at hxr
      refine lv_iload M.1 M.2.1 dX6_skipped_14 (lv_at hl 5 rfl) ?_
      refine zi_bipush M dX6_skipped_16 ⟨by decide, by decide⟩ ?_
      refine zi_icmp_gt (tgt := 84) M dX6_skipped_18 (by decide) (by omega) ⟨by decide, by decide⟩ (fun c_3 => ?_) (fun c_3 => ?_)
      ·
        refine lv_iload M.1 M.2.1 dX6_skipped_84 (lv_at hl 4 rfl) ?_
        refine zi_push M dX6_skipped_86 ?_
        refine zi_icmp_ne (tgt := 94) M dX6_skipped_87 (by decide) (by omega) ⟨by decide, by decide⟩ (fun c_4 => ?_) (fun c_4 => ?_)
        ·
          refine zi_push M dX6_skipped_94 ?_
          refine lv_iload M.1 M.2.1 dX6_skipped_95 (lv_at hl 4 rfl) ?_
          refine zi_push M dX6_skipped_97 ?_
          refine zi_isub M dX6_skipped_98 ?_
          refine zi_max M hl.1 zk_ml_RX6_226 (by decide) (Nat.le_of_ble_eq_true rfl) (by decide) (by decide) ⟨by decide, by decide⟩ (by omega) dX6_skipped_99 ?_
          have hP : va_P D vwCl ((rooW ad 0 cy fm fr) ++ (airW ad 1 cy h su st sh fl cS cH dD dE dF)) s.heap := hP
          exact vx_ret (zw_i M hr hlk () hP hS (by exact ⟨by omega, congrArg iI (show ((max 0 (x - 1)) : Int) = skpZ (skF dE dF g q f 9) by (unfold skpZ; rw [show skF dE dF g q f 9 = x from by rw [hx, show i = 10 from by omega]; rfl]; first | exact (if_pos (by omega)).symm | exact (if_neg (by omega)).symm))⟩) (by decide) (by decide) dX6_skipped_102)
        ·
          refine zi_push M dX6_skipped_90 ?_
          refine zi_goto (tgt := 102) M dX6_skipped_91 (by decide) ?_
          have hP : va_P D vwCl ((rooW ad 0 cy fm fr) ++ (airW ad 1 cy h su st sh fl cS cH dD dE dF)) s.heap := hP
          exact vx_ret (zw_i M hr hlk () hP hS (by exact ⟨by omega, congrArg iI (show ((-1) : Int) = skpZ (skF dE dF g q f 9) by (unfold skpZ; rw [show skF dE dF g q f 9 = x from by rw [hx, show i = 10 from by omega]; rfl]; first | exact (if_pos (by omega)).symm | exact (if_neg (by omega)).symm))⟩) (by decide) (by decide) dX6_skipped_102)
      ·
        refine lv_aload_n M.1 M.2.1 dX6_skipped_21 rfl (lv_at hl 0 rfl) ?_
        refine zi_get (ci := 6) (v := .ref (ad 1)) M hE hP 0 rfl rfl zu_X6 0 (by decide) zk_fl_RX6_12 rfl rfl dX6_skipped_22 ?_
        refine lv_iload_n M.1 M.2.1 dX6_skipped_25 rfl (lv_at hl 1 rfl) ?_
        refine lv_iload_n M.1 M.2.1 dX6_skipped_26 rfl (lv_at hl 2 rfl) ?_
        refine zi_if_eq (tgt := 34) M dX6_skipped_27 (by decide) (by omega) (fun c_5 => ?_) (fun c_5 => ?_)
        ·
          refine zi_push M dX6_skipped_34 ?_
          refine lv_iload M.1 M.2.1 dX6_skipped_35 (lv_at hl 5 rfl) ?_
          refine lv_iload_n M.1 M.2.1 dX6_skipped_37 rfl (lv_at hl 3 rfl) ?_
          refine z_cR (z_runV (As := [.int (iI q), .int (iI (-1)), .int (iI i), .int (iI f)]) (rest := []) M (c_X0_bender l D cy z0 ad 1 h su st sh fl cS cH dD dE dF q g (-1) i f g_dE g_dF (by omega) (by omega) (by omega) (by omega)) hE hS hAz (hP.sub [1, 2, 3, 4, 5, 6, 7] rfl) (zRc.of (ci := 0) (q0 := 1) hE hP rfl rfl) zk_cd_X0_bender zk_in_RX0 zk_im_X0_bender zk_se_X0_bender zk_ml_RX6_176 rfl rfl zd_X0_bender ⟨by decide, by decide⟩ rfl hl.1 rfl (Nat.le_of_ble_eq_true rfl) dX6_skipped_38 ⟨by decide, by decide⟩) ?_
          have hx_6 := bndZ_c dE dF g q i f
          obtain ⟨yL, hyL⟩ : ∃ y : Int, y = bndZ dE dF g q i f := ⟨_, rfl⟩
          refine z_rw (b := yL) hyL.symm ?_
          have hyc := bndZ_c dE dF g q i f
          have hlc := legZ_c (dE := dE) (dF := dF) (ea := g) (p := q) (f := f) (a := i) (by omega)
          rw [← hyL] at hyc hlc
          refine lv_istore (lv' := [(6, .int (iI yL)), (0, .ref (ad 0)), (1, .int (iI q)), (2, .int (iI g)), (3, .int (iI f)), (4, .int (iI x)), (5, .int (iI i))]) M.1 M.2.1 dX6_skipped_41 hl (by decide) rfl (fun ls hl => ?_)
          refine lv_iload M.1 M.2.1 dX6_skipped_43 (lv_at hl 0 rfl) ?_
          refine zi_push M dX6_skipped_45 ?_
          refine zi_icmp_eq (tgt := 78) M dX6_skipped_46 (by decide) (by omega) ⟨by decide, by decide⟩ (fun c_7 => ?_) (fun c_7 => ?_)
          ·
            refine zi_iinc (lv' := [(5, .int (iI (i + 1))), (6, .int (iI yL)), (0, .ref (ad 0)), (1, .int (iI q)), (2, .int (iI g)), (3, .int (iI f)), (4, .int (iI x))]) M dX6_skipped_78 hl 6 rfl (by decide) rfl (fun ls hl => ?_)
            refine zi_goto (tgt := 14) M dX6_skipped_81 (by decide) ?_
            exact ih_14 (i + 1) x (by omega) (skF_n hi.1 hx (by omega)) (by omega) ls (lv_sub hl [2, 3, 4, 5, 6, 0] rfl)
          ·
            refine lv_iload M.1 M.2.1 dX6_skipped_49 (lv_at hl 0 rfl) ?_
            refine lv_iload M.1 M.2.1 dX6_skipped_51 (lv_at hl 6 rfl) ?_
            refine z_cR (z_runS (As := [.int (iI yL), .int (iI i)]) (rest := []) M (c_X6_lengthBy l D cy z0 yL i (by omega) (by omega)) hE hS hAz trivial zk_cd_X6_lengthBy zk_in_RX6 zk_st_X6_lengthBy zk_ml_RX6_179 rfl rfl zd_X6_lengthBy ⟨by decide, by decide⟩ rfl hl.1 rfl (Nat.le_of_ble_eq_true rfl) dX6_skipped_53 ⟨by decide, by decide⟩) ?_
            have hx_8 := lenZ_rg yL i (by omega)
            refine lv_istore (lv' := [(7, .int (iI (lenZ yL i))), (6, .int (iI yL)), (0, .ref (ad 0)), (1, .int (iI q)), (2, .int (iI g)), (3, .int (iI f)), (4, .int (iI x)), (5, .int (iI i))]) M.1 M.2.1 dX6_skipped_56 hl (by decide) rfl (fun ls hl => ?_)
            refine lv_iload M.1 M.2.1 dX6_skipped_58 (lv_at hl 6 rfl) ?_
            refine zi_push M dX6_skipped_60 ?_
            refine zi_icmp_ne (tgt := 69) M dX6_skipped_61 (by decide) (by omega) ⟨by decide, by decide⟩ (fun c_9 => ?_) (fun c_9 => ?_)
            ·
              refine lv_iload M.1 M.2.1 dX6_skipped_69 (lv_at hl 6 rfl) ?_
              refine lv_iload M.1 M.2.1 dX6_skipped_71 (lv_at hl 0 rfl) ?_
              refine zi_min M hl.1 zk_ml_RX6_223 (by decide) (Nat.le_of_ble_eq_true rfl) (by decide) (by decide) (by omega) (by omega) dX6_skipped_73 ?_
              refine lv_istore (lv' := [(4, .int (iI (min x (lenZ yL i)))), (7, .int (iI (lenZ yL i))), (6, .int (iI yL)), (0, .ref (ad 0)), (1, .int (iI q)), (2, .int (iI g)), (3, .int (iI f)), (5, .int (iI i))]) M.1 M.2.1 dX6_skipped_76 hl (by decide) rfl (fun ls hl => ?_)
              refine zi_iinc (lv' := [(5, .int (iI (i + 1))), (4, .int (iI (min x (lenZ yL i)))), (7, .int (iI (lenZ yL i))), (6, .int (iI yL)), (0, .ref (ad 0)), (1, .int (iI q)), (2, .int (iI g)), (3, .int (iI f))]) M dX6_skipped_78 hl 7 rfl (by decide) rfl (fun ls hl => ?_)
              refine zi_goto (tgt := 14) M dX6_skipped_81 (by decide) ?_
              exact ih_14 (i + 1) (min x (lenZ yL i)) (by omega) (skF_s hi.1 hx (by omega) (by first | (rw [if_pos (by omega)]; omega) | (rw [if_neg (by omega)]; omega))) (by omega) ls (lv_sub hl [4, 5, 6, 7, 1, 0] rfl)
            ·
              refine lv_iload M.1 M.2.1 dX6_skipped_64 (lv_at hl 0 rfl) ?_
              refine zi_goto (tgt := 76) M dX6_skipped_66 (by decide) ?_
              refine lv_istore (lv' := [(4, .int (iI (lenZ yL i))), (7, .int (iI (lenZ yL i))), (6, .int (iI yL)), (0, .ref (ad 0)), (1, .int (iI q)), (2, .int (iI g)), (3, .int (iI f)), (5, .int (iI i))]) M.1 M.2.1 dX6_skipped_76 hl (by decide) rfl (fun ls hl => ?_)
              refine zi_iinc (lv' := [(5, .int (iI (i + 1))), (4, .int (iI (lenZ yL i))), (7, .int (iI (lenZ yL i))), (6, .int (iI yL)), (0, .ref (ad 0)), (1, .int (iI q)), (2, .int (iI g)), (3, .int (iI f))]) M dX6_skipped_78 hl 7 rfl (by decide) rfl (fun ls hl => ?_)
              refine zi_goto (tgt := 14) M dX6_skipped_81 (by decide) ?_
              exact ih_14 (i + 1) (lenZ yL i) (by omega) (skF_s hi.1 hx (by omega) (by first | (rw [if_pos (by omega)]; omega) | (rw [if_neg (by omega)]; omega))) (by omega) ls (lv_sub hl [4, 5, 6, 7, 1, 0] rfl)
        ·
          refine zi_push M dX6_skipped_30 ?_
          refine zi_goto (tgt := 35) M dX6_skipped_31 (by decide) ?_
          refine lv_iload M.1 M.2.1 dX6_skipped_35 (lv_at hl 5 rfl) ?_
          refine lv_iload_n M.1 M.2.1 dX6_skipped_37 rfl (lv_at hl 3 rfl) ?_
          refine z_cR (z_runV (As := [.int (iI q), .int (iI 1), .int (iI i), .int (iI f)]) (rest := []) M (c_X0_bender l D cy z0 ad 1 h su st sh fl cS cH dD dE dF q g 1 i f g_dE g_dF (by omega) (by omega) (by omega) (by omega)) hE hS hAz (hP.sub [1, 2, 3, 4, 5, 6, 7] rfl) (zRc.of (ci := 0) (q0 := 1) hE hP rfl rfl) zk_cd_X0_bender zk_in_RX0 zk_im_X0_bender zk_se_X0_bender zk_ml_RX6_176 rfl rfl zd_X0_bender ⟨by decide, by decide⟩ rfl hl.1 rfl (Nat.le_of_ble_eq_true rfl) dX6_skipped_38 ⟨by decide, by decide⟩) ?_
          have hx_10 := bndZ_c dE dF g q i f
          obtain ⟨yL, hyL⟩ : ∃ y : Int, y = bndZ dE dF g q i f := ⟨_, rfl⟩
          refine z_rw (b := yL) hyL.symm ?_
          have hyc := bndZ_c dE dF g q i f
          have hlc := legZ_c (dE := dE) (dF := dF) (ea := g) (p := q) (f := f) (a := i) (by omega)
          rw [← hyL] at hyc hlc
          refine lv_istore (lv' := [(6, .int (iI yL)), (0, .ref (ad 0)), (1, .int (iI q)), (2, .int (iI g)), (3, .int (iI f)), (4, .int (iI x)), (5, .int (iI i))]) M.1 M.2.1 dX6_skipped_41 hl (by decide) rfl (fun ls hl => ?_)
          refine lv_iload M.1 M.2.1 dX6_skipped_43 (lv_at hl 0 rfl) ?_
          refine zi_push M dX6_skipped_45 ?_
          refine zi_icmp_eq (tgt := 78) M dX6_skipped_46 (by decide) (by omega) ⟨by decide, by decide⟩ (fun c_11 => ?_) (fun c_11 => ?_)
          ·
            refine zi_iinc (lv' := [(5, .int (iI (i + 1))), (6, .int (iI yL)), (0, .ref (ad 0)), (1, .int (iI q)), (2, .int (iI g)), (3, .int (iI f)), (4, .int (iI x))]) M dX6_skipped_78 hl 6 rfl (by decide) rfl (fun ls hl => ?_)
            refine zi_goto (tgt := 14) M dX6_skipped_81 (by decide) ?_
            exact ih_14 (i + 1) x (by omega) (skF_n hi.1 hx (by omega)) (by omega) ls (lv_sub hl [2, 3, 4, 5, 6, 0] rfl)
          ·
            refine lv_iload M.1 M.2.1 dX6_skipped_49 (lv_at hl 0 rfl) ?_
            refine lv_iload M.1 M.2.1 dX6_skipped_51 (lv_at hl 6 rfl) ?_
            refine z_cR (z_runS (As := [.int (iI yL), .int (iI i)]) (rest := []) M (c_X6_lengthBy l D cy z0 yL i (by omega) (by omega)) hE hS hAz trivial zk_cd_X6_lengthBy zk_in_RX6 zk_st_X6_lengthBy zk_ml_RX6_179 rfl rfl zd_X6_lengthBy ⟨by decide, by decide⟩ rfl hl.1 rfl (Nat.le_of_ble_eq_true rfl) dX6_skipped_53 ⟨by decide, by decide⟩) ?_
            have hx_12 := lenZ_rg yL i (by omega)
            refine lv_istore (lv' := [(7, .int (iI (lenZ yL i))), (6, .int (iI yL)), (0, .ref (ad 0)), (1, .int (iI q)), (2, .int (iI g)), (3, .int (iI f)), (4, .int (iI x)), (5, .int (iI i))]) M.1 M.2.1 dX6_skipped_56 hl (by decide) rfl (fun ls hl => ?_)
            refine lv_iload M.1 M.2.1 dX6_skipped_58 (lv_at hl 6 rfl) ?_
            refine zi_push M dX6_skipped_60 ?_
            refine zi_icmp_ne (tgt := 69) M dX6_skipped_61 (by decide) (by omega) ⟨by decide, by decide⟩ (fun c_13 => ?_) (fun c_13 => ?_)
            ·
              refine lv_iload M.1 M.2.1 dX6_skipped_69 (lv_at hl 6 rfl) ?_
              refine lv_iload M.1 M.2.1 dX6_skipped_71 (lv_at hl 0 rfl) ?_
              refine zi_min M hl.1 zk_ml_RX6_223 (by decide) (Nat.le_of_ble_eq_true rfl) (by decide) (by decide) (by omega) (by omega) dX6_skipped_73 ?_
              refine lv_istore (lv' := [(4, .int (iI (min x (lenZ yL i)))), (7, .int (iI (lenZ yL i))), (6, .int (iI yL)), (0, .ref (ad 0)), (1, .int (iI q)), (2, .int (iI g)), (3, .int (iI f)), (5, .int (iI i))]) M.1 M.2.1 dX6_skipped_76 hl (by decide) rfl (fun ls hl => ?_)
              refine zi_iinc (lv' := [(5, .int (iI (i + 1))), (4, .int (iI (min x (lenZ yL i)))), (7, .int (iI (lenZ yL i))), (6, .int (iI yL)), (0, .ref (ad 0)), (1, .int (iI q)), (2, .int (iI g)), (3, .int (iI f))]) M dX6_skipped_78 hl 7 rfl (by decide) rfl (fun ls hl => ?_)
              refine zi_goto (tgt := 14) M dX6_skipped_81 (by decide) ?_
              exact ih_14 (i + 1) (min x (lenZ yL i)) (by omega) (skF_s hi.1 hx (by omega) (by first | (rw [if_pos (by omega)]; omega) | (rw [if_neg (by omega)]; omega))) (by omega) ls (lv_sub hl [4, 5, 6, 7, 1, 0] rfl)
            ·
              refine lv_iload M.1 M.2.1 dX6_skipped_64 (lv_at hl 0 rfl) ?_
              refine zi_goto (tgt := 76) M dX6_skipped_66 (by decide) ?_
              refine lv_istore (lv' := [(4, .int (iI (lenZ yL i))), (7, .int (iI (lenZ yL i))), (6, .int (iI yL)), (0, .ref (ad 0)), (1, .int (iI q)), (2, .int (iI g)), (3, .int (iI f)), (5, .int (iI i))]) M.1 M.2.1 dX6_skipped_76 hl (by decide) rfl (fun ls hl => ?_)
              refine zi_iinc (lv' := [(5, .int (iI (i + 1))), (4, .int (iI (lenZ yL i))), (7, .int (iI (lenZ yL i))), (6, .int (iI yL)), (0, .ref (ad 0)), (1, .int (iI q)), (2, .int (iI g)), (3, .int (iI f))]) M dX6_skipped_78 hl 7 rfl (by decide) rfl (fun ls hl => ?_)
              refine zi_goto (tgt := 14) M dX6_skipped_81 (by decide) ?_
              exact ih_14 (i + 1) (lenZ yL i) (by omega) (skF_s hi.1 hx (by omega) (by first | (rw [if_pos (by omega)]; omega) | (rw [if_neg (by omega)]; omega))) (by omega) ls (lv_sub hl [4, 5, 6, 7, 1, 0] rfl)
  exact L_14 (Int.toNat (10 - 1) + 1) 1 (-1) (by omega) rfl (by omega) ls (lv_sub hl [2, 3, 4, 5, 1, 0] rfl)
