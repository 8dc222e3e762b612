/-! contracts: what everybody may call, 2 -/
set_option maxRecDepth 100000 in
set_option maxHeartbeats 4000000 in
theorem c_X6_legAnew (l : Launch) (D : va_G) (cy : Nat → ClassId) (z0 : Nat) (ad : Nat → Nat) (fm fr h su st sh fl : Int) (cS cH dD dE dF : Int → Int) (q : Int) (g : Int) (a : Int) (f : Int) (g_dE : zrg 48 0 1000 dE) (g_dF : zrg 48 0 1000 dF) (hg : 0 ≤ g ∧ g ≤ 1) (hq : 0 ≤ q ∧ q < 48) (ha : 1 ≤ a ∧ a ≤ 9) (hf : 10 ≤ f ∧ f ≤ 300) : Met l yX6_legAnew [.code yX6_legAnew cX6_legAnew 8 (some .int)] (zRm 1 0 0 24) (zPc [.ref (ad 0), .int (iI q), .int (iI g), .int (iI a), .int (iI f)] D cy z0 (fun H => va_P D vwCl ((rooW ad 0 cy fm fr) ++ (airW ad 1 cy h su st sh fl cS cH dD dE dF)) H)) (QcRead (iI (legZ dE dF g q a f))) 0 0 (fun _ => False) := by
  refine z_of (by decide) (Nat.le_of_ble_eq_true rfl) ?_
  intro p e s m args below meth c M hr hlk _ hargs hP hE ls hl
  have hS : va_S (fun q => z0 ≤ q) s.heap s.heap [] := va_S.rf
  have hAz : ∀ q : Nat, (fun q => z0 ≤ q) q → z0 ≤ q := fun _ h => h
  have hl : lv_has ls 8 [(0, .ref (ad 0)), (1, .int (iI q)), (2, .int (iI g)), (3, .int (iI a)), (4, .int (iI f))] := hl
  refine zi_push M dX6_legAnew_0 ?_
  refine lv_istore (lv' := [(5, .int (iI 1)), (0, .ref (ad 0)), (1, .int (iI q)), (2, .int (iI g)), (3, .int (iI a)), (4, .int (iI f))]) M.1 M.2.1 dX6_legAnew_1 hl (by decide) rfl (fun ls hl => ?_)
  refine lv_iload M.1 M.2.1 dX6_legAnew_3 (lv_at hl 0 rfl) ?_
  refine zi_push M dX6_legAnew_5 ?_
  refine zi_icmp_gt (tgt := 59) M dX6_legAnew_6 (by decide) ⟨by decide, by decide⟩ ⟨by decide, by decide⟩ (fun q => absurd q (by decide)) (fun _ => ?_)
  refine lv_iload M.1 M.2.1 dX6_legAnew_9 (lv_at hl 0 rfl) ?_
  refine lv_iload_n M.1 M.2.1 dX6_legAnew_11 rfl (lv_at hl 4 rfl) ?_
  refine z_cR (z_runS (As := [.int (iI 1), .int (iI a)]) (rest := []) M (c_X6_lengthBy l D cy z0 1 a (by omega) (by omega)) hE hS hAz trivial zk_cd_X6_lengthBy zk_in_RX6 zk_st_X6_lengthBy zk_ml_RX6_179 rfl rfl zd_X6_lengthBy ⟨by decide, by decide⟩ rfl hl.1 rfl (Nat.le_of_ble_eq_true rfl) dX6_legAnew_12 ⟨by decide, by decide⟩) ?_
  have hx_1 := lenZ_rg 1 a (by omega)
  refine lv_istore (lv' := [(6, .int (iI (lenZ 1 a))), (5, .int (iI 1)), (0, .ref (ad 0)), (1, .int (iI q)), (2, .int (iI g)), (3, .int (iI a)), (4, .int (iI f))]) M.1 M.2.1 dX6_legAnew_15 hl (by decide) rfl (fun ls hl => ?_)
  refine lv_iload_n M.1 M.2.1 dX6_legAnew_17 rfl (lv_at hl 3 rfl) ?_
  refine lv_iload_n M.1 M.2.1 dX6_legAnew_18 rfl (lv_at hl 4 rfl) ?_
  refine lv_iload M.1 M.2.1 dX6_legAnew_19 (lv_at hl 0 rfl) ?_
  refine zi_push M dX6_legAnew_21 ?_
  refine zi_idiv M dX6_legAnew_22 (by omega) (by omega) (by omega) (by omega) ?_
  refine z_cR (z_runS (As := [.int (iI q), .int (iI g), .int (iI ((lenZ 1 a) / 2))]) (rest := []) M (c_X6_walked l D cy z0 q g ((lenZ 1 a) / 2) (by omega) (by omega) (by omega)) hE hS hAz trivial zk_cd_X6_walked zk_in_RX6 zk_st_X6_walked zk_ml_RX6_189 rfl rfl zd_X6_walked ⟨by decide, by decide⟩ rfl hl.1 rfl (Nat.le_of_ble_eq_true rfl) dX6_legAnew_23 ⟨by decide, by decide⟩) ?_
  have hx_2 := mvZ_rg g q ((lenZ 1 a) / 2)
  refine lv_istore (lv' := [(7, .int (iI (mvZ g q ((lenZ 1 a) / 2)))), (6, .int (iI (lenZ 1 a))), (5, .int (iI 1)), (0, .ref (ad 0)), (1, .int (iI q)), (2, .int (iI g)), (3, .int (iI a)), (4, .int (iI f))]) M.1 M.2.1 dX6_legAnew_26 hl (by decide) rfl (fun ls hl => ?_)
  refine lv_aload_n M.1 M.2.1 dX6_legAnew_28 rfl (lv_at hl 3 rfl) ?_
  refine zi_get (ci := 6) (v := .ref (ad 1)) M hE hP 0 rfl rfl zu_X6 0 (by decide) zk_fl_RX6_12 rfl rfl dX6_legAnew_29 ?_
  refine zi_getN (ci := 0) (v := .ref (ad (1 + 3))) M hE hP 1 rfl rfl zu_X0 7 (by decide) zk_fn_RX6_168 rfl rfl dX6_legAnew_32 ?_
  refine lv_iload M.1 M.2.1 dX6_legAnew_35 (lv_at hl 2 rfl) ?_
  refine zi_aald (n := 3) (f := fun i => ad (1 + (4 + i))) M hE hP 4 rfl (by decide) (by decide) (by decide) dX6_legAnew_37 ?_
  refine z_re (v := .ref (ad (1 + 5))) rfl ?_
  refine lv_iload M.1 M.2.1 dX6_legAnew_38 (lv_at hl 0 rfl) ?_
  refine zi_iald M hE hP 6 (n := 48) (g := dE) rfl (Nat.le_of_ble_eq_true rfl) (by omega) (by omega) dX6_legAnew_40 ?_
  have hr_3 := g_dE (mvZ g q ((lenZ 1 a) / 2)) (by omega) (by omega)
  refine lv_iload_n M.1 M.2.1 dX6_legAnew_41 rfl (lv_at hl 6 rfl) ?_
  refine lv_iload M.1 M.2.1 dX6_legAnew_42 (lv_at hl 7 rfl) ?_
  refine z_cR (z_runS (As := [.int (iI (dE (mvZ g q ((lenZ 1 a) / 2)))), .int (iI a), .int (iI f)]) (rest := []) M (c_X6_bends l D cy z0 (dE (mvZ g q ((lenZ 1 a) / 2))) a f (by omega) (by omega) (by omega)) hE hS hAz trivial zk_cd_X6_bends zk_in_RX6 zk_st_X6_bends zk_ml_RX6_284 rfl rfl zd_X6_bends ⟨by decide, by decide⟩ rfl hl.1 rfl (Nat.le_of_ble_eq_true rfl) dX6_legAnew_44 ⟨by decide, by decide⟩) ?_
  refine zi_b (P := 10 * f ≤ (dE (mvZ g q ((lenZ 1 a) / 2))) * (46 - 4 * a)) (g := fun r => F0 m 47 ls (.int r :: [])) (fun b_4 => ?_) (fun b_4 => ?_)
  ·
    refine zi_if_eq (tgt := 53) M dX6_legAnew_47 (by decide) ⟨by decide, by decide⟩ (fun q => absurd q (by decide)) (fun _ => ?_)
    refine lv_iload M.1 M.2.1 dX6_legAnew_50 (lv_at hl 1 rfl) ?_
    exact zr_i M hr hlk (congrArg iI (show ((lenZ 1 a) : Int) = legZ dE dF g q a f by (unfold legZ bndZ; rw [if_pos b_4, if_neg (by decide)]))) dX6_legAnew_52
  ·
    refine zi_if_eq (tgt := 53) M dX6_legAnew_47 (by decide) ⟨by decide, by decide⟩ (fun _ => ?_) (fun q => absurd q (by decide))
    refine zi_iinc (lv' := [(5, .int (iI 2)), (7, .int (iI (mvZ g q ((lenZ 1 a) / 2)))), (6, .int (iI (lenZ 1 a))), (0, .ref (ad 0)), (1, .int (iI q)), (2, .int (iI g)), (3, .int (iI a)), (4, .int (iI f))]) M dX6_legAnew_53 hl 2 rfl (by decide) rfl (fun ls hl => ?_)
    refine zi_goto (tgt := 3) M dX6_legAnew_56 (by decide) ?_
    refine lv_iload M.1 M.2.1 dX6_legAnew_3 (lv_at hl 0 rfl) ?_
    refine zi_push M dX6_legAnew_5 ?_
    refine zi_icmp_gt (tgt := 59) M dX6_legAnew_6 (by decide) ⟨by decide, by decide⟩ ⟨by decide, by decide⟩ (fun q => absurd q (by decide)) (fun _ => ?_)
    refine lv_iload M.1 M.2.1 dX6_legAnew_9 (lv_at hl 0 rfl) ?_
    refine lv_iload_n M.1 M.2.1 dX6_legAnew_11 rfl (lv_at hl 6 rfl) ?_
    refine z_cR (z_runS (As := [.int (iI 2), .int (iI a)]) (rest := []) M (c_X6_lengthBy l D cy z0 2 a (by omega) (by omega)) hE hS hAz trivial zk_cd_X6_lengthBy zk_in_RX6 zk_st_X6_lengthBy zk_ml_RX6_179 rfl rfl zd_X6_lengthBy ⟨by decide, by decide⟩ rfl hl.1 rfl (Nat.le_of_ble_eq_true rfl) dX6_legAnew_12 ⟨by decide, by decide⟩) ?_
    have hx_5 := lenZ_rg 2 a (by omega)
    refine lv_istore (lv' := [(6, .int (iI (lenZ 2 a))), (5, .int (iI 2)), (7, .int (iI (mvZ g q ((lenZ 1 a) / 2)))), (0, .ref (ad 0)), (1, .int (iI q)), (2, .int (iI g)), (3, .int (iI a)), (4, .int (iI f))]) M.1 M.2.1 dX6_legAnew_15 hl (by decide) rfl (fun ls hl => ?_)
    refine lv_iload_n M.1 M.2.1 dX6_legAnew_17 rfl (lv_at hl 4 rfl) ?_
    refine lv_iload_n M.1 M.2.1 dX6_legAnew_18 rfl (lv_at hl 5 rfl) ?_
    refine lv_iload M.1 M.2.1 dX6_legAnew_19 (lv_at hl 0 rfl) ?_
    refine zi_push M dX6_legAnew_21 ?_
    refine zi_idiv M dX6_legAnew_22 (by omega) (by omega) (by omega) (by omega) ?_
    refine z_cR (z_runS (As := [.int (iI q), .int (iI g), .int (iI ((lenZ 2 a) / 2))]) (rest := []) M (c_X6_walked l D cy z0 q g ((lenZ 2 a) / 2) (by omega) (by omega) (by omega)) hE hS hAz trivial zk_cd_X6_walked zk_in_RX6 zk_st_X6_walked zk_ml_RX6_189 rfl rfl zd_X6_walked ⟨by decide, by decide⟩ rfl hl.1 rfl (Nat.le_of_ble_eq_true rfl) dX6_legAnew_23 ⟨by decide, by decide⟩) ?_
    have hx_6 := mvZ_rg g q ((lenZ 2 a) / 2)
    refine lv_istore (lv' := [(7, .int (iI (mvZ g q ((lenZ 2 a) / 2)))), (6, .int (iI (lenZ 2 a))), (5, .int (iI 2)), (0, .ref (ad 0)), (1, .int (iI q)), (2, .int (iI g)), (3, .int (iI a)), (4, .int (iI f))]) M.1 M.2.1 dX6_legAnew_26 hl (by decide) rfl (fun ls hl => ?_)
    refine lv_aload_n M.1 M.2.1 dX6_legAnew_28 rfl (lv_at hl 3 rfl) ?_
    refine zi_get (ci := 6) (v := .ref (ad 1)) M hE hP 0 rfl rfl zu_X6 0 (by decide) zk_fl_RX6_12 rfl rfl dX6_legAnew_29 ?_
    refine zi_getN (ci := 0) (v := .ref (ad (1 + 3))) M hE hP 1 rfl rfl zu_X0 7 (by decide) zk_fn_RX6_168 rfl rfl dX6_legAnew_32 ?_
    refine lv_iload M.1 M.2.1 dX6_legAnew_35 (lv_at hl 2 rfl) ?_
    refine zi_aald (n := 3) (f := fun i => ad (1 + (4 + i))) M hE hP 4 rfl (by decide) (by decide) (by decide) dX6_legAnew_37 ?_
    refine z_re (v := .ref (ad (1 + 6))) rfl ?_
    refine lv_iload M.1 M.2.1 dX6_legAnew_38 (lv_at hl 0 rfl) ?_
    refine zi_iald M hE hP 7 (n := 48) (g := dF) rfl (Nat.le_of_ble_eq_true rfl) (by omega) (by omega) dX6_legAnew_40 ?_
    have hr_7 := g_dF (mvZ g q ((lenZ 2 a) / 2)) (by omega) (by omega)
    refine lv_iload_n M.1 M.2.1 dX6_legAnew_41 rfl (lv_at hl 6 rfl) ?_
    refine lv_iload M.1 M.2.1 dX6_legAnew_42 (lv_at hl 7 rfl) ?_
    refine z_cR (z_runS (As := [.int (iI (dF (mvZ g q ((lenZ 2 a) / 2)))), .int (iI a), .int (iI f)]) (rest := []) M (c_X6_bends l D cy z0 (dF (mvZ g q ((lenZ 2 a) / 2))) a f (by omega) (by omega) (by omega)) hE hS hAz trivial zk_cd_X6_bends zk_in_RX6 zk_st_X6_bends zk_ml_RX6_284 rfl rfl zd_X6_bends ⟨by decide, by decide⟩ rfl hl.1 rfl (Nat.le_of_ble_eq_true rfl) dX6_legAnew_44 ⟨by decide, by decide⟩) ?_
    refine zi_b (P := 10 * f ≤ (dF (mvZ g q ((lenZ 2 a) / 2))) * (46 - 4 * a)) (g := fun r => F0 m 47 ls (.int r :: [])) (fun b_8 => ?_) (fun b_8 => ?_)
    ·
      refine zi_if_eq (tgt := 53) M dX6_legAnew_47 (by decide) ⟨by decide, by decide⟩ (fun q => absurd q (by decide)) (fun _ => ?_)
      refine lv_iload M.1 M.2.1 dX6_legAnew_50 (lv_at hl 1 rfl) ?_
      exact zr_i M hr hlk (congrArg iI (show ((lenZ 2 a) : Int) = legZ dE dF g q a f by (unfold legZ bndZ; rw [if_neg b_4, if_pos b_8, if_neg (by decide)]))) dX6_legAnew_52
    ·
      refine zi_if_eq (tgt := 53) M dX6_legAnew_47 (by decide) ⟨by decide, by decide⟩ (fun _ => ?_) (fun q => absurd q (by decide))
      refine zi_iinc (lv' := [(5, .int (iI 3)), (7, .int (iI (mvZ g q ((lenZ 2 a) / 2)))), (6, .int (iI (lenZ 2 a))), (0, .ref (ad 0)), (1, .int (iI q)), (2, .int (iI g)), (3, .int (iI a)), (4, .int (iI f))]) M dX6_legAnew_53 hl 2 rfl (by decide) rfl (fun ls hl => ?_)
      refine zi_goto (tgt := 3) M dX6_legAnew_56 (by decide) ?_
      refine lv_iload M.1 M.2.1 dX6_legAnew_3 (lv_at hl 0 rfl) ?_
      refine zi_push M dX6_legAnew_5 ?_
      refine zi_icmp_gt (tgt := 59) M dX6_legAnew_6 (by decide) ⟨by decide, by decide⟩ ⟨by decide, by decide⟩ (fun _ => ?_) (fun q => absurd q (by decide))
      refine zi_push M dX6_legAnew_59 ?_
      exact zr_i M hr hlk (congrArg iI (show ((-1) : Int) = legZ dE dF g q a f by (unfold legZ bndZ; rw [if_neg b_4, if_neg b_8, if_pos rfl]))) dX6_legAnew_60

set_option maxRecDepth 100000 in
set_option maxHeartbeats 4000000 in
theorem c_X6_landing (l : Launch) (hst : l.stackTraces = false) (D : va_G) (cy : Nat → ClassId) (z0 : Nat) (ad : Nat → Nat) (fm fr h su st sh fl : Int) (cS cH dD dE dF : Int → Int) (q : Int) (g : Int) (a : Int) (f : Int) (n : Int) (r_q : r32 q) (r_a : r32 a) (r_f : r32 f) (r_n : r32 n) (hg : 0 ≤ g ∧ g ≤ 1) (g_dE : zrg 48 0 1000 dE) (g_dF : zrg 48 0 1000 dF) : vx_Met l yX6_landing [.code yX6_landing cX6_landing 10 (some .int)] (zRm 9 4 24 155) (zPc [.ref (ad 0), .int (iI q), .int (iI g), .int (iI a), .int (iI f), .int (iI n)] D cy z0 (zWl D z0 ((rooW ad 0 cy fm fr) ++ (airW ad 1 cy h su st sh fl cS cH dD dE dF)))) (zQ1 D ((rooW ad 0 cy fm fr) ++ (airW ad 1 cy h su st sh fl cS cH dD dE dF)) (fun (r : Int32) (_ : Unit) => ((0 ≤ q ∧ q < 48) ∧ ((1 ≤ a ∧ a ≤ 9) ∧ (10 ≤ f ∧ f ≤ 300) ∧ (1 ≤ n ∧ n ≤ 10))) ∧ r = iI (landZ dE dF g a f n.toNat q)) (fun (_ : Unit) => ((rooW ad 0 cy fm fr) ++ (airW ad 1 cy h su st sh fl cS cH dD dE dF)))) (zXC (fun E => (E = eIB ∧ (¬ (0 ≤ q ∧ q < 48))) ∨ (E = eIA ∧ ((0 ≤ q ∧ q < 48) ∧ ¬ ((1 ≤ a ∧ a ≤ 9) ∧ (10 ≤ f ∧ f ≤ 300) ∧ (1 ≤ n ∧ n ≤ 10)))))) 4 24 (zIn ((rooW ad 0 cy fm fr) ++ (airW ad 1 cy h su st sh fl cS cH dD dE dF))) := by
  refine z_ofX (by decide) (Nat.le_of_ble_eq_true rfl) ?_
  intro p e s m args below meth c M hr hlk ht hargs hP0 hE ls hl
  have hP : va_P D vwCl ((rooW ad 0 cy fm fr) ++ (airW ad 1 cy h su st sh fl cS cH dD dE dF)) s.heap := hP0.1
  have hD : va_D (zIn ((rooW ad 0 cy fm fr) ++ (airW ad 1 cy h su st sh fl cS cH dD dE dF))) ((rooW ad 0 cy fm fr) ++ (airW ad 1 cy h su st sh fl cS cH dD dE dF)) := hP0.self
  have hAz := hP0.A
  have hS : va_S (zIn ((rooW ad 0 cy fm fr) ++ (airW ad 1 cy h su st sh fl cS cH dD dE dF))) s.heap s.heap [] := va_S.rf
  have hl : lv_has ls 10 [(0, .ref (ad 0)), (1, .int (iI q)), (2, .int (iI g)), (3, .int (iI a)), (4, .int (iI f)), (5, .int (iI n))] := hl
  refine lv_iload_n M.1 M.2.1 dX6_landing_0 rfl (lv_at hl 1 rfl) ?_
  refine lv_iload_n M.1 M.2.1 dX6_landing_1 rfl (lv_at hl 3 rfl) ?_
  refine lv_iload M.1 M.2.1 dX6_landing_2 (lv_at hl 4 rfl) ?_
  refine lv_iload M.1 M.2.1 dX6_landing_4 (lv_at hl 5 rfl) ?_
  refine zx_need (zx_runS (As := [.int (iI q), .int (iI a), .int (iI f), .int (iI n)]) (rest := []) M (c_X6_needRay l hst D cy z0 q a f n (by omega) (by omega) (by omega) (by omega)) hE hS hAz trivial zk_cd_X6_needRay zk_in_RX6 zk_st_X6_needRay zk_ml_RX6_172 rfl rfl zd_X6_needRay ⟨by decide, by decide⟩ rfl hl.1 rfl (Nat.le_of_ble_eq_true rfl) dX6_landing_6 ⟨by decide, by decide⟩) ht hlk (by decide) (by decide) (fun E t hA9 hC hz hq => ⟨by rcases hC with ⟨rfl, h9⟩ | ⟨rfl, h9⟩ <;> first | exact Or.inl (⟨rfl, by omega⟩) | exact Or.inr (⟨rfl, by omega⟩), hz, hq⟩) (fun hn_1 => ?_)
  refine lv_iload_n M.1 M.2.1 dX6_landing_9 rfl (lv_at hl 2 rfl) ?_
  refine zi_if_eq (tgt := 17) M dX6_landing_10 (by decide) (by omega) (fun c_2 => ?_) (fun c_2 => ?_)
  ·
    refine zi_push M dX6_landing_17 ?_
    refine lv_istore (lv' := [(6, .int (iI (-1))), (0, .ref (ad 0)), (1, .int (iI q)), (2, .int (iI g)), (3, .int (iI a)), (4, .int (iI f)), (5, .int (iI n))]) M.1 M.2.1 dX6_landing_18 hl (by decide) rfl (fun ls hl => ?_)
    refine lv_iload_n M.1 M.2.1 dX6_landing_20 rfl (lv_at hl 2 rfl) ?_
    refine lv_istore (lv' := [(7, .int (iI q)), (6, .int (iI (-1))), (0, .ref (ad 0)), (1, .int (iI q)), (2, .int (iI g)), (3, .int (iI a)), (4, .int (iI f)), (5, .int (iI n))]) M.1 M.2.1 dX6_landing_21 hl (by decide) rfl (fun ls hl => ?_)
    refine zi_push M dX6_landing_23 ?_
    refine lv_istore (lv' := [(8, .int (iI 0)), (7, .int (iI q)), (6, .int (iI (-1))), (0, .ref (ad 0)), (1, .int (iI q)), (2, .int (iI g)), (3, .int (iI a)), (4, .int (iI f)), (5, .int (iI n))]) M.1 M.2.1 dX6_landing_24 hl (by decide) rfl (fun ls hl => ?_)
    have L_26 : ∀ (k_26 : Nat) (at_ : Int) (i : Int) (hi : 0 ≤ i ∧ i ≤ n) (hat : 0 ≤ at_ ∧ at_ < 48) (hx : landZ dE dF g a f n.toNat q = landZ dE dF g a f (n - i).toNat at_) (hm : n - i < (k_26 : Int)) (ls : Array Slot) (hl : lv_has ls 10 [(0, .ref (ad 0)), (1, .int (iI q)), (2, .int (iI g)), (3, .int (iI a)), (4, .int (iI f)), (5, .int (iI n)), (6, .int (iI (-1))), (7, .int (iI at_)), (8, .int (iI i))]), W p l e (zRm 9 4 24 155) s m args below meth c s.heap [] 4 24 (vx_MQ below (zQ1 D ((rooW ad 0 cy fm fr) ++ (airW ad 1 cy h su st sh fl cS cH dD dE dF)) (fun (r : Int32) (_ : Unit) => ((0 ≤ q ∧ q < 48) ∧ ((1 ≤ a ∧ a ≤ 9) ∧ (10 ≤ f ∧ f ≤ 300) ∧ (1 ≤ n ∧ n ≤ 10))) ∧ r = iI (landZ dE dF g a f n.toNat q)) (fun (_ : Unit) => ((rooW ad 0 cy fm fr) ++ (airW ad 1 cy h su st sh fl cS cH dD dE dF)))) (zXC (fun E => (E = eIB ∧ (¬ (0 ≤ q ∧ q < 48))) ∨ (E = eIA ∧ ((0 ≤ q ∧ q < 48) ∧ ¬ ((1 ≤ a ∧ a ≤ 9) ∧ (10 ≤ f ∧ f ≤ 300) ∧ (1 ≤ n ∧ n ≤ 10)))))) args s 4 24 (zIn ((rooW ad 0 cy fm fr) ++ (airW ad 1 cy h su st sh fl cS cH dD dE dF)))) (F0 m 26 ls []) := by
      intro k_26
      induction k_26 with
      | zero =>
        intro at_ i hi hat hx hm ls hl
        exact absurd hm (by omega)
      | succ k_26 ih_26 =>
        intro at_ i hi hat hx hm ls hl
        refine lv_iload M.1 M.2.1 dX6_landing_26 (lv_at hl 8 rfl) ?_
        refine lv_iload M.1 M.2.1 dX6_landing_28 (lv_at hl 5 rfl) ?_
        refine zi_icmp_ge (tgt := 80) M dX6_landing_30 (by decide) (by omega) (by omega) (fun c_3 => ?_) (fun c_3 => ?_)
        ·
          refine lv_iload M.1 M.2.1 dX6_landing_80 (lv_at hl 7 rfl) ?_
          have hP : va_P D vwCl ((rooW ad 0 cy fm fr) ++ (airW ad 1 cy h su st sh fl cS cH dD dE dF)) s.heap := hP
          exact vx_ret (zw_i M hr hlk () hP hS (by exact ⟨by omega, congrArg iI (show (at_ : Int) = landZ dE dF g a f n.toNat q by (exact (landZ_e (by omega) hx).symm))⟩) (by decide) (by decide) dX6_landing_82)
        ·
          refine lv_aload_n M.1 M.2.1 dX6_landing_33 rfl (lv_at hl 0 rfl) ?_
          refine zi_get (ci := 6) (v := .ref (ad 1)) M hE hP 0 rfl rfl zu_X6 0 (by decide) zk_fl_RX6_12 rfl rfl dX6_landing_34 ?_
          refine lv_iload M.1 M.2.1 dX6_landing_37 (lv_at hl 7 rfl) ?_
          refine lv_iload M.1 M.2.1 dX6_landing_39 (lv_at hl 6 rfl) ?_
          refine lv_iload_n M.1 M.2.1 dX6_landing_41 rfl (lv_at hl 3 rfl) ?_
          refine lv_iload M.1 M.2.1 dX6_landing_42 (lv_at hl 4 rfl) ?_
          refine z_cR (z_runV (As := [.int (iI at_), .int (iI (-1)), .int (iI a), .int (iI f)]) (rest := []) M (c_X0_bender l D cy z0 ad 1 h su st sh fl cS cH dD dE dF at_ g (-1) a f g_dE g_dF (by omega) (by omega) (by omega) (by omega)) hE hS hAz (hP.sub [1, 2, 3, 4, 5, 6, 7] rfl) (zRc.of (ci := 0) (q0 := 1) hE hP rfl rfl) zk_cd_X0_bender zk_in_RX0 zk_im_X0_bender zk_se_X0_bender zk_ml_RX6_176 rfl rfl zd_X0_bender ⟨by decide, by decide⟩ rfl hl.1 rfl (Nat.le_of_ble_eq_true rfl) dX6_landing_44 ⟨by decide, by decide⟩) ?_
          have hx_4 := bndZ_c dE dF g at_ a f
          obtain ⟨yL, hyL⟩ : ∃ y : Int, y = bndZ dE dF g at_ a f := ⟨_, rfl⟩
          refine z_rw (b := yL) hyL.symm ?_
          have hyc := bndZ_c dE dF g at_ a f
          have hlc := legZ_c (dE := dE) (dF := dF) (ea := g) (p := at_) (f := f) (a := a) (by omega)
          rw [← hyL] at hyc hlc
          refine lv_istore (lv' := [(9, .int (iI yL)), (0, .ref (ad 0)), (1, .int (iI q)), (2, .int (iI g)), (3, .int (iI a)), (4, .int (iI f)), (5, .int (iI n)), (6, .int (iI (-1))), (7, .int (iI at_)), (8, .int (iI i))]) M.1 M.2.1 dX6_landing_47 hl (by decide) rfl (fun ls hl => ?_)
          refine lv_iload M.1 M.2.1 dX6_landing_49 (lv_at hl 0 rfl) ?_
          refine zi_push M dX6_landing_51 ?_
          refine zi_icmp_ne (tgt := 57) M dX6_landing_52 (by decide) (by omega) ⟨by decide, by decide⟩ (fun c_5 => ?_) (fun c_5 => ?_)
          ·
            refine lv_iload M.1 M.2.1 dX6_landing_57 (lv_at hl 8 rfl) ?_
            refine lv_iload M.1 M.2.1 dX6_landing_59 (lv_at hl 7 rfl) ?_
            refine lv_iload M.1 M.2.1 dX6_landing_61 (lv_at hl 0 rfl) ?_
            refine lv_iload_n M.1 M.2.1 dX6_landing_63 rfl (lv_at hl 4 rfl) ?_
            refine z_cR (z_runS (As := [.int (iI yL), .int (iI a)]) (rest := [.int (iI (-1)), .int (iI at_)]) M (c_X6_lengthBy l D cy z0 yL a (by omega) (by omega)) hE hS hAz trivial zk_cd_X6_lengthBy zk_in_RX6 zk_st_X6_lengthBy zk_ml_RX6_179 rfl rfl zd_X6_lengthBy ⟨by decide, by decide⟩ rfl hl.1 rfl (Nat.le_of_ble_eq_true rfl) dX6_landing_64 ⟨by decide, by decide⟩) ?_
            have hx_6 := lenZ_rg yL a (by omega)
            refine zi_imul M dX6_landing_67 ?_
            refine zi_iadd M dX6_landing_68 ?_
            refine z_cR (z_runS (As := [.int (iI (at_ + ((-1) * (lenZ yL a))))]) (rest := []) M (c_X6_ring l D cy z0 (at_ + ((-1) * (lenZ yL a))) (by omega)) hE hS hAz trivial zk_cd_X6_ring zk_in_RX6 zk_st_X6_ring zk_ml_RX6_182 rfl rfl zd_X6_ring ⟨by decide, by decide⟩ rfl hl.1 rfl (Nat.le_of_ble_eq_true rfl) dX6_landing_69 ⟨by decide, by decide⟩) ?_
            refine z_rw (b := mvZ g at_ (lenZ yL a)) (by unfold mvZ; split <;> omega) ?_
            refine lv_istore (lv' := [(7, .int (iI (mvZ g at_ (lenZ yL a)))), (9, .int (iI yL)), (0, .ref (ad 0)), (1, .int (iI q)), (2, .int (iI g)), (3, .int (iI a)), (4, .int (iI f)), (5, .int (iI n)), (6, .int (iI (-1))), (8, .int (iI i))]) M.1 M.2.1 dX6_landing_72 hl (by decide) rfl (fun ls hl => ?_)
            refine zi_iinc (lv' := [(8, .int (iI (i + 1))), (7, .int (iI (mvZ g at_ (lenZ yL a)))), (9, .int (iI yL)), (0, .ref (ad 0)), (1, .int (iI q)), (2, .int (iI g)), (3, .int (iI a)), (4, .int (iI f)), (5, .int (iI n)), (6, .int (iI (-1)))]) M dX6_landing_74 hl 9 rfl (by decide) rfl (fun ls hl => ?_)
            refine zi_goto (tgt := 26) M dX6_landing_77 (by decide) ?_
            exact ih_26 (mvZ g at_ (lenZ yL a)) (i + 1) (by omega) (mvZ_rg _ _ _) (landZ_i hi.1 (by omega) hx (by omega) (by omega)) (by omega) ls (lv_sub hl [3, 4, 5, 6, 7, 8, 9, 1, 0] rfl)
          ·
            refine zi_push M dX6_landing_55 ?_
            have hP : va_P D vwCl ((rooW ad 0 cy fm fr) ++ (airW ad 1 cy h su st sh fl cS cH dD dE dF)) s.heap := hP
            exact vx_ret (zw_i M hr hlk () hP hS (by exact ⟨by omega, congrArg iI (show ((-1) : Int) = landZ dE dF g a f n.toNat q by (exact (landZ_x hi.1 (by omega) hx (by omega)).symm))⟩) (by decide) (by decide) dX6_landing_56)
    exact L_26 (Int.toNat (n - 0) + 1) q 0 (by omega) (by omega) (by rw [Int.sub_zero]) (by omega) ls (lv_sub hl [3, 4, 5, 6, 7, 8, 2, 1, 0] rfl)
  ·
    refine zi_push M dX6_landing_13 ?_
    refine zi_goto (tgt := 18) M dX6_landing_14 (by decide) ?_
    refine lv_istore (lv' := [(6, .int (iI 1)), (0, .ref (ad 0)), (1, .int (iI q)), (2, .int (iI g)), (3, .int (iI a)), (4, .int (iI f)), (5, .int (iI n))]) M.1 M.2.1 dX6_landing_18 hl (by decide) rfl (fun ls hl => ?_)
    refine lv_iload_n M.1 M.2.1 dX6_landing_20 rfl (lv_at hl 2 rfl) ?_
    refine lv_istore (lv' := [(7, .int (iI q)), (6, .int (iI 1)), (0, .ref (ad 0)), (1, .int (iI q)), (2, .int (iI g)), (3, .int (iI a)), (4, .int (iI f)), (5, .int (iI n))]) M.1 M.2.1 dX6_landing_21 hl (by decide) rfl (fun ls hl => ?_)
    refine zi_push M dX6_landing_23 ?_
    refine lv_istore (lv' := [(8, .int (iI 0)), (7, .int (iI q)), (6, .int (iI 1)), (0, .ref (ad 0)), (1, .int (iI q)), (2, .int (iI g)), (3, .int (iI a)), (4, .int (iI f)), (5, .int (iI n))]) M.1 M.2.1 dX6_landing_24 hl (by decide) rfl (fun ls hl => ?_)
    have L_26 : ∀ (k_26 : Nat) (at_ : Int) (i : Int) (hi : 0 ≤ i ∧ i ≤ n) (hat : 0 ≤ at_ ∧ at_ < 48) (hx : landZ dE dF g a f n.toNat q = landZ dE dF g a f (n - i).toNat at_) (hm : n - i < (k_26 : Int)) (ls : Array Slot) (hl : lv_has ls 10 [(0, .ref (ad 0)), (1, .int (iI q)), (2, .int (iI g)), (3, .int (iI a)), (4, .int (iI f)), (5, .int (iI n)), (6, .int (iI 1)), (7, .int (iI at_)), (8, .int (iI i))]), W p l e (zRm 9 4 24 155) s m args below meth c s.heap [] 4 24 (vx_MQ below (zQ1 D ((rooW ad 0 cy fm fr) ++ (airW ad 1 cy h su st sh fl cS cH dD dE dF)) (fun (r : Int32) (_ : Unit) => ((0 ≤ q ∧ q < 48) ∧ ((1 ≤ a ∧ a ≤ 9) ∧ (10 ≤ f ∧ f ≤ 300) ∧ (1 ≤ n ∧ n ≤ 10))) ∧ r = iI (landZ dE dF g a f n.toNat q)) (fun (_ : Unit) => ((rooW ad 0 cy fm fr) ++ (airW ad 1 cy h su st sh fl cS cH dD dE dF)))) (zXC (fun E => (E = eIB ∧ (¬ (0 ≤ q ∧ q < 48))) ∨ (E = eIA ∧ ((0 ≤ q ∧ q < 48) ∧ ¬ ((1 ≤ a ∧ a ≤ 9) ∧ (10 ≤ f ∧ f ≤ 300) ∧ (1 ≤ n ∧ n ≤ 10)))))) args s 4 24 (zIn ((rooW ad 0 cy fm fr) ++ (airW ad 1 cy h su st sh fl cS cH dD dE dF)))) (F0 m 26 ls []) := by
      intro k_26
      induction k_26 with
      | zero =>
        intro at_ i hi hat hx hm ls hl
        exact absurd hm (by omega)
      | succ k_26 ih_26 =>
        intro at_ i hi hat hx hm ls hl
        refine lv_iload M.1 M.2.1 dX6_landing_26 (lv_at hl 8 rfl) ?_
        refine lv_iload M.1 M.2.1 dX6_landing_28 (lv_at hl 5 rfl) ?_
        refine zi_icmp_ge (tgt := 80) M dX6_landing_30 (by decide) (by omega) (by omega) (fun c_7 => ?_) (fun c_7 => ?_)
        ·
          refine lv_iload M.1 M.2.1 dX6_landing_80 (lv_at hl 7 rfl) ?_
          have hP : va_P D vwCl ((rooW ad 0 cy fm fr) ++ (airW ad 1 cy h su st sh fl cS cH dD dE dF)) s.heap := hP
          exact vx_ret (zw_i M hr hlk () hP hS (by exact ⟨by omega, congrArg iI (show (at_ : Int) = landZ dE dF g a f n.toNat q by (exact (landZ_e (by omega) hx).symm))⟩) (by decide) (by decide) dX6_landing_82)
        ·
          refine lv_aload_n M.1 M.2.1 dX6_landing_33 rfl (lv_at hl 0 rfl) ?_
          refine zi_get (ci := 6) (v := .ref (ad 1)) M hE hP 0 rfl rfl zu_X6 0 (by decide) zk_fl_RX6_12 rfl rfl dX6_landing_34 ?_
          refine lv_iload M.1 M.2.1 dX6_landing_37 (lv_at hl 7 rfl) ?_
          refine lv_iload M.1 M.2.1 dX6_landing_39 (lv_at hl 6 rfl) ?_
          refine lv_iload_n M.1 M.2.1 dX6_landing_41 rfl (lv_at hl 3 rfl) ?_
          refine lv_iload M.1 M.2.1 dX6_landing_42 (lv_at hl 4 rfl) ?_
          refine z_cR (z_runV (As := [.int (iI at_), .int (iI 1), .int (iI a), .int (iI f)]) (rest := []) M (c_X0_bender l D cy z0 ad 1 h su st sh fl cS cH dD dE dF at_ g 1 a f g_dE g_dF (by omega) (by omega) (by omega) (by omega)) hE hS hAz (hP.sub [1, 2, 3, 4, 5, 6, 7] rfl) (zRc.of (ci := 0) (q0 := 1) hE hP rfl rfl) zk_cd_X0_bender zk_in_RX0 zk_im_X0_bender zk_se_X0_bender zk_ml_RX6_176 rfl rfl zd_X0_bender ⟨by decide, by decide⟩ rfl hl.1 rfl (Nat.le_of_ble_eq_true rfl) dX6_landing_44 ⟨by decide, by decide⟩) ?_
          have hx_8 := bndZ_c dE dF g at_ a f
          obtain ⟨yL, hyL⟩ : ∃ y : Int, y = bndZ dE dF g at_ a f := ⟨_, rfl⟩
          refine z_rw (b := yL) hyL.symm ?_
          have hyc := bndZ_c dE dF g at_ a f
          have hlc := legZ_c (dE := dE) (dF := dF) (ea := g) (p := at_) (f := f) (a := a) (by omega)
          rw [← hyL] at hyc hlc
          refine lv_istore (lv' := [(9, .int (iI yL)), (0, .ref (ad 0)), (1, .int (iI q)), (2, .int (iI g)), (3, .int (iI a)), (4, .int (iI f)), (5, .int (iI n)), (6, .int (iI 1)), (7, .int (iI at_)), (8, .int (iI i))]) M.1 M.2.1 dX6_landing_47 hl (by decide) rfl (fun ls hl => ?_)
          refine lv_iload M.1 M.2.1 dX6_landing_49 (lv_at hl 0 rfl) ?_
          refine zi_push M dX6_landing_51 ?_
          refine zi_icmp_ne (tgt := 57) M dX6_landing_52 (by decide) (by omega) ⟨by decide, by decide⟩ (fun c_9 => ?_) (fun c_9 => ?_)
          ·
            refine lv_iload M.1 M.2.1 dX6_landing_57 (lv_at hl 8 rfl) ?_
            refine lv_iload M.1 M.2.1 dX6_landing_59 (lv_at hl 7 rfl) ?_
            refine lv_iload M.1 M.2.1 dX6_landing_61 (lv_at hl 0 rfl) ?_
            refine lv_iload_n M.1 M.2.1 dX6_landing_63 rfl (lv_at hl 4 rfl) ?_
            refine z_cR (z_runS (As := [.int (iI yL), .int (iI a)]) (rest := [.int (iI 1), .int (iI at_)]) M (c_X6_lengthBy l D cy z0 yL a (by omega) (by omega)) hE hS hAz trivial zk_cd_X6_lengthBy zk_in_RX6 zk_st_X6_lengthBy zk_ml_RX6_179 rfl rfl zd_X6_lengthBy ⟨by decide, by decide⟩ rfl hl.1 rfl (Nat.le_of_ble_eq_true rfl) dX6_landing_64 ⟨by decide, by decide⟩) ?_
            have hx_10 := lenZ_rg yL a (by omega)
            refine zi_imul M dX6_landing_67 ?_
            refine zi_iadd M dX6_landing_68 ?_
            refine z_cR (z_runS (As := [.int (iI (at_ + (1 * (lenZ yL a))))]) (rest := []) M (c_X6_ring l D cy z0 (at_ + (1 * (lenZ yL a))) (by omega)) hE hS hAz trivial zk_cd_X6_ring zk_in_RX6 zk_st_X6_ring zk_ml_RX6_182 rfl rfl zd_X6_ring ⟨by decide, by decide⟩ rfl hl.1 rfl (Nat.le_of_ble_eq_true rfl) dX6_landing_69 ⟨by decide, by decide⟩) ?_
            refine z_rw (b := mvZ g at_ (lenZ yL a)) (by unfold mvZ; split <;> omega) ?_
            refine lv_istore (lv' := [(7, .int (iI (mvZ g at_ (lenZ yL a)))), (9, .int (iI yL)), (0, .ref (ad 0)), (1, .int (iI q)), (2, .int (iI g)), (3, .int (iI a)), (4, .int (iI f)), (5, .int (iI n)), (6, .int (iI 1)), (8, .int (iI i))]) M.1 M.2.1 dX6_landing_72 hl (by decide) rfl (fun ls hl => ?_)
            refine zi_iinc (lv' := [(8, .int (iI (i + 1))), (7, .int (iI (mvZ g at_ (lenZ yL a)))), (9, .int (iI yL)), (0, .ref (ad 0)), (1, .int (iI q)), (2, .int (iI g)), (3, .int (iI a)), (4, .int (iI f)), (5, .int (iI n)), (6, .int (iI 1))]) M dX6_landing_74 hl 9 rfl (by decide) rfl (fun ls hl => ?_)
            refine zi_goto (tgt := 26) M dX6_landing_77 (by decide) ?_
            exact ih_26 (mvZ g at_ (lenZ yL a)) (i + 1) (by omega) (mvZ_rg _ _ _) (landZ_i hi.1 (by omega) hx (by omega) (by omega)) (by omega) ls (lv_sub hl [3, 4, 5, 6, 7, 8, 9, 1, 0] rfl)
          ·
            refine zi_push M dX6_landing_55 ?_
            have hP : va_P D vwCl ((rooW ad 0 cy fm fr) ++ (airW ad 1 cy h su st sh fl cS cH dD dE dF)) s.heap := hP
            exact vx_ret (zw_i M hr hlk () hP hS (by exact ⟨by omega, congrArg iI (show ((-1) : Int) = landZ dE dF g a f n.toNat q by (exact (landZ_x hi.1 (by omega) hx (by omega)).symm))⟩) (by decide) (by decide) dX6_landing_56)
    exact L_26 (Int.toNat (n - 0) + 1) q 0 (by omega) (by omega) (by rw [Int.sub_zero]) (by omega) ls (lv_sub hl [3, 4, 5, 6, 7, 8, 2, 1, 0] rfl)

set_option maxRecDepth 100000 in
set_option maxHeartbeats 4000000 in
theorem c_X6_landingAnew (l : Launch) (hst : l.stackTraces = false) (D : va_G) (cy : Nat → ClassId) (z0 : Nat) (ad : Nat → Nat) (fm fr h su st sh fl : Int) (cS cH dD dE dF : Int → Int) (q : Int) (g : Int) (a : Int) (f : Int) (n : Int) (r_q : r32 q) (r_a : r32 a) (r_f : r32 f) (r_n : r32 n) (hg : 0 ≤ g ∧ g ≤ 1) (g_dE : zrg 48 0 1000 dE) (g_dF : zrg 48 0 1000 dF) : vx_Met l yX6_landingAnew [.code yX6_landingAnew cX6_landingAnew 9 (some .int)] (zRm 9 4 24 155) (zPc [.ref (ad 0), .int (iI q), .int (iI g), .int (iI a), .int (iI f), .int (iI n)] D cy z0 (zWl D z0 ((rooW ad 0 cy fm fr) ++ (airW ad 1 cy h su st sh fl cS cH dD dE dF)))) (zQ1 D ((rooW ad 0 cy fm fr) ++ (airW ad 1 cy h su st sh fl cS cH dD dE dF)) (fun (r : Int32) (_ : Unit) => ((0 ≤ q ∧ q < 48) ∧ ((1 ≤ a ∧ a ≤ 9) ∧ (10 ≤ f ∧ f ≤ 300) ∧ (1 ≤ n ∧ n ≤ 10))) ∧ r = iI (landZ dE dF g a f n.toNat q)) (fun (_ : Unit) => ((rooW ad 0 cy fm fr) ++ (airW ad 1 cy h su st sh fl cS cH dD dE dF)))) (zXC (fun E => (E = eIB ∧ (¬ (0 ≤ q ∧ q < 48))) ∨ (E = eIA ∧ ((0 ≤ q ∧ q < 48) ∧ ¬ ((1 ≤ a ∧ a ≤ 9) ∧ (10 ≤ f ∧ f ≤ 300) ∧ (1 ≤ n ∧ n ≤ 10)))))) 4 24 (zIn ((rooW ad 0 cy fm fr) ++ (airW ad 1 cy h su st sh fl cS cH dD dE dF))) := by
  refine z_ofX (by decide) (Nat.le_of_ble_eq_true rfl) ?_
  intro p e s m args below meth c M hr hlk ht hargs hP0 hE ls hl
  have hP : va_P D vwCl ((rooW ad 0 cy fm fr) ++ (airW ad 1 cy h su st sh fl cS cH dD dE dF)) s.heap := hP0.1
  have hD : va_D (zIn ((rooW ad 0 cy fm fr) ++ (airW ad 1 cy h su st sh fl cS cH dD dE dF))) ((rooW ad 0 cy fm fr) ++ (airW ad 1 cy h su st sh fl cS cH dD dE dF)) := hP0.self
  have hAz := hP0.A
  have hS : va_S (zIn ((rooW ad 0 cy fm fr) ++ (airW ad 1 cy h su st sh fl cS cH dD dE dF))) s.heap s.heap [] := va_S.rf
  have hl : lv_has ls 9 [(0, .ref (ad 0)), (1, .int (iI q)), (2, .int (iI g)), (3, .int (iI a)), (4, .int (iI f)), (5, .int (iI n))] := hl
  refine lv_iload_n M.1 M.2.1 dX6_landingAnew_0 rfl (lv_at hl 1 rfl) ?_
  refine lv_iload_n M.1 M.2.1 dX6_landingAnew_1 rfl (lv_at hl 3 rfl) ?_
  refine lv_iload M.1 M.2.1 dX6_landingAnew_2 (lv_at hl 4 rfl) ?_
  refine lv_iload M.1 M.2.1 dX6_landingAnew_4 (lv_at hl 5 rfl) ?_
  refine zx_need (zx_runS (As := [.int (iI q), .int (iI a), .int (iI f), .int (iI n)]) (rest := []) M (c_X6_needRay l hst D cy z0 q a f n (by omega) (by omega) (by omega) (by omega)) hE hS hAz trivial zk_cd_X6_needRay zk_in_RX6 zk_st_X6_needRay zk_ml_RX6_172 rfl rfl zd_X6_needRay ⟨by decide, by decide⟩ rfl hl.1 rfl (Nat.le_of_ble_eq_true rfl) dX6_landingAnew_6 ⟨by decide, by decide⟩) ht hlk (by decide) (by decide) (fun E t hA9 hC hz hq => ⟨by rcases hC with ⟨rfl, h9⟩ | ⟨rfl, h9⟩ <;> first | exact Or.inl (⟨rfl, by omega⟩) | exact Or.inr (⟨rfl, by omega⟩), hz, hq⟩) (fun hn_1 => ?_)
  refine lv_iload_n M.1 M.2.1 dX6_landingAnew_9 rfl (lv_at hl 1 rfl) ?_
  refine lv_istore (lv' := [(6, .int (iI q)), (0, .ref (ad 0)), (1, .int (iI q)), (2, .int (iI g)), (3, .int (iI a)), (4, .int (iI f)), (5, .int (iI n))]) M.1 M.2.1 dX6_landingAnew_10 hl (by decide) rfl (fun ls hl => ?_)
  refine zi_push M dX6_landingAnew_12 ?_
  refine lv_istore (lv' := [(7, .int (iI 0)), (6, .int (iI q)), (0, .ref (ad 0)), (1, .int (iI q)), (2, .int (iI g)), (3, .int (iI a)), (4, .int (iI f)), (5, .int (iI n))]) M.1 M.2.1 dX6_landingAnew_13 hl (by decide) rfl (fun ls hl => ?_)
  have L_15 : ∀ (k_15 : Nat) (at_ : Int) (i : Int) (hi : 0 ≤ i ∧ i ≤ n) (hat : 0 ≤ at_ ∧ at_ < 48) (hx : landZ dE dF g a f n.toNat q = landZ dE dF g a f (n - i).toNat at_) (hm : n - i < (k_15 : Int)) (ls : Array Slot) (hl : lv_has ls 9 [(0, .ref (ad 0)), (1, .int (iI q)), (2, .int (iI g)), (3, .int (iI a)), (4, .int (iI f)), (5, .int (iI n)), (6, .int (iI at_)), (7, .int (iI i))]), W p l e (zRm 9 4 24 155) s m args below meth c s.heap [] 4 24 (vx_MQ below (zQ1 D ((rooW ad 0 cy fm fr) ++ (airW ad 1 cy h su st sh fl cS cH dD dE dF)) (fun (r : Int32) (_ : Unit) => ((0 ≤ q ∧ q < 48) ∧ ((1 ≤ a ∧ a ≤ 9) ∧ (10 ≤ f ∧ f ≤ 300) ∧ (1 ≤ n ∧ n ≤ 10))) ∧ r = iI (landZ dE dF g a f n.toNat q)) (fun (_ : Unit) => ((rooW ad 0 cy fm fr) ++ (airW ad 1 cy h su st sh fl cS cH dD dE dF)))) (zXC (fun E => (E = eIB ∧ (¬ (0 ≤ q ∧ q < 48))) ∨ (E = eIA ∧ ((0 ≤ q ∧ q < 48) ∧ ¬ ((1 ≤ a ∧ a ≤ 9) ∧ (10 ≤ f ∧ f ≤ 300) ∧ (1 ≤ n ∧ n ≤ 10)))))) args s 4 24 (zIn ((rooW ad 0 cy fm fr) ++ (airW ad 1 cy h su st sh fl cS cH dD dE dF)))) (F0 m 15 ls []) := by
    intro k_15
    induction k_15 with
    | zero =>
      intro at_ i hi hat hx hm ls hl
      exact absurd hm (by omega)
    | succ k_15 ih_15 =>
      intro at_ i hi hat hx hm ls hl
      refine lv_iload M.1 M.2.1 dX6_landingAnew_15 (lv_at hl 7 rfl) ?_
      refine lv_iload M.1 M.2.1 dX6_landingAnew_17 (lv_at hl 5 rfl) ?_
      refine zi_icmp_ge (tgt := 58) M dX6_landingAnew_19 (by decide) (by omega) (by omega) (fun c_2 => ?_) (fun c_2 => ?_)
      ·
        refine lv_iload M.1 M.2.1 dX6_landingAnew_58 (lv_at hl 6 rfl) ?_
        have hP : va_P D vwCl ((rooW ad 0 cy fm fr) ++ (airW ad 1 cy h su st sh fl cS cH dD dE dF)) s.heap := hP
        exact vx_ret (zw_i M hr hlk () hP hS (by exact ⟨by omega, congrArg iI (show (at_ : Int) = landZ dE dF g a f n.toNat q by (exact (landZ_e (by omega) hx).symm))⟩) (by decide) (by decide) dX6_landingAnew_60)
      ·
        refine lv_aload_n M.1 M.2.1 dX6_landingAnew_22 rfl (lv_at hl 0 rfl) ?_
        refine lv_iload M.1 M.2.1 dX6_landingAnew_23 (lv_at hl 6 rfl) ?_
        refine lv_iload_n M.1 M.2.1 dX6_landingAnew_25 rfl (lv_at hl 2 rfl) ?_
        refine lv_iload_n M.1 M.2.1 dX6_landingAnew_26 rfl (lv_at hl 3 rfl) ?_
        refine lv_iload M.1 M.2.1 dX6_landingAnew_27 (lv_at hl 4 rfl) ?_
        refine z_cR (z_runV (As := [.int (iI at_), .int (iI g), .int (iI a), .int (iI f)]) (rest := []) M (c_X6_legAnew l D cy z0 ad fm fr h su st sh fl cS cH dD dE dF at_ g a f g_dE g_dF (by omega) (by omega) (by omega) (by omega)) hE hS hAz hP (zRc.of (ci := 6) (q0 := 0) hE hP rfl rfl) zk_cd_X6_legAnew zk_in_RX6 zk_im_X6_legAnew zk_se_X6_legAnew zk_ml_RX6_185 rfl rfl zd_X6_legAnew ⟨by decide, by decide⟩ rfl hl.1 rfl (Nat.le_of_ble_eq_true rfl) dX6_landingAnew_29 ⟨by decide, by decide⟩) ?_
        have hx_3 := legZ_c (dE := dE) (dF := dF) (ea := g) (p := at_) (f := f) (a := a) (by omega)
        refine lv_istore (lv' := [(8, .int (iI (legZ dE dF g at_ a f))), (0, .ref (ad 0)), (1, .int (iI q)), (2, .int (iI g)), (3, .int (iI a)), (4, .int (iI f)), (5, .int (iI n)), (6, .int (iI at_)), (7, .int (iI i))]) M.1 M.2.1 dX6_landingAnew_32 hl (by decide) rfl (fun ls hl => ?_)
        refine lv_iload M.1 M.2.1 dX6_landingAnew_34 (lv_at hl 0 rfl) ?_
        refine zi_push M dX6_landingAnew_36 ?_
        refine zi_icmp_ne (tgt := 42) M dX6_landingAnew_37 (by decide) (by omega) ⟨by decide, by decide⟩ (fun c_4 => ?_) (fun c_4 => ?_)
        ·
          refine lv_iload M.1 M.2.1 dX6_landingAnew_42 (lv_at hl 7 rfl) ?_
          refine lv_iload_n M.1 M.2.1 dX6_landingAnew_44 rfl (lv_at hl 3 rfl) ?_
          refine lv_iload M.1 M.2.1 dX6_landingAnew_45 (lv_at hl 0 rfl) ?_
          refine z_cR (z_runS (As := [.int (iI at_), .int (iI g), .int (iI (legZ dE dF g at_ a f))]) (rest := []) M (c_X6_walked l D cy z0 at_ g (legZ dE dF g at_ a f) (by omega) (by omega) (by omega)) hE hS hAz trivial zk_cd_X6_walked zk_in_RX6 zk_st_X6_walked zk_ml_RX6_189 rfl rfl zd_X6_walked ⟨by decide, by decide⟩ rfl hl.1 rfl (Nat.le_of_ble_eq_true rfl) dX6_landingAnew_47 ⟨by decide, by decide⟩) ?_
          have hx_5 := mvZ_rg g at_ (legZ dE dF g at_ a f)
          refine lv_istore (lv' := [(6, .int (iI (mvZ g at_ (legZ dE dF g at_ a f)))), (8, .int (iI (legZ dE dF g at_ a f))), (0, .ref (ad 0)), (1, .int (iI q)), (2, .int (iI g)), (3, .int (iI a)), (4, .int (iI f)), (5, .int (iI n)), (7, .int (iI i))]) M.1 M.2.1 dX6_landingAnew_50 hl (by decide) rfl (fun ls hl => ?_)
          refine zi_iinc (lv' := [(7, .int (iI (i + 1))), (6, .int (iI (mvZ g at_ (legZ dE dF g at_ a f)))), (8, .int (iI (legZ dE dF g at_ a f))), (0, .ref (ad 0)), (1, .int (iI q)), (2, .int (iI g)), (3, .int (iI a)), (4, .int (iI f)), (5, .int (iI n))]) M dX6_landingAnew_52 hl 8 rfl (by decide) rfl (fun ls hl => ?_)
          refine zi_goto (tgt := 15) M dX6_landingAnew_55 (by decide) ?_
          exact ih_15 (mvZ g at_ (legZ dE dF g at_ a f)) (i + 1) (by omega) (mvZ_rg _ _ _) (landZ_i hi.1 (by omega) hx (by omega) (by omega)) (by omega) ls (lv_sub hl [3, 4, 5, 6, 7, 8, 1, 0] rfl)
        ·
          refine zi_push M dX6_landingAnew_40 ?_
          have hP : va_P D vwCl ((rooW ad 0 cy fm fr) ++ (airW ad 1 cy h su st sh fl cS cH dD dE dF)) s.heap := hP
          exact vx_ret (zw_i M hr hlk () hP hS (by exact ⟨by omega, congrArg iI (show ((-1) : Int) = landZ dE dF g a f n.toNat q by (exact (landZ_x hi.1 (by omega) hx (by omega)).symm))⟩) (by decide) (by decide) dX6_landingAnew_41)
  exact L_15 (Int.toNat (n - 0) + 1) q 0 (by omega) (by omega) (by rw [Int.sub_zero]) (by omega) ls (lv_sub hl [2, 3, 4, 5, 6, 7, 1, 0] rfl)
