/-! contracts of methods that read the heap -/
set_option maxRecDepth 100000 in
set_option maxHeartbeats 4000000 in
theorem c_X0_bender (l : Launch) (D : va_G) (cy : Nat → ClassId) (z0 : Nat) (ad : Nat → Nat) (b : Nat) (h su st sh fl : Int) (cS cH dD dE dF : Int → Int) (q : Int) (ea : Int) (sp : Int) (a : Int) (f : Int) (hdE : zrg 48 0 1000 dE) (hdF : zrg 48 0 1000 dF) (hq : 0 ≤ q ∧ q < 48) (hsp : (ea = 1 ∧ sp = 1) ∨ (ea = 0 ∧ sp = -1)) (ha : 1 ≤ a ∧ a ≤ 9) (hf : 10 ≤ f ∧ f ≤ 300) : Met l yX0_bender [.code yX0_bender cX0_bender 7 (some .int)] (zRm 1 0 0 22) (zPc [.ref (ad b), .int (iI q), .int (iI sp), .int (iI a), .int (iI f)] D cy z0 (fun H => va_P D vwCl (airW ad b cy h su st sh fl cS cH dD dE dF) H)) (QcRead (iI (bndZ dE dF ea q a f))) 0 0 (fun _ => False) := by
  refine z_of (by decide) (Nat.le_of_ble_eq_true rfl) ?_
  intro p e s m args below meth c M hr hlk _ hargs hP hE ls hl
  have hS : va_S (fun q => z0 ≤ q) s.heap s.heap [] := va_S.rf
  have hAz : ∀ q : Nat, (fun q => z0 ≤ q) q → z0 ≤ q := fun _ h => h
  have hl : lv_has ls 7 [(0, .ref (ad b)), (1, .int (iI q)), (2, .int (iI sp)), (3, .int (iI a)), (4, .int (iI f))] := hl
  have he1 := lenZ_rg 1 a ha
  have he2 := lenZ_rg 2 a ha
  have hm1 : -10 ≤ sp * (lenZ 1 a / 2) ∧ sp * (lenZ 1 a / 2) ≤ 10 ∧ (q + sp * (lenZ 1 a / 2)) % 48 = mvZ ea q (lenZ 1 a / 2) := by rcases hsp with ⟨rfl, rfl⟩ | ⟨rfl, rfl⟩ <;> simp only [mvZ] <;> simp <;> omega
  have hm2 : -10 ≤ sp * (lenZ 2 a / 2) ∧ sp * (lenZ 2 a / 2) ≤ 10 ∧ (q + sp * (lenZ 2 a / 2)) % 48 = mvZ ea q (lenZ 2 a / 2) := by rcases hsp with ⟨rfl, rfl⟩ | ⟨rfl, rfl⟩ <;> simp only [mvZ] <;> simp <;> omega
  have hv1 := mvZ_rg ea q (lenZ 1 a / 2)
  have hv2 := mvZ_rg ea q (lenZ 2 a / 2)
  refine lv_iload_n M.1 M.2.1 dX0_bender_0 rfl (lv_at hl 1 rfl) ?_
  refine lv_iload_n M.1 M.2.1 dX0_bender_1 rfl (lv_at hl 2 rfl) ?_
  refine zi_push M dX0_bender_2 ?_
  refine lv_iload_n M.1 M.2.1 dX0_bender_3 rfl (lv_at hl 3 rfl) ?_
  refine z_cR (z_runSN (As := [.int (iI 1), .int (iI a)]) (rest := [.int (iI sp), .int (iI q)]) M (c_X6_lengthBy l D cy z0 1 a (by omega) (by omega)) hE hS hAz trivial zk_cd_X6_lengthBy zk_in_RX6 zk_st_X6_lengthBy zk_mn_RX0_54 rfl rfl zd_X6_lengthBy ⟨by decide, by decide⟩ rfl hl.1 rfl (Nat.le_of_ble_eq_true rfl) dX0_bender_4 ⟨by decide, by decide⟩) ?_
  have hx_1 := lenZ_rg 1 a (by omega)
  refine zi_push M dX0_bender_7 ?_
  refine zi_idiv M dX0_bender_8 (by omega) (by omega) (by omega) (by omega) ?_
  refine zi_imul M dX0_bender_9 ?_
  refine zi_iadd M dX0_bender_10 ?_
  refine z_cR (z_runSN (As := [.int (iI (q + (sp * ((lenZ 1 a) / 2))))]) (rest := []) M (c_X6_ring l D cy z0 (q + (sp * ((lenZ 1 a) / 2))) (by omega)) hE hS hAz trivial zk_cd_X6_ring zk_in_RX6 zk_st_X6_ring zk_mn_RX0_57 rfl rfl zd_X6_ring ⟨by decide, by decide⟩ rfl hl.1 rfl (Nat.le_of_ble_eq_true rfl) dX0_bender_11 ⟨by decide, by decide⟩) ?_
  refine z_rw (b := mvZ ea q (lenZ 1 a / 2)) hm1.2.2 ?_
  refine lv_istore (lv' := [(5, .int (iI (mvZ ea q (lenZ 1 a / 2)))), (0, .ref (ad b)), (1, .int (iI q)), (2, .int (iI sp)), (3, .int (iI a)), (4, .int (iI f))]) M.1 M.2.1 dX0_bender_14 hl (by decide) rfl (fun ls hl => ?_)
  refine lv_aload_n M.1 M.2.1 dX0_bender_16 rfl (lv_at hl 1 rfl) ?_
  refine zi_get (ci := 0) (v := .ref (ad (b + 3))) M hE hP 0 rfl rfl zu_X0 7 (by decide) zk_fl_RX0_24 rfl rfl dX0_bender_17 ?_
  refine zi_push M dX0_bender_20 ?_
  refine zi_aald (n := 3) (f := fun i => ad (b + (4 + i))) M hE hP 3 rfl (by decide) (by decide) (by decide) dX0_bender_21 ?_
  refine z_re (v := .ref (ad (b + 5))) rfl ?_
  refine lv_iload M.1 M.2.1 dX0_bender_22 (lv_at hl 0 rfl) ?_
  refine zi_iald M hE hP 5 (n := 48) (g := dE) rfl (Nat.le_of_ble_eq_true rfl) (by omega) (by omega) dX0_bender_24 ?_
  have hr_2 := hdE (mvZ ea q (lenZ 1 a / 2)) (by omega) (by omega)
  refine lv_iload_n M.1 M.2.1 dX0_bender_25 rfl (lv_at hl 4 rfl) ?_
  refine lv_iload M.1 M.2.1 dX0_bender_26 (lv_at hl 5 rfl) ?_
  refine z_cR (z_runSN (As := [.int (iI (dE (mvZ ea q (lenZ 1 a / 2)))), .int (iI a), .int (iI f)]) (rest := []) M (c_X6_bends l D cy z0 (dE (mvZ ea q (lenZ 1 a / 2))) a f (by omega) (by omega) (by omega)) hE hS hAz trivial zk_cd_X6_bends zk_in_RX6 zk_st_X6_bends zk_mn_RX0_61 rfl rfl zd_X6_bends ⟨by decide, by decide⟩ rfl hl.1 rfl (Nat.le_of_ble_eq_true rfl) dX0_bender_28 ⟨by decide, by decide⟩) ?_
  refine zi_b (P := 10 * f ≤ (dE (mvZ ea q (lenZ 1 a / 2))) * (46 - 4 * a)) (g := fun r => F0 m 31 ls (.int r :: [])) (fun b_3 => ?_) (fun b_3 => ?_)
  ·
    refine zi_if_eq (tgt := 36) M dX0_bender_31 (by decide) ⟨by decide, by decide⟩ (fun q => absurd q (by decide)) (fun _ => ?_)
    refine zi_push M dX0_bender_34 ?_
    exact zr_i M hr hlk (congrArg iI (show (1 : Int) = bndZ dE dF ea q a f by (unfold bndZ; first | rw [if_pos (by omega)] | rw [if_neg (by omega), if_pos (by omega)] | rw [if_neg (by omega), if_neg (by omega)]))) dX0_bender_35
  ·
    refine zi_if_eq (tgt := 36) M dX0_bender_31 (by decide) ⟨by decide, by decide⟩ (fun _ => ?_) (fun q => absurd q (by decide))
    refine lv_iload_n M.1 M.2.1 dX0_bender_36 rfl (lv_at hl 2 rfl) ?_
    refine lv_iload_n M.1 M.2.1 dX0_bender_37 rfl (lv_at hl 3 rfl) ?_
    refine zi_push M dX0_bender_38 ?_
    refine lv_iload_n M.1 M.2.1 dX0_bender_39 rfl (lv_at hl 4 rfl) ?_
    refine z_cR (z_runSN (As := [.int (iI 2), .int (iI a)]) (rest := [.int (iI sp), .int (iI q)]) M (c_X6_lengthBy l D cy z0 2 a (by omega) (by omega)) hE hS hAz trivial zk_cd_X6_lengthBy zk_in_RX6 zk_st_X6_lengthBy zk_mn_RX0_54 rfl rfl zd_X6_lengthBy ⟨by decide, by decide⟩ rfl hl.1 rfl (Nat.le_of_ble_eq_true rfl) dX0_bender_40 ⟨by decide, by decide⟩) ?_
    have hx_4 := lenZ_rg 2 a (by omega)
    refine zi_push M dX0_bender_43 ?_
    refine zi_idiv M dX0_bender_44 (by omega) (by omega) (by omega) (by omega) ?_
    refine zi_imul M dX0_bender_45 ?_
    refine zi_iadd M dX0_bender_46 ?_
    refine z_cR (z_runSN (As := [.int (iI (q + (sp * ((lenZ 2 a) / 2))))]) (rest := []) M (c_X6_ring l D cy z0 (q + (sp * ((lenZ 2 a) / 2))) (by omega)) hE hS hAz trivial zk_cd_X6_ring zk_in_RX6 zk_st_X6_ring zk_mn_RX0_57 rfl rfl zd_X6_ring ⟨by decide, by decide⟩ rfl hl.1 rfl (Nat.le_of_ble_eq_true rfl) dX0_bender_47 ⟨by decide, by decide⟩) ?_
    refine z_rw (b := mvZ ea q (lenZ 2 a / 2)) hm2.2.2 ?_
    refine lv_istore (lv' := [(6, .int (iI (mvZ ea q (lenZ 2 a / 2)))), (5, .int (iI (mvZ ea q (lenZ 1 a / 2)))), (0, .ref (ad b)), (1, .int (iI q)), (2, .int (iI sp)), (3, .int (iI a)), (4, .int (iI f))]) M.1 M.2.1 dX0_bender_50 hl (by decide) rfl (fun ls hl => ?_)
    refine lv_aload_n M.1 M.2.1 dX0_bender_52 rfl (lv_at hl 2 rfl) ?_
    refine zi_get (ci := 0) (v := .ref (ad (b + 3))) M hE hP 0 rfl rfl zu_X0 7 (by decide) zk_fl_RX0_24 rfl rfl dX0_bender_53 ?_
    refine zi_push M dX0_bender_56 ?_
    refine zi_aald (n := 3) (f := fun i => ad (b + (4 + i))) M hE hP 3 rfl (by decide) (by decide) (by decide) dX0_bender_57 ?_
    refine z_re (v := .ref (ad (b + 6))) rfl ?_
    refine lv_iload M.1 M.2.1 dX0_bender_58 (lv_at hl 0 rfl) ?_
    refine zi_iald M hE hP 6 (n := 48) (g := dF) rfl (Nat.le_of_ble_eq_true rfl) (by omega) (by omega) dX0_bender_60 ?_
    have hr_5 := hdF (mvZ ea q (lenZ 2 a / 2)) (by omega) (by omega)
    refine lv_iload_n M.1 M.2.1 dX0_bender_61 rfl (lv_at hl 5 rfl) ?_
    refine lv_iload M.1 M.2.1 dX0_bender_62 (lv_at hl 6 rfl) ?_
    refine z_cR (z_runSN (As := [.int (iI (dF (mvZ ea q (lenZ 2 a / 2)))), .int (iI a), .int (iI f)]) (rest := []) M (c_X6_bends l D cy z0 (dF (mvZ ea q (lenZ 2 a / 2))) a f (by omega) (by omega) (by omega)) hE hS hAz trivial zk_cd_X6_bends zk_in_RX6 zk_st_X6_bends zk_mn_RX0_61 rfl rfl zd_X6_bends ⟨by decide, by decide⟩ rfl hl.1 rfl (Nat.le_of_ble_eq_true rfl) dX0_bender_64 ⟨by decide, by decide⟩) ?_
    refine zi_b (P := 10 * f ≤ (dF (mvZ ea q (lenZ 2 a / 2))) * (46 - 4 * a)) (g := fun r => F0 m 67 ls (.int r :: [])) (fun b_6 => ?_) (fun b_6 => ?_)
    ·
      refine zi_if_eq (tgt := 74) M dX0_bender_67 (by decide) ⟨by decide, by decide⟩ (fun q => absurd q (by decide)) (fun _ => ?_)
      refine zi_push M dX0_bender_70 ?_
      refine zi_goto (tgt := 75) M dX0_bender_71 (by decide) ?_
      exact zr_i M hr hlk (congrArg iI (show (2 : Int) = bndZ dE dF ea q a f by (unfold bndZ; first | rw [if_pos (by omega)] | rw [if_neg (by omega), if_pos (by omega)] | rw [if_neg (by omega), if_neg (by omega)]))) dX0_bender_75
    ·
      refine zi_if_eq (tgt := 74) M dX0_bender_67 (by decide) ⟨by decide, by decide⟩ (fun _ => ?_) (fun q => absurd q (by decide))
      refine zi_push M dX0_bender_74 ?_
      exact zr_i M hr hlk (congrArg iI (show ((-1) : Int) = bndZ dE dF ea q a f by (unfold bndZ; first | rw [if_pos (by omega)] | rw [if_neg (by omega), if_pos (by omega)] | rw [if_neg (by omega), if_neg (by omega)]))) dX0_bender_75
