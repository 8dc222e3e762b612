/-! contracts: act -/
set_option maxRecDepth 100000 in
set_option maxHeartbeats 16000000 in
theorem c_L_act (l : Launch) (hst : l.stackTraces = false) (D : va_G) (cy : Nat → ClassId) (z0 : Nat) (ad : Nat → Nat) (σ : zSt) (ur : Nat → Int) (v : Int) (r_v : r32 v) (hI : zInv σ) : Met l yL_act [.code yL_act cL_act 11 (some .int)] (zRm 11 6 36 211) (zPcN [.ref (ad 0), .int (iI v)] D cy z0 (zWl D z0 (wldW ad cy σ ur))) (zQ1 D (wldW ad cy σ ur) (fun (r : Int32) (u : Int × zSt × (Nat → Int)) => r = iI u.1 ∧ stepR v σ u.1 u.2.1) (fun (u : Int × zSt × (Nat → Int)) => wldW ad cy u.2.1 u.2.2)) 6 36 (zIn (wldW ad cy σ ur)) := by
  refine z_ofN (by decide) (Nat.le_of_ble_eq_true rfl) ?_
  intro p e s m args below meth c M hr hlk hargs hP0 hE hN ls hl
  have hl : lv_has ls 11 [(0, .ref (ad 0)), (1, .int (iI v))] := hl
  have hAz := hP0.A
  have hS : va_S (zIn (wldW ad cy σ ur)) s.heap s.heap [] := va_S.rf
  have hs9 := shZ_rg v 9
  have hs6 := shZ_rg v 6
  refine lv_iload_n M.1 M.2.1 dL_act_0 rfl (lv_at hl 1 rfl) ?_
  refine zi_bipush M dL_act_1 ⟨by decide, by decide⟩ ?_
  refine zi_ishr M dL_act_3 ?_
  refine zi_bipush M dL_act_4 ⟨by decide, by decide⟩ ?_
  refine z_cR (z_runS (As := [.int (iI (shZ v 26)), .int (iI 14)]) (rest := []) M (c_L_low l D cy z0 (shZ v 26) 14 (by omega)) hE hS hAz trivial zk_cd_L_low zk_in_RL zk_st_L_low zk_ml_RL_105 rfl rfl zd_L_low ⟨by decide, by decide⟩ rfl hl.1 rfl (Nat.le_of_ble_eq_true rfl) dL_act_6 ⟨by decide, by decide⟩) ?_
  have hx_1 := loZ_rg2 ((shZ v 26)) (14) (by omega)
  refine zi_if_ne (tgt := 16) M dL_act_9 (by decide) (by omega) (fun cod => ?_) (fun cod => ?_)
  ·
    have eQ : (fun (r : Int32) (u : Int × zSt × (Nat → Int)) => r = iI u.1 ∧ stepR v σ u.1 u.2.1) = (fun (r : Int32) (u : Int × zSt × (Nat → Int)) => r = iI u.1 ∧ stpE (loZ v 42).toNat v (loZ (shZ v 4) 48) ((loZ (shZ v 4) 48 + 40 + loZ (shZ v 7) 17) % 48) (loZ (shZ v 5) 4) (loZ (shZ v 8) 4) (loZ (shZ v 9) 60) (loZ (shZ v 11) 3) (40 + 20 * loZ (shZ v 6) 5) (isZ v) σ u.1 u.2.1) := by funext r u; unfold stepR; rw [if_neg cod]
    rw [eQ]
    refine zi_push M dL_act_16 ?_
    refine lv_istore_n (lv' := [(2, .int (iI 0)), (0, .ref (ad 0)), (1, .int (iI v))]) M.1 M.2.1 dL_act_17 rfl hl (by decide) rfl (fun ls hl => ?_)
    refine lv_iload_n M.1 M.2.1 dL_act_18 rfl (lv_at hl 0 rfl) ?_
    refine zi_if_eq (tgt := 35) M dL_act_19 (by decide) ⟨by decide, by decide⟩ (fun _ => ?_) (fun q => absurd q (by decide))
    refine lv_iload_n M.1 M.2.1 dL_act_35 rfl (lv_at hl 2 rfl) ?_
    refine zi_push M dL_act_36 ?_
    refine zi_ishr M dL_act_37 ?_
    refine zi_bipush M dL_act_38 ⟨by decide, by decide⟩ ?_
    refine z_cR (z_runS (As := [.int (iI (shZ v 4)), .int (iI 48)]) (rest := []) M (c_L_low l D cy z0 (shZ v 4) 48 (by omega)) hE hS hAz trivial zk_cd_L_low zk_in_RL zk_st_L_low zk_ml_RL_105 rfl rfl zd_L_low ⟨by decide, by decide⟩ rfl hl.1 rfl (Nat.le_of_ble_eq_true rfl) dL_act_40 ⟨by decide, by decide⟩) ?_
    have hx_2 := loZ_rg2 ((shZ v 4)) (48) (by omega)
    refine lv_istore_n (lv' := [(3, .int (iI (loZ (shZ v 4) 48))), (2, .int (iI 0)), (0, .ref (ad 0)), (1, .int (iI v))]) M.1 M.2.1 dL_act_43 rfl hl (by decide) rfl (fun ls hl => ?_)
    refine lv_iload_n M.1 M.2.1 dL_act_44 rfl (lv_at hl 1 rfl) ?_
    refine zi_if_eq (tgt := 62) M dL_act_45 (by decide) ⟨by decide, by decide⟩ (fun _ => ?_) (fun q => absurd q (by decide))
    refine lv_iload_n M.1 M.2.1 dL_act_62 rfl (lv_at hl 0 rfl) ?_
    refine zi_bipush M dL_act_63 ⟨by decide, by decide⟩ ?_
    refine zi_iadd M dL_act_65 ?_
    refine lv_iload_n M.1 M.2.1 dL_act_66 rfl (lv_at hl 3 rfl) ?_
    refine zi_bipush M dL_act_67 ⟨by decide, by decide⟩ ?_
    refine zi_ishr M dL_act_69 ?_
    refine zi_bipush M dL_act_70 ⟨by decide, by decide⟩ ?_
    refine z_cR (z_runS (As := [.int (iI (shZ v 7)), .int (iI 17)]) (rest := [.int (iI ((loZ (shZ v 4) 48) + 40))]) M (c_L_low l D cy z0 (shZ v 7) 17 (by omega)) hE hS hAz trivial zk_cd_L_low zk_in_RL zk_st_L_low zk_ml_RL_105 rfl rfl zd_L_low ⟨by decide, by decide⟩ rfl hl.1 rfl (Nat.le_of_ble_eq_true rfl) dL_act_72 ⟨by decide, by decide⟩) ?_
    have hx_3 := loZ_rg2 ((shZ v 7)) (17) (by omega)
    refine zi_iadd M dL_act_75 ?_
    refine zi_bipush M dL_act_76 ⟨by decide, by decide⟩ ?_
    refine zi_irem M dL_act_78 (by omega) (by omega) (by omega) (by omega) ?_
    refine lv_istore (lv' := [(4, .int (iI ((((loZ (shZ v 4) 48) + 40) + (loZ (shZ v 7) 17)) % 48))), (3, .int (iI (loZ (shZ v 4) 48))), (2, .int (iI 0)), (0, .ref (ad 0)), (1, .int (iI v))]) M.1 M.2.1 dL_act_79 hl (by decide) rfl (fun ls hl => ?_)
    refine lv_iload_n M.1 M.2.1 dL_act_81 rfl (lv_at hl 2 rfl) ?_
    refine zi_if_eq (tgt := 98) M dL_act_82 (by decide) ⟨by decide, by decide⟩ (fun _ => ?_) (fun q => absurd q (by decide))
    refine lv_iload_n M.1 M.2.1 dL_act_98 rfl (lv_at hl 4 rfl) ?_
    refine zi_push M dL_act_99 ?_
    refine zi_ishr M dL_act_100 ?_
    refine zi_push M dL_act_101 ?_
    refine z_cR (z_runS (As := [.int (iI (shZ v 5)), .int (iI 4)]) (rest := []) M (c_L_low l D cy z0 (shZ v 5) 4 (by omega)) hE hS hAz trivial zk_cd_L_low zk_in_RL zk_st_L_low zk_ml_RL_105 rfl rfl zd_L_low ⟨by decide, by decide⟩ rfl hl.1 rfl (Nat.le_of_ble_eq_true rfl) dL_act_102 ⟨by decide, by decide⟩) ?_
    have hx_4 := loZ_rg2 ((shZ v 5)) (4) (by omega)
    refine lv_istore (lv' := [(5, .int (iI (loZ (shZ v 5) 4))), (4, .int (iI ((((loZ (shZ v 4) 48) + 40) + (loZ (shZ v 7) 17)) % 48))), (3, .int (iI (loZ (shZ v 4) 48))), (2, .int (iI 0)), (0, .ref (ad 0)), (1, .int (iI v))]) M.1 M.2.1 dL_act_105 hl (by decide) rfl (fun ls hl => ?_)
    refine lv_iload_n M.1 M.2.1 dL_act_107 rfl (lv_at hl 3 rfl) ?_
    refine zi_if_eq (tgt := 125) M dL_act_108 (by decide) ⟨by decide, by decide⟩ (fun _ => ?_) (fun q => absurd q (by decide))
    refine lv_iload_n M.1 M.2.1 dL_act_125 rfl (lv_at hl 5 rfl) ?_
    refine zi_bipush M dL_act_126 ⟨by decide, by decide⟩ ?_
    refine zi_ishr M dL_act_128 ?_
    refine zi_push M dL_act_129 ?_
    refine z_cR (z_runS (As := [.int (iI (shZ v 8)), .int (iI 4)]) (rest := []) M (c_L_low l D cy z0 (shZ v 8) 4 (by omega)) hE hS hAz trivial zk_cd_L_low zk_in_RL zk_st_L_low zk_ml_RL_105 rfl rfl zd_L_low ⟨by decide, by decide⟩ rfl hl.1 rfl (Nat.le_of_ble_eq_true rfl) dL_act_130 ⟨by decide, by decide⟩) ?_
    have hx_5 := loZ_rg2 ((shZ v 8)) (4) (by omega)
    refine lv_istore (lv' := [(6, .int (iI (loZ (shZ v 8) 4))), (5, .int (iI (loZ (shZ v 5) 4))), (4, .int (iI ((((loZ (shZ v 4) 48) + 40) + (loZ (shZ v 7) 17)) % 48))), (3, .int (iI (loZ (shZ v 4) 48))), (2, .int (iI 0)), (0, .ref (ad 0)), (1, .int (iI v))]) M.1 M.2.1 dL_act_133 hl (by decide) rfl (fun ls hl => ?_)
    refine lv_iload_n M.1 M.2.1 dL_act_135 rfl (lv_at hl 4 rfl) ?_
    refine zi_if_eq (tgt := 146) M dL_act_136 (by decide) ⟨by decide, by decide⟩ (fun _ => ?_) (fun q => absurd q (by decide))
    refine lv_iload_n M.1 M.2.1 dL_act_146 rfl (lv_at hl 6 rfl) ?_
    refine zi_bipush M dL_act_147 ⟨by decide, by decide⟩ ?_
    refine zi_ishr M dL_act_149 ?_
    refine zi_bipush M dL_act_150 ⟨by decide, by decide⟩ ?_
    refine z_cR (z_runS (As := [.int (iI (shZ v 9)), .int (iI 60)]) (rest := []) M (c_L_low l D cy z0 (shZ v 9) 60 (by omega)) hE hS hAz trivial zk_cd_L_low zk_in_RL zk_st_L_low zk_ml_RL_105 rfl rfl zd_L_low ⟨by decide, by decide⟩ rfl hl.1 rfl (Nat.le_of_ble_eq_true rfl) dL_act_152 ⟨by decide, by decide⟩) ?_
    have hx_6 := loZ_rg2 ((shZ v 9)) (60) (by omega)
    refine lv_istore (lv' := [(7, .int (iI (loZ (shZ v 9) 60))), (6, .int (iI (loZ (shZ v 8) 4))), (5, .int (iI (loZ (shZ v 5) 4))), (4, .int (iI ((((loZ (shZ v 4) 48) + 40) + (loZ (shZ v 7) 17)) % 48))), (3, .int (iI (loZ (shZ v 4) 48))), (2, .int (iI 0)), (0, .ref (ad 0)), (1, .int (iI v))]) M.1 M.2.1 dL_act_155 hl (by decide) rfl (fun ls hl => ?_)
    refine lv_iload_n M.1 M.2.1 dL_act_157 rfl (lv_at hl 5 rfl) ?_
    refine zi_if_eq (tgt := 175) M dL_act_158 (by decide) ⟨by decide, by decide⟩ (fun _ => ?_) (fun q => absurd q (by decide))
    refine lv_iload_n M.1 M.2.1 dL_act_175 rfl (lv_at hl 7 rfl) ?_
    refine zi_bipush M dL_act_176 ⟨by decide, by decide⟩ ?_
    refine zi_ishr M dL_act_178 ?_
    refine zi_push M dL_act_179 ?_
    refine z_cR (z_runS (As := [.int (iI (shZ v 11)), .int (iI 3)]) (rest := []) M (c_L_low l D cy z0 (shZ v 11) 3 (by omega)) hE hS hAz trivial zk_cd_L_low zk_in_RL zk_st_L_low zk_ml_RL_105 rfl rfl zd_L_low ⟨by decide, by decide⟩ rfl hl.1 rfl (Nat.le_of_ble_eq_true rfl) dL_act_180 ⟨by decide, by decide⟩) ?_
    have hx_7 := loZ_rg2 ((shZ v 11)) (3) (by omega)
    refine lv_istore (lv' := [(8, .int (iI (loZ (shZ v 11) 3))), (7, .int (iI (loZ (shZ v 9) 60))), (6, .int (iI (loZ (shZ v 8) 4))), (5, .int (iI (loZ (shZ v 5) 4))), (4, .int (iI ((((loZ (shZ v 4) 48) + 40) + (loZ (shZ v 7) 17)) % 48))), (3, .int (iI (loZ (shZ v 4) 48))), (2, .int (iI 0)), (0, .ref (ad 0)), (1, .int (iI v))]) M.1 M.2.1 dL_act_183 hl (by decide) rfl (fun ls hl => ?_)
    refine lv_iload_n M.1 M.2.1 dL_act_185 rfl (lv_at hl 6 rfl) ?_
    refine zi_if_eq (tgt := 196) M dL_act_186 (by decide) ⟨by decide, by decide⟩ (fun _ => ?_) (fun q => absurd q (by decide))
    refine zi_bipush M dL_act_196 ⟨by decide, by decide⟩ ?_
    refine zi_bipush M dL_act_198 ⟨by decide, by decide⟩ ?_
    refine lv_iload_n M.1 M.2.1 dL_act_200 rfl (lv_at hl 8 rfl) ?_
    refine zi_bipush M dL_act_201 ⟨by decide, by decide⟩ ?_
    refine zi_ishr M dL_act_203 ?_
    refine zi_push M dL_act_204 ?_
    refine z_cR (z_runS (As := [.int (iI (shZ v 6)), .int (iI 5)]) (rest := [.int (iI 20), .int (iI 40)]) M (c_L_low l D cy z0 (shZ v 6) 5 (by omega)) hE hS hAz trivial zk_cd_L_low zk_in_RL zk_st_L_low zk_ml_RL_105 rfl rfl zd_L_low ⟨by decide, by decide⟩ rfl hl.1 rfl (Nat.le_of_ble_eq_true rfl) dL_act_205 ⟨by decide, by decide⟩) ?_
    have hx_8 := loZ_rg2 ((shZ v 6)) (5) (by omega)
    refine zi_imul M dL_act_208 ?_
    refine zi_iadd M dL_act_209 ?_
    refine lv_istore (lv' := [(9, .int (iI (40 + (20 * (loZ (shZ v 6) 5))))), (8, .int (iI (loZ (shZ v 11) 3))), (7, .int (iI (loZ (shZ v 9) 60))), (6, .int (iI (loZ (shZ v 8) 4))), (5, .int (iI (loZ (shZ v 5) 4))), (4, .int (iI ((((loZ (shZ v 4) 48) + 40) + (loZ (shZ v 7) 17)) % 48))), (3, .int (iI (loZ (shZ v 4) 48))), (2, .int (iI 0)), (0, .ref (ad 0)), (1, .int (iI v))]) M.1 M.2.1 dL_act_210 hl (by decide) rfl (fun ls hl => ?_)
    refine lv_iload_n M.1 M.2.1 dL_act_212 rfl (lv_at hl 9 rfl) ?_
    refine zi_bipush M dL_act_213 ⟨by decide, by decide⟩ ?_
    refine zi_ishr M dL_act_215 ?_
    refine zi_push M dL_act_216 ?_
    refine zi_iand M dL_act_217 ?_
    refine zi_push M dL_act_218 ?_
    refine zi_icmp_ne (tgt := 226) M dL_act_219 (by decide) (ndZ_rg _ _) ⟨by decide, by decide⟩ (fun cyi => ?_) (fun cyi => ?_)
    ·
      have e9 : isZ v = 0 := if_neg cyi
      rw [e9]
      refine zi_push M dL_act_226 ?_
      refine lv_istore (lv' := [(10, .int (iI 0)), (9, .int (iI (40 + (20 * (loZ (shZ v 6) 5))))), (8, .int (iI (loZ (shZ v 11) 3))), (7, .int (iI (loZ (shZ v 9) 60))), (6, .int (iI (loZ (shZ v 8) 4))), (5, .int (iI (loZ (shZ v 5) 4))), (4, .int (iI ((((loZ (shZ v 4) 48) + 40) + (loZ (shZ v 7) 17)) % 48))), (3, .int (iI (loZ (shZ v 4) 48))), (2, .int (iI 0)), (0, .ref (ad 0)), (1, .int (iI v))]) M.1 M.2.1 dL_act_227 hl (by decide) rfl (fun ls hl => ?_)
      refine lv_iload_n M.1 M.2.1 dL_act_229 rfl (lv_at hl 10 rfl) ?_
      refine zi_bipush M dL_act_230 ⟨by decide, by decide⟩ ?_
      refine z_cR (z_runS (As := [.int (iI v), .int (iI 42)]) (rest := []) M (c_L_low l D cy z0 v 42 (by omega)) hE hS hAz trivial zk_cd_L_low zk_in_RL zk_st_L_low zk_ml_RL_105 rfl rfl zd_L_low ⟨by decide, by decide⟩ rfl hl.1 rfl (Nat.le_of_ble_eq_true rfl) dL_act_232 ⟨by decide, by decide⟩) ?_
      have hx_9 := loZ_rg2 (v) (42) (by omega)
      have hk9 := loZ_rg2 v 42 (by decide)
      generalize loZ v 42 = k9 at hk9 ⊢
      rcases (by omega : k9 = 0 ∨ k9 = 1 ∨ k9 = 2 ∨ k9 = 3 ∨ k9 = 4 ∨ k9 = 5 ∨ k9 = 6 ∨ k9 = 7 ∨ k9 = 8 ∨ k9 = 9 ∨ k9 = 10 ∨ k9 = 11 ∨ k9 = 12 ∨ k9 = 13 ∨ k9 = 14 ∨ k9 = 15 ∨ k9 = 16 ∨ k9 = 17 ∨ k9 = 18 ∨ k9 = 19 ∨ k9 = 20 ∨ k9 = 21 ∨ k9 = 22 ∨ k9 = 23 ∨ k9 = 24 ∨ k9 = 25 ∨ k9 = 26 ∨ k9 = 27 ∨ k9 = 28 ∨ k9 = 29 ∨ k9 = 30 ∨ k9 = 31 ∨ k9 = 32 ∨ k9 = 33 ∨ k9 = 34 ∨ k9 = 35 ∨ k9 = 36 ∨ k9 = 37 ∨ k9 = 38 ∨ k9 = 39 ∨ k9 = 40 ∨ k9 = 41) with rfl | rfl | rfl | rfl | rfl | rfl | rfl | rfl | rfl | rfl | rfl | rfl | rfl | rfl | rfl | rfl | rfl | rfl | rfl | rfl | rfl | rfl | rfl | rfl | rfl | rfl | rfl | rfl | rfl | rfl | rfl | rfl | rfl | rfl | rfl | rfl | rfl | rfl | rfl | rfl | rfl | rfl
      ·
        refine lv_tableIn (off := 177) (tgt := 412) M.1 M.2.1 dL_act_235 (by decide) (by decide) rfl (by decide) ?_
        exact la_412_0 l hst D cy z0 ad σ ur v ((loZ (shZ v 4) 48)) (((((loZ (shZ v 4) 48) + 40) + (loZ (shZ v 7) 17)) % 48)) ((loZ (shZ v 5) 4)) ((loZ (shZ v 8) 4)) ((loZ (shZ v 9) 60)) ((loZ (shZ v 11) 3)) ((40 + (20 * (loZ (shZ v 6) 5)))) (0) r_v (by omega) (by omega) (by omega) (by omega) (by omega) (by omega) (by omega) (by omega) hI p e s m args below meth c M hr hlk hE hN hP0 ls (by omega) (lv_sub hl [9, 10, 8, 7, 6, 5, 4, 3, 2, 1, 0] rfl)
      ·
        refine lv_tableIn (off := 202) (tgt := 437) M.1 M.2.1 dL_act_235 (by decide) (by decide) rfl (by decide) ?_
        exact la_437_0 l hst D cy z0 ad σ ur v ((loZ (shZ v 4) 48)) (((((loZ (shZ v 4) 48) + 40) + (loZ (shZ v 7) 17)) % 48)) ((loZ (shZ v 5) 4)) ((loZ (shZ v 8) 4)) ((loZ (shZ v 9) 60)) ((loZ (shZ v 11) 3)) ((40 + (20 * (loZ (shZ v 6) 5)))) (0) r_v (by omega) (by omega) (by omega) (by omega) (by omega) (by omega) (by omega) (by omega) hI p e s m args below meth c M hr hlk hE hN hP0 ls (by omega) (lv_sub hl [9, 10, 8, 7, 6, 5, 4, 3, 2, 1, 0] rfl)
      ·
        refine lv_tableIn (off := 246) (tgt := 481) M.1 M.2.1 dL_act_235 (by decide) (by decide) rfl (by decide) ?_
        exact la_481_0 l hst D cy z0 ad σ ur v ((loZ (shZ v 4) 48)) (((((loZ (shZ v 4) 48) + 40) + (loZ (shZ v 7) 17)) % 48)) ((loZ (shZ v 5) 4)) ((loZ (shZ v 8) 4)) ((loZ (shZ v 9) 60)) ((loZ (shZ v 11) 3)) ((40 + (20 * (loZ (shZ v 6) 5)))) (0) r_v (by omega) (by omega) (by omega) (by omega) (by omega) (by omega) (by omega) (by omega) hI p e s m args below meth c M hr hlk hE hN hP0 ls (by omega) (lv_sub hl [9, 10, 8, 7, 6, 5, 4, 3, 2, 1, 0] rfl)
      ·
        refine lv_tableIn (off := 264) (tgt := 499) M.1 M.2.1 dL_act_235 (by decide) (by decide) rfl (by decide) ?_
        exact la_499_0 l hst D cy z0 ad σ ur v ((loZ (shZ v 4) 48)) (((((loZ (shZ v 4) 48) + 40) + (loZ (shZ v 7) 17)) % 48)) ((loZ (shZ v 5) 4)) ((loZ (shZ v 8) 4)) ((loZ (shZ v 9) 60)) ((loZ (shZ v 11) 3)) ((40 + (20 * (loZ (shZ v 6) 5)))) (0) r_v (by omega) (by omega) (by omega) (by omega) (by omega) (by omega) (by omega) (by omega) hI p e s m args below meth c M hr hlk hE hN hP0 ls (by omega) (lv_sub hl [9, 10, 8, 7, 6, 5, 4, 3, 2, 1, 0] rfl)
      ·
        refine lv_tableIn (off := 302) (tgt := 537) M.1 M.2.1 dL_act_235 (by decide) (by decide) rfl (by decide) ?_
        exact la_537_0 l hst D cy z0 ad σ ur v ((loZ (shZ v 4) 48)) (((((loZ (shZ v 4) 48) + 40) + (loZ (shZ v 7) 17)) % 48)) ((loZ (shZ v 5) 4)) ((loZ (shZ v 8) 4)) ((loZ (shZ v 9) 60)) ((loZ (shZ v 11) 3)) ((40 + (20 * (loZ (shZ v 6) 5)))) (0) r_v (by omega) (by omega) (by omega) (by omega) (by omega) (by omega) (by omega) (by omega) hI p e s m args below meth c M hr hlk hE hN hP0 ls (by omega) (lv_sub hl [9, 10, 8, 7, 6, 5, 4, 3, 2, 1, 0] rfl)
      ·
        refine lv_tableIn (off := 310) (tgt := 545) M.1 M.2.1 dL_act_235 (by decide) (by decide) rfl (by decide) ?_
        exact la_545_0 l hst D cy z0 ad σ ur v ((loZ (shZ v 4) 48)) (((((loZ (shZ v 4) 48) + 40) + (loZ (shZ v 7) 17)) % 48)) ((loZ (shZ v 5) 4)) ((loZ (shZ v 8) 4)) ((loZ (shZ v 9) 60)) ((loZ (shZ v 11) 3)) ((40 + (20 * (loZ (shZ v 6) 5)))) (0) r_v (by omega) (by omega) (by omega) (by omega) (by omega) (by omega) (by omega) (by omega) hI p e s m args below meth c M hr hlk hE hN hP0 ls (by omega) (lv_sub hl [9, 10, 8, 7, 6, 5, 4, 3, 2, 1, 0] rfl)
      ·
        refine lv_tableIn (off := 334) (tgt := 569) M.1 M.2.1 dL_act_235 (by decide) (by decide) rfl (by decide) ?_
        exact la_569_0 l hst D cy z0 ad σ ur v ((loZ (shZ v 4) 48)) (((((loZ (shZ v 4) 48) + 40) + (loZ (shZ v 7) 17)) % 48)) ((loZ (shZ v 5) 4)) ((loZ (shZ v 8) 4)) ((loZ (shZ v 9) 60)) ((loZ (shZ v 11) 3)) ((40 + (20 * (loZ (shZ v 6) 5)))) (0) r_v (by omega) (by omega) (by omega) (by omega) (by omega) (by omega) (by omega) (by omega) hI p e s m args below meth c M hr hlk hE hN hP0 ls (by omega) (lv_sub hl [9, 10, 8, 7, 6, 5, 4, 3, 2, 1, 0] rfl)
      ·
        refine lv_tableIn (off := 334) (tgt := 569) M.1 M.2.1 dL_act_235 (by decide) (by decide) rfl (by decide) ?_
        exact la_569_0 l hst D cy z0 ad σ ur v ((loZ (shZ v 4) 48)) (((((loZ (shZ v 4) 48) + 40) + (loZ (shZ v 7) 17)) % 48)) ((loZ (shZ v 5) 4)) ((loZ (shZ v 8) 4)) ((loZ (shZ v 9) 60)) ((loZ (shZ v 11) 3)) ((40 + (20 * (loZ (shZ v 6) 5)))) (0) r_v (by omega) (by omega) (by omega) (by omega) (by omega) (by omega) (by omega) (by omega) hI p e s m args below meth c M hr hlk hE hN hP0 ls (by omega) (lv_sub hl [9, 10, 8, 7, 6, 5, 4, 3, 2, 1, 0] rfl)
      ·
        refine lv_tableIn (off := 334) (tgt := 569) M.1 M.2.1 dL_act_235 (by decide) (by decide) rfl (by decide) ?_
        exact la_569_0 l hst D cy z0 ad σ ur v ((loZ (shZ v 4) 48)) (((((loZ (shZ v 4) 48) + 40) + (loZ (shZ v 7) 17)) % 48)) ((loZ (shZ v 5) 4)) ((loZ (shZ v 8) 4)) ((loZ (shZ v 9) 60)) ((loZ (shZ v 11) 3)) ((40 + (20 * (loZ (shZ v 6) 5)))) (0) r_v (by omega) (by omega) (by omega) (by omega) (by omega) (by omega) (by omega) (by omega) hI p e s m args below meth c M hr hlk hE hN hP0 ls (by omega) (lv_sub hl [9, 10, 8, 7, 6, 5, 4, 3, 2, 1, 0] rfl)
      ·
        refine lv_tableIn (off := 334) (tgt := 569) M.1 M.2.1 dL_act_235 (by decide) (by decide) rfl (by decide) ?_
        exact la_569_0 l hst D cy z0 ad σ ur v ((loZ (shZ v 4) 48)) (((((loZ (shZ v 4) 48) + 40) + (loZ (shZ v 7) 17)) % 48)) ((loZ (shZ v 5) 4)) ((loZ (shZ v 8) 4)) ((loZ (shZ v 9) 60)) ((loZ (shZ v 11) 3)) ((40 + (20 * (loZ (shZ v 6) 5)))) (0) r_v (by omega) (by omega) (by omega) (by omega) (by omega) (by omega) (by omega) (by omega) hI p e s m args below meth c M hr hlk hE hN hP0 ls (by omega) (lv_sub hl [9, 10, 8, 7, 6, 5, 4, 3, 2, 1, 0] rfl)
      ·
        refine lv_tableIn (off := 358) (tgt := 593) M.1 M.2.1 dL_act_235 (by decide) (by decide) rfl (by decide) ?_
        exact la_593_0 l hst D cy z0 ad σ ur v ((loZ (shZ v 4) 48)) (((((loZ (shZ v 4) 48) + 40) + (loZ (shZ v 7) 17)) % 48)) ((loZ (shZ v 5) 4)) ((loZ (shZ v 8) 4)) ((loZ (shZ v 9) 60)) ((loZ (shZ v 11) 3)) ((40 + (20 * (loZ (shZ v 6) 5)))) (0) r_v (by omega) (by omega) (by omega) (by omega) (by omega) (by omega) (by omega) (by omega) hI p e s m args below meth c M hr hlk hE hN hP0 ls (by omega) (lv_sub hl [9, 10, 8, 7, 6, 5, 4, 3, 2, 1, 0] rfl)
      ·
        refine lv_tableIn (off := 358) (tgt := 593) M.1 M.2.1 dL_act_235 (by decide) (by decide) rfl (by decide) ?_
        exact la_593_0 l hst D cy z0 ad σ ur v ((loZ (shZ v 4) 48)) (((((loZ (shZ v 4) 48) + 40) + (loZ (shZ v 7) 17)) % 48)) ((loZ (shZ v 5) 4)) ((loZ (shZ v 8) 4)) ((loZ (shZ v 9) 60)) ((loZ (shZ v 11) 3)) ((40 + (20 * (loZ (shZ v 6) 5)))) (0) r_v (by omega) (by omega) (by omega) (by omega) (by omega) (by omega) (by omega) (by omega) hI p e s m args below meth c M hr hlk hE hN hP0 ls (by omega) (lv_sub hl [9, 10, 8, 7, 6, 5, 4, 3, 2, 1, 0] rfl)
      ·
        refine lv_tableIn (off := 358) (tgt := 593) M.1 M.2.1 dL_act_235 (by decide) (by decide) rfl (by decide) ?_
        exact la_593_0 l hst D cy z0 ad σ ur v ((loZ (shZ v 4) 48)) (((((loZ (shZ v 4) 48) + 40) + (loZ (shZ v 7) 17)) % 48)) ((loZ (shZ v 5) 4)) ((loZ (shZ v 8) 4)) ((loZ (shZ v 9) 60)) ((loZ (shZ v 11) 3)) ((40 + (20 * (loZ (shZ v 6) 5)))) (0) r_v (by omega) (by omega) (by omega) (by omega) (by omega) (by omega) (by omega) (by omega) hI p e s m args below meth c M hr hlk hE hN hP0 ls (by omega) (lv_sub hl [9, 10, 8, 7, 6, 5, 4, 3, 2, 1, 0] rfl)
      ·
        refine lv_tableIn (off := 358) (tgt := 593) M.1 M.2.1 dL_act_235 (by decide) (by decide) rfl (by decide) ?_
        exact la_593_0 l hst D cy z0 ad σ ur v ((loZ (shZ v 4) 48)) (((((loZ (shZ v 4) 48) + 40) + (loZ (shZ v 7) 17)) % 48)) ((loZ (shZ v 5) 4)) ((loZ (shZ v 8) 4)) ((loZ (shZ v 9) 60)) ((loZ (shZ v 11) 3)) ((40 + (20 * (loZ (shZ v 6) 5)))) (0) r_v (by omega) (by omega) (by omega) (by omega) (by omega) (by omega) (by omega) (by omega) hI p e s m args below meth c M hr hlk hE hN hP0 ls (by omega) (lv_sub hl [9, 10, 8, 7, 6, 5, 4, 3, 2, 1, 0] rfl)
      ·
        refine lv_tableIn (off := 358) (tgt := 593) M.1 M.2.1 dL_act_235 (by decide) (by decide) rfl (by decide) ?_
        exact la_593_0 l hst D cy z0 ad σ ur v ((loZ (shZ v 4) 48)) (((((loZ (shZ v 4) 48) + 40) + (loZ (shZ v 7) 17)) % 48)) ((loZ (shZ v 5) 4)) ((loZ (shZ v 8) 4)) ((loZ (shZ v 9) 60)) ((loZ (shZ v 11) 3)) ((40 + (20 * (loZ (shZ v 6) 5)))) (0) r_v (by omega) (by omega) (by omega) (by omega) (by omega) (by omega) (by omega) (by omega) hI p e s m args below meth c M hr hlk hE hN hP0 ls (by omega) (lv_sub hl [9, 10, 8, 7, 6, 5, 4, 3, 2, 1, 0] rfl)
      ·
        refine lv_tableIn (off := 417) (tgt := 652) M.1 M.2.1 dL_act_235 (by decide) (by decide) rfl (by decide) ?_
        exact la_652_0 l hst D cy z0 ad σ ur v ((loZ (shZ v 4) 48)) (((((loZ (shZ v 4) 48) + 40) + (loZ (shZ v 7) 17)) % 48)) ((loZ (shZ v 5) 4)) ((loZ (shZ v 8) 4)) ((loZ (shZ v 9) 60)) ((loZ (shZ v 11) 3)) ((40 + (20 * (loZ (shZ v 6) 5)))) (0) r_v (by omega) (by omega) (by omega) (by omega) (by omega) (by omega) (by omega) (by omega) hI p e s m args below meth c M hr hlk hE hN hP0 ls (by omega) (lv_sub hl [9, 10, 8, 7, 6, 5, 4, 3, 2, 1, 0] rfl)
      ·
        refine lv_tableIn (off := 417) (tgt := 652) M.1 M.2.1 dL_act_235 (by decide) (by decide) rfl (by decide) ?_
        exact la_652_0 l hst D cy z0 ad σ ur v ((loZ (shZ v 4) 48)) (((((loZ (shZ v 4) 48) + 40) + (loZ (shZ v 7) 17)) % 48)) ((loZ (shZ v 5) 4)) ((loZ (shZ v 8) 4)) ((loZ (shZ v 9) 60)) ((loZ (shZ v 11) 3)) ((40 + (20 * (loZ (shZ v 6) 5)))) (0) r_v (by omega) (by omega) (by omega) (by omega) (by omega) (by omega) (by omega) (by omega) hI p e s m args below meth c M hr hlk hE hN hP0 ls (by omega) (lv_sub hl [9, 10, 8, 7, 6, 5, 4, 3, 2, 1, 0] rfl)
      ·
        refine lv_tableIn (off := 439) (tgt := 674) M.1 M.2.1 dL_act_235 (by decide) (by decide) rfl (by decide) ?_
        exact la_674_0 l hst D cy z0 ad σ ur v ((loZ (shZ v 4) 48)) (((((loZ (shZ v 4) 48) + 40) + (loZ (shZ v 7) 17)) % 48)) ((loZ (shZ v 5) 4)) ((loZ (shZ v 8) 4)) ((loZ (shZ v 9) 60)) ((loZ (shZ v 11) 3)) ((40 + (20 * (loZ (shZ v 6) 5)))) (0) r_v (by omega) (by omega) (by omega) (by omega) (by omega) (by omega) (by omega) (by omega) hI p e s m args below meth c M hr hlk hE hN hP0 ls (by omega) (lv_sub hl [9, 10, 8, 7, 6, 5, 4, 3, 2, 1, 0] rfl)
      ·
        refine lv_tableIn (off := 439) (tgt := 674) M.1 M.2.1 dL_act_235 (by decide) (by decide) rfl (by decide) ?_
        exact la_674_0 l hst D cy z0 ad σ ur v ((loZ (shZ v 4) 48)) (((((loZ (shZ v 4) 48) + 40) + (loZ (shZ v 7) 17)) % 48)) ((loZ (shZ v 5) 4)) ((loZ (shZ v 8) 4)) ((loZ (shZ v 9) 60)) ((loZ (shZ v 11) 3)) ((40 + (20 * (loZ (shZ v 6) 5)))) (0) r_v (by omega) (by omega) (by omega) (by omega) (by omega) (by omega) (by omega) (by omega) hI p e s m args below meth c M hr hlk hE hN hP0 ls (by omega) (lv_sub hl [9, 10, 8, 7, 6, 5, 4, 3, 2, 1, 0] rfl)
      ·
        refine lv_tableIn (off := 439) (tgt := 674) M.1 M.2.1 dL_act_235 (by decide) (by decide) rfl (by decide) ?_
        exact la_674_0 l hst D cy z0 ad σ ur v ((loZ (shZ v 4) 48)) (((((loZ (shZ v 4) 48) + 40) + (loZ (shZ v 7) 17)) % 48)) ((loZ (shZ v 5) 4)) ((loZ (shZ v 8) 4)) ((loZ (shZ v 9) 60)) ((loZ (shZ v 11) 3)) ((40 + (20 * (loZ (shZ v 6) 5)))) (0) r_v (by omega) (by omega) (by omega) (by omega) (by omega) (by omega) (by omega) (by omega) hI p e s m args below meth c M hr hlk hE hN hP0 ls (by omega) (lv_sub hl [9, 10, 8, 7, 6, 5, 4, 3, 2, 1, 0] rfl)
      ·
        refine lv_tableIn (off := 439) (tgt := 674) M.1 M.2.1 dL_act_235 (by decide) (by decide) rfl (by decide) ?_
        exact la_674_0 l hst D cy z0 ad σ ur v ((loZ (shZ v 4) 48)) (((((loZ (shZ v 4) 48) + 40) + (loZ (shZ v 7) 17)) % 48)) ((loZ (shZ v 5) 4)) ((loZ (shZ v 8) 4)) ((loZ (shZ v 9) 60)) ((loZ (shZ v 11) 3)) ((40 + (20 * (loZ (shZ v 6) 5)))) (0) r_v (by omega) (by omega) (by omega) (by omega) (by omega) (by omega) (by omega) (by omega) hI p e s m args below meth c M hr hlk hE hN hP0 ls (by omega) (lv_sub hl [9, 10, 8, 7, 6, 5, 4, 3, 2, 1, 0] rfl)
      ·
        refine lv_tableIn (off := 439) (tgt := 674) M.1 M.2.1 dL_act_235 (by decide) (by decide) rfl (by decide) ?_
        exact la_674_0 l hst D cy z0 ad σ ur v ((loZ (shZ v 4) 48)) (((((loZ (shZ v 4) 48) + 40) + (loZ (shZ v 7) 17)) % 48)) ((loZ (shZ v 5) 4)) ((loZ (shZ v 8) 4)) ((loZ (shZ v 9) 60)) ((loZ (shZ v 11) 3)) ((40 + (20 * (loZ (shZ v 6) 5)))) (0) r_v (by omega) (by omega) (by omega) (by omega) (by omega) (by omega) (by omega) (by omega) hI p e s m args below meth c M hr hlk hE hN hP0 ls (by omega) (lv_sub hl [9, 10, 8, 7, 6, 5, 4, 3, 2, 1, 0] rfl)
      ·
        refine lv_tableIn (off := 469) (tgt := 704) M.1 M.2.1 dL_act_235 (by decide) (by decide) rfl (by decide) ?_
        exact la_704_0 l hst D cy z0 ad σ ur v ((loZ (shZ v 4) 48)) (((((loZ (shZ v 4) 48) + 40) + (loZ (shZ v 7) 17)) % 48)) ((loZ (shZ v 5) 4)) ((loZ (shZ v 8) 4)) ((loZ (shZ v 9) 60)) ((loZ (shZ v 11) 3)) ((40 + (20 * (loZ (shZ v 6) 5)))) (0) r_v (by omega) (by omega) (by omega) (by omega) (by omega) (by omega) (by omega) (by omega) hI p e s m args below meth c M hr hlk hE hN hP0 ls (by omega) (lv_sub hl [9, 10, 8, 7, 6, 5, 4, 3, 2, 1, 0] rfl)
      ·
        refine lv_tableIn (off := 469) (tgt := 704) M.1 M.2.1 dL_act_235 (by decide) (by decide) rfl (by decide) ?_
        exact la_704_0 l hst D cy z0 ad σ ur v ((loZ (shZ v 4) 48)) (((((loZ (shZ v 4) 48) + 40) + (loZ (shZ v 7) 17)) % 48)) ((loZ (shZ v 5) 4)) ((loZ (shZ v 8) 4)) ((loZ (shZ v 9) 60)) ((loZ (shZ v 11) 3)) ((40 + (20 * (loZ (shZ v 6) 5)))) (0) r_v (by omega) (by omega) (by omega) (by omega) (by omega) (by omega) (by omega) (by omega) hI p e s m args below meth c M hr hlk hE hN hP0 ls (by omega) (lv_sub hl [9, 10, 8, 7, 6, 5, 4, 3, 2, 1, 0] rfl)
      ·
        refine lv_tableIn (off := 469) (tgt := 704) M.1 M.2.1 dL_act_235 (by decide) (by decide) rfl (by decide) ?_
        exact la_704_0 l hst D cy z0 ad σ ur v ((loZ (shZ v 4) 48)) (((((loZ (shZ v 4) 48) + 40) + (loZ (shZ v 7) 17)) % 48)) ((loZ (shZ v 5) 4)) ((loZ (shZ v 8) 4)) ((loZ (shZ v 9) 60)) ((loZ (shZ v 11) 3)) ((40 + (20 * (loZ (shZ v 6) 5)))) (0) r_v (by omega) (by omega) (by omega) (by omega) (by omega) (by omega) (by omega) (by omega) hI p e s m args below meth c M hr hlk hE hN hP0 ls (by omega) (lv_sub hl [9, 10, 8, 7, 6, 5, 4, 3, 2, 1, 0] rfl)
      ·
        refine lv_tableIn (off := 469) (tgt := 704) M.1 M.2.1 dL_act_235 (by decide) (by decide) rfl (by decide) ?_
        exact la_704_0 l hst D cy z0 ad σ ur v ((loZ (shZ v 4) 48)) (((((loZ (shZ v 4) 48) + 40) + (loZ (shZ v 7) 17)) % 48)) ((loZ (shZ v 5) 4)) ((loZ (shZ v 8) 4)) ((loZ (shZ v 9) 60)) ((loZ (shZ v 11) 3)) ((40 + (20 * (loZ (shZ v 6) 5)))) (0) r_v (by omega) (by omega) (by omega) (by omega) (by omega) (by omega) (by omega) (by omega) hI p e s m args below meth c M hr hlk hE hN hP0 ls (by omega) (lv_sub hl [9, 10, 8, 7, 6, 5, 4, 3, 2, 1, 0] rfl)
      ·
        refine lv_tableIn (off := 469) (tgt := 704) M.1 M.2.1 dL_act_235 (by decide) (by decide) rfl (by decide) ?_
        exact la_704_0 l hst D cy z0 ad σ ur v ((loZ (shZ v 4) 48)) (((((loZ (shZ v 4) 48) + 40) + (loZ (shZ v 7) 17)) % 48)) ((loZ (shZ v 5) 4)) ((loZ (shZ v 8) 4)) ((loZ (shZ v 9) 60)) ((loZ (shZ v 11) 3)) ((40 + (20 * (loZ (shZ v 6) 5)))) (0) r_v (by omega) (by omega) (by omega) (by omega) (by omega) (by omega) (by omega) (by omega) hI p e s m args below meth c M hr hlk hE hN hP0 ls (by omega) (lv_sub hl [9, 10, 8, 7, 6, 5, 4, 3, 2, 1, 0] rfl)
      ·
        refine lv_tableIn (off := 469) (tgt := 704) M.1 M.2.1 dL_act_235 (by decide) (by decide) rfl (by decide) ?_
        exact la_704_0 l hst D cy z0 ad σ ur v ((loZ (shZ v 4) 48)) (((((loZ (shZ v 4) 48) + 40) + (loZ (shZ v 7) 17)) % 48)) ((loZ (shZ v 5) 4)) ((loZ (shZ v 8) 4)) ((loZ (shZ v 9) 60)) ((loZ (shZ v 11) 3)) ((40 + (20 * (loZ (shZ v 6) 5)))) (0) r_v (by omega) (by omega) (by omega) (by omega) (by omega) (by omega) (by omega) (by omega) hI p e s m args below meth c M hr hlk hE hN hP0 ls (by omega) (lv_sub hl [9, 10, 8, 7, 6, 5, 4, 3, 2, 1, 0] rfl)
      ·
        refine lv_tableIn (off := 480) (tgt := 715) M.1 M.2.1 dL_act_235 (by decide) (by decide) rfl (by decide) ?_
        exact la_715_0 l hst D cy z0 ad σ ur v ((loZ (shZ v 4) 48)) (((((loZ (shZ v 4) 48) + 40) + (loZ (shZ v 7) 17)) % 48)) ((loZ (shZ v 5) 4)) ((loZ (shZ v 8) 4)) ((loZ (shZ v 9) 60)) ((loZ (shZ v 11) 3)) ((40 + (20 * (loZ (shZ v 6) 5)))) (0) r_v (by omega) (by omega) (by omega) (by omega) (by omega) (by omega) (by omega) (by omega) hI p e s m args below meth c M hr hlk hE hN hP0 ls (by omega) (lv_sub hl [9, 10, 8, 7, 6, 5, 4, 3, 2, 1, 0] rfl)
      ·
        refine lv_tableIn (off := 486) (tgt := 721) M.1 M.2.1 dL_act_235 (by decide) (by decide) rfl (by decide) ?_
        exact la_721_0 l hst D cy z0 ad σ ur v ((loZ (shZ v 4) 48)) (((((loZ (shZ v 4) 48) + 40) + (loZ (shZ v 7) 17)) % 48)) ((loZ (shZ v 5) 4)) ((loZ (shZ v 8) 4)) ((loZ (shZ v 9) 60)) ((loZ (shZ v 11) 3)) ((40 + (20 * (loZ (shZ v 6) 5)))) (0) r_v (by omega) (by omega) (by omega) (by omega) (by omega) (by omega) (by omega) (by omega) hI p e s m args below meth c M hr hlk hE hN hP0 ls (by omega) (lv_sub hl [9, 10, 8, 7, 6, 5, 4, 3, 2, 1, 0] rfl)
      ·
        refine lv_tableIn (off := 510) (tgt := 745) M.1 M.2.1 dL_act_235 (by decide) (by decide) rfl (by decide) ?_
        exact la_745_0 l hst D cy z0 ad σ ur v ((loZ (shZ v 4) 48)) (((((loZ (shZ v 4) 48) + 40) + (loZ (shZ v 7) 17)) % 48)) ((loZ (shZ v 5) 4)) ((loZ (shZ v 8) 4)) ((loZ (shZ v 9) 60)) ((loZ (shZ v 11) 3)) ((40 + (20 * (loZ (shZ v 6) 5)))) (0) r_v (by omega) (by omega) (by omega) (by omega) (by omega) (by omega) (by omega) (by omega) hI p e s m args below meth c M hr hlk hE hN hP0 ls (by omega) (lv_sub hl [9, 10, 8, 7, 6, 5, 4, 3, 2, 1, 0] rfl)
      ·
        refine lv_tableIn (off := 518) (tgt := 753) M.1 M.2.1 dL_act_235 (by decide) (by decide) rfl (by decide) ?_
        exact la_753_0 l hst D cy z0 ad σ ur v ((loZ (shZ v 4) 48)) (((((loZ (shZ v 4) 48) + 40) + (loZ (shZ v 7) 17)) % 48)) ((loZ (shZ v 5) 4)) ((loZ (shZ v 8) 4)) ((loZ (shZ v 9) 60)) ((loZ (shZ v 11) 3)) ((40 + (20 * (loZ (shZ v 6) 5)))) (0) r_v (by omega) (by omega) (by omega) (by omega) (by omega) (by omega) (by omega) (by omega) hI p e s m args below meth c M hr hlk hE hN hP0 ls (by omega) (lv_sub hl [9, 10, 8, 7, 6, 5, 4, 3, 2, 1, 0] rfl)
      ·
        refine lv_tableIn (off := 568) (tgt := 803) M.1 M.2.1 dL_act_235 (by decide) (by decide) rfl (by decide) ?_
        exact la_803_0 l hst D cy z0 ad σ ur v ((loZ (shZ v 4) 48)) (((((loZ (shZ v 4) 48) + 40) + (loZ (shZ v 7) 17)) % 48)) ((loZ (shZ v 5) 4)) ((loZ (shZ v 8) 4)) ((loZ (shZ v 9) 60)) ((loZ (shZ v 11) 3)) ((40 + (20 * (loZ (shZ v 6) 5)))) (0) r_v (by omega) (by omega) (by omega) (by omega) (by omega) (by omega) (by omega) (by omega) hI p e s m args below meth c M hr hlk hE hN hP0 ls (by omega) (lv_sub hl [9, 10, 8, 7, 6, 5, 4, 3, 2, 1, 0] rfl)
      ·
        refine lv_tableIn (off := 592) (tgt := 827) M.1 M.2.1 dL_act_235 (by decide) (by decide) rfl (by decide) ?_
        exact la_827_0 l hst D cy z0 ad σ ur v ((loZ (shZ v 4) 48)) (((((loZ (shZ v 4) 48) + 40) + (loZ (shZ v 7) 17)) % 48)) ((loZ (shZ v 5) 4)) ((loZ (shZ v 8) 4)) ((loZ (shZ v 9) 60)) ((loZ (shZ v 11) 3)) ((40 + (20 * (loZ (shZ v 6) 5)))) (0) r_v (by omega) (by omega) (by omega) (by omega) (by omega) (by omega) (by omega) (by omega) hI p e s m args below meth c M hr hlk hE hN hP0 ls (by omega) (lv_sub hl [9, 10, 8, 7, 6, 5, 4, 3, 2, 1, 0] rfl)
      ·
        refine lv_tableIn (off := 644) (tgt := 879) M.1 M.2.1 dL_act_235 (by decide) (by decide) rfl (by decide) ?_
        exact la_879_0 l hst D cy z0 ad σ ur v ((loZ (shZ v 4) 48)) (((((loZ (shZ v 4) 48) + 40) + (loZ (shZ v 7) 17)) % 48)) ((loZ (shZ v 5) 4)) ((loZ (shZ v 8) 4)) ((loZ (shZ v 9) 60)) ((loZ (shZ v 11) 3)) ((40 + (20 * (loZ (shZ v 6) 5)))) (0) r_v (by omega) (by omega) (by omega) (by omega) (by omega) (by omega) (by omega) (by omega) hI p e s m args below meth c M hr hlk hE hN hP0 ls (by omega) (lv_sub hl [9, 10, 8, 7, 6, 5, 4, 3, 2, 1, 0] rfl)
      ·
        refine lv_tableIn (off := 677) (tgt := 912) M.1 M.2.1 dL_act_235 (by decide) (by decide) rfl (by decide) ?_
        exact la_912_0 l hst D cy z0 ad σ ur v ((loZ (shZ v 4) 48)) (((((loZ (shZ v 4) 48) + 40) + (loZ (shZ v 7) 17)) % 48)) ((loZ (shZ v 5) 4)) ((loZ (shZ v 8) 4)) ((loZ (shZ v 9) 60)) ((loZ (shZ v 11) 3)) ((40 + (20 * (loZ (shZ v 6) 5)))) (0) r_v (by omega) (by omega) (by omega) (by omega) (by omega) (by omega) (by omega) (by omega) hI p e s m args below meth c M hr hlk hE hN hP0 ls (by omega) (lv_sub hl [9, 10, 8, 7, 6, 5, 4, 3, 2, 1, 0] rfl)
      ·
        refine lv_tableIn (off := 721) (tgt := 956) M.1 M.2.1 dL_act_235 (by decide) (by decide) rfl (by decide) ?_
        exact la_956_0 l hst D cy z0 ad σ ur v ((loZ (shZ v 4) 48)) (((((loZ (shZ v 4) 48) + 40) + (loZ (shZ v 7) 17)) % 48)) ((loZ (shZ v 5) 4)) ((loZ (shZ v 8) 4)) ((loZ (shZ v 9) 60)) ((loZ (shZ v 11) 3)) ((40 + (20 * (loZ (shZ v 6) 5)))) (0) r_v (by omega) (by omega) (by omega) (by omega) (by omega) (by omega) (by omega) (by omega) hI p e s m args below meth c M hr hlk hE hN hP0 ls (by omega) (lv_sub hl [9, 10, 8, 7, 6, 5, 4, 3, 2, 1, 0] rfl)
      ·
        refine lv_tableIn (off := 732) (tgt := 967) M.1 M.2.1 dL_act_235 (by decide) (by decide) rfl (by decide) ?_
        exact la_967_0 l hst D cy z0 ad σ ur v ((loZ (shZ v 4) 48)) (((((loZ (shZ v 4) 48) + 40) + (loZ (shZ v 7) 17)) % 48)) ((loZ (shZ v 5) 4)) ((loZ (shZ v 8) 4)) ((loZ (shZ v 9) 60)) ((loZ (shZ v 11) 3)) ((40 + (20 * (loZ (shZ v 6) 5)))) (0) r_v (by omega) (by omega) (by omega) (by omega) (by omega) (by omega) (by omega) (by omega) hI p e s m args below meth c M hr hlk hE hN hP0 ls (by omega) (lv_sub hl [9, 10, 8, 7, 6, 5, 4, 3, 2, 1, 0] rfl)
      ·
        refine lv_tableIn (off := 756) (tgt := 991) M.1 M.2.1 dL_act_235 (by decide) (by decide) rfl (by decide) ?_
        exact la_991_0 l hst D cy z0 ad σ ur v ((loZ (shZ v 4) 48)) (((((loZ (shZ v 4) 48) + 40) + (loZ (shZ v 7) 17)) % 48)) ((loZ (shZ v 5) 4)) ((loZ (shZ v 8) 4)) ((loZ (shZ v 9) 60)) ((loZ (shZ v 11) 3)) ((40 + (20 * (loZ (shZ v 6) 5)))) (0) r_v (by omega) (by omega) (by omega) (by omega) (by omega) (by omega) (by omega) (by omega) hI p e s m args below meth c M hr hlk hE hN hP0 ls (by omega) (lv_sub hl [9, 10, 8, 7, 6, 5, 4, 3, 2, 1, 0] rfl)
      ·
        refine lv_tableIn (off := 756) (tgt := 991) M.1 M.2.1 dL_act_235 (by decide) (by decide) rfl (by decide) ?_
        exact la_991_0 l hst D cy z0 ad σ ur v ((loZ (shZ v 4) 48)) (((((loZ (shZ v 4) 48) + 40) + (loZ (shZ v 7) 17)) % 48)) ((loZ (shZ v 5) 4)) ((loZ (shZ v 8) 4)) ((loZ (shZ v 9) 60)) ((loZ (shZ v 11) 3)) ((40 + (20 * (loZ (shZ v 6) 5)))) (0) r_v (by omega) (by omega) (by omega) (by omega) (by omega) (by omega) (by omega) (by omega) hI p e s m args below meth c M hr hlk hE hN hP0 ls (by omega) (lv_sub hl [9, 10, 8, 7, 6, 5, 4, 3, 2, 1, 0] rfl)
      ·
        refine lv_tableIn (off := 796) (tgt := 1031) M.1 M.2.1 dL_act_235 (by decide) (by decide) rfl (by decide) ?_
        exact la_1031_0 l hst D cy z0 ad σ ur v ((loZ (shZ v 4) 48)) (((((loZ (shZ v 4) 48) + 40) + (loZ (shZ v 7) 17)) % 48)) ((loZ (shZ v 5) 4)) ((loZ (shZ v 8) 4)) ((loZ (shZ v 9) 60)) ((loZ (shZ v 11) 3)) ((40 + (20 * (loZ (shZ v 6) 5)))) (0) r_v (by omega) (by omega) (by omega) (by omega) (by omega) (by omega) (by omega) (by omega) hI p e s m args below meth c M hr hlk hE hN hP0 ls (by omega) (lv_sub hl [9, 10, 8, 7, 6, 5, 4, 3, 2, 1, 0] rfl)
      ·
        refine lv_tableOut (tgt := 1038) M.1 M.2.1 dL_act_235 (by decide) (by decide) ?_
        exact la_1038_0 l hst D cy z0 ad σ ur v ((loZ (shZ v 4) 48)) (((((loZ (shZ v 4) 48) + 40) + (loZ (shZ v 7) 17)) % 48)) ((loZ (shZ v 5) 4)) ((loZ (shZ v 8) 4)) ((loZ (shZ v 9) 60)) ((loZ (shZ v 11) 3)) ((40 + (20 * (loZ (shZ v 6) 5)))) (0) r_v (by omega) (by omega) (by omega) (by omega) (by omega) (by omega) (by omega) (by omega) hI p e s m args below meth c M hr hlk hE hN hP0 ls (by omega) (lv_sub hl [9, 10, 8, 7, 6, 5, 4, 3, 2, 1, 0] rfl)
    ·
      have e9 : isZ v = 1 := if_pos cyi
      rw [e9]
      refine zi_push M dL_act_222 ?_
      refine zi_goto (tgt := 227) M dL_act_223 (by decide) ?_
      refine lv_istore (lv' := [(10, .int (iI 1)), (9, .int (iI (40 + (20 * (loZ (shZ v 6) 5))))), (8, .int (iI (loZ (shZ v 11) 3))), (7, .int (iI (loZ (shZ v 9) 60))), (6, .int (iI (loZ (shZ v 8) 4))), (5, .int (iI (loZ (shZ v 5) 4))), (4, .int (iI ((((loZ (shZ v 4) 48) + 40) + (loZ (shZ v 7) 17)) % 48))), (3, .int (iI (loZ (shZ v 4) 48))), (2, .int (iI 0)), (0, .ref (ad 0)), (1, .int (iI v))]) M.1 M.2.1 dL_act_227 hl (by decide) rfl (fun ls hl => ?_)
      refine lv_iload_n M.1 M.2.1 dL_act_229 rfl (lv_at hl 10 rfl) ?_
      refine zi_bipush M dL_act_230 ⟨by decide, by decide⟩ ?_
      refine z_cR (z_runS (As := [.int (iI v), .int (iI 42)]) (rest := []) M (c_L_low l D cy z0 v 42 (by omega)) hE hS hAz trivial zk_cd_L_low zk_in_RL zk_st_L_low zk_ml_RL_105 rfl rfl zd_L_low ⟨by decide, by decide⟩ rfl hl.1 rfl (Nat.le_of_ble_eq_true rfl) dL_act_232 ⟨by decide, by decide⟩) ?_
      have hx_10 := loZ_rg2 (v) (42) (by omega)
      have hk9 := loZ_rg2 v 42 (by decide)
      generalize loZ v 42 = k9 at hk9 ⊢
      rcases (by omega : k9 = 0 ∨ k9 = 1 ∨ k9 = 2 ∨ k9 = 3 ∨ k9 = 4 ∨ k9 = 5 ∨ k9 = 6 ∨ k9 = 7 ∨ k9 = 8 ∨ k9 = 9 ∨ k9 = 10 ∨ k9 = 11 ∨ k9 = 12 ∨ k9 = 13 ∨ k9 = 14 ∨ k9 = 15 ∨ k9 = 16 ∨ k9 = 17 ∨ k9 = 18 ∨ k9 = 19 ∨ k9 = 20 ∨ k9 = 21 ∨ k9 = 22 ∨ k9 = 23 ∨ k9 = 24 ∨ k9 = 25 ∨ k9 = 26 ∨ k9 = 27 ∨ k9 = 28 ∨ k9 = 29 ∨ k9 = 30 ∨ k9 = 31 ∨ k9 = 32 ∨ k9 = 33 ∨ k9 = 34 ∨ k9 = 35 ∨ k9 = 36 ∨ k9 = 37 ∨ k9 = 38 ∨ k9 = 39 ∨ k9 = 40 ∨ k9 = 41) with rfl | rfl | rfl | rfl | rfl | rfl | rfl | rfl | rfl | rfl | rfl | rfl | rfl | rfl | rfl | rfl | rfl | rfl | rfl | rfl | rfl | rfl | rfl | rfl | rfl | rfl | rfl | rfl | rfl | rfl | rfl | rfl | rfl | rfl | rfl | rfl | rfl | rfl | rfl | rfl | rfl | rfl
      ·
        refine lv_tableIn (off := 177) (tgt := 412) M.1 M.2.1 dL_act_235 (by decide) (by decide) rfl (by decide) ?_
        exact la_412_0 l hst D cy z0 ad σ ur v ((loZ (shZ v 4) 48)) (((((loZ (shZ v 4) 48) + 40) + (loZ (shZ v 7) 17)) % 48)) ((loZ (shZ v 5) 4)) ((loZ (shZ v 8) 4)) ((loZ (shZ v 9) 60)) ((loZ (shZ v 11) 3)) ((40 + (20 * (loZ (shZ v 6) 5)))) (1) r_v (by omega) (by omega) (by omega) (by omega) (by omega) (by omega) (by omega) (by omega) hI p e s m args below meth c M hr hlk hE hN hP0 ls (by omega) (lv_sub hl [9, 10, 8, 7, 6, 5, 4, 3, 2, 1, 0] rfl)
      ·
        refine lv_tableIn (off := 202) (tgt := 437) M.1 M.2.1 dL_act_235 (by decide) (by decide) rfl (by decide) ?_
        exact la_437_0 l hst D cy z0 ad σ ur v ((loZ (shZ v 4) 48)) (((((loZ (shZ v 4) 48) + 40) + (loZ (shZ v 7) 17)) % 48)) ((loZ (shZ v 5) 4)) ((loZ (shZ v 8) 4)) ((loZ (shZ v 9) 60)) ((loZ (shZ v 11) 3)) ((40 + (20 * (loZ (shZ v 6) 5)))) (1) r_v (by omega) (by omega) (by omega) (by omega) (by omega) (by omega) (by omega) (by omega) hI p e s m args below meth c M hr hlk hE hN hP0 ls (by omega) (lv_sub hl [9, 10, 8, 7, 6, 5, 4, 3, 2, 1, 0] rfl)
      ·
        refine lv_tableIn (off := 246) (tgt := 481) M.1 M.2.1 dL_act_235 (by decide) (by decide) rfl (by decide) ?_
        exact la_481_0 l hst D cy z0 ad σ ur v ((loZ (shZ v 4) 48)) (((((loZ (shZ v 4) 48) + 40) + (loZ (shZ v 7) 17)) % 48)) ((loZ (shZ v 5) 4)) ((loZ (shZ v 8) 4)) ((loZ (shZ v 9) 60)) ((loZ (shZ v 11) 3)) ((40 + (20 * (loZ (shZ v 6) 5)))) (1) r_v (by omega) (by omega) (by omega) (by omega) (by omega) (by omega) (by omega) (by omega) hI p e s m args below meth c M hr hlk hE hN hP0 ls (by omega) (lv_sub hl [9, 10, 8, 7, 6, 5, 4, 3, 2, 1, 0] rfl)
      ·
        refine lv_tableIn (off := 264) (tgt := 499) M.1 M.2.1 dL_act_235 (by decide) (by decide) rfl (by decide) ?_
        exact la_499_0 l hst D cy z0 ad σ ur v ((loZ (shZ v 4) 48)) (((((loZ (shZ v 4) 48) + 40) + (loZ (shZ v 7) 17)) % 48)) ((loZ (shZ v 5) 4)) ((loZ (shZ v 8) 4)) ((loZ (shZ v 9) 60)) ((loZ (shZ v 11) 3)) ((40 + (20 * (loZ (shZ v 6) 5)))) (1) r_v (by omega) (by omega) (by omega) (by omega) (by omega) (by omega) (by omega) (by omega) hI p e s m args below meth c M hr hlk hE hN hP0 ls (by omega) (lv_sub hl [9, 10, 8, 7, 6, 5, 4, 3, 2, 1, 0] rfl)
      ·
        refine lv_tableIn (off := 302) (tgt := 537) M.1 M.2.1 dL_act_235 (by decide) (by decide) rfl (by decide) ?_
        exact la_537_0 l hst D cy z0 ad σ ur v ((loZ (shZ v 4) 48)) (((((loZ (shZ v 4) 48) + 40) + (loZ (shZ v 7) 17)) % 48)) ((loZ (shZ v 5) 4)) ((loZ (shZ v 8) 4)) ((loZ (shZ v 9) 60)) ((loZ (shZ v 11) 3)) ((40 + (20 * (loZ (shZ v 6) 5)))) (1) r_v (by omega) (by omega) (by omega) (by omega) (by omega) (by omega) (by omega) (by omega) hI p e s m args below meth c M hr hlk hE hN hP0 ls (by omega) (lv_sub hl [9, 10, 8, 7, 6, 5, 4, 3, 2, 1, 0] rfl)
      ·
        refine lv_tableIn (off := 310) (tgt := 545) M.1 M.2.1 dL_act_235 (by decide) (by decide) rfl (by decide) ?_
        exact la_545_0 l hst D cy z0 ad σ ur v ((loZ (shZ v 4) 48)) (((((loZ (shZ v 4) 48) + 40) + (loZ (shZ v 7) 17)) % 48)) ((loZ (shZ v 5) 4)) ((loZ (shZ v 8) 4)) ((loZ (shZ v 9) 60)) ((loZ (shZ v 11) 3)) ((40 + (20 * (loZ (shZ v 6) 5)))) (1) r_v (by omega) (by omega) (by omega) (by omega) (by omega) (by omega) (by omega) (by omega) hI p e s m args below meth c M hr hlk hE hN hP0 ls (by omega) (lv_sub hl [9, 10, 8, 7, 6, 5, 4, 3, 2, 1, 0] rfl)
      ·
        refine lv_tableIn (off := 334) (tgt := 569) M.1 M.2.1 dL_act_235 (by decide) (by decide) rfl (by decide) ?_
        exact la_569_0 l hst D cy z0 ad σ ur v ((loZ (shZ v 4) 48)) (((((loZ (shZ v 4) 48) + 40) + (loZ (shZ v 7) 17)) % 48)) ((loZ (shZ v 5) 4)) ((loZ (shZ v 8) 4)) ((loZ (shZ v 9) 60)) ((loZ (shZ v 11) 3)) ((40 + (20 * (loZ (shZ v 6) 5)))) (1) r_v (by omega) (by omega) (by omega) (by omega) (by omega) (by omega) (by omega) (by omega) hI p e s m args below meth c M hr hlk hE hN hP0 ls (by omega) (lv_sub hl [9, 10, 8, 7, 6, 5, 4, 3, 2, 1, 0] rfl)
      ·
        refine lv_tableIn (off := 334) (tgt := 569) M.1 M.2.1 dL_act_235 (by decide) (by decide) rfl (by decide) ?_
        exact la_569_0 l hst D cy z0 ad σ ur v ((loZ (shZ v 4) 48)) (((((loZ (shZ v 4) 48) + 40) + (loZ (shZ v 7) 17)) % 48)) ((loZ (shZ v 5) 4)) ((loZ (shZ v 8) 4)) ((loZ (shZ v 9) 60)) ((loZ (shZ v 11) 3)) ((40 + (20 * (loZ (shZ v 6) 5)))) (1) r_v (by omega) (by omega) (by omega) (by omega) (by omega) (by omega) (by omega) (by omega) hI p e s m args below meth c M hr hlk hE hN hP0 ls (by omega) (lv_sub hl [9, 10, 8, 7, 6, 5, 4, 3, 2, 1, 0] rfl)
      ·
        refine lv_tableIn (off := 334) (tgt := 569) M.1 M.2.1 dL_act_235 (by decide) (by decide) rfl (by decide) ?_
        exact la_569_0 l hst D cy z0 ad σ ur v ((loZ (shZ v 4) 48)) (((((loZ (shZ v 4) 48) + 40) + (loZ (shZ v 7) 17)) % 48)) ((loZ (shZ v 5) 4)) ((loZ (shZ v 8) 4)) ((loZ (shZ v 9) 60)) ((loZ (shZ v 11) 3)) ((40 + (20 * (loZ (shZ v 6) 5)))) (1) r_v (by omega) (by omega) (by omega) (by omega) (by omega) (by omega) (by omega) (by omega) hI p e s m args below meth c M hr hlk hE hN hP0 ls (by omega) (lv_sub hl [9, 10, 8, 7, 6, 5, 4, 3, 2, 1, 0] rfl)
      ·
        refine lv_tableIn (off := 334) (tgt := 569) M.1 M.2.1 dL_act_235 (by decide) (by decide) rfl (by decide) ?_
        exact la_569_0 l hst D cy z0 ad σ ur v ((loZ (shZ v 4) 48)) (((((loZ (shZ v 4) 48) + 40) + (loZ (shZ v 7) 17)) % 48)) ((loZ (shZ v 5) 4)) ((loZ (shZ v 8) 4)) ((loZ (shZ v 9) 60)) ((loZ (shZ v 11) 3)) ((40 + (20 * (loZ (shZ v 6) 5)))) (1) r_v (by omega) (by omega) (by omega) (by omega) (by omega) (by omega) (by omega) (by omega) hI p e s m args below meth c M hr hlk hE hN hP0 ls (by omega) (lv_sub hl [9, 10, 8, 7, 6, 5, 4, 3, 2, 1, 0] rfl)
      ·
        refine lv_tableIn (off := 358) (tgt := 593) M.1 M.2.1 dL_act_235 (by decide) (by decide) rfl (by decide) ?_
        exact la_593_0 l hst D cy z0 ad σ ur v ((loZ (shZ v 4) 48)) (((((loZ (shZ v 4) 48) + 40) + (loZ (shZ v 7) 17)) % 48)) ((loZ (shZ v 5) 4)) ((loZ (shZ v 8) 4)) ((loZ (shZ v 9) 60)) ((loZ (shZ v 11) 3)) ((40 + (20 * (loZ (shZ v 6) 5)))) (1) r_v (by omega) (by omega) (by omega) (by omega) (by omega) (by omega) (by omega) (by omega) hI p e s m args below meth c M hr hlk hE hN hP0 ls (by omega) (lv_sub hl [9, 10, 8, 7, 6, 5, 4, 3, 2, 1, 0] rfl)
      ·
        refine lv_tableIn (off := 358) (tgt := 593) M.1 M.2.1 dL_act_235 (by decide) (by decide) rfl (by decide) ?_
        exact la_593_0 l hst D cy z0 ad σ ur v ((loZ (shZ v 4) 48)) (((((loZ (shZ v 4) 48) + 40) + (loZ (shZ v 7) 17)) % 48)) ((loZ (shZ v 5) 4)) ((loZ (shZ v 8) 4)) ((loZ (shZ v 9) 60)) ((loZ (shZ v 11) 3)) ((40 + (20 * (loZ (shZ v 6) 5)))) (1) r_v (by omega) (by omega) (by omega) (by omega) (by omega) (by omega) (by omega) (by omega) hI p e s m args below meth c M hr hlk hE hN hP0 ls (by omega) (lv_sub hl [9, 10, 8, 7, 6, 5, 4, 3, 2, 1, 0] rfl)
      ·
        refine lv_tableIn (off := 358) (tgt := 593) M.1 M.2.1 dL_act_235 (by decide) (by decide) rfl (by decide) ?_
        exact la_593_0 l hst D cy z0 ad σ ur v ((loZ (shZ v 4) 48)) (((((loZ (shZ v 4) 48) + 40) + (loZ (shZ v 7) 17)) % 48)) ((loZ (shZ v 5) 4)) ((loZ (shZ v 8) 4)) ((loZ (shZ v 9) 60)) ((loZ (shZ v 11) 3)) ((40 + (20 * (loZ (shZ v 6) 5)))) (1) r_v (by omega) (by omega) (by omega) (by omega) (by omega) (by omega) (by omega) (by omega) hI p e s m args below meth c M hr hlk hE hN hP0 ls (by omega) (lv_sub hl [9, 10, 8, 7, 6, 5, 4, 3, 2, 1, 0] rfl)
      ·
        refine lv_tableIn (off := 358) (tgt := 593) M.1 M.2.1 dL_act_235 (by decide) (by decide) rfl (by decide) ?_
        exact la_593_0 l hst D cy z0 ad σ ur v ((loZ (shZ v 4) 48)) (((((loZ (shZ v 4) 48) + 40) + (loZ (shZ v 7) 17)) % 48)) ((loZ (shZ v 5) 4)) ((loZ (shZ v 8) 4)) ((loZ (shZ v 9) 60)) ((loZ (shZ v 11) 3)) ((40 + (20 * (loZ (shZ v 6) 5)))) (1) r_v (by omega) (by omega) (by omega) (by omega) (by omega) (by omega) (by omega) (by omega) hI p e s m args below meth c M hr hlk hE hN hP0 ls (by omega) (lv_sub hl [9, 10, 8, 7, 6, 5, 4, 3, 2, 1, 0] rfl)
      ·
        refine lv_tableIn (off := 358) (tgt := 593) M.1 M.2.1 dL_act_235 (by decide) (by decide) rfl (by decide) ?_
        exact la_593_0 l hst D cy z0 ad σ ur v ((loZ (shZ v 4) 48)) (((((loZ (shZ v 4) 48) + 40) + (loZ (shZ v 7) 17)) % 48)) ((loZ (shZ v 5) 4)) ((loZ (shZ v 8) 4)) ((loZ (shZ v 9) 60)) ((loZ (shZ v 11) 3)) ((40 + (20 * (loZ (shZ v 6) 5)))) (1) r_v (by omega) (by omega) (by omega) (by omega) (by omega) (by omega) (by omega) (by omega) hI p e s m args below meth c M hr hlk hE hN hP0 ls (by omega) (lv_sub hl [9, 10, 8, 7, 6, 5, 4, 3, 2, 1, 0] rfl)
      ·
        refine lv_tableIn (off := 417) (tgt := 652) M.1 M.2.1 dL_act_235 (by decide) (by decide) rfl (by decide) ?_
        exact la_652_0 l hst D cy z0 ad σ ur v ((loZ (shZ v 4) 48)) (((((loZ (shZ v 4) 48) + 40) + (loZ (shZ v 7) 17)) % 48)) ((loZ (shZ v 5) 4)) ((loZ (shZ v 8) 4)) ((loZ (shZ v 9) 60)) ((loZ (shZ v 11) 3)) ((40 + (20 * (loZ (shZ v 6) 5)))) (1) r_v (by omega) (by omega) (by omega) (by omega) (by omega) (by omega) (by omega) (by omega) hI p e s m args below meth c M hr hlk hE hN hP0 ls (by omega) (lv_sub hl [9, 10, 8, 7, 6, 5, 4, 3, 2, 1, 0] rfl)
      ·
        refine lv_tableIn (off := 417) (tgt := 652) M.1 M.2.1 dL_act_235 (by decide) (by decide) rfl (by decide) ?_
        exact la_652_0 l hst D cy z0 ad σ ur v ((loZ (shZ v 4) 48)) (((((loZ (shZ v 4) 48) + 40) + (loZ (shZ v 7) 17)) % 48)) ((loZ (shZ v 5) 4)) ((loZ (shZ v 8) 4)) ((loZ (shZ v 9) 60)) ((loZ (shZ v 11) 3)) ((40 + (20 * (loZ (shZ v 6) 5)))) (1) r_v (by omega) (by omega) (by omega) (by omega) (by omega) (by omega) (by omega) (by omega) hI p e s m args below meth c M hr hlk hE hN hP0 ls (by omega) (lv_sub hl [9, 10, 8, 7, 6, 5, 4, 3, 2, 1, 0] rfl)
      ·
        refine lv_tableIn (off := 439) (tgt := 674) M.1 M.2.1 dL_act_235 (by decide) (by decide) rfl (by decide) ?_
        exact la_674_0 l hst D cy z0 ad σ ur v ((loZ (shZ v 4) 48)) (((((loZ (shZ v 4) 48) + 40) + (loZ (shZ v 7) 17)) % 48)) ((loZ (shZ v 5) 4)) ((loZ (shZ v 8) 4)) ((loZ (shZ v 9) 60)) ((loZ (shZ v 11) 3)) ((40 + (20 * (loZ (shZ v 6) 5)))) (1) r_v (by omega) (by omega) (by omega) (by omega) (by omega) (by omega) (by omega) (by omega) hI p e s m args below meth c M hr hlk hE hN hP0 ls (by omega) (lv_sub hl [9, 10, 8, 7, 6, 5, 4, 3, 2, 1, 0] rfl)
      ·
        refine lv_tableIn (off := 439) (tgt := 674) M.1 M.2.1 dL_act_235 (by decide) (by decide) rfl (by decide) ?_
        exact la_674_0 l hst D cy z0 ad σ ur v ((loZ (shZ v 4) 48)) (((((loZ (shZ v 4) 48) + 40) + (loZ (shZ v 7) 17)) % 48)) ((loZ (shZ v 5) 4)) ((loZ (shZ v 8) 4)) ((loZ (shZ v 9) 60)) ((loZ (shZ v 11) 3)) ((40 + (20 * (loZ (shZ v 6) 5)))) (1) r_v (by omega) (by omega) (by omega) (by omega) (by omega) (by omega) (by omega) (by omega) hI p e s m args below meth c M hr hlk hE hN hP0 ls (by omega) (lv_sub hl [9, 10, 8, 7, 6, 5, 4, 3, 2, 1, 0] rfl)
      ·
        refine lv_tableIn (off := 439) (tgt := 674) M.1 M.2.1 dL_act_235 (by decide) (by decide) rfl (by decide) ?_
        exact la_674_0 l hst D cy z0 ad σ ur v ((loZ (shZ v 4) 48)) (((((loZ (shZ v 4) 48) + 40) + (loZ (shZ v 7) 17)) % 48)) ((loZ (shZ v 5) 4)) ((loZ (shZ v 8) 4)) ((loZ (shZ v 9) 60)) ((loZ (shZ v 11) 3)) ((40 + (20 * (loZ (shZ v 6) 5)))) (1) r_v (by omega) (by omega) (by omega) (by omega) (by omega) (by omega) (by omega) (by omega) hI p e s m args below meth c M hr hlk hE hN hP0 ls (by omega) (lv_sub hl [9, 10, 8, 7, 6, 5, 4, 3, 2, 1, 0] rfl)
      ·
        refine lv_tableIn (off := 439) (tgt := 674) M.1 M.2.1 dL_act_235 (by decide) (by decide) rfl (by decide) ?_
        exact la_674_0 l hst D cy z0 ad σ ur v ((loZ (shZ v 4) 48)) (((((loZ (shZ v 4) 48) + 40) + (loZ (shZ v 7) 17)) % 48)) ((loZ (shZ v 5) 4)) ((loZ (shZ v 8) 4)) ((loZ (shZ v 9) 60)) ((loZ (shZ v 11) 3)) ((40 + (20 * (loZ (shZ v 6) 5)))) (1) r_v (by omega) (by omega) (by omega) (by omega) (by omega) (by omega) (by omega) (by omega) hI p e s m args below meth c M hr hlk hE hN hP0 ls (by omega) (lv_sub hl [9, 10, 8, 7, 6, 5, 4, 3, 2, 1, 0] rfl)
      ·
        refine lv_tableIn (off := 439) (tgt := 674) M.1 M.2.1 dL_act_235 (by decide) (by decide) rfl (by decide) ?_
        exact la_674_0 l hst D cy z0 ad σ ur v ((loZ (shZ v 4) 48)) (((((loZ (shZ v 4) 48) + 40) + (loZ (shZ v 7) 17)) % 48)) ((loZ (shZ v 5) 4)) ((loZ (shZ v 8) 4)) ((loZ (shZ v 9) 60)) ((loZ (shZ v 11) 3)) ((40 + (20 * (loZ (shZ v 6) 5)))) (1) r_v (by omega) (by omega) (by omega) (by omega) (by omega) (by omega) (by omega) (by omega) hI p e s m args below meth c M hr hlk hE hN hP0 ls (by omega) (lv_sub hl [9, 10, 8, 7, 6, 5, 4, 3, 2, 1, 0] rfl)
      ·
        refine lv_tableIn (off := 469) (tgt := 704) M.1 M.2.1 dL_act_235 (by decide) (by decide) rfl (by decide) ?_
        exact la_704_0 l hst D cy z0 ad σ ur v ((loZ (shZ v 4) 48)) (((((loZ (shZ v 4) 48) + 40) + (loZ (shZ v 7) 17)) % 48)) ((loZ (shZ v 5) 4)) ((loZ (shZ v 8) 4)) ((loZ (shZ v 9) 60)) ((loZ (shZ v 11) 3)) ((40 + (20 * (loZ (shZ v 6) 5)))) (1) r_v (by omega) (by omega) (by omega) (by omega) (by omega) (by omega) (by omega) (by omega) hI p e s m args below meth c M hr hlk hE hN hP0 ls (by omega) (lv_sub hl [9, 10, 8, 7, 6, 5, 4, 3, 2, 1, 0] rfl)
      ·
        refine lv_tableIn (off := 469) (tgt := 704) M.1 M.2.1 dL_act_235 (by decide) (by decide) rfl (by decide) ?_
        exact la_704_0 l hst D cy z0 ad σ ur v ((loZ (shZ v 4) 48)) (((((loZ (shZ v 4) 48) + 40) + (loZ (shZ v 7) 17)) % 48)) ((loZ (shZ v 5) 4)) ((loZ (shZ v 8) 4)) ((loZ (shZ v 9) 60)) ((loZ (shZ v 11) 3)) ((40 + (20 * (loZ (shZ v 6) 5)))) (1) r_v (by omega) (by omega) (by omega) (by omega) (by omega) (by omega) (by omega) (by omega) hI p e s m args below meth c M hr hlk hE hN hP0 ls (by omega) (lv_sub hl [9, 10, 8, 7, 6, 5, 4, 3, 2, 1, 0] rfl)
      ·
        refine lv_tableIn (off := 469) (tgt := 704) M.1 M.2.1 dL_act_235 (by decide) (by decide) rfl (by decide) ?_
        exact la_704_0 l hst D cy z0 ad σ ur v ((loZ (shZ v 4) 48)) (((((loZ (shZ v 4) 48) + 40) + (loZ (shZ v 7) 17)) % 48)) ((loZ (shZ v 5) 4)) ((loZ (shZ v 8) 4)) ((loZ (shZ v 9) 60)) ((loZ (shZ v 11) 3)) ((40 + (20 * (loZ (shZ v 6) 5)))) (1) r_v (by omega) (by omega) (by omega) (by omega) (by omega) (by omega) (by omega) (by omega) hI p e s m args below meth c M hr hlk hE hN hP0 ls (by omega) (lv_sub hl [9, 10, 8, 7, 6, 5, 4, 3, 2, 1, 0] rfl)
      ·
        refine lv_tableIn (off := 469) (tgt := 704) M.1 M.2.1 dL_act_235 (by decide) (by decide) rfl (by decide) ?_
        exact la_704_0 l hst D cy z0 ad σ ur v ((loZ (shZ v 4) 48)) (((((loZ (shZ v 4) 48) + 40) + (loZ (shZ v 7) 17)) % 48)) ((loZ (shZ v 5) 4)) ((loZ (shZ v 8) 4)) ((loZ (shZ v 9) 60)) ((loZ (shZ v 11) 3)) ((40 + (20 * (loZ (shZ v 6) 5)))) (1) r_v (by omega) (by omega) (by omega) (by omega) (by omega) (by omega) (by omega) (by omega) hI p e s m args below meth c M hr hlk hE hN hP0 ls (by omega) (lv_sub hl [9, 10, 8, 7, 6, 5, 4, 3, 2, 1, 0] rfl)
      ·
        refine lv_tableIn (off := 469) (tgt := 704) M.1 M.2.1 dL_act_235 (by decide) (by decide) rfl (by decide) ?_
        exact la_704_0 l hst D cy z0 ad σ ur v ((loZ (shZ v 4) 48)) (((((loZ (shZ v 4) 48) + 40) + (loZ (shZ v 7) 17)) % 48)) ((loZ (shZ v 5) 4)) ((loZ (shZ v 8) 4)) ((loZ (shZ v 9) 60)) ((loZ (shZ v 11) 3)) ((40 + (20 * (loZ (shZ v 6) 5)))) (1) r_v (by omega) (by omega) (by omega) (by omega) (by omega) (by omega) (by omega) (by omega) hI p e s m args below meth c M hr hlk hE hN hP0 ls (by omega) (lv_sub hl [9, 10, 8, 7, 6, 5, 4, 3, 2, 1, 0] rfl)
      ·
        refine lv_tableIn (off := 469) (tgt := 704) M.1 M.2.1 dL_act_235 (by decide) (by decide) rfl (by decide) ?_
        exact la_704_0 l hst D cy z0 ad σ ur v ((loZ (shZ v 4) 48)) (((((loZ (shZ v 4) 48) + 40) + (loZ (shZ v 7) 17)) % 48)) ((loZ (shZ v 5) 4)) ((loZ (shZ v 8) 4)) ((loZ (shZ v 9) 60)) ((loZ (shZ v 11) 3)) ((40 + (20 * (loZ (shZ v 6) 5)))) (1) r_v (by omega) (by omega) (by omega) (by omega) (by omega) (by omega) (by omega) (by omega) hI p e s m args below meth c M hr hlk hE hN hP0 ls (by omega) (lv_sub hl [9, 10, 8, 7, 6, 5, 4, 3, 2, 1, 0] rfl)
      ·
        refine lv_tableIn (off := 480) (tgt := 715) M.1 M.2.1 dL_act_235 (by decide) (by decide) rfl (by decide) ?_
        exact la_715_0 l hst D cy z0 ad σ ur v ((loZ (shZ v 4) 48)) (((((loZ (shZ v 4) 48) + 40) + (loZ (shZ v 7) 17)) % 48)) ((loZ (shZ v 5) 4)) ((loZ (shZ v 8) 4)) ((loZ (shZ v 9) 60)) ((loZ (shZ v 11) 3)) ((40 + (20 * (loZ (shZ v 6) 5)))) (1) r_v (by omega) (by omega) (by omega) (by omega) (by omega) (by omega) (by omega) (by omega) hI p e s m args below meth c M hr hlk hE hN hP0 ls (by omega) (lv_sub hl [9, 10, 8, 7, 6, 5, 4, 3, 2, 1, 0] rfl)
      ·
        refine lv_tableIn (off := 486) (tgt := 721) M.1 M.2.1 dL_act_235 (by decide) (by decide) rfl (by decide) ?_
        exact la_721_0 l hst D cy z0 ad σ ur v ((loZ (shZ v 4) 48)) (((((loZ (shZ v 4) 48) + 40) + (loZ (shZ v 7) 17)) % 48)) ((loZ (shZ v 5) 4)) ((loZ (shZ v 8) 4)) ((loZ (shZ v 9) 60)) ((loZ (shZ v 11) 3)) ((40 + (20 * (loZ (shZ v 6) 5)))) (1) r_v (by omega) (by omega) (by omega) (by omega) (by omega) (by omega) (by omega) (by omega) hI p e s m args below meth c M hr hlk hE hN hP0 ls (by omega) (lv_sub hl [9, 10, 8, 7, 6, 5, 4, 3, 2, 1, 0] rfl)
      ·
        refine lv_tableIn (off := 510) (tgt := 745) M.1 M.2.1 dL_act_235 (by decide) (by decide) rfl (by decide) ?_
        exact la_745_0 l hst D cy z0 ad σ ur v ((loZ (shZ v 4) 48)) (((((loZ (shZ v 4) 48) + 40) + (loZ (shZ v 7) 17)) % 48)) ((loZ (shZ v 5) 4)) ((loZ (shZ v 8) 4)) ((loZ (shZ v 9) 60)) ((loZ (shZ v 11) 3)) ((40 + (20 * (loZ (shZ v 6) 5)))) (1) r_v (by omega) (by omega) (by omega) (by omega) (by omega) (by omega) (by omega) (by omega) hI p e s m args below meth c M hr hlk hE hN hP0 ls (by omega) (lv_sub hl [9, 10, 8, 7, 6, 5, 4, 3, 2, 1, 0] rfl)
      ·
        refine lv_tableIn (off := 518) (tgt := 753) M.1 M.2.1 dL_act_235 (by decide) (by decide) rfl (by decide) ?_
        exact la_753_0 l hst D cy z0 ad σ ur v ((loZ (shZ v 4) 48)) (((((loZ (shZ v 4) 48) + 40) + (loZ (shZ v 7) 17)) % 48)) ((loZ (shZ v 5) 4)) ((loZ (shZ v 8) 4)) ((loZ (shZ v 9) 60)) ((loZ (shZ v 11) 3)) ((40 + (20 * (loZ (shZ v 6) 5)))) (1) r_v (by omega) (by omega) (by omega) (by omega) (by omega) (by omega) (by omega) (by omega) hI p e s m args below meth c M hr hlk hE hN hP0 ls (by omega) (lv_sub hl [9, 10, 8, 7, 6, 5, 4, 3, 2, 1, 0] rfl)
      ·
        refine lv_tableIn (off := 568) (tgt := 803) M.1 M.2.1 dL_act_235 (by decide) (by decide) rfl (by decide) ?_
        exact la_803_0 l hst D cy z0 ad σ ur v ((loZ (shZ v 4) 48)) (((((loZ (shZ v 4) 48) + 40) + (loZ (shZ v 7) 17)) % 48)) ((loZ (shZ v 5) 4)) ((loZ (shZ v 8) 4)) ((loZ (shZ v 9) 60)) ((loZ (shZ v 11) 3)) ((40 + (20 * (loZ (shZ v 6) 5)))) (1) r_v (by omega) (by omega) (by omega) (by omega) (by omega) (by omega) (by omega) (by omega) hI p e s m args below meth c M hr hlk hE hN hP0 ls (by omega) (lv_sub hl [9, 10, 8, 7, 6, 5, 4, 3, 2, 1, 0] rfl)
      ·
        refine lv_tableIn (off := 592) (tgt := 827) M.1 M.2.1 dL_act_235 (by decide) (by decide) rfl (by decide) ?_
        exact la_827_0 l hst D cy z0 ad σ ur v ((loZ (shZ v 4) 48)) (((((loZ (shZ v 4) 48) + 40) + (loZ (shZ v 7) 17)) % 48)) ((loZ (shZ v 5) 4)) ((loZ (shZ v 8) 4)) ((loZ (shZ v 9) 60)) ((loZ (shZ v 11) 3)) ((40 + (20 * (loZ (shZ v 6) 5)))) (1) r_v (by omega) (by omega) (by omega) (by omega) (by omega) (by omega) (by omega) (by omega) hI p e s m args below meth c M hr hlk hE hN hP0 ls (by omega) (lv_sub hl [9, 10, 8, 7, 6, 5, 4, 3, 2, 1, 0] rfl)
      ·
        refine lv_tableIn (off := 644) (tgt := 879) M.1 M.2.1 dL_act_235 (by decide) (by decide) rfl (by decide) ?_
        exact la_879_0 l hst D cy z0 ad σ ur v ((loZ (shZ v 4) 48)) (((((loZ (shZ v 4) 48) + 40) + (loZ (shZ v 7) 17)) % 48)) ((loZ (shZ v 5) 4)) ((loZ (shZ v 8) 4)) ((loZ (shZ v 9) 60)) ((loZ (shZ v 11) 3)) ((40 + (20 * (loZ (shZ v 6) 5)))) (1) r_v (by omega) (by omega) (by omega) (by omega) (by omega) (by omega) (by omega) (by omega) hI p e s m args below meth c M hr hlk hE hN hP0 ls (by omega) (lv_sub hl [9, 10, 8, 7, 6, 5, 4, 3, 2, 1, 0] rfl)
      ·
        refine lv_tableIn (off := 677) (tgt := 912) M.1 M.2.1 dL_act_235 (by decide) (by decide) rfl (by decide) ?_
        exact la_912_0 l hst D cy z0 ad σ ur v ((loZ (shZ v 4) 48)) (((((loZ (shZ v 4) 48) + 40) + (loZ (shZ v 7) 17)) % 48)) ((loZ (shZ v 5) 4)) ((loZ (shZ v 8) 4)) ((loZ (shZ v 9) 60)) ((loZ (shZ v 11) 3)) ((40 + (20 * (loZ (shZ v 6) 5)))) (1) r_v (by omega) (by omega) (by omega) (by omega) (by omega) (by omega) (by omega) (by omega) hI p e s m args below meth c M hr hlk hE hN hP0 ls (by omega) (lv_sub hl [9, 10, 8, 7, 6, 5, 4, 3, 2, 1, 0] rfl)
      ·
        refine lv_tableIn (off := 721) (tgt := 956) M.1 M.2.1 dL_act_235 (by decide) (by decide) rfl (by decide) ?_
        exact la_956_0 l hst D cy z0 ad σ ur v ((loZ (shZ v 4) 48)) (((((loZ (shZ v 4) 48) + 40) + (loZ (shZ v 7) 17)) % 48)) ((loZ (shZ v 5) 4)) ((loZ (shZ v 8) 4)) ((loZ (shZ v 9) 60)) ((loZ (shZ v 11) 3)) ((40 + (20 * (loZ (shZ v 6) 5)))) (1) r_v (by omega) (by omega) (by omega) (by omega) (by omega) (by omega) (by omega) (by omega) hI p e s m args below meth c M hr hlk hE hN hP0 ls (by omega) (lv_sub hl [9, 10, 8, 7, 6, 5, 4, 3, 2, 1, 0] rfl)
      ·
        refine lv_tableIn (off := 732) (tgt := 967) M.1 M.2.1 dL_act_235 (by decide) (by decide) rfl (by decide) ?_
        exact la_967_0 l hst D cy z0 ad σ ur v ((loZ (shZ v 4) 48)) (((((loZ (shZ v 4) 48) + 40) + (loZ (shZ v 7) 17)) % 48)) ((loZ (shZ v 5) 4)) ((loZ (shZ v 8) 4)) ((loZ (shZ v 9) 60)) ((loZ (shZ v 11) 3)) ((40 + (20 * (loZ (shZ v 6) 5)))) (1) r_v (by omega) (by omega) (by omega) (by omega) (by omega) (by omega) (by omega) (by omega) hI p e s m args below meth c M hr hlk hE hN hP0 ls (by omega) (lv_sub hl [9, 10, 8, 7, 6, 5, 4, 3, 2, 1, 0] rfl)
      ·
        refine lv_tableIn (off := 756) (tgt := 991) M.1 M.2.1 dL_act_235 (by decide) (by decide) rfl (by decide) ?_
        exact la_991_0 l hst D cy z0 ad σ ur v ((loZ (shZ v 4) 48)) (((((loZ (shZ v 4) 48) + 40) + (loZ (shZ v 7) 17)) % 48)) ((loZ (shZ v 5) 4)) ((loZ (shZ v 8) 4)) ((loZ (shZ v 9) 60)) ((loZ (shZ v 11) 3)) ((40 + (20 * (loZ (shZ v 6) 5)))) (1) r_v (by omega) (by omega) (by omega) (by omega) (by omega) (by omega) (by omega) (by omega) hI p e s m args below meth c M hr hlk hE hN hP0 ls (by omega) (lv_sub hl [9, 10, 8, 7, 6, 5, 4, 3, 2, 1, 0] rfl)
      ·
        refine lv_tableIn (off := 756) (tgt := 991) M.1 M.2.1 dL_act_235 (by decide) (by decide) rfl (by decide) ?_
        exact la_991_0 l hst D cy z0 ad σ ur v ((loZ (shZ v 4) 48)) (((((loZ (shZ v 4) 48) + 40) + (loZ (shZ v 7) 17)) % 48)) ((loZ (shZ v 5) 4)) ((loZ (shZ v 8) 4)) ((loZ (shZ v 9) 60)) ((loZ (shZ v 11) 3)) ((40 + (20 * (loZ (shZ v 6) 5)))) (1) r_v (by omega) (by omega) (by omega) (by omega) (by omega) (by omega) (by omega) (by omega) hI p e s m args below meth c M hr hlk hE hN hP0 ls (by omega) (lv_sub hl [9, 10, 8, 7, 6, 5, 4, 3, 2, 1, 0] rfl)
      ·
        refine lv_tableIn (off := 796) (tgt := 1031) M.1 M.2.1 dL_act_235 (by decide) (by decide) rfl (by decide) ?_
        exact la_1031_0 l hst D cy z0 ad σ ur v ((loZ (shZ v 4) 48)) (((((loZ (shZ v 4) 48) + 40) + (loZ (shZ v 7) 17)) % 48)) ((loZ (shZ v 5) 4)) ((loZ (shZ v 8) 4)) ((loZ (shZ v 9) 60)) ((loZ (shZ v 11) 3)) ((40 + (20 * (loZ (shZ v 6) 5)))) (1) r_v (by omega) (by omega) (by omega) (by omega) (by omega) (by omega) (by omega) (by omega) hI p e s m args below meth c M hr hlk hE hN hP0 ls (by omega) (lv_sub hl [9, 10, 8, 7, 6, 5, 4, 3, 2, 1, 0] rfl)
      ·
        refine lv_tableOut (tgt := 1038) M.1 M.2.1 dL_act_235 (by decide) (by decide) ?_
        exact la_1038_0 l hst D cy z0 ad σ ur v ((loZ (shZ v 4) 48)) (((((loZ (shZ v 4) 48) + 40) + (loZ (shZ v 7) 17)) % 48)) ((loZ (shZ v 5) 4)) ((loZ (shZ v 8) 4)) ((loZ (shZ v 9) 60)) ((loZ (shZ v 11) 3)) ((40 + (20 * (loZ (shZ v 6) 5)))) (1) r_v (by omega) (by omega) (by omega) (by omega) (by omega) (by omega) (by omega) (by omega) hI p e s m args below meth c M hr hlk hE hN hP0 ls (by omega) (lv_sub hl [9, 10, 8, 7, 6, 5, 4, 3, 2, 1, 0] rfl)
  ·
    have eQ : (fun (r : Int32) (u : Int × zSt × (Nat → Int)) => r = iI u.1 ∧ stepR v σ u.1 u.2.1) = (fun (r : Int32) (u : Int × zSt × (Nat → Int)) => r = iI u.1 ∧ stpO (loZ v 42).toNat v (loZ (shZ v 4) 52 - 2) (loZ (shZ v 7) 52 - 2) (loZ (shZ v 5) 15 - 2) (loZ (shZ v 8) 15 - 2) (shZ v 9) (loZ (shZ v 11) 10 - 2) (shZ v 6) (isZ v) σ u.1 u.2.1) := by funext r u; unfold stepR; rw [if_pos cod]
    rw [eQ]
    refine zi_push M dL_act_12 ?_
    refine zi_goto (tgt := 17) M dL_act_13 (by decide) ?_
    refine lv_istore_n (lv' := [(2, .int (iI 1)), (0, .ref (ad 0)), (1, .int (iI v))]) M.1 M.2.1 dL_act_17 rfl hl (by decide) rfl (fun ls hl => ?_)
    refine lv_iload_n M.1 M.2.1 dL_act_18 rfl (lv_at hl 0 rfl) ?_
    refine zi_if_eq (tgt := 35) M dL_act_19 (by decide) ⟨by decide, by decide⟩ (fun q => absurd q (by decide)) (fun _ => ?_)
    refine lv_iload_n M.1 M.2.1 dL_act_22 rfl (lv_at hl 2 rfl) ?_
    refine zi_push M dL_act_23 ?_
    refine zi_ishr M dL_act_24 ?_
    refine zi_bipush M dL_act_25 ⟨by decide, by decide⟩ ?_
    refine z_cR (z_runS (As := [.int (iI (shZ v 4)), .int (iI 52)]) (rest := []) M (c_L_low l D cy z0 (shZ v 4) 52 (by omega)) hE hS hAz trivial zk_cd_L_low zk_in_RL zk_st_L_low zk_ml_RL_105 rfl rfl zd_L_low ⟨by decide, by decide⟩ rfl hl.1 rfl (Nat.le_of_ble_eq_true rfl) dL_act_27 ⟨by decide, by decide⟩) ?_
    have hx_11 := loZ_rg2 ((shZ v 4)) (52) (by omega)
    refine zi_push M dL_act_30 ?_
    refine zi_isub M dL_act_31 ?_
    refine zi_goto (tgt := 43) M dL_act_32 (by decide) ?_
    refine lv_istore_n (lv' := [(3, .int (iI ((loZ (shZ v 4) 52) - 2))), (2, .int (iI 1)), (0, .ref (ad 0)), (1, .int (iI v))]) M.1 M.2.1 dL_act_43 rfl hl (by decide) rfl (fun ls hl => ?_)
    refine lv_iload_n M.1 M.2.1 dL_act_44 rfl (lv_at hl 1 rfl) ?_
    refine zi_if_eq (tgt := 62) M dL_act_45 (by decide) ⟨by decide, by decide⟩ (fun q => absurd q (by decide)) (fun _ => ?_)
    refine lv_iload_n M.1 M.2.1 dL_act_48 rfl (lv_at hl 3 rfl) ?_
    refine zi_bipush M dL_act_49 ⟨by decide, by decide⟩ ?_
    refine zi_ishr M dL_act_51 ?_
    refine zi_bipush M dL_act_52 ⟨by decide, by decide⟩ ?_
    refine z_cR (z_runS (As := [.int (iI (shZ v 7)), .int (iI 52)]) (rest := []) M (c_L_low l D cy z0 (shZ v 7) 52 (by omega)) hE hS hAz trivial zk_cd_L_low zk_in_RL zk_st_L_low zk_ml_RL_105 rfl rfl zd_L_low ⟨by decide, by decide⟩ rfl hl.1 rfl (Nat.le_of_ble_eq_true rfl) dL_act_54 ⟨by decide, by decide⟩) ?_
    have hx_12 := loZ_rg2 ((shZ v 7)) (52) (by omega)
    refine zi_push M dL_act_57 ?_
    refine zi_isub M dL_act_58 ?_
    refine zi_goto (tgt := 79) M dL_act_59 (by decide) ?_
    refine lv_istore (lv' := [(4, .int (iI ((loZ (shZ v 7) 52) - 2))), (3, .int (iI ((loZ (shZ v 4) 52) - 2))), (2, .int (iI 1)), (0, .ref (ad 0)), (1, .int (iI v))]) M.1 M.2.1 dL_act_79 hl (by decide) rfl (fun ls hl => ?_)
    refine lv_iload_n M.1 M.2.1 dL_act_81 rfl (lv_at hl 2 rfl) ?_
    refine zi_if_eq (tgt := 98) M dL_act_82 (by decide) ⟨by decide, by decide⟩ (fun q => absurd q (by decide)) (fun _ => ?_)
    refine lv_iload_n M.1 M.2.1 dL_act_85 rfl (lv_at hl 4 rfl) ?_
    refine zi_push M dL_act_86 ?_
    refine zi_ishr M dL_act_87 ?_
    refine zi_bipush M dL_act_88 ⟨by decide, by decide⟩ ?_
    refine z_cR (z_runS (As := [.int (iI (shZ v 5)), .int (iI 15)]) (rest := []) M (c_L_low l D cy z0 (shZ v 5) 15 (by omega)) hE hS hAz trivial zk_cd_L_low zk_in_RL zk_st_L_low zk_ml_RL_105 rfl rfl zd_L_low ⟨by decide, by decide⟩ rfl hl.1 rfl (Nat.le_of_ble_eq_true rfl) dL_act_90 ⟨by decide, by decide⟩) ?_
    have hx_13 := loZ_rg2 ((shZ v 5)) (15) (by omega)
    refine zi_push M dL_act_93 ?_
    refine zi_isub M dL_act_94 ?_
    refine zi_goto (tgt := 105) M dL_act_95 (by decide) ?_
    refine lv_istore (lv' := [(5, .int (iI ((loZ (shZ v 5) 15) - 2))), (4, .int (iI ((loZ (shZ v 7) 52) - 2))), (3, .int (iI ((loZ (shZ v 4) 52) - 2))), (2, .int (iI 1)), (0, .ref (ad 0)), (1, .int (iI v))]) M.1 M.2.1 dL_act_105 hl (by decide) rfl (fun ls hl => ?_)
    refine lv_iload_n M.1 M.2.1 dL_act_107 rfl (lv_at hl 3 rfl) ?_
    refine zi_if_eq (tgt := 125) M dL_act_108 (by decide) ⟨by decide, by decide⟩ (fun q => absurd q (by decide)) (fun _ => ?_)
    refine lv_iload_n M.1 M.2.1 dL_act_111 rfl (lv_at hl 5 rfl) ?_
    refine zi_bipush M dL_act_112 ⟨by decide, by decide⟩ ?_
    refine zi_ishr M dL_act_114 ?_
    refine zi_bipush M dL_act_115 ⟨by decide, by decide⟩ ?_
    refine z_cR (z_runS (As := [.int (iI (shZ v 8)), .int (iI 15)]) (rest := []) M (c_L_low l D cy z0 (shZ v 8) 15 (by omega)) hE hS hAz trivial zk_cd_L_low zk_in_RL zk_st_L_low zk_ml_RL_105 rfl rfl zd_L_low ⟨by decide, by decide⟩ rfl hl.1 rfl (Nat.le_of_ble_eq_true rfl) dL_act_117 ⟨by decide, by decide⟩) ?_
    have hx_14 := loZ_rg2 ((shZ v 8)) (15) (by omega)
    refine zi_push M dL_act_120 ?_
    refine zi_isub M dL_act_121 ?_
    refine zi_goto (tgt := 133) M dL_act_122 (by decide) ?_
    refine lv_istore (lv' := [(6, .int (iI ((loZ (shZ v 8) 15) - 2))), (5, .int (iI ((loZ (shZ v 5) 15) - 2))), (4, .int (iI ((loZ (shZ v 7) 52) - 2))), (3, .int (iI ((loZ (shZ v 4) 52) - 2))), (2, .int (iI 1)), (0, .ref (ad 0)), (1, .int (iI v))]) M.1 M.2.1 dL_act_133 hl (by decide) rfl (fun ls hl => ?_)
    refine lv_iload_n M.1 M.2.1 dL_act_135 rfl (lv_at hl 4 rfl) ?_
    refine zi_if_eq (tgt := 146) M dL_act_136 (by decide) ⟨by decide, by decide⟩ (fun q => absurd q (by decide)) (fun _ => ?_)
    refine lv_iload_n M.1 M.2.1 dL_act_139 rfl (lv_at hl 6 rfl) ?_
    refine zi_bipush M dL_act_140 ⟨by decide, by decide⟩ ?_
    refine zi_ishr M dL_act_142 ?_
    refine zi_goto (tgt := 155) M dL_act_143 (by decide) ?_
    refine lv_istore (lv' := [(7, .int (iI (shZ v 9))), (6, .int (iI ((loZ (shZ v 8) 15) - 2))), (5, .int (iI ((loZ (shZ v 5) 15) - 2))), (4, .int (iI ((loZ (shZ v 7) 52) - 2))), (3, .int (iI ((loZ (shZ v 4) 52) - 2))), (2, .int (iI 1)), (0, .ref (ad 0)), (1, .int (iI v))]) M.1 M.2.1 dL_act_155 hl (by decide) rfl (fun ls hl => ?_)
    refine lv_iload_n M.1 M.2.1 dL_act_157 rfl (lv_at hl 5 rfl) ?_
    refine zi_if_eq (tgt := 175) M dL_act_158 (by decide) ⟨by decide, by decide⟩ (fun q => absurd q (by decide)) (fun _ => ?_)
    refine lv_iload_n M.1 M.2.1 dL_act_161 rfl (lv_at hl 7 rfl) ?_
    refine zi_bipush M dL_act_162 ⟨by decide, by decide⟩ ?_
    refine zi_ishr M dL_act_164 ?_
    refine zi_bipush M dL_act_165 ⟨by decide, by decide⟩ ?_
    refine z_cR (z_runS (As := [.int (iI (shZ v 11)), .int (iI 10)]) (rest := []) M (c_L_low l D cy z0 (shZ v 11) 10 (by omega)) hE hS hAz trivial zk_cd_L_low zk_in_RL zk_st_L_low zk_ml_RL_105 rfl rfl zd_L_low ⟨by decide, by decide⟩ rfl hl.1 rfl (Nat.le_of_ble_eq_true rfl) dL_act_167 ⟨by decide, by decide⟩) ?_
    have hx_15 := loZ_rg2 ((shZ v 11)) (10) (by omega)
    refine zi_push M dL_act_170 ?_
    refine zi_isub M dL_act_171 ?_
    refine zi_goto (tgt := 183) M dL_act_172 (by decide) ?_
    refine lv_istore (lv' := [(8, .int (iI ((loZ (shZ v 11) 10) - 2))), (7, .int (iI (shZ v 9))), (6, .int (iI ((loZ (shZ v 8) 15) - 2))), (5, .int (iI ((loZ (shZ v 5) 15) - 2))), (4, .int (iI ((loZ (shZ v 7) 52) - 2))), (3, .int (iI ((loZ (shZ v 4) 52) - 2))), (2, .int (iI 1)), (0, .ref (ad 0)), (1, .int (iI v))]) M.1 M.2.1 dL_act_183 hl (by decide) rfl (fun ls hl => ?_)
    refine lv_iload_n M.1 M.2.1 dL_act_185 rfl (lv_at hl 6 rfl) ?_
    refine zi_if_eq (tgt := 196) M dL_act_186 (by decide) ⟨by decide, by decide⟩ (fun q => absurd q (by decide)) (fun _ => ?_)
    refine lv_iload_n M.1 M.2.1 dL_act_189 rfl (lv_at hl 8 rfl) ?_
    refine zi_bipush M dL_act_190 ⟨by decide, by decide⟩ ?_
    refine zi_ishr M dL_act_192 ?_
    refine zi_goto (tgt := 210) M dL_act_193 (by decide) ?_
    refine lv_istore (lv' := [(9, .int (iI (shZ v 6))), (8, .int (iI ((loZ (shZ v 11) 10) - 2))), (7, .int (iI (shZ v 9))), (6, .int (iI ((loZ (shZ v 8) 15) - 2))), (5, .int (iI ((loZ (shZ v 5) 15) - 2))), (4, .int (iI ((loZ (shZ v 7) 52) - 2))), (3, .int (iI ((loZ (shZ v 4) 52) - 2))), (2, .int (iI 1)), (0, .ref (ad 0)), (1, .int (iI v))]) M.1 M.2.1 dL_act_210 hl (by decide) rfl (fun ls hl => ?_)
    refine lv_iload_n M.1 M.2.1 dL_act_212 rfl (lv_at hl 9 rfl) ?_
    refine zi_bipush M dL_act_213 ⟨by decide, by decide⟩ ?_
    refine zi_ishr M dL_act_215 ?_
    refine zi_push M dL_act_216 ?_
    refine zi_iand M dL_act_217 ?_
    refine zi_push M dL_act_218 ?_
    refine zi_icmp_ne (tgt := 226) M dL_act_219 (by decide) (ndZ_rg _ _) ⟨by decide, by decide⟩ (fun cyi => ?_) (fun cyi => ?_)
    ·
      have e9 : isZ v = 0 := if_neg cyi
      rw [e9]
      refine zi_push M dL_act_226 ?_
      refine lv_istore (lv' := [(10, .int (iI 0)), (9, .int (iI (shZ v 6))), (8, .int (iI ((loZ (shZ v 11) 10) - 2))), (7, .int (iI (shZ v 9))), (6, .int (iI ((loZ (shZ v 8) 15) - 2))), (5, .int (iI ((loZ (shZ v 5) 15) - 2))), (4, .int (iI ((loZ (shZ v 7) 52) - 2))), (3, .int (iI ((loZ (shZ v 4) 52) - 2))), (2, .int (iI 1)), (0, .ref (ad 0)), (1, .int (iI v))]) M.1 M.2.1 dL_act_227 hl (by decide) rfl (fun ls hl => ?_)
      refine lv_iload_n M.1 M.2.1 dL_act_229 rfl (lv_at hl 10 rfl) ?_
      refine zi_bipush M dL_act_230 ⟨by decide, by decide⟩ ?_
      refine z_cR (z_runS (As := [.int (iI v), .int (iI 42)]) (rest := []) M (c_L_low l D cy z0 v 42 (by omega)) hE hS hAz trivial zk_cd_L_low zk_in_RL zk_st_L_low zk_ml_RL_105 rfl rfl zd_L_low ⟨by decide, by decide⟩ rfl hl.1 rfl (Nat.le_of_ble_eq_true rfl) dL_act_232 ⟨by decide, by decide⟩) ?_
      have hx_16 := loZ_rg2 (v) (42) (by omega)
      have hk9 := loZ_rg2 v 42 (by decide)
      generalize loZ v 42 = k9 at hk9 ⊢
      rcases (by omega : k9 = 0 ∨ k9 = 1 ∨ k9 = 2 ∨ k9 = 3 ∨ k9 = 4 ∨ k9 = 5 ∨ k9 = 6 ∨ k9 = 7 ∨ k9 = 8 ∨ k9 = 9 ∨ k9 = 10 ∨ k9 = 11 ∨ k9 = 12 ∨ k9 = 13 ∨ k9 = 14 ∨ k9 = 15 ∨ k9 = 16 ∨ k9 = 17 ∨ k9 = 18 ∨ k9 = 19 ∨ k9 = 20 ∨ k9 = 21 ∨ k9 = 22 ∨ k9 = 23 ∨ k9 = 24 ∨ k9 = 25 ∨ k9 = 26 ∨ k9 = 27 ∨ k9 = 28 ∨ k9 = 29 ∨ k9 = 30 ∨ k9 = 31 ∨ k9 = 32 ∨ k9 = 33 ∨ k9 = 34 ∨ k9 = 35 ∨ k9 = 36 ∨ k9 = 37 ∨ k9 = 38 ∨ k9 = 39 ∨ k9 = 40 ∨ k9 = 41) with rfl | rfl | rfl | rfl | rfl | rfl | rfl | rfl | rfl | rfl | rfl | rfl | rfl | rfl | rfl | rfl | rfl | rfl | rfl | rfl | rfl | rfl | rfl | rfl | rfl | rfl | rfl | rfl | rfl | rfl | rfl | rfl | rfl | rfl | rfl | rfl | rfl | rfl | rfl | rfl | rfl | rfl
      ·
        refine lv_tableIn (off := 177) (tgt := 412) M.1 M.2.1 dL_act_235 (by decide) (by decide) rfl (by decide) ?_
        exact la_412_1 l hst D cy z0 ad σ ur v (((loZ (shZ v 4) 52) - 2)) (((loZ (shZ v 7) 52) - 2)) (((loZ (shZ v 5) 15) - 2)) (((loZ (shZ v 8) 15) - 2)) ((shZ v 9)) (((loZ (shZ v 11) 10) - 2)) ((shZ v 6)) (0) r_v (by omega) (by omega) (by omega) (by omega) (by omega) (by omega) (by omega) (by omega) hI p e s m args below meth c M hr hlk hE hN hP0 ls (lv_sub hl [9, 10, 8, 7, 6, 5, 4, 3, 2, 1, 0] rfl)
      ·
        refine lv_tableIn (off := 202) (tgt := 437) M.1 M.2.1 dL_act_235 (by decide) (by decide) rfl (by decide) ?_
        exact la_437_1 l hst D cy z0 ad σ ur v (((loZ (shZ v 4) 52) - 2)) (((loZ (shZ v 7) 52) - 2)) (((loZ (shZ v 5) 15) - 2)) (((loZ (shZ v 8) 15) - 2)) ((shZ v 9)) (((loZ (shZ v 11) 10) - 2)) ((shZ v 6)) (0) r_v (by omega) (by omega) (by omega) (by omega) (by omega) (by omega) (by omega) (by omega) hI p e s m args below meth c M hr hlk hE hN hP0 ls (lv_sub hl [9, 10, 8, 7, 6, 5, 4, 3, 2, 1, 0] rfl)
      ·
        refine lv_tableIn (off := 246) (tgt := 481) M.1 M.2.1 dL_act_235 (by decide) (by decide) rfl (by decide) ?_
        exact la_481_1 l hst D cy z0 ad σ ur v (((loZ (shZ v 4) 52) - 2)) (((loZ (shZ v 7) 52) - 2)) (((loZ (shZ v 5) 15) - 2)) (((loZ (shZ v 8) 15) - 2)) ((shZ v 9)) (((loZ (shZ v 11) 10) - 2)) ((shZ v 6)) (0) r_v (by omega) (by omega) (by omega) (by omega) (by omega) (by omega) (by omega) (by omega) hI p e s m args below meth c M hr hlk hE hN hP0 ls (lv_sub hl [9, 10, 8, 7, 6, 5, 4, 3, 2, 1, 0] rfl)
      ·
        refine lv_tableIn (off := 264) (tgt := 499) M.1 M.2.1 dL_act_235 (by decide) (by decide) rfl (by decide) ?_
        exact la_499_1 l hst D cy z0 ad σ ur v (((loZ (shZ v 4) 52) - 2)) (((loZ (shZ v 7) 52) - 2)) (((loZ (shZ v 5) 15) - 2)) (((loZ (shZ v 8) 15) - 2)) ((shZ v 9)) (((loZ (shZ v 11) 10) - 2)) ((shZ v 6)) (0) r_v (by omega) (by omega) (by omega) (by omega) (by omega) (by omega) (by omega) (by omega) hI p e s m args below meth c M hr hlk hE hN hP0 ls (lv_sub hl [9, 10, 8, 7, 6, 5, 4, 3, 2, 1, 0] rfl)
      ·
        refine lv_tableIn (off := 302) (tgt := 537) M.1 M.2.1 dL_act_235 (by decide) (by decide) rfl (by decide) ?_
        exact la_537_1 l hst D cy z0 ad σ ur v (((loZ (shZ v 4) 52) - 2)) (((loZ (shZ v 7) 52) - 2)) (((loZ (shZ v 5) 15) - 2)) (((loZ (shZ v 8) 15) - 2)) ((shZ v 9)) (((loZ (shZ v 11) 10) - 2)) ((shZ v 6)) (0) r_v (by omega) (by omega) (by omega) (by omega) (by omega) (by omega) (by omega) (by omega) hI p e s m args below meth c M hr hlk hE hN hP0 ls (lv_sub hl [9, 10, 8, 7, 6, 5, 4, 3, 2, 1, 0] rfl)
      ·
        refine lv_tableIn (off := 310) (tgt := 545) M.1 M.2.1 dL_act_235 (by decide) (by decide) rfl (by decide) ?_
        exact la_545_1 l hst D cy z0 ad σ ur v (((loZ (shZ v 4) 52) - 2)) (((loZ (shZ v 7) 52) - 2)) (((loZ (shZ v 5) 15) - 2)) (((loZ (shZ v 8) 15) - 2)) ((shZ v 9)) (((loZ (shZ v 11) 10) - 2)) ((shZ v 6)) (0) r_v (by omega) (by omega) (by omega) (by omega) (by omega) (by omega) (by omega) (by omega) hI p e s m args below meth c M hr hlk hE hN hP0 ls (lv_sub hl [9, 10, 8, 7, 6, 5, 4, 3, 2, 1, 0] rfl)
      ·
        refine lv_tableIn (off := 334) (tgt := 569) M.1 M.2.1 dL_act_235 (by decide) (by decide) rfl (by decide) ?_
        exact la_569_1 l hst D cy z0 ad σ ur v (((loZ (shZ v 4) 52) - 2)) (((loZ (shZ v 7) 52) - 2)) (((loZ (shZ v 5) 15) - 2)) (((loZ (shZ v 8) 15) - 2)) ((shZ v 9)) (((loZ (shZ v 11) 10) - 2)) ((shZ v 6)) (0) r_v (by omega) (by omega) (by omega) (by omega) (by omega) (by omega) (by omega) (by omega) hI p e s m args below meth c M hr hlk hE hN hP0 ls (lv_sub hl [9, 10, 8, 7, 6, 5, 4, 3, 2, 1, 0] rfl)
      ·
        refine lv_tableIn (off := 334) (tgt := 569) M.1 M.2.1 dL_act_235 (by decide) (by decide) rfl (by decide) ?_
        exact la_569_1 l hst D cy z0 ad σ ur v (((loZ (shZ v 4) 52) - 2)) (((loZ (shZ v 7) 52) - 2)) (((loZ (shZ v 5) 15) - 2)) (((loZ (shZ v 8) 15) - 2)) ((shZ v 9)) (((loZ (shZ v 11) 10) - 2)) ((shZ v 6)) (0) r_v (by omega) (by omega) (by omega) (by omega) (by omega) (by omega) (by omega) (by omega) hI p e s m args below meth c M hr hlk hE hN hP0 ls (lv_sub hl [9, 10, 8, 7, 6, 5, 4, 3, 2, 1, 0] rfl)
      ·
        refine lv_tableIn (off := 334) (tgt := 569) M.1 M.2.1 dL_act_235 (by decide) (by decide) rfl (by decide) ?_
        exact la_569_1 l hst D cy z0 ad σ ur v (((loZ (shZ v 4) 52) - 2)) (((loZ (shZ v 7) 52) - 2)) (((loZ (shZ v 5) 15) - 2)) (((loZ (shZ v 8) 15) - 2)) ((shZ v 9)) (((loZ (shZ v 11) 10) - 2)) ((shZ v 6)) (0) r_v (by omega) (by omega) (by omega) (by omega) (by omega) (by omega) (by omega) (by omega) hI p e s m args below meth c M hr hlk hE hN hP0 ls (lv_sub hl [9, 10, 8, 7, 6, 5, 4, 3, 2, 1, 0] rfl)
      ·
        refine lv_tableIn (off := 334) (tgt := 569) M.1 M.2.1 dL_act_235 (by decide) (by decide) rfl (by decide) ?_
        exact la_569_1 l hst D cy z0 ad σ ur v (((loZ (shZ v 4) 52) - 2)) (((loZ (shZ v 7) 52) - 2)) (((loZ (shZ v 5) 15) - 2)) (((loZ (shZ v 8) 15) - 2)) ((shZ v 9)) (((loZ (shZ v 11) 10) - 2)) ((shZ v 6)) (0) r_v (by omega) (by omega) (by omega) (by omega) (by omega) (by omega) (by omega) (by omega) hI p e s m args below meth c M hr hlk hE hN hP0 ls (lv_sub hl [9, 10, 8, 7, 6, 5, 4, 3, 2, 1, 0] rfl)
      ·
        refine lv_tableIn (off := 358) (tgt := 593) M.1 M.2.1 dL_act_235 (by decide) (by decide) rfl (by decide) ?_
        exact la_593_1 l hst D cy z0 ad σ ur v (((loZ (shZ v 4) 52) - 2)) (((loZ (shZ v 7) 52) - 2)) (((loZ (shZ v 5) 15) - 2)) (((loZ (shZ v 8) 15) - 2)) ((shZ v 9)) (((loZ (shZ v 11) 10) - 2)) ((shZ v 6)) (0) r_v (by omega) (by omega) (by omega) (by omega) (by omega) (by omega) (by omega) (by omega) hI p e s m args below meth c M hr hlk hE hN hP0 ls (lv_sub hl [9, 10, 8, 7, 6, 5, 4, 3, 2, 1, 0] rfl)
      ·
        refine lv_tableIn (off := 358) (tgt := 593) M.1 M.2.1 dL_act_235 (by decide) (by decide) rfl (by decide) ?_
        exact la_593_1 l hst D cy z0 ad σ ur v (((loZ (shZ v 4) 52) - 2)) (((loZ (shZ v 7) 52) - 2)) (((loZ (shZ v 5) 15) - 2)) (((loZ (shZ v 8) 15) - 2)) ((shZ v 9)) (((loZ (shZ v 11) 10) - 2)) ((shZ v 6)) (0) r_v (by omega) (by omega) (by omega) (by omega) (by omega) (by omega) (by omega) (by omega) hI p e s m args below meth c M hr hlk hE hN hP0 ls (lv_sub hl [9, 10, 8, 7, 6, 5, 4, 3, 2, 1, 0] rfl)
      ·
        refine lv_tableIn (off := 358) (tgt := 593) M.1 M.2.1 dL_act_235 (by decide) (by decide) rfl (by decide) ?_
        exact la_593_1 l hst D cy z0 ad σ ur v (((loZ (shZ v 4) 52) - 2)) (((loZ (shZ v 7) 52) - 2)) (((loZ (shZ v 5) 15) - 2)) (((loZ (shZ v 8) 15) - 2)) ((shZ v 9)) (((loZ (shZ v 11) 10) - 2)) ((shZ v 6)) (0) r_v (by omega) (by omega) (by omega) (by omega) (by omega) (by omega) (by omega) (by omega) hI p e s m args below meth c M hr hlk hE hN hP0 ls (lv_sub hl [9, 10, 8, 7, 6, 5, 4, 3, 2, 1, 0] rfl)
      ·
        refine lv_tableIn (off := 358) (tgt := 593) M.1 M.2.1 dL_act_235 (by decide) (by decide) rfl (by decide) ?_
        exact la_593_1 l hst D cy z0 ad σ ur v (((loZ (shZ v 4) 52) - 2)) (((loZ (shZ v 7) 52) - 2)) (((loZ (shZ v 5) 15) - 2)) (((loZ (shZ v 8) 15) - 2)) ((shZ v 9)) (((loZ (shZ v 11) 10) - 2)) ((shZ v 6)) (0) r_v (by omega) (by omega) (by omega) (by omega) (by omega) (by omega) (by omega) (by omega) hI p e s m args below meth c M hr hlk hE hN hP0 ls (lv_sub hl [9, 10, 8, 7, 6, 5, 4, 3, 2, 1, 0] rfl)
      ·
        refine lv_tableIn (off := 358) (tgt := 593) M.1 M.2.1 dL_act_235 (by decide) (by decide) rfl (by decide) ?_
        exact la_593_1 l hst D cy z0 ad σ ur v (((loZ (shZ v 4) 52) - 2)) (((loZ (shZ v 7) 52) - 2)) (((loZ (shZ v 5) 15) - 2)) (((loZ (shZ v 8) 15) - 2)) ((shZ v 9)) (((loZ (shZ v 11) 10) - 2)) ((shZ v 6)) (0) r_v (by omega) (by omega) (by omega) (by omega) (by omega) (by omega) (by omega) (by omega) hI p e s m args below meth c M hr hlk hE hN hP0 ls (lv_sub hl [9, 10, 8, 7, 6, 5, 4, 3, 2, 1, 0] rfl)
      ·
        refine lv_tableIn (off := 417) (tgt := 652) M.1 M.2.1 dL_act_235 (by decide) (by decide) rfl (by decide) ?_
        exact la_652_1 l hst D cy z0 ad σ ur v (((loZ (shZ v 4) 52) - 2)) (((loZ (shZ v 7) 52) - 2)) (((loZ (shZ v 5) 15) - 2)) (((loZ (shZ v 8) 15) - 2)) ((shZ v 9)) (((loZ (shZ v 11) 10) - 2)) ((shZ v 6)) (0) r_v (by omega) (by omega) (by omega) (by omega) (by omega) (by omega) (by omega) (by omega) hI p e s m args below meth c M hr hlk hE hN hP0 ls (lv_sub hl [9, 10, 8, 7, 6, 5, 4, 3, 2, 1, 0] rfl)
      ·
        refine lv_tableIn (off := 417) (tgt := 652) M.1 M.2.1 dL_act_235 (by decide) (by decide) rfl (by decide) ?_
        exact la_652_1 l hst D cy z0 ad σ ur v (((loZ (shZ v 4) 52) - 2)) (((loZ (shZ v 7) 52) - 2)) (((loZ (shZ v 5) 15) - 2)) (((loZ (shZ v 8) 15) - 2)) ((shZ v 9)) (((loZ (shZ v 11) 10) - 2)) ((shZ v 6)) (0) r_v (by omega) (by omega) (by omega) (by omega) (by omega) (by omega) (by omega) (by omega) hI p e s m args below meth c M hr hlk hE hN hP0 ls (lv_sub hl [9, 10, 8, 7, 6, 5, 4, 3, 2, 1, 0] rfl)
      ·
        refine lv_tableIn (off := 439) (tgt := 674) M.1 M.2.1 dL_act_235 (by decide) (by decide) rfl (by decide) ?_
        exact la_674_1 l hst D cy z0 ad σ ur v (((loZ (shZ v 4) 52) - 2)) (((loZ (shZ v 7) 52) - 2)) (((loZ (shZ v 5) 15) - 2)) (((loZ (shZ v 8) 15) - 2)) ((shZ v 9)) (((loZ (shZ v 11) 10) - 2)) ((shZ v 6)) (0) r_v (by omega) (by omega) (by omega) (by omega) (by omega) (by omega) (by omega) (by omega) hI p e s m args below meth c M hr hlk hE hN hP0 ls (lv_sub hl [9, 10, 8, 7, 6, 5, 4, 3, 2, 1, 0] rfl)
      ·
        refine lv_tableIn (off := 439) (tgt := 674) M.1 M.2.1 dL_act_235 (by decide) (by decide) rfl (by decide) ?_
        exact la_674_1 l hst D cy z0 ad σ ur v (((loZ (shZ v 4) 52) - 2)) (((loZ (shZ v 7) 52) - 2)) (((loZ (shZ v 5) 15) - 2)) (((loZ (shZ v 8) 15) - 2)) ((shZ v 9)) (((loZ (shZ v 11) 10) - 2)) ((shZ v 6)) (0) r_v (by omega) (by omega) (by omega) (by omega) (by omega) (by omega) (by omega) (by omega) hI p e s m args below meth c M hr hlk hE hN hP0 ls (lv_sub hl [9, 10, 8, 7, 6, 5, 4, 3, 2, 1, 0] rfl)
      ·
        refine lv_tableIn (off := 439) (tgt := 674) M.1 M.2.1 dL_act_235 (by decide) (by decide) rfl (by decide) ?_
        exact la_674_1 l hst D cy z0 ad σ ur v (((loZ (shZ v 4) 52) - 2)) (((loZ (shZ v 7) 52) - 2)) (((loZ (shZ v 5) 15) - 2)) (((loZ (shZ v 8) 15) - 2)) ((shZ v 9)) (((loZ (shZ v 11) 10) - 2)) ((shZ v 6)) (0) r_v (by omega) (by omega) (by omega) (by omega) (by omega) (by omega) (by omega) (by omega) hI p e s m args below meth c M hr hlk hE hN hP0 ls (lv_sub hl [9, 10, 8, 7, 6, 5, 4, 3, 2, 1, 0] rfl)
      ·
        refine lv_tableIn (off := 439) (tgt := 674) M.1 M.2.1 dL_act_235 (by decide) (by decide) rfl (by decide) ?_
        exact la_674_1 l hst D cy z0 ad σ ur v (((loZ (shZ v 4) 52) - 2)) (((loZ (shZ v 7) 52) - 2)) (((loZ (shZ v 5) 15) - 2)) (((loZ (shZ v 8) 15) - 2)) ((shZ v 9)) (((loZ (shZ v 11) 10) - 2)) ((shZ v 6)) (0) r_v (by omega) (by omega) (by omega) (by omega) (by omega) (by omega) (by omega) (by omega) hI p e s m args below meth c M hr hlk hE hN hP0 ls (lv_sub hl [9, 10, 8, 7, 6, 5, 4, 3, 2, 1, 0] rfl)
      ·
        refine lv_tableIn (off := 439) (tgt := 674) M.1 M.2.1 dL_act_235 (by decide) (by decide) rfl (by decide) ?_
        exact la_674_1 l hst D cy z0 ad σ ur v (((loZ (shZ v 4) 52) - 2)) (((loZ (shZ v 7) 52) - 2)) (((loZ (shZ v 5) 15) - 2)) (((loZ (shZ v 8) 15) - 2)) ((shZ v 9)) (((loZ (shZ v 11) 10) - 2)) ((shZ v 6)) (0) r_v (by omega) (by omega) (by omega) (by omega) (by omega) (by omega) (by omega) (by omega) hI p e s m args below meth c M hr hlk hE hN hP0 ls (lv_sub hl [9, 10, 8, 7, 6, 5, 4, 3, 2, 1, 0] rfl)
      ·
        refine lv_tableIn (off := 469) (tgt := 704) M.1 M.2.1 dL_act_235 (by decide) (by decide) rfl (by decide) ?_
        exact la_704_1 l hst D cy z0 ad σ ur v (((loZ (shZ v 4) 52) - 2)) (((loZ (shZ v 7) 52) - 2)) (((loZ (shZ v 5) 15) - 2)) (((loZ (shZ v 8) 15) - 2)) ((shZ v 9)) (((loZ (shZ v 11) 10) - 2)) ((shZ v 6)) (0) r_v (by omega) (by omega) (by omega) (by omega) (by omega) (by omega) (by omega) (by omega) hI p e s m args below meth c M hr hlk hE hN hP0 ls (lv_sub hl [9, 10, 8, 7, 6, 5, 4, 3, 2, 1, 0] rfl)
      ·
        refine lv_tableIn (off := 469) (tgt := 704) M.1 M.2.1 dL_act_235 (by decide) (by decide) rfl (by decide) ?_
        exact la_704_1 l hst D cy z0 ad σ ur v (((loZ (shZ v 4) 52) - 2)) (((loZ (shZ v 7) 52) - 2)) (((loZ (shZ v 5) 15) - 2)) (((loZ (shZ v 8) 15) - 2)) ((shZ v 9)) (((loZ (shZ v 11) 10) - 2)) ((shZ v 6)) (0) r_v (by omega) (by omega) (by omega) (by omega) (by omega) (by omega) (by omega) (by omega) hI p e s m args below meth c M hr hlk hE hN hP0 ls (lv_sub hl [9, 10, 8, 7, 6, 5, 4, 3, 2, 1, 0] rfl)
      ·
        refine lv_tableIn (off := 469) (tgt := 704) M.1 M.2.1 dL_act_235 (by decide) (by decide) rfl (by decide) ?_
        exact la_704_1 l hst D cy z0 ad σ ur v (((loZ (shZ v 4) 52) - 2)) (((loZ (shZ v 7) 52) - 2)) (((loZ (shZ v 5) 15) - 2)) (((loZ (shZ v 8) 15) - 2)) ((shZ v 9)) (((loZ (shZ v 11) 10) - 2)) ((shZ v 6)) (0) r_v (by omega) (by omega) (by omega) (by omega) (by omega) (by omega) (by omega) (by omega) hI p e s m args below meth c M hr hlk hE hN hP0 ls (lv_sub hl [9, 10, 8, 7, 6, 5, 4, 3, 2, 1, 0] rfl)
      ·
        refine lv_tableIn (off := 469) (tgt := 704) M.1 M.2.1 dL_act_235 (by decide) (by decide) rfl (by decide) ?_
        exact la_704_1 l hst D cy z0 ad σ ur v (((loZ (shZ v 4) 52) - 2)) (((loZ (shZ v 7) 52) - 2)) (((loZ (shZ v 5) 15) - 2)) (((loZ (shZ v 8) 15) - 2)) ((shZ v 9)) (((loZ (shZ v 11) 10) - 2)) ((shZ v 6)) (0) r_v (by omega) (by omega) (by omega) (by omega) (by omega) (by omega) (by omega) (by omega) hI p e s m args below meth c M hr hlk hE hN hP0 ls (lv_sub hl [9, 10, 8, 7, 6, 5, 4, 3, 2, 1, 0] rfl)
      ·
        refine lv_tableIn (off := 469) (tgt := 704) M.1 M.2.1 dL_act_235 (by decide) (by decide) rfl (by decide) ?_
        exact la_704_1 l hst D cy z0 ad σ ur v (((loZ (shZ v 4) 52) - 2)) (((loZ (shZ v 7) 52) - 2)) (((loZ (shZ v 5) 15) - 2)) (((loZ (shZ v 8) 15) - 2)) ((shZ v 9)) (((loZ (shZ v 11) 10) - 2)) ((shZ v 6)) (0) r_v (by omega) (by omega) (by omega) (by omega) (by omega) (by omega) (by omega) (by omega) hI p e s m args below meth c M hr hlk hE hN hP0 ls (lv_sub hl [9, 10, 8, 7, 6, 5, 4, 3, 2, 1, 0] rfl)
      ·
        refine lv_tableIn (off := 469) (tgt := 704) M.1 M.2.1 dL_act_235 (by decide) (by decide) rfl (by decide) ?_
        exact la_704_1 l hst D cy z0 ad σ ur v (((loZ (shZ v 4) 52) - 2)) (((loZ (shZ v 7) 52) - 2)) (((loZ (shZ v 5) 15) - 2)) (((loZ (shZ v 8) 15) - 2)) ((shZ v 9)) (((loZ (shZ v 11) 10) - 2)) ((shZ v 6)) (0) r_v (by omega) (by omega) (by omega) (by omega) (by omega) (by omega) (by omega) (by omega) hI p e s m args below meth c M hr hlk hE hN hP0 ls (lv_sub hl [9, 10, 8, 7, 6, 5, 4, 3, 2, 1, 0] rfl)
      ·
        refine lv_tableIn (off := 480) (tgt := 715) M.1 M.2.1 dL_act_235 (by decide) (by decide) rfl (by decide) ?_
        exact la_715_1 l hst D cy z0 ad σ ur v (((loZ (shZ v 4) 52) - 2)) (((loZ (shZ v 7) 52) - 2)) (((loZ (shZ v 5) 15) - 2)) (((loZ (shZ v 8) 15) - 2)) ((shZ v 9)) (((loZ (shZ v 11) 10) - 2)) ((shZ v 6)) (0) r_v (by omega) (by omega) (by omega) (by omega) (by omega) (by omega) (by omega) (by omega) hI p e s m args below meth c M hr hlk hE hN hP0 ls (lv_sub hl [9, 10, 8, 7, 6, 5, 4, 3, 2, 1, 0] rfl)
      ·
        refine lv_tableIn (off := 486) (tgt := 721) M.1 M.2.1 dL_act_235 (by decide) (by decide) rfl (by decide) ?_
        exact la_721_1 l hst D cy z0 ad σ ur v (((loZ (shZ v 4) 52) - 2)) (((loZ (shZ v 7) 52) - 2)) (((loZ (shZ v 5) 15) - 2)) (((loZ (shZ v 8) 15) - 2)) ((shZ v 9)) (((loZ (shZ v 11) 10) - 2)) ((shZ v 6)) (0) r_v (by omega) (by omega) (by omega) (by omega) (by omega) (by omega) (by omega) (by omega) hI p e s m args below meth c M hr hlk hE hN hP0 ls (lv_sub hl [9, 10, 8, 7, 6, 5, 4, 3, 2, 1, 0] rfl)
      ·
        refine lv_tableIn (off := 510) (tgt := 745) M.1 M.2.1 dL_act_235 (by decide) (by decide) rfl (by decide) ?_
        exact la_745_1 l hst D cy z0 ad σ ur v (((loZ (shZ v 4) 52) - 2)) (((loZ (shZ v 7) 52) - 2)) (((loZ (shZ v 5) 15) - 2)) (((loZ (shZ v 8) 15) - 2)) ((shZ v 9)) (((loZ (shZ v 11) 10) - 2)) ((shZ v 6)) (0) r_v (by omega) (by omega) (by omega) (by omega) (by omega) (by omega) (by omega) (by omega) hI p e s m args below meth c M hr hlk hE hN hP0 ls (lv_sub hl [9, 10, 8, 7, 6, 5, 4, 3, 2, 1, 0] rfl)
      ·
        refine lv_tableIn (off := 518) (tgt := 753) M.1 M.2.1 dL_act_235 (by decide) (by decide) rfl (by decide) ?_
        exact la_753_1 l hst D cy z0 ad σ ur v (((loZ (shZ v 4) 52) - 2)) (((loZ (shZ v 7) 52) - 2)) (((loZ (shZ v 5) 15) - 2)) (((loZ (shZ v 8) 15) - 2)) ((shZ v 9)) (((loZ (shZ v 11) 10) - 2)) ((shZ v 6)) (0) r_v (by omega) (by omega) (by omega) (by omega) (by omega) (by omega) (by omega) (by omega) hI p e s m args below meth c M hr hlk hE hN hP0 ls (lv_sub hl [9, 10, 8, 7, 6, 5, 4, 3, 2, 1, 0] rfl)
      ·
        refine lv_tableIn (off := 568) (tgt := 803) M.1 M.2.1 dL_act_235 (by decide) (by decide) rfl (by decide) ?_
        exact la_803_1 l hst D cy z0 ad σ ur v (((loZ (shZ v 4) 52) - 2)) (((loZ (shZ v 7) 52) - 2)) (((loZ (shZ v 5) 15) - 2)) (((loZ (shZ v 8) 15) - 2)) ((shZ v 9)) (((loZ (shZ v 11) 10) - 2)) ((shZ v 6)) (0) r_v (by omega) (by omega) (by omega) (by omega) (by omega) (by omega) (by omega) (by omega) hI p e s m args below meth c M hr hlk hE hN hP0 ls (lv_sub hl [9, 10, 8, 7, 6, 5, 4, 3, 2, 1, 0] rfl)
      ·
        refine lv_tableIn (off := 592) (tgt := 827) M.1 M.2.1 dL_act_235 (by decide) (by decide) rfl (by decide) ?_
        exact la_827_1 l hst D cy z0 ad σ ur v (((loZ (shZ v 4) 52) - 2)) (((loZ (shZ v 7) 52) - 2)) (((loZ (shZ v 5) 15) - 2)) (((loZ (shZ v 8) 15) - 2)) ((shZ v 9)) (((loZ (shZ v 11) 10) - 2)) ((shZ v 6)) (0) r_v (by omega) (by omega) (by omega) (by omega) (by omega) (by omega) (by omega) (by omega) hI p e s m args below meth c M hr hlk hE hN hP0 ls (lv_sub hl [9, 10, 8, 7, 6, 5, 4, 3, 2, 1, 0] rfl)
      ·
        refine lv_tableIn (off := 644) (tgt := 879) M.1 M.2.1 dL_act_235 (by decide) (by decide) rfl (by decide) ?_
        exact la_879_1 l hst D cy z0 ad σ ur v (((loZ (shZ v 4) 52) - 2)) (((loZ (shZ v 7) 52) - 2)) (((loZ (shZ v 5) 15) - 2)) (((loZ (shZ v 8) 15) - 2)) ((shZ v 9)) (((loZ (shZ v 11) 10) - 2)) ((shZ v 6)) (0) r_v (by omega) (by omega) (by omega) (by omega) (by omega) (by omega) (by omega) (by omega) hI p e s m args below meth c M hr hlk hE hN hP0 ls (lv_sub hl [9, 10, 8, 7, 6, 5, 4, 3, 2, 1, 0] rfl)
      ·
        refine lv_tableIn (off := 677) (tgt := 912) M.1 M.2.1 dL_act_235 (by decide) (by decide) rfl (by decide) ?_
        exact la_912_1 l hst D cy z0 ad σ ur v (((loZ (shZ v 4) 52) - 2)) (((loZ (shZ v 7) 52) - 2)) (((loZ (shZ v 5) 15) - 2)) (((loZ (shZ v 8) 15) - 2)) ((shZ v 9)) (((loZ (shZ v 11) 10) - 2)) ((shZ v 6)) (0) r_v (by omega) (by omega) (by omega) (by omega) (by omega) (by omega) (by omega) (by omega) hI p e s m args below meth c M hr hlk hE hN hP0 ls (lv_sub hl [9, 10, 8, 7, 6, 5, 4, 3, 2, 1, 0] rfl)
      ·
        refine lv_tableIn (off := 721) (tgt := 956) M.1 M.2.1 dL_act_235 (by decide) (by decide) rfl (by decide) ?_
        exact la_956_1 l hst D cy z0 ad σ ur v (((loZ (shZ v 4) 52) - 2)) (((loZ (shZ v 7) 52) - 2)) (((loZ (shZ v 5) 15) - 2)) (((loZ (shZ v 8) 15) - 2)) ((shZ v 9)) (((loZ (shZ v 11) 10) - 2)) ((shZ v 6)) (0) r_v (by omega) (by omega) (by omega) (by omega) (by omega) (by omega) (by omega) (by omega) hI p e s m args below meth c M hr hlk hE hN hP0 ls (lv_sub hl [9, 10, 8, 7, 6, 5, 4, 3, 2, 1, 0] rfl)
      ·
        refine lv_tableIn (off := 732) (tgt := 967) M.1 M.2.1 dL_act_235 (by decide) (by decide) rfl (by decide) ?_
        exact la_967_1 l hst D cy z0 ad σ ur v (((loZ (shZ v 4) 52) - 2)) (((loZ (shZ v 7) 52) - 2)) (((loZ (shZ v 5) 15) - 2)) (((loZ (shZ v 8) 15) - 2)) ((shZ v 9)) (((loZ (shZ v 11) 10) - 2)) ((shZ v 6)) (0) r_v (by omega) (by omega) (by omega) (by omega) (by omega) (by omega) (by omega) (by omega) hI p e s m args below meth c M hr hlk hE hN hP0 ls (lv_sub hl [9, 10, 8, 7, 6, 5, 4, 3, 2, 1, 0] rfl)
      ·
        refine lv_tableIn (off := 756) (tgt := 991) M.1 M.2.1 dL_act_235 (by decide) (by decide) rfl (by decide) ?_
        exact la_991_1 l hst D cy z0 ad σ ur v (((loZ (shZ v 4) 52) - 2)) (((loZ (shZ v 7) 52) - 2)) (((loZ (shZ v 5) 15) - 2)) (((loZ (shZ v 8) 15) - 2)) ((shZ v 9)) (((loZ (shZ v 11) 10) - 2)) ((shZ v 6)) (0) r_v (by omega) (by omega) (by omega) (by omega) (by omega) (by omega) (by omega) (by omega) hI p e s m args below meth c M hr hlk hE hN hP0 ls (lv_sub hl [9, 10, 8, 7, 6, 5, 4, 3, 2, 1, 0] rfl)
      ·
        refine lv_tableIn (off := 756) (tgt := 991) M.1 M.2.1 dL_act_235 (by decide) (by decide) rfl (by decide) ?_
        exact la_991_1 l hst D cy z0 ad σ ur v (((loZ (shZ v 4) 52) - 2)) (((loZ (shZ v 7) 52) - 2)) (((loZ (shZ v 5) 15) - 2)) (((loZ (shZ v 8) 15) - 2)) ((shZ v 9)) (((loZ (shZ v 11) 10) - 2)) ((shZ v 6)) (0) r_v (by omega) (by omega) (by omega) (by omega) (by omega) (by omega) (by omega) (by omega) hI p e s m args below meth c M hr hlk hE hN hP0 ls (lv_sub hl [9, 10, 8, 7, 6, 5, 4, 3, 2, 1, 0] rfl)
      ·
        refine lv_tableIn (off := 796) (tgt := 1031) M.1 M.2.1 dL_act_235 (by decide) (by decide) rfl (by decide) ?_
        exact la_1031_1 l hst D cy z0 ad σ ur v (((loZ (shZ v 4) 52) - 2)) (((loZ (shZ v 7) 52) - 2)) (((loZ (shZ v 5) 15) - 2)) (((loZ (shZ v 8) 15) - 2)) ((shZ v 9)) (((loZ (shZ v 11) 10) - 2)) ((shZ v 6)) (0) r_v (by omega) (by omega) (by omega) (by omega) (by omega) (by omega) (by omega) (by omega) hI p e s m args below meth c M hr hlk hE hN hP0 ls (lv_sub hl [9, 10, 8, 7, 6, 5, 4, 3, 2, 1, 0] rfl)
      ·
        refine lv_tableOut (tgt := 1038) M.1 M.2.1 dL_act_235 (by decide) (by decide) ?_
        exact la_1038_1 l hst D cy z0 ad σ ur v (((loZ (shZ v 4) 52) - 2)) (((loZ (shZ v 7) 52) - 2)) (((loZ (shZ v 5) 15) - 2)) (((loZ (shZ v 8) 15) - 2)) ((shZ v 9)) (((loZ (shZ v 11) 10) - 2)) ((shZ v 6)) (0) r_v (by omega) (by omega) (by omega) (by omega) (by omega) (by omega) (by omega) (by omega) hI p e s m args below meth c M hr hlk hE hN hP0 ls (lv_sub hl [9, 10, 8, 7, 6, 5, 4, 3, 2, 1, 0] rfl)
    ·
      have e9 : isZ v = 1 := if_pos cyi
      rw [e9]
      refine zi_push M dL_act_222 ?_
      refine zi_goto (tgt := 227) M dL_act_223 (by decide) ?_
      refine lv_istore (lv' := [(10, .int (iI 1)), (9, .int (iI (shZ v 6))), (8, .int (iI ((loZ (shZ v 11) 10) - 2))), (7, .int (iI (shZ v 9))), (6, .int (iI ((loZ (shZ v 8) 15) - 2))), (5, .int (iI ((loZ (shZ v 5) 15) - 2))), (4, .int (iI ((loZ (shZ v 7) 52) - 2))), (3, .int (iI ((loZ (shZ v 4) 52) - 2))), (2, .int (iI 1)), (0, .ref (ad 0)), (1, .int (iI v))]) M.1 M.2.1 dL_act_227 hl (by decide) rfl (fun ls hl => ?_)
      refine lv_iload_n M.1 M.2.1 dL_act_229 rfl (lv_at hl 10 rfl) ?_
      refine zi_bipush M dL_act_230 ⟨by decide, by decide⟩ ?_
      refine z_cR (z_runS (As := [.int (iI v), .int (iI 42)]) (rest := []) M (c_L_low l D cy z0 v 42 (by omega)) hE hS hAz trivial zk_cd_L_low zk_in_RL zk_st_L_low zk_ml_RL_105 rfl rfl zd_L_low ⟨by decide, by decide⟩ rfl hl.1 rfl (Nat.le_of_ble_eq_true rfl) dL_act_232 ⟨by decide, by decide⟩) ?_
      have hx_17 := loZ_rg2 (v) (42) (by omega)
      have hk9 := loZ_rg2 v 42 (by decide)
      generalize loZ v 42 = k9 at hk9 ⊢
      rcases (by omega : k9 = 0 ∨ k9 = 1 ∨ k9 = 2 ∨ k9 = 3 ∨ k9 = 4 ∨ k9 = 5 ∨ k9 = 6 ∨ k9 = 7 ∨ k9 = 8 ∨ k9 = 9 ∨ k9 = 10 ∨ k9 = 11 ∨ k9 = 12 ∨ k9 = 13 ∨ k9 = 14 ∨ k9 = 15 ∨ k9 = 16 ∨ k9 = 17 ∨ k9 = 18 ∨ k9 = 19 ∨ k9 = 20 ∨ k9 = 21 ∨ k9 = 22 ∨ k9 = 23 ∨ k9 = 24 ∨ k9 = 25 ∨ k9 = 26 ∨ k9 = 27 ∨ k9 = 28 ∨ k9 = 29 ∨ k9 = 30 ∨ k9 = 31 ∨ k9 = 32 ∨ k9 = 33 ∨ k9 = 34 ∨ k9 = 35 ∨ k9 = 36 ∨ k9 = 37 ∨ k9 = 38 ∨ k9 = 39 ∨ k9 = 40 ∨ k9 = 41) with rfl | rfl | rfl | rfl | rfl | rfl | rfl | rfl | rfl | rfl | rfl | rfl | rfl | rfl | rfl | rfl | rfl | rfl | rfl | rfl | rfl | rfl | rfl | rfl | rfl | rfl | rfl | rfl | rfl | rfl | rfl | rfl | rfl | rfl | rfl | rfl | rfl | rfl | rfl | rfl | rfl | rfl
      ·
        refine lv_tableIn (off := 177) (tgt := 412) M.1 M.2.1 dL_act_235 (by decide) (by decide) rfl (by decide) ?_
        exact la_412_1 l hst D cy z0 ad σ ur v (((loZ (shZ v 4) 52) - 2)) (((loZ (shZ v 7) 52) - 2)) (((loZ (shZ v 5) 15) - 2)) (((loZ (shZ v 8) 15) - 2)) ((shZ v 9)) (((loZ (shZ v 11) 10) - 2)) ((shZ v 6)) (1) r_v (by omega) (by omega) (by omega) (by omega) (by omega) (by omega) (by omega) (by omega) hI p e s m args below meth c M hr hlk hE hN hP0 ls (lv_sub hl [9, 10, 8, 7, 6, 5, 4, 3, 2, 1, 0] rfl)
      ·
        refine lv_tableIn (off := 202) (tgt := 437) M.1 M.2.1 dL_act_235 (by decide) (by decide) rfl (by decide) ?_
        exact la_437_1 l hst D cy z0 ad σ ur v (((loZ (shZ v 4) 52) - 2)) (((loZ (shZ v 7) 52) - 2)) (((loZ (shZ v 5) 15) - 2)) (((loZ (shZ v 8) 15) - 2)) ((shZ v 9)) (((loZ (shZ v 11) 10) - 2)) ((shZ v 6)) (1) r_v (by omega) (by omega) (by omega) (by omega) (by omega) (by omega) (by omega) (by omega) hI p e s m args below meth c M hr hlk hE hN hP0 ls (lv_sub hl [9, 10, 8, 7, 6, 5, 4, 3, 2, 1, 0] rfl)
      ·
        refine lv_tableIn (off := 246) (tgt := 481) M.1 M.2.1 dL_act_235 (by decide) (by decide) rfl (by decide) ?_
        exact la_481_1 l hst D cy z0 ad σ ur v (((loZ (shZ v 4) 52) - 2)) (((loZ (shZ v 7) 52) - 2)) (((loZ (shZ v 5) 15) - 2)) (((loZ (shZ v 8) 15) - 2)) ((shZ v 9)) (((loZ (shZ v 11) 10) - 2)) ((shZ v 6)) (1) r_v (by omega) (by omega) (by omega) (by omega) (by omega) (by omega) (by omega) (by omega) hI p e s m args below meth c M hr hlk hE hN hP0 ls (lv_sub hl [9, 10, 8, 7, 6, 5, 4, 3, 2, 1, 0] rfl)
      ·
        refine lv_tableIn (off := 264) (tgt := 499) M.1 M.2.1 dL_act_235 (by decide) (by decide) rfl (by decide) ?_
        exact la_499_1 l hst D cy z0 ad σ ur v (((loZ (shZ v 4) 52) - 2)) (((loZ (shZ v 7) 52) - 2)) (((loZ (shZ v 5) 15) - 2)) (((loZ (shZ v 8) 15) - 2)) ((shZ v 9)) (((loZ (shZ v 11) 10) - 2)) ((shZ v 6)) (1) r_v (by omega) (by omega) (by omega) (by omega) (by omega) (by omega) (by omega) (by omega) hI p e s m args below meth c M hr hlk hE hN hP0 ls (lv_sub hl [9, 10, 8, 7, 6, 5, 4, 3, 2, 1, 0] rfl)
      ·
        refine lv_tableIn (off := 302) (tgt := 537) M.1 M.2.1 dL_act_235 (by decide) (by decide) rfl (by decide) ?_
        exact la_537_1 l hst D cy z0 ad σ ur v (((loZ (shZ v 4) 52) - 2)) (((loZ (shZ v 7) 52) - 2)) (((loZ (shZ v 5) 15) - 2)) (((loZ (shZ v 8) 15) - 2)) ((shZ v 9)) (((loZ (shZ v 11) 10) - 2)) ((shZ v 6)) (1) r_v (by omega) (by omega) (by omega) (by omega) (by omega) (by omega) (by omega) (by omega) hI p e s m args below meth c M hr hlk hE hN hP0 ls (lv_sub hl [9, 10, 8, 7, 6, 5, 4, 3, 2, 1, 0] rfl)
      ·
        refine lv_tableIn (off := 310) (tgt := 545) M.1 M.2.1 dL_act_235 (by decide) (by decide) rfl (by decide) ?_
        exact la_545_1 l hst D cy z0 ad σ ur v (((loZ (shZ v 4) 52) - 2)) (((loZ (shZ v 7) 52) - 2)) (((loZ (shZ v 5) 15) - 2)) (((loZ (shZ v 8) 15) - 2)) ((shZ v 9)) (((loZ (shZ v 11) 10) - 2)) ((shZ v 6)) (1) r_v (by omega) (by omega) (by omega) (by omega) (by omega) (by omega) (by omega) (by omega) hI p e s m args below meth c M hr hlk hE hN hP0 ls (lv_sub hl [9, 10, 8, 7, 6, 5, 4, 3, 2, 1, 0] rfl)
      ·
        refine lv_tableIn (off := 334) (tgt := 569) M.1 M.2.1 dL_act_235 (by decide) (by decide) rfl (by decide) ?_
        exact la_569_1 l hst D cy z0 ad σ ur v (((loZ (shZ v 4) 52) - 2)) (((loZ (shZ v 7) 52) - 2)) (((loZ (shZ v 5) 15) - 2)) (((loZ (shZ v 8) 15) - 2)) ((shZ v 9)) (((loZ (shZ v 11) 10) - 2)) ((shZ v 6)) (1) r_v (by omega) (by omega) (by omega) (by omega) (by omega) (by omega) (by omega) (by omega) hI p e s m args below meth c M hr hlk hE hN hP0 ls (lv_sub hl [9, 10, 8, 7, 6, 5, 4, 3, 2, 1, 0] rfl)
      ·
        refine lv_tableIn (off := 334) (tgt := 569) M.1 M.2.1 dL_act_235 (by decide) (by decide) rfl (by decide) ?_
        exact la_569_1 l hst D cy z0 ad σ ur v (((loZ (shZ v 4) 52) - 2)) (((loZ (shZ v 7) 52) - 2)) (((loZ (shZ v 5) 15) - 2)) (((loZ (shZ v 8) 15) - 2)) ((shZ v 9)) (((loZ (shZ v 11) 10) - 2)) ((shZ v 6)) (1) r_v (by omega) (by omega) (by omega) (by omega) (by omega) (by omega) (by omega) (by omega) hI p e s m args below meth c M hr hlk hE hN hP0 ls (lv_sub hl [9, 10, 8, 7, 6, 5, 4, 3, 2, 1, 0] rfl)
      ·
        refine lv_tableIn (off := 334) (tgt := 569) M.1 M.2.1 dL_act_235 (by decide) (by decide) rfl (by decide) ?_
        exact la_569_1 l hst D cy z0 ad σ ur v (((loZ (shZ v 4) 52) - 2)) (((loZ (shZ v 7) 52) - 2)) (((loZ (shZ v 5) 15) - 2)) (((loZ (shZ v 8) 15) - 2)) ((shZ v 9)) (((loZ (shZ v 11) 10) - 2)) ((shZ v 6)) (1) r_v (by omega) (by omega) (by omega) (by omega) (by omega) (by omega) (by omega) (by omega) hI p e s m args below meth c M hr hlk hE hN hP0 ls (lv_sub hl [9, 10, 8, 7, 6, 5, 4, 3, 2, 1, 0] rfl)
      ·
        refine lv_tableIn (off := 334) (tgt := 569) M.1 M.2.1 dL_act_235 (by decide) (by decide) rfl (by decide) ?_
        exact la_569_1 l hst D cy z0 ad σ ur v (((loZ (shZ v 4) 52) - 2)) (((loZ (shZ v 7) 52) - 2)) (((loZ (shZ v 5) 15) - 2)) (((loZ (shZ v 8) 15) - 2)) ((shZ v 9)) (((loZ (shZ v 11) 10) - 2)) ((shZ v 6)) (1) r_v (by omega) (by omega) (by omega) (by omega) (by omega) (by omega) (by omega) (by omega) hI p e s m args below meth c M hr hlk hE hN hP0 ls (lv_sub hl [9, 10, 8, 7, 6, 5, 4, 3, 2, 1, 0] rfl)
      ·
        refine lv_tableIn (off := 358) (tgt := 593) M.1 M.2.1 dL_act_235 (by decide) (by decide) rfl (by decide) ?_
        exact la_593_1 l hst D cy z0 ad σ ur v (((loZ (shZ v 4) 52) - 2)) (((loZ (shZ v 7) 52) - 2)) (((loZ (shZ v 5) 15) - 2)) (((loZ (shZ v 8) 15) - 2)) ((shZ v 9)) (((loZ (shZ v 11) 10) - 2)) ((shZ v 6)) (1) r_v (by omega) (by omega) (by omega) (by omega) (by omega) (by omega) (by omega) (by omega) hI p e s m args below meth c M hr hlk hE hN hP0 ls (lv_sub hl [9, 10, 8, 7, 6, 5, 4, 3, 2, 1, 0] rfl)
      ·
        refine lv_tableIn (off := 358) (tgt := 593) M.1 M.2.1 dL_act_235 (by decide) (by decide) rfl (by decide) ?_
        exact la_593_1 l hst D cy z0 ad σ ur v (((loZ (shZ v 4) 52) - 2)) (((loZ (shZ v 7) 52) - 2)) (((loZ (shZ v 5) 15) - 2)) (((loZ (shZ v 8) 15) - 2)) ((shZ v 9)) (((loZ (shZ v 11) 10) - 2)) ((shZ v 6)) (1) r_v (by omega) (by omega) (by omega) (by omega) (by omega) (by omega) (by omega) (by omega) hI p e s m args below meth c M hr hlk hE hN hP0 ls (lv_sub hl [9, 10, 8, 7, 6, 5, 4, 3, 2, 1, 0] rfl)
      ·
        refine lv_tableIn (off := 358) (tgt := 593) M.1 M.2.1 dL_act_235 (by decide) (by decide) rfl (by decide) ?_
        exact la_593_1 l hst D cy z0 ad σ ur v (((loZ (shZ v 4) 52) - 2)) (((loZ (shZ v 7) 52) - 2)) (((loZ (shZ v 5) 15) - 2)) (((loZ (shZ v 8) 15) - 2)) ((shZ v 9)) (((loZ (shZ v 11) 10) - 2)) ((shZ v 6)) (1) r_v (by omega) (by omega) (by omega) (by omega) (by omega) (by omega) (by omega) (by omega) hI p e s m args below meth c M hr hlk hE hN hP0 ls (lv_sub hl [9, 10, 8, 7, 6, 5, 4, 3, 2, 1, 0] rfl)
      ·
        refine lv_tableIn (off := 358) (tgt := 593) M.1 M.2.1 dL_act_235 (by decide) (by decide) rfl (by decide) ?_
        exact la_593_1 l hst D cy z0 ad σ ur v (((loZ (shZ v 4) 52) - 2)) (((loZ (shZ v 7) 52) - 2)) (((loZ (shZ v 5) 15) - 2)) (((loZ (shZ v 8) 15) - 2)) ((shZ v 9)) (((loZ (shZ v 11) 10) - 2)) ((shZ v 6)) (1) r_v (by omega) (by omega) (by omega) (by omega) (by omega) (by omega) (by omega) (by omega) hI p e s m args below meth c M hr hlk hE hN hP0 ls (lv_sub hl [9, 10, 8, 7, 6, 5, 4, 3, 2, 1, 0] rfl)
      ·
        refine lv_tableIn (off := 358) (tgt := 593) M.1 M.2.1 dL_act_235 (by decide) (by decide) rfl (by decide) ?_
        exact la_593_1 l hst D cy z0 ad σ ur v (((loZ (shZ v 4) 52) - 2)) (((loZ (shZ v 7) 52) - 2)) (((loZ (shZ v 5) 15) - 2)) (((loZ (shZ v 8) 15) - 2)) ((shZ v 9)) (((loZ (shZ v 11) 10) - 2)) ((shZ v 6)) (1) r_v (by omega) (by omega) (by omega) (by omega) (by omega) (by omega) (by omega) (by omega) hI p e s m args below meth c M hr hlk hE hN hP0 ls (lv_sub hl [9, 10, 8, 7, 6, 5, 4, 3, 2, 1, 0] rfl)
      ·
        refine lv_tableIn (off := 417) (tgt := 652) M.1 M.2.1 dL_act_235 (by decide) (by decide) rfl (by decide) ?_
        exact la_652_1 l hst D cy z0 ad σ ur v (((loZ (shZ v 4) 52) - 2)) (((loZ (shZ v 7) 52) - 2)) (((loZ (shZ v 5) 15) - 2)) (((loZ (shZ v 8) 15) - 2)) ((shZ v 9)) (((loZ (shZ v 11) 10) - 2)) ((shZ v 6)) (1) r_v (by omega) (by omega) (by omega) (by omega) (by omega) (by omega) (by omega) (by omega) hI p e s m args below meth c M hr hlk hE hN hP0 ls (lv_sub hl [9, 10, 8, 7, 6, 5, 4, 3, 2, 1, 0] rfl)
      ·
        refine lv_tableIn (off := 417) (tgt := 652) M.1 M.2.1 dL_act_235 (by decide) (by decide) rfl (by decide) ?_
        exact la_652_1 l hst D cy z0 ad σ ur v (((loZ (shZ v 4) 52) - 2)) (((loZ (shZ v 7) 52) - 2)) (((loZ (shZ v 5) 15) - 2)) (((loZ (shZ v 8) 15) - 2)) ((shZ v 9)) (((loZ (shZ v 11) 10) - 2)) ((shZ v 6)) (1) r_v (by omega) (by omega) (by omega) (by omega) (by omega) (by omega) (by omega) (by omega) hI p e s m args below meth c M hr hlk hE hN hP0 ls (lv_sub hl [9, 10, 8, 7, 6, 5, 4, 3, 2, 1, 0] rfl)
      ·
        refine lv_tableIn (off := 439) (tgt := 674) M.1 M.2.1 dL_act_235 (by decide) (by decide) rfl (by decide) ?_
        exact la_674_1 l hst D cy z0 ad σ ur v (((loZ (shZ v 4) 52) - 2)) (((loZ (shZ v 7) 52) - 2)) (((loZ (shZ v 5) 15) - 2)) (((loZ (shZ v 8) 15) - 2)) ((shZ v 9)) (((loZ (shZ v 11) 10) - 2)) ((shZ v 6)) (1) r_v (by omega) (by omega) (by omega) (by omega) (by omega) (by omega) (by omega) (by omega) hI p e s m args below meth c M hr hlk hE hN hP0 ls (lv_sub hl [9, 10, 8, 7, 6, 5, 4, 3, 2, 1, 0] rfl)
      ·
        refine lv_tableIn (off := 439) (tgt := 674) M.1 M.2.1 dL_act_235 (by decide) (by decide) rfl (by decide) ?_
        exact la_674_1 l hst D cy z0 ad σ ur v (((loZ (shZ v 4) 52) - 2)) (((loZ (shZ v 7) 52) - 2)) (((loZ (shZ v 5) 15) - 2)) (((loZ (shZ v 8) 15) - 2)) ((shZ v 9)) (((loZ (shZ v 11) 10) - 2)) ((shZ v 6)) (1) r_v (by omega) (by omega) (by omega) (by omega) (by omega) (by omega) (by omega) (by omega) hI p e s m args below meth c M hr hlk hE hN hP0 ls (lv_sub hl [9, 10, 8, 7, 6, 5, 4, 3, 2, 1, 0] rfl)
      ·
        refine lv_tableIn (off := 439) (tgt := 674) M.1 M.2.1 dL_act_235 (by decide) (by decide) rfl (by decide) ?_
        exact la_674_1 l hst D cy z0 ad σ ur v (((loZ (shZ v 4) 52) - 2)) (((loZ (shZ v 7) 52) - 2)) (((loZ (shZ v 5) 15) - 2)) (((loZ (shZ v 8) 15) - 2)) ((shZ v 9)) (((loZ (shZ v 11) 10) - 2)) ((shZ v 6)) (1) r_v (by omega) (by omega) (by omega) (by omega) (by omega) (by omega) (by omega) (by omega) hI p e s m args below meth c M hr hlk hE hN hP0 ls (lv_sub hl [9, 10, 8, 7, 6, 5, 4, 3, 2, 1, 0] rfl)
      ·
        refine lv_tableIn (off := 439) (tgt := 674) M.1 M.2.1 dL_act_235 (by decide) (by decide) rfl (by decide) ?_
        exact la_674_1 l hst D cy z0 ad σ ur v (((loZ (shZ v 4) 52) - 2)) (((loZ (shZ v 7) 52) - 2)) (((loZ (shZ v 5) 15) - 2)) (((loZ (shZ v 8) 15) - 2)) ((shZ v 9)) (((loZ (shZ v 11) 10) - 2)) ((shZ v 6)) (1) r_v (by omega) (by omega) (by omega) (by omega) (by omega) (by omega) (by omega) (by omega) hI p e s m args below meth c M hr hlk hE hN hP0 ls (lv_sub hl [9, 10, 8, 7, 6, 5, 4, 3, 2, 1, 0] rfl)
      ·
        refine lv_tableIn (off := 439) (tgt := 674) M.1 M.2.1 dL_act_235 (by decide) (by decide) rfl (by decide) ?_
        exact la_674_1 l hst D cy z0 ad σ ur v (((loZ (shZ v 4) 52) - 2)) (((loZ (shZ v 7) 52) - 2)) (((loZ (shZ v 5) 15) - 2)) (((loZ (shZ v 8) 15) - 2)) ((shZ v 9)) (((loZ (shZ v 11) 10) - 2)) ((shZ v 6)) (1) r_v (by omega) (by omega) (by omega) (by omega) (by omega) (by omega) (by omega) (by omega) hI p e s m args below meth c M hr hlk hE hN hP0 ls (lv_sub hl [9, 10, 8, 7, 6, 5, 4, 3, 2, 1, 0] rfl)
      ·
        refine lv_tableIn (off := 469) (tgt := 704) M.1 M.2.1 dL_act_235 (by decide) (by decide) rfl (by decide) ?_
        exact la_704_1 l hst D cy z0 ad σ ur v (((loZ (shZ v 4) 52) - 2)) (((loZ (shZ v 7) 52) - 2)) (((loZ (shZ v 5) 15) - 2)) (((loZ (shZ v 8) 15) - 2)) ((shZ v 9)) (((loZ (shZ v 11) 10) - 2)) ((shZ v 6)) (1) r_v (by omega) (by omega) (by omega) (by omega) (by omega) (by omega) (by omega) (by omega) hI p e s m args below meth c M hr hlk hE hN hP0 ls (lv_sub hl [9, 10, 8, 7, 6, 5, 4, 3, 2, 1, 0] rfl)
      ·
        refine lv_tableIn (off := 469) (tgt := 704) M.1 M.2.1 dL_act_235 (by decide) (by decide) rfl (by decide) ?_
        exact la_704_1 l hst D cy z0 ad σ ur v (((loZ (shZ v 4) 52) - 2)) (((loZ (shZ v 7) 52) - 2)) (((loZ (shZ v 5) 15) - 2)) (((loZ (shZ v 8) 15) - 2)) ((shZ v 9)) (((loZ (shZ v 11) 10) - 2)) ((shZ v 6)) (1) r_v (by omega) (by omega) (by omega) (by omega) (by omega) (by omega) (by omega) (by omega) hI p e s m args below meth c M hr hlk hE hN hP0 ls (lv_sub hl [9, 10, 8, 7, 6, 5, 4, 3, 2, 1, 0] rfl)
      ·
        refine lv_tableIn (off := 469) (tgt := 704) M.1 M.2.1 dL_act_235 (by decide) (by decide) rfl (by decide) ?_
        exact la_704_1 l hst D cy z0 ad σ ur v (((loZ (shZ v 4) 52) - 2)) (((loZ (shZ v 7) 52) - 2)) (((loZ (shZ v 5) 15) - 2)) (((loZ (shZ v 8) 15) - 2)) ((shZ v 9)) (((loZ (shZ v 11) 10) - 2)) ((shZ v 6)) (1) r_v (by omega) (by omega) (by omega) (by omega) (by omega) (by omega) (by omega) (by omega) hI p e s m args below meth c M hr hlk hE hN hP0 ls (lv_sub hl [9, 10, 8, 7, 6, 5, 4, 3, 2, 1, 0] rfl)
      ·
        refine lv_tableIn (off := 469) (tgt := 704) M.1 M.2.1 dL_act_235 (by decide) (by decide) rfl (by decide) ?_
        exact la_704_1 l hst D cy z0 ad σ ur v (((loZ (shZ v 4) 52) - 2)) (((loZ (shZ v 7) 52) - 2)) (((loZ (shZ v 5) 15) - 2)) (((loZ (shZ v 8) 15) - 2)) ((shZ v 9)) (((loZ (shZ v 11) 10) - 2)) ((shZ v 6)) (1) r_v (by omega) (by omega) (by omega) (by omega) (by omega) (by omega) (by omega) (by omega) hI p e s m args below meth c M hr hlk hE hN hP0 ls (lv_sub hl [9, 10, 8, 7, 6, 5, 4, 3, 2, 1, 0] rfl)
      ·
        refine lv_tableIn (off := 469) (tgt := 704) M.1 M.2.1 dL_act_235 (by decide) (by decide) rfl (by decide) ?_
        exact la_704_1 l hst D cy z0 ad σ ur v (((loZ (shZ v 4) 52) - 2)) (((loZ (shZ v 7) 52) - 2)) (((loZ (shZ v 5) 15) - 2)) (((loZ (shZ v 8) 15) - 2)) ((shZ v 9)) (((loZ (shZ v 11) 10) - 2)) ((shZ v 6)) (1) r_v (by omega) (by omega) (by omega) (by omega) (by omega) (by omega) (by omega) (by omega) hI p e s m args below meth c M hr hlk hE hN hP0 ls (lv_sub hl [9, 10, 8, 7, 6, 5, 4, 3, 2, 1, 0] rfl)
      ·
        refine lv_tableIn (off := 469) (tgt := 704) M.1 M.2.1 dL_act_235 (by decide) (by decide) rfl (by decide) ?_
        exact la_704_1 l hst D cy z0 ad σ ur v (((loZ (shZ v 4) 52) - 2)) (((loZ (shZ v 7) 52) - 2)) (((loZ (shZ v 5) 15) - 2)) (((loZ (shZ v 8) 15) - 2)) ((shZ v 9)) (((loZ (shZ v 11) 10) - 2)) ((shZ v 6)) (1) r_v (by omega) (by omega) (by omega) (by omega) (by omega) (by omega) (by omega) (by omega) hI p e s m args below meth c M hr hlk hE hN hP0 ls (lv_sub hl [9, 10, 8, 7, 6, 5, 4, 3, 2, 1, 0] rfl)
      ·
        refine lv_tableIn (off := 480) (tgt := 715) M.1 M.2.1 dL_act_235 (by decide) (by decide) rfl (by decide) ?_
        exact la_715_1 l hst D cy z0 ad σ ur v (((loZ (shZ v 4) 52) - 2)) (((loZ (shZ v 7) 52) - 2)) (((loZ (shZ v 5) 15) - 2)) (((loZ (shZ v 8) 15) - 2)) ((shZ v 9)) (((loZ (shZ v 11) 10) - 2)) ((shZ v 6)) (1) r_v (by omega) (by omega) (by omega) (by omega) (by omega) (by omega) (by omega) (by omega) hI p e s m args below meth c M hr hlk hE hN hP0 ls (lv_sub hl [9, 10, 8, 7, 6, 5, 4, 3, 2, 1, 0] rfl)
      ·
        refine lv_tableIn (off := 486) (tgt := 721) M.1 M.2.1 dL_act_235 (by decide) (by decide) rfl (by decide) ?_
        exact la_721_1 l hst D cy z0 ad σ ur v (((loZ (shZ v 4) 52) - 2)) (((loZ (shZ v 7) 52) - 2)) (((loZ (shZ v 5) 15) - 2)) (((loZ (shZ v 8) 15) - 2)) ((shZ v 9)) (((loZ (shZ v 11) 10) - 2)) ((shZ v 6)) (1) r_v (by omega) (by omega) (by omega) (by omega) (by omega) (by omega) (by omega) (by omega) hI p e s m args below meth c M hr hlk hE hN hP0 ls (lv_sub hl [9, 10, 8, 7, 6, 5, 4, 3, 2, 1, 0] rfl)
      ·
        refine lv_tableIn (off := 510) (tgt := 745) M.1 M.2.1 dL_act_235 (by decide) (by decide) rfl (by decide) ?_
        exact la_745_1 l hst D cy z0 ad σ ur v (((loZ (shZ v 4) 52) - 2)) (((loZ (shZ v 7) 52) - 2)) (((loZ (shZ v 5) 15) - 2)) (((loZ (shZ v 8) 15) - 2)) ((shZ v 9)) (((loZ (shZ v 11) 10) - 2)) ((shZ v 6)) (1) r_v (by omega) (by omega) (by omega) (by omega) (by omega) (by omega) (by omega) (by omega) hI p e s m args below meth c M hr hlk hE hN hP0 ls (lv_sub hl [9, 10, 8, 7, 6, 5, 4, 3, 2, 1, 0] rfl)
      ·
        refine lv_tableIn (off := 518) (tgt := 753) M.1 M.2.1 dL_act_235 (by decide) (by decide) rfl (by decide) ?_
        exact la_753_1 l hst D cy z0 ad σ ur v (((loZ (shZ v 4) 52) - 2)) (((loZ (shZ v 7) 52) - 2)) (((loZ (shZ v 5) 15) - 2)) (((loZ (shZ v 8) 15) - 2)) ((shZ v 9)) (((loZ (shZ v 11) 10) - 2)) ((shZ v 6)) (1) r_v (by omega) (by omega) (by omega) (by omega) (by omega) (by omega) (by omega) (by omega) hI p e s m args below meth c M hr hlk hE hN hP0 ls (lv_sub hl [9, 10, 8, 7, 6, 5, 4, 3, 2, 1, 0] rfl)
      ·
        refine lv_tableIn (off := 568) (tgt := 803) M.1 M.2.1 dL_act_235 (by decide) (by decide) rfl (by decide) ?_
        exact la_803_1 l hst D cy z0 ad σ ur v (((loZ (shZ v 4) 52) - 2)) (((loZ (shZ v 7) 52) - 2)) (((loZ (shZ v 5) 15) - 2)) (((loZ (shZ v 8) 15) - 2)) ((shZ v 9)) (((loZ (shZ v 11) 10) - 2)) ((shZ v 6)) (1) r_v (by omega) (by omega) (by omega) (by omega) (by omega) (by omega) (by omega) (by omega) hI p e s m args below meth c M hr hlk hE hN hP0 ls (lv_sub hl [9, 10, 8, 7, 6, 5, 4, 3, 2, 1, 0] rfl)
      ·
        refine lv_tableIn (off := 592) (tgt := 827) M.1 M.2.1 dL_act_235 (by decide) (by decide) rfl (by decide) ?_
        exact la_827_1 l hst D cy z0 ad σ ur v (((loZ (shZ v 4) 52) - 2)) (((loZ (shZ v 7) 52) - 2)) (((loZ (shZ v 5) 15) - 2)) (((loZ (shZ v 8) 15) - 2)) ((shZ v 9)) (((loZ (shZ v 11) 10) - 2)) ((shZ v 6)) (1) r_v (by omega) (by omega) (by omega) (by omega) (by omega) (by omega) (by omega) (by omega) hI p e s m args below meth c M hr hlk hE hN hP0 ls (lv_sub hl [9, 10, 8, 7, 6, 5, 4, 3, 2, 1, 0] rfl)
      ·
        refine lv_tableIn (off := 644) (tgt := 879) M.1 M.2.1 dL_act_235 (by decide) (by decide) rfl (by decide) ?_
        exact la_879_1 l hst D cy z0 ad σ ur v (((loZ (shZ v 4) 52) - 2)) (((loZ (shZ v 7) 52) - 2)) (((loZ (shZ v 5) 15) - 2)) (((loZ (shZ v 8) 15) - 2)) ((shZ v 9)) (((loZ (shZ v 11) 10) - 2)) ((shZ v 6)) (1) r_v (by omega) (by omega) (by omega) (by omega) (by omega) (by omega) (by omega) (by omega) hI p e s m args below meth c M hr hlk hE hN hP0 ls (lv_sub hl [9, 10, 8, 7, 6, 5, 4, 3, 2, 1, 0] rfl)
      ·
        refine lv_tableIn (off := 677) (tgt := 912) M.1 M.2.1 dL_act_235 (by decide) (by decide) rfl (by decide) ?_
        exact la_912_1 l hst D cy z0 ad σ ur v (((loZ (shZ v 4) 52) - 2)) (((loZ (shZ v 7) 52) - 2)) (((loZ (shZ v 5) 15) - 2)) (((loZ (shZ v 8) 15) - 2)) ((shZ v 9)) (((loZ (shZ v 11) 10) - 2)) ((shZ v 6)) (1) r_v (by omega) (by omega) (by omega) (by omega) (by omega) (by omega) (by omega) (by omega) hI p e s m args below meth c M hr hlk hE hN hP0 ls (lv_sub hl [9, 10, 8, 7, 6, 5, 4, 3, 2, 1, 0] rfl)
      ·
        refine lv_tableIn (off := 721) (tgt := 956) M.1 M.2.1 dL_act_235 (by decide) (by decide) rfl (by decide) ?_
        exact la_956_1 l hst D cy z0 ad σ ur v (((loZ (shZ v 4) 52) - 2)) (((loZ (shZ v 7) 52) - 2)) (((loZ (shZ v 5) 15) - 2)) (((loZ (shZ v 8) 15) - 2)) ((shZ v 9)) (((loZ (shZ v 11) 10) - 2)) ((shZ v 6)) (1) r_v (by omega) (by omega) (by omega) (by omega) (by omega) (by omega) (by omega) (by omega) hI p e s m args below meth c M hr hlk hE hN hP0 ls (lv_sub hl [9, 10, 8, 7, 6, 5, 4, 3, 2, 1, 0] rfl)
      ·
        refine lv_tableIn (off := 732) (tgt := 967) M.1 M.2.1 dL_act_235 (by decide) (by decide) rfl (by decide) ?_
        exact la_967_1 l hst D cy z0 ad σ ur v (((loZ (shZ v 4) 52) - 2)) (((loZ (shZ v 7) 52) - 2)) (((loZ (shZ v 5) 15) - 2)) (((loZ (shZ v 8) 15) - 2)) ((shZ v 9)) (((loZ (shZ v 11) 10) - 2)) ((shZ v 6)) (1) r_v (by omega) (by omega) (by omega) (by omega) (by omega) (by omega) (by omega) (by omega) hI p e s m args below meth c M hr hlk hE hN hP0 ls (lv_sub hl [9, 10, 8, 7, 6, 5, 4, 3, 2, 1, 0] rfl)
      ·
        refine lv_tableIn (off := 756) (tgt := 991) M.1 M.2.1 dL_act_235 (by decide) (by decide) rfl (by decide) ?_
        exact la_991_1 l hst D cy z0 ad σ ur v (((loZ (shZ v 4) 52) - 2)) (((loZ (shZ v 7) 52) - 2)) (((loZ (shZ v 5) 15) - 2)) (((loZ (shZ v 8) 15) - 2)) ((shZ v 9)) (((loZ (shZ v 11) 10) - 2)) ((shZ v 6)) (1) r_v (by omega) (by omega) (by omega) (by omega) (by omega) (by omega) (by omega) (by omega) hI p e s m args below meth c M hr hlk hE hN hP0 ls (lv_sub hl [9, 10, 8, 7, 6, 5, 4, 3, 2, 1, 0] rfl)
      ·
        refine lv_tableIn (off := 756) (tgt := 991) M.1 M.2.1 dL_act_235 (by decide) (by decide) rfl (by decide) ?_
        exact la_991_1 l hst D cy z0 ad σ ur v (((loZ (shZ v 4) 52) - 2)) (((loZ (shZ v 7) 52) - 2)) (((loZ (shZ v 5) 15) - 2)) (((loZ (shZ v 8) 15) - 2)) ((shZ v 9)) (((loZ (shZ v 11) 10) - 2)) ((shZ v 6)) (1) r_v (by omega) (by omega) (by omega) (by omega) (by omega) (by omega) (by omega) (by omega) hI p e s m args below meth c M hr hlk hE hN hP0 ls (lv_sub hl [9, 10, 8, 7, 6, 5, 4, 3, 2, 1, 0] rfl)
      ·
        refine lv_tableIn (off := 796) (tgt := 1031) M.1 M.2.1 dL_act_235 (by decide) (by decide) rfl (by decide) ?_
        exact la_1031_1 l hst D cy z0 ad σ ur v (((loZ (shZ v 4) 52) - 2)) (((loZ (shZ v 7) 52) - 2)) (((loZ (shZ v 5) 15) - 2)) (((loZ (shZ v 8) 15) - 2)) ((shZ v 9)) (((loZ (shZ v 11) 10) - 2)) ((shZ v 6)) (1) r_v (by omega) (by omega) (by omega) (by omega) (by omega) (by omega) (by omega) (by omega) hI p e s m args below meth c M hr hlk hE hN hP0 ls (lv_sub hl [9, 10, 8, 7, 6, 5, 4, 3, 2, 1, 0] rfl)
      ·
        refine lv_tableOut (tgt := 1038) M.1 M.2.1 dL_act_235 (by decide) (by decide) ?_
        exact la_1038_1 l hst D cy z0 ad σ ur v (((loZ (shZ v 4) 52) - 2)) (((loZ (shZ v 7) 52) - 2)) (((loZ (shZ v 5) 15) - 2)) (((loZ (shZ v 8) 15) - 2)) ((shZ v 9)) (((loZ (shZ v 11) 10) - 2)) ((shZ v 6)) (1) r_v (by omega) (by omega) (by omega) (by omega) (by omega) (by omega) (by omega) (by omega) hI p e s m args below meth c M hr hlk hE hN hP0 ls (lv_sub hl [9, 10, 8, 7, 6, 5, 4, 3, 2, 1, 0] rfl)
