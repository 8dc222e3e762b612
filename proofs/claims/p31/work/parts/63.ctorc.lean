/-! contracts: the class's constructor -/
set_option maxRecDepth 100000 in
set_option maxHeartbeats 8000000 in
theorem c_X6_init (l : Launch) (D : va_G) (cy : Nat → ClassId) (z0 a sz : Nat) : Met l yX6_init [.code yX6_init cX6_init 1 none] (zRm 4 42 1423 87) (zPc [.ref a] D cy z0 (zNew D z0 a sz (.inr (6, [.null, .null, .null, .null, .null, .null, .null, .null, .int (iI 0), .int (iI 0)])))) (zQI D a sz (fun r => ((rooW r 0 cy 0 0) ++ ((airW r 1 cy 0 50 0 0 0 (fun _ => 0) (fun _ => 0) (dnD 0 0) (dnE 0 (fun _ => 0)) (dnF 0 50 0)) ++ ((airW r 8 cy 0 50 0 0 0 (fun _ => 0) (fun _ => 0) (dnD 0 0) (dnE 0 (fun _ => 0)) (dnF 0 50 0)) ++ ((grdW r 15 cy (fun _ => 0) (fun _ => 0)) ++ ((rayW r 18 cy 0 0 0 0 0 0 0 0) ++ ((sndW r 19 cy 12 0 (fun _ => 0) (fun _ => 0) (fun _ => 0) (fun _ => 0) (fun _ => 0)) ++ ((sndW r 25 cy 6 0 (fun _ => 0) (fun _ => 0) (fun _ => 0) (fun _ => 0) (fun _ => 0)) ++ ((conW r 31 cy 0 (fun _ => 0) (fun _ => 0) (fun _ => 0) (fun _ => 0) (fun _ => 0)) ++ (entW r 37 cy 0 0 (fun _ => 0) (fun _ => 0) (fun _ => 0) (fun _ => 0) (fun _ => 0)))))))))))) 42 1423 (zA0 a sz) := by
  refine z_of (by decide) (Nat.le_of_ble_eq_true rfl) ?_
  intro p e s m args below meth c M hr hlk hini hargs hP0 hE ls hl
  obtain ⟨hsz, hza, hP1⟩ := hP0
  have hin2 : meth.name = "<init>" := hini rfl
  have hl : lv_has ls 1 [(0, .ref a)] := hl
  have hA : ∀ q : Nat, s.heap.size ≤ q → zA0 a sz q := fun q h => Or.inr (by rw [← hsz]; exact h)
  have hAz : ∀ q : Nat, zA0 a sz q → z0 ≤ q := fun q h => by rcases h with rfl | h; exact hza; exact Nat.le_trans (by rw [← hsz]; exact hE.2.2.1) h
  have hS : va_S (zA0 a sz) s.heap s.heap [] := va_S.rf
  have hP : va_P D vwCl [(a, .inr (6, [.null, .null, .null, .null, .null, .null, .null, .null, .int (iI 0), .int (iI 0)]))] s.heap := hP1
  have hD : va_D (zA0 a sz) [(a, .inr (6, [.null, .null, .null, .null, .null, .null, .null, .null, .int (iI 0), .int (iI 0)]))] := zD_one (Or.inl rfl)
  refine lv_aload_n M.1 M.2.1 dX6_init_0 rfl (lv_at hl 0 rfl) ?_
  refine zi_obj M hl.1 zk_ml_RX6_3 (by decide) (Nat.le_of_ble_eq_true rfl) dX6_init_1 ?_
  refine lv_aload_n M.1 M.2.1 dX6_init_4 rfl (lv_at hl 0 rfl) ?_
  refine zi_new (ci := 0) (fs := [.int (iI 0), .int (iI 0), .int (iI 0), .int (iI 0), .int (iI 0), .null, .null, .null]) M hE hP hD hS hA rfl zu_X0 tyX0_ok zk_cl_RX6_9 zk_is_RX0 zk_in_RX0 (fun j hj => by rcases (by omega : j = 0 ∨ j = 1 ∨ j = 2 ∨ j = 3 ∨ j = 4 ∨ j = 5 ∨ j = 6 ∨ j = 7) with rfl | rfl | rfl | rfl | rfl | rfl | rfl | rfl <;> rfl) (by decide) (by decide) dX6_init_5 (fun q5 H hP hD hS => ?_)
  refine lv_dup M.1 M.2.1 dX6_init_8 rfl ?_
  have hsz2 : z0 ≤ q5 := hAz _ (hD.2 1 _ rfl)
  refine z_cI (z_runI (As := []) (rest := [.ref (q5), .ref (a)]) M (c_X0_init l D cy z0 q5 H.size) hE hS hAz ⟨rfl, hsz2, hP.sub [1] rfl⟩ zk_cd_X0_init zk_in_RX0 zk_im_X0_init zk_ml_RX6_11 rfl rfl rfl zd_X0_init ⟨by decide, by decide⟩ rfl hl.1 rfl (Nat.le_of_ble_eq_true rfl) dX6_init_9 ⟨by decide, by decide⟩) hP hD hS hA rfl (fun r_9 H locs hr0 hPn hDn hSn => ?_)
  subst hr0
  have hP := hPn
  have hD := hDn
  have hS := hSn
  try simp only [List.append_assoc] at hP hD
  refine zi_putF (ci := 6) (v := .ref (r_9 0)) (ws' := ([(a, .inr (6, [.ref (r_9 0), .null, .null, .null, .null, .null, .null, .null, .int (iI 0), .int (iI 0)]))] ++ (airW r_9 0 cy 0 50 0 0 0 (fun _ => 0) (fun _ => 0) (dnD 0 0) (dnE 0 (fun _ => 0)) (dnF 0 50 0)))) M hin2 hE hP hD hS 0 rfl rfl zu_X6 0 (by decide) zk_fl_RX6_12 rfl rfl rfl tyX6_ok nmX6 rfl rfl (Nat.le_of_ble_eq_true rfl) rfl dX6_init_12 (fun H locs hP hD hS => ?_)
  refine lv_aload_n M.1 M.2.1 dX6_init_15 rfl (lv_at hl 0 rfl) ?_
  refine zi_new (ci := 0) (fs := [.int (iI 0), .int (iI 0), .int (iI 0), .int (iI 0), .int (iI 0), .null, .null, .null]) M hE hP hD hS hA rfl zu_X0 tyX0_ok zk_cl_RX6_9 zk_is_RX0 zk_in_RX0 (fun j hj => by rcases (by omega : j = 0 ∨ j = 1 ∨ j = 2 ∨ j = 3 ∨ j = 4 ∨ j = 5 ∨ j = 6 ∨ j = 7) with rfl | rfl | rfl | rfl | rfl | rfl | rfl | rfl <;> rfl) (by decide) (by decide) dX6_init_16 (fun q16 H hP hD hS => ?_)
  refine lv_dup M.1 M.2.1 dX6_init_19 rfl ?_
  have hsz2 : z0 ≤ q16 := hAz _ (hD.2 8 _ rfl)
  refine z_cI (z_runI (As := []) (rest := [.ref (q16), .ref (a)]) M (c_X0_init l D cy z0 q16 H.size) hE hS hAz ⟨rfl, hsz2, hP.sub [8] rfl⟩ zk_cd_X0_init zk_in_RX0 zk_im_X0_init zk_ml_RX6_11 rfl rfl rfl zd_X0_init ⟨by decide, by decide⟩ rfl hl.1 rfl (Nat.le_of_ble_eq_true rfl) dX6_init_20 ⟨by decide, by decide⟩) hP hD hS hA rfl (fun r_20 H locs hr0 hPn hDn hSn => ?_)
  subst hr0
  have hP := hPn
  have hD := hDn
  have hS := hSn
  try simp only [List.append_assoc] at hP hD
  refine zi_putF (ci := 6) (v := .ref (r_20 0)) (ws' := ([(a, .inr (6, [.ref (r_9 0), .ref (r_20 0), .null, .null, .null, .null, .null, .null, .int (iI 0), .int (iI 0)]))] ++ ((airW r_9 0 cy 0 50 0 0 0 (fun _ => 0) (fun _ => 0) (dnD 0 0) (dnE 0 (fun _ => 0)) (dnF 0 50 0)) ++ (airW r_20 0 cy 0 50 0 0 0 (fun _ => 0) (fun _ => 0) (dnD 0 0) (dnE 0 (fun _ => 0)) (dnF 0 50 0))))) M hin2 hE hP hD hS 0 rfl rfl zu_X6 1 (by decide) zk_fl_RX6_16 rfl rfl rfl tyX6_ok nmX6 rfl rfl (Nat.le_of_ble_eq_true rfl) rfl dX6_init_23 (fun H locs hP hD hS => ?_)
  refine lv_aload_n M.1 M.2.1 dX6_init_26 rfl (lv_at hl 0 rfl) ?_
  refine zi_new (ci := 3) (fs := [.null, .null]) M hE hP hD hS hA rfl zu_X3 tyX3_ok zk_cl_RX6_19 zk_is_RX3 zk_in_RX3 (fun j hj => by rcases (by omega : j = 0 ∨ j = 1) with rfl | rfl <;> rfl) (by decide) (by decide) dX6_init_27 (fun q27 H hP hD hS => ?_)
  refine lv_dup M.1 M.2.1 dX6_init_30 rfl ?_
  have hsz2 : z0 ≤ q27 := hAz _ (hD.2 15 _ rfl)
  refine z_cI (z_runIN (As := []) (rest := [.ref (q27), .ref (a)]) M (c_X3_init l D cy z0 q27 H.size) hE hS hAz ⟨rfl, hsz2, hP.sub [15] rfl⟩ zk_cd_X3_init zk_in_RX3 zk_im_X3_init zk_mn_RX6_21 rfl rfl rfl zd_X3_init ⟨by decide, by decide⟩ rfl hl.1 rfl (Nat.le_of_ble_eq_true rfl) dX6_init_31 ⟨by decide, by decide⟩) hP hD hS hA rfl (fun r_31 H locs hr0 hPn hDn hSn => ?_)
  subst hr0
  have hP := hPn
  have hD := hDn
  have hS := hSn
  try simp only [List.append_assoc] at hP hD
  refine zi_putF (ci := 6) (v := .ref (r_31 0)) (ws' := ([(a, .inr (6, [.ref (r_9 0), .ref (r_20 0), .ref (r_31 0), .null, .null, .null, .null, .null, .int (iI 0), .int (iI 0)]))] ++ ((airW r_9 0 cy 0 50 0 0 0 (fun _ => 0) (fun _ => 0) (dnD 0 0) (dnE 0 (fun _ => 0)) (dnF 0 50 0)) ++ ((airW r_20 0 cy 0 50 0 0 0 (fun _ => 0) (fun _ => 0) (dnD 0 0) (dnE 0 (fun _ => 0)) (dnF 0 50 0)) ++ (grdW r_31 0 cy (fun _ => 0) (fun _ => 0)))))) M hin2 hE hP hD hS 0 rfl rfl zu_X6 2 (by decide) zk_fl_RX6_22 rfl rfl rfl tyX6_ok nmX6 rfl rfl (Nat.le_of_ble_eq_true rfl) rfl dX6_init_34 (fun H locs hP hD hS => ?_)
  refine lv_aload_n M.1 M.2.1 dX6_init_37 rfl (lv_at hl 0 rfl) ?_
  refine zi_new (ci := 4) (fs := [.int (iI 0), .int (iI 0), .int (iI 0), .int (iI 0), .int (iI 0), .int (iI 0), .int (iI 0), .int (iI 0)]) M hE hP hD hS hA rfl zu_X4 tyX4_ok zk_cl_RX6_26 zk_is_RX4 zk_in_RX4 (fun j hj => by rcases (by omega : j = 0 ∨ j = 1 ∨ j = 2 ∨ j = 3 ∨ j = 4 ∨ j = 5 ∨ j = 6 ∨ j = 7) with rfl | rfl | rfl | rfl | rfl | rfl | rfl | rfl <;> rfl) (by decide) (by decide) dX6_init_38 (fun q38 H hP hD hS => ?_)
  refine lv_dup M.1 M.2.1 dX6_init_41 rfl ?_
  have hsz2 : z0 ≤ q38 := hAz _ (hD.2 18 _ rfl)
  refine z_cI (z_runIN (As := []) (rest := [.ref (q38), .ref (a)]) M (c_X4_init l D cy z0 q38 H.size) hE hS hAz ⟨rfl, hsz2, hP.sub [18] rfl⟩ zk_cd_X4_init zk_in_RX4 zk_im_X4_init zk_mn_RX6_28 rfl rfl rfl zd_X4_init ⟨by decide, by decide⟩ rfl hl.1 rfl (Nat.le_of_ble_eq_true rfl) dX6_init_42 ⟨by decide, by decide⟩) hP hD hS hA rfl (fun r_42 H locs hr0 hPn hDn hSn => ?_)
  subst hr0
  have hP := hPn
  have hD := hDn
  have hS := hSn
  try simp only [List.append_assoc] at hP hD
  refine zi_putF (ci := 6) (v := .ref (r_42 0)) (ws' := ([(a, .inr (6, [.ref (r_9 0), .ref (r_20 0), .ref (r_31 0), .ref (r_42 0), .null, .null, .null, .null, .int (iI 0), .int (iI 0)]))] ++ ((airW r_9 0 cy 0 50 0 0 0 (fun _ => 0) (fun _ => 0) (dnD 0 0) (dnE 0 (fun _ => 0)) (dnF 0 50 0)) ++ ((airW r_20 0 cy 0 50 0 0 0 (fun _ => 0) (fun _ => 0) (dnD 0 0) (dnE 0 (fun _ => 0)) (dnF 0 50 0)) ++ ((grdW r_31 0 cy (fun _ => 0) (fun _ => 0)) ++ (rayW r_42 0 cy 0 0 0 0 0 0 0 0)))))) M hin2 hE hP hD hS 0 rfl rfl zu_X6 3 (by decide) zk_fl_RX6_29 rfl rfl rfl tyX6_ok nmX6 rfl rfl (Nat.le_of_ble_eq_true rfl) rfl dX6_init_45 (fun H locs hP hD hS => ?_)
  refine lv_aload_n M.1 M.2.1 dX6_init_48 rfl (lv_at hl 0 rfl) ?_
  refine zi_new (ci := 5) (fs := [.null, .null, .null, .null, .null, .int (iI 0)]) M hE hP hD hS hA rfl zu_X5 tyX5_ok zk_cl_RX6_33 zk_is_RX5 zk_in_RX5 (fun j hj => by rcases (by omega : j = 0 ∨ j = 1 ∨ j = 2 ∨ j = 3 ∨ j = 4 ∨ j = 5) with rfl | rfl | rfl | rfl | rfl | rfl <;> rfl) (by decide) (by decide) dX6_init_49 (fun q49 H hP hD hS => ?_)
  refine lv_dup M.1 M.2.1 dX6_init_52 rfl ?_
  refine zi_bipush M dX6_init_53 ⟨by decide, by decide⟩ ?_
  have hsz2 : z0 ≤ q49 := hAz _ (hD.2 19 _ rfl)
  refine z_cI (z_runI (As := [.int (iI 12)]) (rest := [.ref (q49), .ref (a)]) M (c_X5_init12 l D cy z0 q49 H.size) hE hS hAz ⟨rfl, hsz2, hP.sub [19] rfl⟩ zk_cd_X5_init zk_in_RX5 zk_im_X5_init zk_ml_RX6_35 rfl rfl rfl zd_X5_init ⟨by decide, by decide⟩ rfl hl.1 rfl (Nat.le_of_ble_eq_true rfl) dX6_init_55 ⟨by decide, by decide⟩) hP hD hS hA rfl (fun r_55 H locs hr0 hPn hDn hSn => ?_)
  subst hr0
  have hP := hPn
  have hD := hDn
  have hS := hSn
  try simp only [List.append_assoc] at hP hD
  refine zi_putF (ci := 6) (v := .ref (r_55 0)) (ws' := ([(a, .inr (6, [.ref (r_9 0), .ref (r_20 0), .ref (r_31 0), .ref (r_42 0), .ref (r_55 0), .null, .null, .null, .int (iI 0), .int (iI 0)]))] ++ ((airW r_9 0 cy 0 50 0 0 0 (fun _ => 0) (fun _ => 0) (dnD 0 0) (dnE 0 (fun _ => 0)) (dnF 0 50 0)) ++ ((airW r_20 0 cy 0 50 0 0 0 (fun _ => 0) (fun _ => 0) (dnD 0 0) (dnE 0 (fun _ => 0)) (dnF 0 50 0)) ++ ((grdW r_31 0 cy (fun _ => 0) (fun _ => 0)) ++ ((rayW r_42 0 cy 0 0 0 0 0 0 0 0) ++ (sndW r_55 0 cy 12 0 (fun _ => 0) (fun _ => 0) (fun _ => 0) (fun _ => 0) (fun _ => 0)))))))) M hin2 hE hP hD hS 0 rfl rfl zu_X6 4 (by decide) zk_fl_RX6_38 rfl rfl rfl tyX6_ok nmX6 rfl rfl (Nat.le_of_ble_eq_true rfl) rfl dX6_init_58 (fun H locs hP hD hS => ?_)
  refine lv_aload_n M.1 M.2.1 dX6_init_61 rfl (lv_at hl 0 rfl) ?_
  refine zi_new (ci := 5) (fs := [.null, .null, .null, .null, .null, .int (iI 0)]) M hE hP hD hS hA rfl zu_X5 tyX5_ok zk_cl_RX6_33 zk_is_RX5 zk_in_RX5 (fun j hj => by rcases (by omega : j = 0 ∨ j = 1 ∨ j = 2 ∨ j = 3 ∨ j = 4 ∨ j = 5) with rfl | rfl | rfl | rfl | rfl | rfl <;> rfl) (by decide) (by decide) dX6_init_62 (fun q62 H hP hD hS => ?_)
  refine lv_dup M.1 M.2.1 dX6_init_65 rfl ?_
  refine zi_bipush M dX6_init_66 ⟨by decide, by decide⟩ ?_
  have hsz2 : z0 ≤ q62 := hAz _ (hD.2 25 _ rfl)
  refine z_cI (z_runI (As := [.int (iI 6)]) (rest := [.ref (q62), .ref (a)]) M (c_X5_init6 l D cy z0 q62 H.size) hE hS hAz ⟨rfl, hsz2, hP.sub [25] rfl⟩ zk_cd_X5_init zk_in_RX5 zk_im_X5_init zk_ml_RX6_35 rfl rfl rfl zd_X5_init ⟨by decide, by decide⟩ rfl hl.1 rfl (Nat.le_of_ble_eq_true rfl) dX6_init_68 ⟨by decide, by decide⟩) hP hD hS hA rfl (fun r_68 H locs hr0 hPn hDn hSn => ?_)
  subst hr0
  have hP := hPn
  have hD := hDn
  have hS := hSn
  try simp only [List.append_assoc] at hP hD
  refine zi_putF (ci := 6) (v := .ref (r_68 0)) (ws' := ([(a, .inr (6, [.ref (r_9 0), .ref (r_20 0), .ref (r_31 0), .ref (r_42 0), .ref (r_55 0), .ref (r_68 0), .null, .null, .int (iI 0), .int (iI 0)]))] ++ ((airW r_9 0 cy 0 50 0 0 0 (fun _ => 0) (fun _ => 0) (dnD 0 0) (dnE 0 (fun _ => 0)) (dnF 0 50 0)) ++ ((airW r_20 0 cy 0 50 0 0 0 (fun _ => 0) (fun _ => 0) (dnD 0 0) (dnE 0 (fun _ => 0)) (dnF 0 50 0)) ++ ((grdW r_31 0 cy (fun _ => 0) (fun _ => 0)) ++ ((rayW r_42 0 cy 0 0 0 0 0 0 0 0) ++ ((sndW r_55 0 cy 12 0 (fun _ => 0) (fun _ => 0) (fun _ => 0) (fun _ => 0) (fun _ => 0)) ++ (sndW r_68 0 cy 6 0 (fun _ => 0) (fun _ => 0) (fun _ => 0) (fun _ => 0) (fun _ => 0))))))))) M hin2 hE hP hD hS 0 rfl rfl zu_X6 5 (by decide) zk_fl_RX6_42 rfl rfl rfl tyX6_ok nmX6 rfl rfl (Nat.le_of_ble_eq_true rfl) rfl dX6_init_71 (fun H locs hP hD hS => ?_)
  refine lv_aload_n M.1 M.2.1 dX6_init_74 rfl (lv_at hl 0 rfl) ?_
  refine zi_new (ci := 1) (fs := [.null, .null, .null, .null, .null, .int (iI 0)]) M hE hP hD hS hA rfl zu_X1 tyX1_ok zk_cl_RX6_45 zk_is_RX1 zk_in_RX1 (fun j hj => by rcases (by omega : j = 0 ∨ j = 1 ∨ j = 2 ∨ j = 3 ∨ j = 4 ∨ j = 5) with rfl | rfl | rfl | rfl | rfl | rfl <;> rfl) (by decide) (by decide) dX6_init_75 (fun q75 H hP hD hS => ?_)
  refine lv_dup M.1 M.2.1 dX6_init_78 rfl ?_
  have hsz2 : z0 ≤ q75 := hAz _ (hD.2 31 _ rfl)
  refine z_cI (z_runIN (As := []) (rest := [.ref (q75), .ref (a)]) M (c_X1_init l D cy z0 q75 H.size) hE hS hAz ⟨rfl, hsz2, hP.sub [31] rfl⟩ zk_cd_X1_init zk_in_RX1 zk_im_X1_init zk_mn_RX6_47 rfl rfl rfl zd_X1_init ⟨by decide, by decide⟩ rfl hl.1 rfl (Nat.le_of_ble_eq_true rfl) dX6_init_79 ⟨by decide, by decide⟩) hP hD hS hA rfl (fun r_79 H locs hr0 hPn hDn hSn => ?_)
  subst hr0
  have hP := hPn
  have hD := hDn
  have hS := hSn
  try simp only [List.append_assoc] at hP hD
  refine zi_putF (ci := 6) (v := .ref (r_79 0)) (ws' := ([(a, .inr (6, [.ref (r_9 0), .ref (r_20 0), .ref (r_31 0), .ref (r_42 0), .ref (r_55 0), .ref (r_68 0), .ref (r_79 0), .null, .int (iI 0), .int (iI 0)]))] ++ ((airW r_9 0 cy 0 50 0 0 0 (fun _ => 0) (fun _ => 0) (dnD 0 0) (dnE 0 (fun _ => 0)) (dnF 0 50 0)) ++ ((airW r_20 0 cy 0 50 0 0 0 (fun _ => 0) (fun _ => 0) (dnD 0 0) (dnE 0 (fun _ => 0)) (dnF 0 50 0)) ++ ((grdW r_31 0 cy (fun _ => 0) (fun _ => 0)) ++ ((rayW r_42 0 cy 0 0 0 0 0 0 0 0) ++ ((sndW r_55 0 cy 12 0 (fun _ => 0) (fun _ => 0) (fun _ => 0) (fun _ => 0) (fun _ => 0)) ++ ((sndW r_68 0 cy 6 0 (fun _ => 0) (fun _ => 0) (fun _ => 0) (fun _ => 0) (fun _ => 0)) ++ (conW r_79 0 cy 0 (fun _ => 0) (fun _ => 0) (fun _ => 0) (fun _ => 0) (fun _ => 0)))))))))) M hin2 hE hP hD hS 0 rfl rfl zu_X6 6 (by decide) zk_fl_RX6_48 rfl rfl rfl tyX6_ok nmX6 rfl rfl (Nat.le_of_ble_eq_true rfl) rfl dX6_init_82 (fun H locs hP hD hS => ?_)
  refine lv_aload_n M.1 M.2.1 dX6_init_85 rfl (lv_at hl 0 rfl) ?_
  refine zi_new (ci := 2) (fs := [.null, .null, .null, .null, .null, .int (iI 0), .int (iI 0)]) M hE hP hD hS hA rfl zu_X2 tyX2_ok zk_cl_RX6_52 zk_is_RX2 zk_in_RX2 (fun j hj => by rcases (by omega : j = 0 ∨ j = 1 ∨ j = 2 ∨ j = 3 ∨ j = 4 ∨ j = 5 ∨ j = 6) with rfl | rfl | rfl | rfl | rfl | rfl | rfl <;> rfl) (by decide) (by decide) dX6_init_86 (fun q86 H hP hD hS => ?_)
  refine lv_dup M.1 M.2.1 dX6_init_89 rfl ?_
  have hsz2 : z0 ≤ q86 := hAz _ (hD.2 37 _ rfl)
  refine z_cI (z_runIN (As := []) (rest := [.ref (q86), .ref (a)]) M (c_X2_init l D cy z0 q86 H.size) hE hS hAz ⟨rfl, hsz2, hP.sub [37] rfl⟩ zk_cd_X2_init zk_in_RX2 zk_im_X2_init zk_mn_RX6_54 rfl rfl rfl zd_X2_init ⟨by decide, by decide⟩ rfl hl.1 rfl (Nat.le_of_ble_eq_true rfl) dX6_init_90 ⟨by decide, by decide⟩) hP hD hS hA rfl (fun r_90 H locs hr0 hPn hDn hSn => ?_)
  subst hr0
  have hP := hPn
  have hD := hDn
  have hS := hSn
  try simp only [List.append_assoc] at hP hD
  refine zi_putF (ci := 6) (v := .ref (r_90 0)) (ws' := ([(a, .inr (6, [.ref (r_9 0), .ref (r_20 0), .ref (r_31 0), .ref (r_42 0), .ref (r_55 0), .ref (r_68 0), .ref (r_79 0), .ref (r_90 0), .int (iI 0), .int (iI 0)]))] ++ ((airW r_9 0 cy 0 50 0 0 0 (fun _ => 0) (fun _ => 0) (dnD 0 0) (dnE 0 (fun _ => 0)) (dnF 0 50 0)) ++ ((airW r_20 0 cy 0 50 0 0 0 (fun _ => 0) (fun _ => 0) (dnD 0 0) (dnE 0 (fun _ => 0)) (dnF 0 50 0)) ++ ((grdW r_31 0 cy (fun _ => 0) (fun _ => 0)) ++ ((rayW r_42 0 cy 0 0 0 0 0 0 0 0) ++ ((sndW r_55 0 cy 12 0 (fun _ => 0) (fun _ => 0) (fun _ => 0) (fun _ => 0) (fun _ => 0)) ++ ((sndW r_68 0 cy 6 0 (fun _ => 0) (fun _ => 0) (fun _ => 0) (fun _ => 0) (fun _ => 0)) ++ ((conW r_79 0 cy 0 (fun _ => 0) (fun _ => 0) (fun _ => 0) (fun _ => 0) (fun _ => 0)) ++ (entW r_90 0 cy 0 0 (fun _ => 0) (fun _ => 0) (fun _ => 0) (fun _ => 0) (fun _ => 0))))))))))) M hin2 hE hP hD hS 0 rfl rfl zu_X6 7 (by decide) zk_fl_RX6_55 rfl rfl rfl tyX6_ok nmX6 rfl rfl (Nat.le_of_ble_eq_true rfl) rfl dX6_init_93 (fun H locs hP hD hS => ?_)
  obtain ⟨rr, hrr⟩ : ∃ rr : Nat → Nat, rr = (fun k : Nat => if k = 0 then a else if k < 8 then r_9 (k - 1) else if k < 15 then r_20 (k - 8) else if k < 18 then r_31 (k - 15) else if k < 19 then r_42 (k - 18) else if k < 25 then r_55 (k - 19) else if k < 31 then r_68 (k - 25) else if k < 37 then r_79 (k - 31) else r_90 (k - 37)) := ⟨_, rfl⟩
  rw [airW_re (r := r_9) (b := 0) (r' := rr) (b' := 1) (fun k hk => by rw [hrr]; rcases (by omega : k = 0 ∨ k = 1 ∨ k = 2 ∨ k = 3 ∨ k = 4 ∨ k = 5 ∨ k = 6) with rfl | rfl | rfl | rfl | rfl | rfl | rfl <;> rfl)] at hP hD
  rw [airW_re (r := r_20) (b := 0) (r' := rr) (b' := 8) (fun k hk => by rw [hrr]; rcases (by omega : k = 0 ∨ k = 1 ∨ k = 2 ∨ k = 3 ∨ k = 4 ∨ k = 5 ∨ k = 6) with rfl | rfl | rfl | rfl | rfl | rfl | rfl <;> rfl)] at hP hD
  exact zw_I M hr hlk rr (by rw [hrr]; rfl) (by rw [hrr] at hP ⊢; exact hP) (by rw [hrr] at hD ⊢; exact hD) hS (by decide) (by decide) dX6_init_96
