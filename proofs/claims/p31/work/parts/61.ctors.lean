/-! contracts: constructors -/
set_option maxRecDepth 100000 in
set_option maxHeartbeats 8000000 in
theorem c_X0_init (l : Launch) (D : va_G) (cy : Nat → ClassId) (z0 a sz : Nat) : Met l yX0_init [.code yX0_init cX0_init 1 none] (zRm 3 6 243 67) (zPc [.ref a] D cy z0 (zNew D z0 a sz (.inr (0, [.int (iI 0), .int (iI 0), .int (iI 0), .int (iI 0), .int (iI 0), .null, .null, .null])))) (zQI D a sz (fun r => (airW r 0 cy 0 50 0 0 0 (fun _ => 0) (fun _ => 0) (dnD 0 0) (dnE 0 (fun _ => 0)) (dnF 0 50 0)))) 6 243 (zA0 a sz) := by
  refine z_of (by decide) (Nat.le_of_ble_eq_true rfl) ?_
  intro p e s m args below meth c M hr hlk hini hargs hP0 hE ls hl
  obtain ⟨hsz, hza, hP1⟩ := hP0
  have hin2 : meth.name = "<init>" := hini rfl
  have hl : lv_has ls 1 [(0, .ref a)] := hl
  have hA : ∀ q : Nat, s.heap.size ≤ q → zA0 a sz q := fun q h => Or.inr (by rw [← hsz]; exact h)
  have hAz : ∀ q : Nat, zA0 a sz q → z0 ≤ q := fun q h => by rcases h with rfl | h; exact hza; exact Nat.le_trans (by rw [← hsz]; exact hE.2.2.1) h
  have hS : va_S (zA0 a sz) s.heap s.heap [] := va_S.rf
  have hP : va_P D vwCl [(a, .inr (0, [.int (iI 0), .int (iI 0), .int (iI 0), .int (iI 0), .int (iI 0), .null, .null, .null]))] s.heap := hP1
  have hD : va_D (zA0 a sz) [(a, .inr (0, [.int (iI 0), .int (iI 0), .int (iI 0), .int (iI 0), .int (iI 0), .null, .null, .null]))] := zD_one (Or.inl rfl)
  refine lv_aload_n M.1 M.2.1 dX0_init_0 rfl (lv_at hl 0 rfl) ?_
  refine zi_obj M hl.1 zk_ml_RX0_3 (by decide) (Nat.le_of_ble_eq_true rfl) dX0_init_1 ?_
  refine lv_aload_n M.1 M.2.1 dX0_init_4 rfl (lv_at hl 0 rfl) ?_
  refine zi_bipush M dX0_init_5 ⟨by decide, by decide⟩ ?_
  refine zi_put (ci := 0) (v := .int (iI 50)) (ws' := [(a, .inr (0, [.int (iI 0), .int (iI 50), .int (iI 0), .int (iI 0), .int (iI 0), .null, .null, .null]))]) M hE hP hD hS 0 rfl rfl zu_X0 1 (by decide) zk_fl_RX0_9 rfl rfl tyX0_ok nmX0 rfl rfl (Nat.le_of_ble_eq_true rfl) rfl dX0_init_7 (fun H locs hP hD hS => ?_)
  refine lv_aload_n M.1 M.2.1 dX0_init_10 rfl (lv_at hl 0 rfl) ?_
  refine zi_bipush M dX0_init_11 ⟨by decide, by decide⟩ ?_
  refine zi_newa (atype := .int) (ty := .int) M hE hP hD hS hA 0 rfl rfl (fun _ h => h) zk_ac_int rfl (N := 48) rfl (by decide) (by decide) (by decide) (by decide) dX0_init_13 (fun q13 H hP hD hS => ?_)
  have hP : va_P D vwCl [(a, .inr (0, [.int (iI 0), .int (iI 50), .int (iI 0), .int (iI 0), .int (iI 0), .null, .null, .null])), (q13, zA (cy 0) 48 (fun _ => 0))] H := hP
  have hD : va_D (zA0 a sz) [(a, .inr (0, [.int (iI 0), .int (iI 50), .int (iI 0), .int (iI 0), .int (iI 0), .null, .null, .null])), (q13, zA (cy 0) 48 (fun _ => 0))] := hD
  refine zi_putF (ci := 0) (v := .ref (q13)) (ws' := [(a, .inr (0, [.int (iI 0), .int (iI 50), .int (iI 0), .int (iI 0), .int (iI 0), .ref (q13), .null, .null])), (q13, zA (cy 0) 48 (fun _ => 0))]) M hin2 hE hP hD hS 0 rfl rfl zu_X0 5 (by decide) zk_fl_RX0_15 rfl rfl rfl tyX0_ok nmX0 rfl rfl (Nat.le_of_ble_eq_true rfl) rfl dX0_init_15 (fun H locs hP hD hS => ?_)
  refine lv_aload_n M.1 M.2.1 dX0_init_18 rfl (lv_at hl 0 rfl) ?_
  refine zi_bipush M dX0_init_19 ⟨by decide, by decide⟩ ?_
  refine zi_newa (atype := .int) (ty := .int) M hE hP hD hS hA 0 rfl rfl (fun _ h => h) zk_ac_int rfl (N := 48) rfl (by decide) (by decide) (by decide) (by decide) dX0_init_21 (fun q21 H hP hD hS => ?_)
  have hP : va_P D vwCl [(a, .inr (0, [.int (iI 0), .int (iI 50), .int (iI 0), .int (iI 0), .int (iI 0), .ref (q13), .null, .null])), (q13, zA (cy 0) 48 (fun _ => 0)), (q21, zA (cy 0) 48 (fun _ => 0))] H := hP
  have hD : va_D (zA0 a sz) [(a, .inr (0, [.int (iI 0), .int (iI 50), .int (iI 0), .int (iI 0), .int (iI 0), .ref (q13), .null, .null])), (q13, zA (cy 0) 48 (fun _ => 0)), (q21, zA (cy 0) 48 (fun _ => 0))] := hD
  refine zi_putF (ci := 0) (v := .ref (q21)) (ws' := [(a, .inr (0, [.int (iI 0), .int (iI 50), .int (iI 0), .int (iI 0), .int (iI 0), .ref (q13), .ref (q21), .null])), (q13, zA (cy 0) 48 (fun _ => 0)), (q21, zA (cy 0) 48 (fun _ => 0))]) M hin2 hE hP hD hS 0 rfl rfl zu_X0 6 (by decide) zk_fl_RX0_19 rfl rfl rfl tyX0_ok nmX0 rfl rfl (Nat.le_of_ble_eq_true rfl) rfl dX0_init_23 (fun H locs hP hD hS => ?_)
  refine lv_aload_n M.1 M.2.1 dX0_init_26 rfl (lv_at hl 0 rfl) ?_
  refine zi_push M dX0_init_27 ?_
  refine zi_bipush M dX0_init_28 ⟨by decide, by decide⟩ ?_
  refine zi_mna M hE hP hD hS hA zk_cl_RX0_22 (by decide) (by decide) dX0_init_30 (fun q30 r4 H hP hD hS => ?_)
  have hP : va_P D vwCl [(a, .inr (0, [.int (iI 0), .int (iI 50), .int (iI 0), .int (iI 0), .int (iI 0), .ref (q13), .ref (q21), .null])), (q13, zA (cy 0) 48 (fun _ => 0)), (q21, zA (cy 0) 48 (fun _ => 0)), (q30, zQ (cy 2) 3 r4), (r4 0, zA (cy 0) 48 (fun _ => 0)), (r4 1, zA (cy 0) 48 (fun _ => 0)), (r4 2, zA (cy 0) 48 (fun _ => 0))] H := hP
  have hD : va_D (zA0 a sz) [(a, .inr (0, [.int (iI 0), .int (iI 50), .int (iI 0), .int (iI 0), .int (iI 0), .ref (q13), .ref (q21), .null])), (q13, zA (cy 0) 48 (fun _ => 0)), (q21, zA (cy 0) 48 (fun _ => 0)), (q30, zQ (cy 2) 3 r4), (r4 0, zA (cy 0) 48 (fun _ => 0)), (r4 1, zA (cy 0) 48 (fun _ => 0)), (r4 2, zA (cy 0) 48 (fun _ => 0))] := hD
  refine zi_putF (ci := 0) (v := .ref (q30)) (ws' := [(a, .inr (0, [.int (iI 0), .int (iI 50), .int (iI 0), .int (iI 0), .int (iI 0), .ref (q13), .ref (q21), .ref (q30)])), (q13, zA (cy 0) 48 (fun _ => 0)), (q21, zA (cy 0) 48 (fun _ => 0)), (q30, zQ (cy 2) 3 r4), (r4 0, zA (cy 0) 48 (fun _ => 0)), (r4 1, zA (cy 0) 48 (fun _ => 0)), (r4 2, zA (cy 0) 48 (fun _ => 0))]) M hin2 hE hP hD hS 0 rfl rfl zu_X0 7 (by decide) zk_fl_RX0_24 rfl rfl rfl tyX0_ok nmX0 rfl rfl (Nat.le_of_ble_eq_true rfl) rfl dX0_init_34 (fun H locs hP hD hS => ?_)
  refine lv_aload_n M.1 M.2.1 dX0_init_37 rfl (lv_at hl 0 rfl) ?_
  have hQ : zQ (cy 2) 3 r4 = zQ (cy 2) 3 (fun i => zr4 a q13 q21 q30 r4 (0 + (4 + i))) := zQ_congr (fun i _ => (zr4_4 a q13 q21 q30 r4 i).symm)
  obtain ⟨rr, hrr⟩ : ∃ rr, rr = zr4 a q13 q21 q30 r4 := ⟨_, rfl⟩
  have hP : va_P D vwCl (airW rr 0 cy 0 50 0 0 0 (fun _ => 0) (fun _ => 0) (fun _ => 0) (fun _ => 0) (fun _ => 0)) H := by rw [hrr]; rw [hQ] at hP; exact hP
  have hD : va_D (zA0 a sz) (airW rr 0 cy 0 50 0 0 0 (fun _ => 0) (fun _ => 0) (fun _ => 0) (fun _ => 0) (fun _ => 0)) := by rw [hrr]; rw [hQ] at hD; exact hD
  refine z_re (v := .ref (rr 0)) (by rw [hrr]; rfl) ?_
  refine z_cV (z_runV (As := []) (rest := []) M (c_X0_settle l D cy z0 rr 0 0 50 0 0 0 (fun _ => 0) (fun _ => 0) (fun _ => 0) (fun _ => 0) (fun _ => 0) (by omega) (by omega) (by omega) (by omega) (fun j _ _ => by show (0 : Int) ≤ 0 ∧ (0 : Int) ≤ 100; omega)) hE hS hAz (z_cut hP hD hAz [0, 1, 2, 3, 4, 5, 6] rfl (by decide +kernel)) (zRc.of (ci := 0) (q0 := 0) hE hP rfl rfl) zk_cd_X0_settle zk_in_RX0 zk_im_X0_settle zk_se_X0_settle zk_ml_RX0_27 rfl rfl zd_X0_settle ⟨by decide, by decide⟩ rfl hl.1 rfl (Nat.le_of_ble_eq_true rfl) dX0_init_38 ⟨by decide, by decide⟩) hP hD hS [0, 1, 2, 3, 4, 5, 6] rfl (fun _ => rfl) (fun u H locs _ hP hD hS => ?_)
  exact zw_I M hr hlk rr (by rw [hrr]; rfl) hP hD hS (by decide) (by decide) dX0_init_41
set_option maxRecDepth 100000 in
set_option maxHeartbeats 8000000 in
theorem c_X3_init (l : Launch) (D : va_G) (cy : Nat → ClassId) (z0 a sz : Nat) : Met l yX3_init [.code yX3_init cX3_init 1 none] (zRm 1 2 96 28) (zPc [.ref a] D cy z0 (zNew D z0 a sz (.inr (3, [.null, .null])))) (zQI D a sz (fun r => (grdW r 0 cy (fun _ => 0) (fun _ => 0)))) 2 96 (zA0 a sz) := by
  refine z_of (by decide) (Nat.le_of_ble_eq_true rfl) ?_
  intro p e s m args below meth c M hr hlk hini hargs hP0 hE ls hl
  obtain ⟨hsz, hza, hP1⟩ := hP0
  have hin2 : meth.name = "<init>" := hini rfl
  have hl : lv_has ls 1 [(0, .ref a)] := hl
  have hA : ∀ q : Nat, s.heap.size ≤ q → zA0 a sz q := fun q h => Or.inr (by rw [← hsz]; exact h)
  have hAz : ∀ q : Nat, zA0 a sz q → z0 ≤ q := fun q h => by rcases h with rfl | h; exact hza; exact Nat.le_trans (by rw [← hsz]; exact hE.2.2.1) h
  have hS : va_S (zA0 a sz) s.heap s.heap [] := va_S.rf
  have hP : va_P D vwCl [(a, .inr (3, [.null, .null]))] s.heap := hP1
  have hD : va_D (zA0 a sz) [(a, .inr (3, [.null, .null]))] := zD_one (Or.inl rfl)
  refine lv_aload_n M.1 M.2.1 dX3_init_0 rfl (lv_at hl 0 rfl) ?_
  refine zi_obj M hl.1 zk_ml_RX3_3 (by decide) (Nat.le_of_ble_eq_true rfl) dX3_init_1 ?_
  refine lv_aload_n M.1 M.2.1 dX3_init_4 rfl (lv_at hl 0 rfl) ?_
  refine zi_bipush M dX3_init_5 ⟨by decide, by decide⟩ ?_
  refine zi_newa (atype := .boolean) (ty := .boolean) M hE hP hD hS hA 1 rfl rfl (fun _ h => h) zk_ac_boolean rfl (N := 48) rfl (by decide) (by decide) (by decide) (by decide) dX3_init_7 (fun q7 H hP hD hS => ?_)
  have hP : va_P D vwCl [(a, .inr (3, [.null, .null])), (q7, zA (cy 1) 48 (fun _ => 0))] H := hP
  have hD : va_D (zA0 a sz) [(a, .inr (3, [.null, .null])), (q7, zA (cy 1) 48 (fun _ => 0))] := hD
  refine zi_putF (ci := 3) (v := .ref (q7)) (ws' := [(a, .inr (3, [.ref (q7), .null])), (q7, zA (cy 1) 48 (fun _ => 0))]) M hin2 hE hP hD hS 0 rfl rfl zu_X3 0 (by decide) zk_fl_RX3_9 rfl rfl rfl tyX3_ok nmX3 rfl rfl (Nat.le_of_ble_eq_true rfl) rfl dX3_init_9 (fun H locs hP hD hS => ?_)
  refine lv_aload_n M.1 M.2.1 dX3_init_12 rfl (lv_at hl 0 rfl) ?_
  refine zi_bipush M dX3_init_13 ⟨by decide, by decide⟩ ?_
  refine zi_newa (atype := .int) (ty := .int) M hE hP hD hS hA 0 rfl rfl (fun _ h => h) zk_ac_int rfl (N := 48) rfl (by decide) (by decide) (by decide) (by decide) dX3_init_15 (fun q15 H hP hD hS => ?_)
  have hP : va_P D vwCl [(a, .inr (3, [.ref (q7), .null])), (q7, zA (cy 1) 48 (fun _ => 0)), (q15, zA (cy 0) 48 (fun _ => 0))] H := hP
  have hD : va_D (zA0 a sz) [(a, .inr (3, [.ref (q7), .null])), (q7, zA (cy 1) 48 (fun _ => 0)), (q15, zA (cy 0) 48 (fun _ => 0))] := hD
  refine zi_putF (ci := 3) (v := .ref (q15)) (ws' := [(a, .inr (3, [.ref (q7), .ref (q15)])), (q7, zA (cy 1) 48 (fun _ => 0)), (q15, zA (cy 0) 48 (fun _ => 0))]) M hin2 hE hP hD hS 0 rfl rfl zu_X3 1 (by decide) zk_fl_RX3_15 rfl rfl rfl tyX3_ok nmX3 rfl rfl (Nat.le_of_ble_eq_true rfl) rfl dX3_init_17 (fun H locs hP hD hS => ?_)
  exact zw_I M hr hlk (fun k : Nat => if k = 0 then a else if k = 1 then q7 else q15) rfl hP hD hS (by decide) (by decide) dX3_init_20
set_option maxRecDepth 100000 in
set_option maxHeartbeats 8000000 in
theorem c_X4_init (l : Launch) (D : va_G) (cy : Nat → ClassId) (z0 a sz : Nat) : Met l yX4_init [.code yX4_init cX4_init 1 none] (zRm 1 0 0 28) (zPc [.ref a] D cy z0 (zNew D z0 a sz (.inr (4, [.int (iI 0), .int (iI 0), .int (iI 0), .int (iI 0), .int (iI 0), .int (iI 0), .int (iI 0), .int (iI 0)])))) (zQI D a sz (fun r => (rayW r 0 cy 0 0 0 0 0 0 0 0))) 0 0 (zA0 a sz) := by
  refine z_of (by decide) (Nat.le_of_ble_eq_true rfl) ?_
  intro p e s m args below meth c M hr hlk hini hargs hP0 hE ls hl
  obtain ⟨hsz, hza, hP1⟩ := hP0
  have hin2 : meth.name = "<init>" := hini rfl
  have hl : lv_has ls 1 [(0, .ref a)] := hl
  have hA : ∀ q : Nat, s.heap.size ≤ q → zA0 a sz q := fun q h => Or.inr (by rw [← hsz]; exact h)
  have hAz : ∀ q : Nat, zA0 a sz q → z0 ≤ q := fun q h => by rcases h with rfl | h; exact hza; exact Nat.le_trans (by rw [← hsz]; exact hE.2.2.1) h
  have hS : va_S (zA0 a sz) s.heap s.heap [] := va_S.rf
  have hP : va_P D vwCl [(a, .inr (4, [.int (iI 0), .int (iI 0), .int (iI 0), .int (iI 0), .int (iI 0), .int (iI 0), .int (iI 0), .int (iI 0)]))] s.heap := hP1
  have hD : va_D (zA0 a sz) [(a, .inr (4, [.int (iI 0), .int (iI 0), .int (iI 0), .int (iI 0), .int (iI 0), .int (iI 0), .int (iI 0), .int (iI 0)]))] := zD_one (Or.inl rfl)
  refine lv_aload_n M.1 M.2.1 dX4_init_0 rfl (lv_at hl 0 rfl) ?_
  refine zi_obj M hl.1 zk_ml_RX4_3 (by decide) (Nat.le_of_ble_eq_true rfl) dX4_init_1 ?_
  exact zw_I M hr hlk (fun k : Nat => if k = 0 then a else a) rfl hP hD hS (by decide) (by decide) dX4_init_4
set_option maxRecDepth 100000 in
set_option maxHeartbeats 8000000 in
theorem c_X5_init12 (l : Launch) (D : va_G) (cy : Nat → ClassId) (z0 a sz : Nat) : Met l yX5_init [.code yX5_init cX5_init 2 none] (zRm 1 5 60 28) (zPc [.ref a, .int (iI 12)] D cy z0 (zNew D z0 a sz (.inr (5, [.null, .null, .null, .null, .null, .int (iI 0)])))) (zQI D a sz (fun r => (sndW r 0 cy 12 0 (fun _ => 0) (fun _ => 0) (fun _ => 0) (fun _ => 0) (fun _ => 0)))) 5 60 (zA0 a sz) := by
  refine z_of (by decide) (Nat.le_of_ble_eq_true rfl) ?_
  intro p e s m args below meth c M hr hlk hini hargs hP0 hE ls hl
  obtain ⟨hsz, hza, hP1⟩ := hP0
  have hin2 : meth.name = "<init>" := hini rfl
  have hl : lv_has ls 2 [(0, .ref a), (1, .int (iI 12))] := hl
  have hA : ∀ q : Nat, s.heap.size ≤ q → zA0 a sz q := fun q h => Or.inr (by rw [← hsz]; exact h)
  have hAz : ∀ q : Nat, zA0 a sz q → z0 ≤ q := fun q h => by rcases h with rfl | h; exact hza; exact Nat.le_trans (by rw [← hsz]; exact hE.2.2.1) h
  have hS : va_S (zA0 a sz) s.heap s.heap [] := va_S.rf
  have hP : va_P D vwCl [(a, .inr (5, [.null, .null, .null, .null, .null, .int (iI 0)]))] s.heap := hP1
  have hD : va_D (zA0 a sz) [(a, .inr (5, [.null, .null, .null, .null, .null, .int (iI 0)]))] := zD_one (Or.inl rfl)
  refine lv_aload_n M.1 M.2.1 dX5_init_0 rfl (lv_at hl 0 rfl) ?_
  refine zi_obj M hl.1 zk_ml_RX5_3 (by decide) (Nat.le_of_ble_eq_true rfl) dX5_init_1 ?_
  refine lv_aload_n M.1 M.2.1 dX5_init_4 rfl (lv_at hl 0 rfl) ?_
  refine lv_iload_n M.1 M.2.1 dX5_init_5 rfl (lv_at hl 1 rfl) ?_
  refine zi_newa (atype := .int) (ty := .int) M hE hP hD hS hA 0 rfl rfl (fun _ h => h) zk_ac_int rfl (N := 12) rfl (by decide) (by decide) (by decide) (by decide) dX5_init_6 (fun q6 H hP hD hS => ?_)
  have hP : va_P D vwCl [(a, .inr (5, [.null, .null, .null, .null, .null, .int (iI 0)])), (q6, zA (cy 0) 12 (fun _ => 0))] H := hP
  have hD : va_D (zA0 a sz) [(a, .inr (5, [.null, .null, .null, .null, .null, .int (iI 0)])), (q6, zA (cy 0) 12 (fun _ => 0))] := hD
  refine zi_putF (ci := 5) (v := .ref (q6)) (ws' := [(a, .inr (5, [.ref (q6), .null, .null, .null, .null, .int (iI 0)])), (q6, zA (cy 0) 12 (fun _ => 0))]) M hin2 hE hP hD hS 0 rfl rfl zu_X5 0 (by decide) zk_fl_RX5_9 rfl rfl rfl tyX5_ok nmX5 rfl rfl (Nat.le_of_ble_eq_true rfl) rfl dX5_init_8 (fun H locs hP hD hS => ?_)
  refine lv_aload_n M.1 M.2.1 dX5_init_11 rfl (lv_at hl 0 rfl) ?_
  refine lv_iload_n M.1 M.2.1 dX5_init_12 rfl (lv_at hl 1 rfl) ?_
  refine zi_newa (atype := .int) (ty := .int) M hE hP hD hS hA 0 rfl rfl (fun _ h => h) zk_ac_int rfl (N := 12) rfl (by decide) (by decide) (by decide) (by decide) dX5_init_13 (fun q13 H hP hD hS => ?_)
  have hP : va_P D vwCl [(a, .inr (5, [.ref (q6), .null, .null, .null, .null, .int (iI 0)])), (q6, zA (cy 0) 12 (fun _ => 0)), (q13, zA (cy 0) 12 (fun _ => 0))] H := hP
  have hD : va_D (zA0 a sz) [(a, .inr (5, [.ref (q6), .null, .null, .null, .null, .int (iI 0)])), (q6, zA (cy 0) 12 (fun _ => 0)), (q13, zA (cy 0) 12 (fun _ => 0))] := hD
  refine zi_putF (ci := 5) (v := .ref (q13)) (ws' := [(a, .inr (5, [.ref (q6), .ref (q13), .null, .null, .null, .int (iI 0)])), (q6, zA (cy 0) 12 (fun _ => 0)), (q13, zA (cy 0) 12 (fun _ => 0))]) M hin2 hE hP hD hS 0 rfl rfl zu_X5 1 (by decide) zk_fl_RX5_15 rfl rfl rfl tyX5_ok nmX5 rfl rfl (Nat.le_of_ble_eq_true rfl) rfl dX5_init_15 (fun H locs hP hD hS => ?_)
  refine lv_aload_n M.1 M.2.1 dX5_init_18 rfl (lv_at hl 0 rfl) ?_
  refine lv_iload_n M.1 M.2.1 dX5_init_19 rfl (lv_at hl 1 rfl) ?_
  refine zi_newa (atype := .int) (ty := .int) M hE hP hD hS hA 0 rfl rfl (fun _ h => h) zk_ac_int rfl (N := 12) rfl (by decide) (by decide) (by decide) (by decide) dX5_init_20 (fun q20 H hP hD hS => ?_)
  have hP : va_P D vwCl [(a, .inr (5, [.ref (q6), .ref (q13), .null, .null, .null, .int (iI 0)])), (q6, zA (cy 0) 12 (fun _ => 0)), (q13, zA (cy 0) 12 (fun _ => 0)), (q20, zA (cy 0) 12 (fun _ => 0))] H := hP
  have hD : va_D (zA0 a sz) [(a, .inr (5, [.ref (q6), .ref (q13), .null, .null, .null, .int (iI 0)])), (q6, zA (cy 0) 12 (fun _ => 0)), (q13, zA (cy 0) 12 (fun _ => 0)), (q20, zA (cy 0) 12 (fun _ => 0))] := hD
  refine zi_putF (ci := 5) (v := .ref (q20)) (ws' := [(a, .inr (5, [.ref (q6), .ref (q13), .ref (q20), .null, .null, .int (iI 0)])), (q6, zA (cy 0) 12 (fun _ => 0)), (q13, zA (cy 0) 12 (fun _ => 0)), (q20, zA (cy 0) 12 (fun _ => 0))]) M hin2 hE hP hD hS 0 rfl rfl zu_X5 2 (by decide) zk_fl_RX5_18 rfl rfl rfl tyX5_ok nmX5 rfl rfl (Nat.le_of_ble_eq_true rfl) rfl dX5_init_22 (fun H locs hP hD hS => ?_)
  refine lv_aload_n M.1 M.2.1 dX5_init_25 rfl (lv_at hl 0 rfl) ?_
  refine lv_iload_n M.1 M.2.1 dX5_init_26 rfl (lv_at hl 1 rfl) ?_
  refine zi_newa (atype := .int) (ty := .int) M hE hP hD hS hA 0 rfl rfl (fun _ h => h) zk_ac_int rfl (N := 12) rfl (by decide) (by decide) (by decide) (by decide) dX5_init_27 (fun q27 H hP hD hS => ?_)
  have hP : va_P D vwCl [(a, .inr (5, [.ref (q6), .ref (q13), .ref (q20), .null, .null, .int (iI 0)])), (q6, zA (cy 0) 12 (fun _ => 0)), (q13, zA (cy 0) 12 (fun _ => 0)), (q20, zA (cy 0) 12 (fun _ => 0)), (q27, zA (cy 0) 12 (fun _ => 0))] H := hP
  have hD : va_D (zA0 a sz) [(a, .inr (5, [.ref (q6), .ref (q13), .ref (q20), .null, .null, .int (iI 0)])), (q6, zA (cy 0) 12 (fun _ => 0)), (q13, zA (cy 0) 12 (fun _ => 0)), (q20, zA (cy 0) 12 (fun _ => 0)), (q27, zA (cy 0) 12 (fun _ => 0))] := hD
  refine zi_putF (ci := 5) (v := .ref (q27)) (ws' := [(a, .inr (5, [.ref (q6), .ref (q13), .ref (q20), .ref (q27), .null, .int (iI 0)])), (q6, zA (cy 0) 12 (fun _ => 0)), (q13, zA (cy 0) 12 (fun _ => 0)), (q20, zA (cy 0) 12 (fun _ => 0)), (q27, zA (cy 0) 12 (fun _ => 0))]) M hin2 hE hP hD hS 0 rfl rfl zu_X5 3 (by decide) zk_fl_RX5_21 rfl rfl rfl tyX5_ok nmX5 rfl rfl (Nat.le_of_ble_eq_true rfl) rfl dX5_init_29 (fun H locs hP hD hS => ?_)
  refine lv_aload_n M.1 M.2.1 dX5_init_32 rfl (lv_at hl 0 rfl) ?_
  refine lv_iload_n M.1 M.2.1 dX5_init_33 rfl (lv_at hl 1 rfl) ?_
  refine zi_newa (atype := .int) (ty := .int) M hE hP hD hS hA 0 rfl rfl (fun _ h => h) zk_ac_int rfl (N := 12) rfl (by decide) (by decide) (by decide) (by decide) dX5_init_34 (fun q34 H hP hD hS => ?_)
  have hP : va_P D vwCl [(a, .inr (5, [.ref (q6), .ref (q13), .ref (q20), .ref (q27), .null, .int (iI 0)])), (q6, zA (cy 0) 12 (fun _ => 0)), (q13, zA (cy 0) 12 (fun _ => 0)), (q20, zA (cy 0) 12 (fun _ => 0)), (q27, zA (cy 0) 12 (fun _ => 0)), (q34, zA (cy 0) 12 (fun _ => 0))] H := hP
  have hD : va_D (zA0 a sz) [(a, .inr (5, [.ref (q6), .ref (q13), .ref (q20), .ref (q27), .null, .int (iI 0)])), (q6, zA (cy 0) 12 (fun _ => 0)), (q13, zA (cy 0) 12 (fun _ => 0)), (q20, zA (cy 0) 12 (fun _ => 0)), (q27, zA (cy 0) 12 (fun _ => 0)), (q34, zA (cy 0) 12 (fun _ => 0))] := hD
  refine zi_putF (ci := 5) (v := .ref (q34)) (ws' := [(a, .inr (5, [.ref (q6), .ref (q13), .ref (q20), .ref (q27), .ref (q34), .int (iI 0)])), (q6, zA (cy 0) 12 (fun _ => 0)), (q13, zA (cy 0) 12 (fun _ => 0)), (q20, zA (cy 0) 12 (fun _ => 0)), (q27, zA (cy 0) 12 (fun _ => 0)), (q34, zA (cy 0) 12 (fun _ => 0))]) M hin2 hE hP hD hS 0 rfl rfl zu_X5 4 (by decide) zk_fl_RX5_24 rfl rfl rfl tyX5_ok nmX5 rfl rfl (Nat.le_of_ble_eq_true rfl) rfl dX5_init_36 (fun H locs hP hD hS => ?_)
  exact zw_I M hr hlk (fun k : Nat => if k = 0 then a else if k = 1 then q6 else if k = 2 then q13 else if k = 3 then q20 else if k = 4 then q27 else q34) rfl hP hD hS (by decide) (by decide) dX5_init_39
set_option maxRecDepth 100000 in
set_option maxHeartbeats 8000000 in
theorem c_X5_init6 (l : Launch) (D : va_G) (cy : Nat → ClassId) (z0 a sz : Nat) : Met l yX5_init [.code yX5_init cX5_init 2 none] (zRm 1 5 30 28) (zPc [.ref a, .int (iI 6)] D cy z0 (zNew D z0 a sz (.inr (5, [.null, .null, .null, .null, .null, .int (iI 0)])))) (zQI D a sz (fun r => (sndW r 0 cy 6 0 (fun _ => 0) (fun _ => 0) (fun _ => 0) (fun _ => 0) (fun _ => 0)))) 5 30 (zA0 a sz) := by
  refine z_of (by decide) (Nat.le_of_ble_eq_true rfl) ?_
  intro p e s m args below meth c M hr hlk hini hargs hP0 hE ls hl
  obtain ⟨hsz, hza, hP1⟩ := hP0
  have hin2 : meth.name = "<init>" := hini rfl
  have hl : lv_has ls 2 [(0, .ref a), (1, .int (iI 6))] := hl
  have hA : ∀ q : Nat, s.heap.size ≤ q → zA0 a sz q := fun q h => Or.inr (by rw [← hsz]; exact h)
  have hAz : ∀ q : Nat, zA0 a sz q → z0 ≤ q := fun q h => by rcases h with rfl | h; exact hza; exact Nat.le_trans (by rw [← hsz]; exact hE.2.2.1) h
  have hS : va_S (zA0 a sz) s.heap s.heap [] := va_S.rf
  have hP : va_P D vwCl [(a, .inr (5, [.null, .null, .null, .null, .null, .int (iI 0)]))] s.heap := hP1
  have hD : va_D (zA0 a sz) [(a, .inr (5, [.null, .null, .null, .null, .null, .int (iI 0)]))] := zD_one (Or.inl rfl)
  refine lv_aload_n M.1 M.2.1 dX5_init_0 rfl (lv_at hl 0 rfl) ?_
  refine zi_obj M hl.1 zk_ml_RX5_3 (by decide) (Nat.le_of_ble_eq_true rfl) dX5_init_1 ?_
  refine lv_aload_n M.1 M.2.1 dX5_init_4 rfl (lv_at hl 0 rfl) ?_
  refine lv_iload_n M.1 M.2.1 dX5_init_5 rfl (lv_at hl 1 rfl) ?_
  refine zi_newa (atype := .int) (ty := .int) M hE hP hD hS hA 0 rfl rfl (fun _ h => h) zk_ac_int rfl (N := 6) rfl (by decide) (by decide) (by decide) (by decide) dX5_init_6 (fun q6 H hP hD hS => ?_)
  have hP : va_P D vwCl [(a, .inr (5, [.null, .null, .null, .null, .null, .int (iI 0)])), (q6, zA (cy 0) 6 (fun _ => 0))] H := hP
  have hD : va_D (zA0 a sz) [(a, .inr (5, [.null, .null, .null, .null, .null, .int (iI 0)])), (q6, zA (cy 0) 6 (fun _ => 0))] := hD
  refine zi_putF (ci := 5) (v := .ref (q6)) (ws' := [(a, .inr (5, [.ref (q6), .null, .null, .null, .null, .int (iI 0)])), (q6, zA (cy 0) 6 (fun _ => 0))]) M hin2 hE hP hD hS 0 rfl rfl zu_X5 0 (by decide) zk_fl_RX5_9 rfl rfl rfl tyX5_ok nmX5 rfl rfl (Nat.le_of_ble_eq_true rfl) rfl dX5_init_8 (fun H locs hP hD hS => ?_)
  refine lv_aload_n M.1 M.2.1 dX5_init_11 rfl (lv_at hl 0 rfl) ?_
  refine lv_iload_n M.1 M.2.1 dX5_init_12 rfl (lv_at hl 1 rfl) ?_
  refine zi_newa (atype := .int) (ty := .int) M hE hP hD hS hA 0 rfl rfl (fun _ h => h) zk_ac_int rfl (N := 6) rfl (by decide) (by decide) (by decide) (by decide) dX5_init_13 (fun q13 H hP hD hS => ?_)
  have hP : va_P D vwCl [(a, .inr (5, [.ref (q6), .null, .null, .null, .null, .int (iI 0)])), (q6, zA (cy 0) 6 (fun _ => 0)), (q13, zA (cy 0) 6 (fun _ => 0))] H := hP
  have hD : va_D (zA0 a sz) [(a, .inr (5, [.ref (q6), .null, .null, .null, .null, .int (iI 0)])), (q6, zA (cy 0) 6 (fun _ => 0)), (q13, zA (cy 0) 6 (fun _ => 0))] := hD
  refine zi_putF (ci := 5) (v := .ref (q13)) (ws' := [(a, .inr (5, [.ref (q6), .ref (q13), .null, .null, .null, .int (iI 0)])), (q6, zA (cy 0) 6 (fun _ => 0)), (q13, zA (cy 0) 6 (fun _ => 0))]) M hin2 hE hP hD hS 0 rfl rfl zu_X5 1 (by decide) zk_fl_RX5_15 rfl rfl rfl tyX5_ok nmX5 rfl rfl (Nat.le_of_ble_eq_true rfl) rfl dX5_init_15 (fun H locs hP hD hS => ?_)
  refine lv_aload_n M.1 M.2.1 dX5_init_18 rfl (lv_at hl 0 rfl) ?_
  refine lv_iload_n M.1 M.2.1 dX5_init_19 rfl (lv_at hl 1 rfl) ?_
  refine zi_newa (atype := .int) (ty := .int) M hE hP hD hS hA 0 rfl rfl (fun _ h => h) zk_ac_int rfl (N := 6) rfl (by decide) (by decide) (by decide) (by decide) dX5_init_20 (fun q20 H hP hD hS => ?_)
  have hP : va_P D vwCl [(a, .inr (5, [.ref (q6), .ref (q13), .null, .null, .null, .int (iI 0)])), (q6, zA (cy 0) 6 (fun _ => 0)), (q13, zA (cy 0) 6 (fun _ => 0)), (q20, zA (cy 0) 6 (fun _ => 0))] H := hP
  have hD : va_D (zA0 a sz) [(a, .inr (5, [.ref (q6), .ref (q13), .null, .null, .null, .int (iI 0)])), (q6, zA (cy 0) 6 (fun _ => 0)), (q13, zA (cy 0) 6 (fun _ => 0)), (q20, zA (cy 0) 6 (fun _ => 0))] := hD
  refine zi_putF (ci := 5) (v := .ref (q20)) (ws' := [(a, .inr (5, [.ref (q6), .ref (q13), .ref (q20), .null, .null, .int (iI 0)])), (q6, zA (cy 0) 6 (fun _ => 0)), (q13, zA (cy 0) 6 (fun _ => 0)), (q20, zA (cy 0) 6 (fun _ => 0))]) M hin2 hE hP hD hS 0 rfl rfl zu_X5 2 (by decide) zk_fl_RX5_18 rfl rfl rfl tyX5_ok nmX5 rfl rfl (Nat.le_of_ble_eq_true rfl) rfl dX5_init_22 (fun H locs hP hD hS => ?_)
  refine lv_aload_n M.1 M.2.1 dX5_init_25 rfl (lv_at hl 0 rfl) ?_
  refine lv_iload_n M.1 M.2.1 dX5_init_26 rfl (lv_at hl 1 rfl) ?_
  refine zi_newa (atype := .int) (ty := .int) M hE hP hD hS hA 0 rfl rfl (fun _ h => h) zk_ac_int rfl (N := 6) rfl (by decide) (by decide) (by decide) (by decide) dX5_init_27 (fun q27 H hP hD hS => ?_)
  have hP : va_P D vwCl [(a, .inr (5, [.ref (q6), .ref (q13), .ref (q20), .null, .null, .int (iI 0)])), (q6, zA (cy 0) 6 (fun _ => 0)), (q13, zA (cy 0) 6 (fun _ => 0)), (q20, zA (cy 0) 6 (fun _ => 0)), (q27, zA (cy 0) 6 (fun _ => 0))] H := hP
  have hD : va_D (zA0 a sz) [(a, .inr (5, [.ref (q6), .ref (q13), .ref (q20), .null, .null, .int (iI 0)])), (q6, zA (cy 0) 6 (fun _ => 0)), (q13, zA (cy 0) 6 (fun _ => 0)), (q20, zA (cy 0) 6 (fun _ => 0)), (q27, zA (cy 0) 6 (fun _ => 0))] := hD
  refine zi_putF (ci := 5) (v := .ref (q27)) (ws' := [(a, .inr (5, [.ref (q6), .ref (q13), .ref (q20), .ref (q27), .null, .int (iI 0)])), (q6, zA (cy 0) 6 (fun _ => 0)), (q13, zA (cy 0) 6 (fun _ => 0)), (q20, zA (cy 0) 6 (fun _ => 0)), (q27, zA (cy 0) 6 (fun _ => 0))]) M hin2 hE hP hD hS 0 rfl rfl zu_X5 3 (by decide) zk_fl_RX5_21 rfl rfl rfl tyX5_ok nmX5 rfl rfl (Nat.le_of_ble_eq_true rfl) rfl dX5_init_29 (fun H locs hP hD hS => ?_)
  refine lv_aload_n M.1 M.2.1 dX5_init_32 rfl (lv_at hl 0 rfl) ?_
  refine lv_iload_n M.1 M.2.1 dX5_init_33 rfl (lv_at hl 1 rfl) ?_
  refine zi_newa (atype := .int) (ty := .int) M hE hP hD hS hA 0 rfl rfl (fun _ h => h) zk_ac_int rfl (N := 6) rfl (by decide) (by decide) (by decide) (by decide) dX5_init_34 (fun q34 H hP hD hS => ?_)
  have hP : va_P D vwCl [(a, .inr (5, [.ref (q6), .ref (q13), .ref (q20), .ref (q27), .null, .int (iI 0)])), (q6, zA (cy 0) 6 (fun _ => 0)), (q13, zA (cy 0) 6 (fun _ => 0)), (q20, zA (cy 0) 6 (fun _ => 0)), (q27, zA (cy 0) 6 (fun _ => 0)), (q34, zA (cy 0) 6 (fun _ => 0))] H := hP
  have hD : va_D (zA0 a sz) [(a, .inr (5, [.ref (q6), .ref (q13), .ref (q20), .ref (q27), .null, .int (iI 0)])), (q6, zA (cy 0) 6 (fun _ => 0)), (q13, zA (cy 0) 6 (fun _ => 0)), (q20, zA (cy 0) 6 (fun _ => 0)), (q27, zA (cy 0) 6 (fun _ => 0)), (q34, zA (cy 0) 6 (fun _ => 0))] := hD
  refine zi_putF (ci := 5) (v := .ref (q34)) (ws' := [(a, .inr (5, [.ref (q6), .ref (q13), .ref (q20), .ref (q27), .ref (q34), .int (iI 0)])), (q6, zA (cy 0) 6 (fun _ => 0)), (q13, zA (cy 0) 6 (fun _ => 0)), (q20, zA (cy 0) 6 (fun _ => 0)), (q27, zA (cy 0) 6 (fun _ => 0)), (q34, zA (cy 0) 6 (fun _ => 0))]) M hin2 hE hP hD hS 0 rfl rfl zu_X5 4 (by decide) zk_fl_RX5_24 rfl rfl rfl tyX5_ok nmX5 rfl rfl (Nat.le_of_ble_eq_true rfl) rfl dX5_init_36 (fun H locs hP hD hS => ?_)
  exact zw_I M hr hlk (fun k : Nat => if k = 0 then a else if k = 1 then q6 else if k = 2 then q13 else if k = 3 then q20 else if k = 4 then q27 else q34) rfl hP hD hS (by decide) (by decide) dX5_init_39
set_option maxRecDepth 100000 in
set_option maxHeartbeats 8000000 in
theorem c_X1_init (l : Launch) (D : va_G) (cy : Nat → ClassId) (z0 a sz : Nat) : Met l yX1_init [.code yX1_init cX1_init 1 none] (zRm 1 5 300 28) (zPc [.ref a] D cy z0 (zNew D z0 a sz (.inr (1, [.null, .null, .null, .null, .null, .int (iI 0)])))) (zQI D a sz (fun r => (conW r 0 cy 0 (fun _ => 0) (fun _ => 0) (fun _ => 0) (fun _ => 0) (fun _ => 0)))) 5 300 (zA0 a sz) := by
  refine z_of (by decide) (Nat.le_of_ble_eq_true rfl) ?_
  intro p e s m args below meth c M hr hlk hini hargs hP0 hE ls hl
  obtain ⟨hsz, hza, hP1⟩ := hP0
  have hin2 : meth.name = "<init>" := hini rfl
  have hl : lv_has ls 1 [(0, .ref a)] := hl
  have hA : ∀ q : Nat, s.heap.size ≤ q → zA0 a sz q := fun q h => Or.inr (by rw [← hsz]; exact h)
  have hAz : ∀ q : Nat, zA0 a sz q → z0 ≤ q := fun q h => by rcases h with rfl | h; exact hza; exact Nat.le_trans (by rw [← hsz]; exact hE.2.2.1) h
  have hS : va_S (zA0 a sz) s.heap s.heap [] := va_S.rf
  have hP : va_P D vwCl [(a, .inr (1, [.null, .null, .null, .null, .null, .int (iI 0)]))] s.heap := hP1
  have hD : va_D (zA0 a sz) [(a, .inr (1, [.null, .null, .null, .null, .null, .int (iI 0)]))] := zD_one (Or.inl rfl)
  refine lv_aload_n M.1 M.2.1 dX1_init_0 rfl (lv_at hl 0 rfl) ?_
  refine zi_obj M hl.1 zk_ml_RX1_3 (by decide) (Nat.le_of_ble_eq_true rfl) dX1_init_1 ?_
  refine lv_aload_n M.1 M.2.1 dX1_init_4 rfl (lv_at hl 0 rfl) ?_
  refine zi_bipush M dX1_init_5 ⟨by decide, by decide⟩ ?_
  refine zi_newa (atype := .int) (ty := .int) M hE hP hD hS hA 0 rfl rfl (fun _ h => h) zk_ac_int rfl (N := 60) rfl (by decide) (by decide) (by decide) (by decide) dX1_init_7 (fun q7 H hP hD hS => ?_)
  have hP : va_P D vwCl [(a, .inr (1, [.null, .null, .null, .null, .null, .int (iI 0)])), (q7, zA (cy 0) 60 (fun _ => 0))] H := hP
  have hD : va_D (zA0 a sz) [(a, .inr (1, [.null, .null, .null, .null, .null, .int (iI 0)])), (q7, zA (cy 0) 60 (fun _ => 0))] := hD
  refine zi_putF (ci := 1) (v := .ref (q7)) (ws' := [(a, .inr (1, [.ref (q7), .null, .null, .null, .null, .int (iI 0)])), (q7, zA (cy 0) 60 (fun _ => 0))]) M hin2 hE hP hD hS 0 rfl rfl zu_X1 0 (by decide) zk_fl_RX1_9 rfl rfl rfl tyX1_ok nmX1 rfl rfl (Nat.le_of_ble_eq_true rfl) rfl dX1_init_9 (fun H locs hP hD hS => ?_)
  refine lv_aload_n M.1 M.2.1 dX1_init_12 rfl (lv_at hl 0 rfl) ?_
  refine zi_bipush M dX1_init_13 ⟨by decide, by decide⟩ ?_
  refine zi_newa (atype := .int) (ty := .int) M hE hP hD hS hA 0 rfl rfl (fun _ h => h) zk_ac_int rfl (N := 60) rfl (by decide) (by decide) (by decide) (by decide) dX1_init_15 (fun q15 H hP hD hS => ?_)
  have hP : va_P D vwCl [(a, .inr (1, [.ref (q7), .null, .null, .null, .null, .int (iI 0)])), (q7, zA (cy 0) 60 (fun _ => 0)), (q15, zA (cy 0) 60 (fun _ => 0))] H := hP
  have hD : va_D (zA0 a sz) [(a, .inr (1, [.ref (q7), .null, .null, .null, .null, .int (iI 0)])), (q7, zA (cy 0) 60 (fun _ => 0)), (q15, zA (cy 0) 60 (fun _ => 0))] := hD
  refine zi_putF (ci := 1) (v := .ref (q15)) (ws' := [(a, .inr (1, [.ref (q7), .ref (q15), .null, .null, .null, .int (iI 0)])), (q7, zA (cy 0) 60 (fun _ => 0)), (q15, zA (cy 0) 60 (fun _ => 0))]) M hin2 hE hP hD hS 0 rfl rfl zu_X1 1 (by decide) zk_fl_RX1_15 rfl rfl rfl tyX1_ok nmX1 rfl rfl (Nat.le_of_ble_eq_true rfl) rfl dX1_init_17 (fun H locs hP hD hS => ?_)
  refine lv_aload_n M.1 M.2.1 dX1_init_20 rfl (lv_at hl 0 rfl) ?_
  refine zi_bipush M dX1_init_21 ⟨by decide, by decide⟩ ?_
  refine zi_newa (atype := .int) (ty := .int) M hE hP hD hS hA 0 rfl rfl (fun _ h => h) zk_ac_int rfl (N := 60) rfl (by decide) (by decide) (by decide) (by decide) dX1_init_23 (fun q23 H hP hD hS => ?_)
  have hP : va_P D vwCl [(a, .inr (1, [.ref (q7), .ref (q15), .null, .null, .null, .int (iI 0)])), (q7, zA (cy 0) 60 (fun _ => 0)), (q15, zA (cy 0) 60 (fun _ => 0)), (q23, zA (cy 0) 60 (fun _ => 0))] H := hP
  have hD : va_D (zA0 a sz) [(a, .inr (1, [.ref (q7), .ref (q15), .null, .null, .null, .int (iI 0)])), (q7, zA (cy 0) 60 (fun _ => 0)), (q15, zA (cy 0) 60 (fun _ => 0)), (q23, zA (cy 0) 60 (fun _ => 0))] := hD
  refine zi_putF (ci := 1) (v := .ref (q23)) (ws' := [(a, .inr (1, [.ref (q7), .ref (q15), .ref (q23), .null, .null, .int (iI 0)])), (q7, zA (cy 0) 60 (fun _ => 0)), (q15, zA (cy 0) 60 (fun _ => 0)), (q23, zA (cy 0) 60 (fun _ => 0))]) M hin2 hE hP hD hS 0 rfl rfl zu_X1 2 (by decide) zk_fl_RX1_18 rfl rfl rfl tyX1_ok nmX1 rfl rfl (Nat.le_of_ble_eq_true rfl) rfl dX1_init_25 (fun H locs hP hD hS => ?_)
  refine lv_aload_n M.1 M.2.1 dX1_init_28 rfl (lv_at hl 0 rfl) ?_
  refine zi_bipush M dX1_init_29 ⟨by decide, by decide⟩ ?_
  refine zi_newa (atype := .int) (ty := .int) M hE hP hD hS hA 0 rfl rfl (fun _ h => h) zk_ac_int rfl (N := 60) rfl (by decide) (by decide) (by decide) (by decide) dX1_init_31 (fun q31 H hP hD hS => ?_)
  have hP : va_P D vwCl [(a, .inr (1, [.ref (q7), .ref (q15), .ref (q23), .null, .null, .int (iI 0)])), (q7, zA (cy 0) 60 (fun _ => 0)), (q15, zA (cy 0) 60 (fun _ => 0)), (q23, zA (cy 0) 60 (fun _ => 0)), (q31, zA (cy 0) 60 (fun _ => 0))] H := hP
  have hD : va_D (zA0 a sz) [(a, .inr (1, [.ref (q7), .ref (q15), .ref (q23), .null, .null, .int (iI 0)])), (q7, zA (cy 0) 60 (fun _ => 0)), (q15, zA (cy 0) 60 (fun _ => 0)), (q23, zA (cy 0) 60 (fun _ => 0)), (q31, zA (cy 0) 60 (fun _ => 0))] := hD
  refine zi_putF (ci := 1) (v := .ref (q31)) (ws' := [(a, .inr (1, [.ref (q7), .ref (q15), .ref (q23), .ref (q31), .null, .int (iI 0)])), (q7, zA (cy 0) 60 (fun _ => 0)), (q15, zA (cy 0) 60 (fun _ => 0)), (q23, zA (cy 0) 60 (fun _ => 0)), (q31, zA (cy 0) 60 (fun _ => 0))]) M hin2 hE hP hD hS 0 rfl rfl zu_X1 3 (by decide) zk_fl_RX1_21 rfl rfl rfl tyX1_ok nmX1 rfl rfl (Nat.le_of_ble_eq_true rfl) rfl dX1_init_33 (fun H locs hP hD hS => ?_)
  refine lv_aload_n M.1 M.2.1 dX1_init_36 rfl (lv_at hl 0 rfl) ?_
  refine zi_bipush M dX1_init_37 ⟨by decide, by decide⟩ ?_
  refine zi_newa (atype := .int) (ty := .int) M hE hP hD hS hA 0 rfl rfl (fun _ h => h) zk_ac_int rfl (N := 60) rfl (by decide) (by decide) (by decide) (by decide) dX1_init_39 (fun q39 H hP hD hS => ?_)
  have hP : va_P D vwCl [(a, .inr (1, [.ref (q7), .ref (q15), .ref (q23), .ref (q31), .null, .int (iI 0)])), (q7, zA (cy 0) 60 (fun _ => 0)), (q15, zA (cy 0) 60 (fun _ => 0)), (q23, zA (cy 0) 60 (fun _ => 0)), (q31, zA (cy 0) 60 (fun _ => 0)), (q39, zA (cy 0) 60 (fun _ => 0))] H := hP
  have hD : va_D (zA0 a sz) [(a, .inr (1, [.ref (q7), .ref (q15), .ref (q23), .ref (q31), .null, .int (iI 0)])), (q7, zA (cy 0) 60 (fun _ => 0)), (q15, zA (cy 0) 60 (fun _ => 0)), (q23, zA (cy 0) 60 (fun _ => 0)), (q31, zA (cy 0) 60 (fun _ => 0)), (q39, zA (cy 0) 60 (fun _ => 0))] := hD
  refine zi_putF (ci := 1) (v := .ref (q39)) (ws' := [(a, .inr (1, [.ref (q7), .ref (q15), .ref (q23), .ref (q31), .ref (q39), .int (iI 0)])), (q7, zA (cy 0) 60 (fun _ => 0)), (q15, zA (cy 0) 60 (fun _ => 0)), (q23, zA (cy 0) 60 (fun _ => 0)), (q31, zA (cy 0) 60 (fun _ => 0)), (q39, zA (cy 0) 60 (fun _ => 0))]) M hin2 hE hP hD hS 0 rfl rfl zu_X1 4 (by decide) zk_fl_RX1_24 rfl rfl rfl tyX1_ok nmX1 rfl rfl (Nat.le_of_ble_eq_true rfl) rfl dX1_init_41 (fun H locs hP hD hS => ?_)
  exact zw_I M hr hlk (fun k : Nat => if k = 0 then a else if k = 1 then q7 else if k = 2 then q15 else if k = 3 then q23 else if k = 4 then q31 else q39) rfl hP hD hS (by decide) (by decide) dX1_init_44
set_option maxRecDepth 100000 in
set_option maxHeartbeats 8000000 in
theorem c_X2_init (l : Launch) (D : va_G) (cy : Nat → ClassId) (z0 a sz : Nat) : Met l yX2_init [.code yX2_init cX2_init 1 none] (zRm 1 5 400 28) (zPc [.ref a] D cy z0 (zNew D z0 a sz (.inr (2, [.null, .null, .null, .null, .null, .int (iI 0), .int (iI 0)])))) (zQI D a sz (fun r => (entW r 0 cy 0 0 (fun _ => 0) (fun _ => 0) (fun _ => 0) (fun _ => 0) (fun _ => 0)))) 5 400 (zA0 a sz) := by
  refine z_of (by decide) (Nat.le_of_ble_eq_true rfl) ?_
  intro p e s m args below meth c M hr hlk hini hargs hP0 hE ls hl
  obtain ⟨hsz, hza, hP1⟩ := hP0
  have hin2 : meth.name = "<init>" := hini rfl
  have hl : lv_has ls 1 [(0, .ref a)] := hl
  have hA : ∀ q : Nat, s.heap.size ≤ q → zA0 a sz q := fun q h => Or.inr (by rw [← hsz]; exact h)
  have hAz : ∀ q : Nat, zA0 a sz q → z0 ≤ q := fun q h => by rcases h with rfl | h; exact hza; exact Nat.le_trans (by rw [← hsz]; exact hE.2.2.1) h
  have hS : va_S (zA0 a sz) s.heap s.heap [] := va_S.rf
  have hP : va_P D vwCl [(a, .inr (2, [.null, .null, .null, .null, .null, .int (iI 0), .int (iI 0)]))] s.heap := hP1
  have hD : va_D (zA0 a sz) [(a, .inr (2, [.null, .null, .null, .null, .null, .int (iI 0), .int (iI 0)]))] := zD_one (Or.inl rfl)
  refine lv_aload_n M.1 M.2.1 dX2_init_0 rfl (lv_at hl 0 rfl) ?_
  refine zi_obj M hl.1 zk_ml_RX2_3 (by decide) (Nat.le_of_ble_eq_true rfl) dX2_init_1 ?_
  refine lv_aload_n M.1 M.2.1 dX2_init_4 rfl (lv_at hl 0 rfl) ?_
  refine zi_bipush M dX2_init_5 ⟨by decide, by decide⟩ ?_
  refine zi_newa (atype := .int) (ty := .int) M hE hP hD hS hA 0 rfl rfl (fun _ h => h) zk_ac_int rfl (N := 80) rfl (by decide) (by decide) (by decide) (by decide) dX2_init_7 (fun q7 H hP hD hS => ?_)
  have hP : va_P D vwCl [(a, .inr (2, [.null, .null, .null, .null, .null, .int (iI 0), .int (iI 0)])), (q7, zA (cy 0) 80 (fun _ => 0))] H := hP
  have hD : va_D (zA0 a sz) [(a, .inr (2, [.null, .null, .null, .null, .null, .int (iI 0), .int (iI 0)])), (q7, zA (cy 0) 80 (fun _ => 0))] := hD
  refine zi_putF (ci := 2) (v := .ref (q7)) (ws' := [(a, .inr (2, [.ref (q7), .null, .null, .null, .null, .int (iI 0), .int (iI 0)])), (q7, zA (cy 0) 80 (fun _ => 0))]) M hin2 hE hP hD hS 0 rfl rfl zu_X2 0 (by decide) zk_fl_RX2_9 rfl rfl rfl tyX2_ok nmX2 rfl rfl (Nat.le_of_ble_eq_true rfl) rfl dX2_init_9 (fun H locs hP hD hS => ?_)
  refine lv_aload_n M.1 M.2.1 dX2_init_12 rfl (lv_at hl 0 rfl) ?_
  refine zi_bipush M dX2_init_13 ⟨by decide, by decide⟩ ?_
  refine zi_newa (atype := .int) (ty := .int) M hE hP hD hS hA 0 rfl rfl (fun _ h => h) zk_ac_int rfl (N := 80) rfl (by decide) (by decide) (by decide) (by decide) dX2_init_15 (fun q15 H hP hD hS => ?_)
  have hP : va_P D vwCl [(a, .inr (2, [.ref (q7), .null, .null, .null, .null, .int (iI 0), .int (iI 0)])), (q7, zA (cy 0) 80 (fun _ => 0)), (q15, zA (cy 0) 80 (fun _ => 0))] H := hP
  have hD : va_D (zA0 a sz) [(a, .inr (2, [.ref (q7), .null, .null, .null, .null, .int (iI 0), .int (iI 0)])), (q7, zA (cy 0) 80 (fun _ => 0)), (q15, zA (cy 0) 80 (fun _ => 0))] := hD
  refine zi_putF (ci := 2) (v := .ref (q15)) (ws' := [(a, .inr (2, [.ref (q7), .ref (q15), .null, .null, .null, .int (iI 0), .int (iI 0)])), (q7, zA (cy 0) 80 (fun _ => 0)), (q15, zA (cy 0) 80 (fun _ => 0))]) M hin2 hE hP hD hS 0 rfl rfl zu_X2 1 (by decide) zk_fl_RX2_15 rfl rfl rfl tyX2_ok nmX2 rfl rfl (Nat.le_of_ble_eq_true rfl) rfl dX2_init_17 (fun H locs hP hD hS => ?_)
  refine lv_aload_n M.1 M.2.1 dX2_init_20 rfl (lv_at hl 0 rfl) ?_
  refine zi_bipush M dX2_init_21 ⟨by decide, by decide⟩ ?_
  refine zi_newa (atype := .int) (ty := .int) M hE hP hD hS hA 0 rfl rfl (fun _ h => h) zk_ac_int rfl (N := 80) rfl (by decide) (by decide) (by decide) (by decide) dX2_init_23 (fun q23 H hP hD hS => ?_)
  have hP : va_P D vwCl [(a, .inr (2, [.ref (q7), .ref (q15), .null, .null, .null, .int (iI 0), .int (iI 0)])), (q7, zA (cy 0) 80 (fun _ => 0)), (q15, zA (cy 0) 80 (fun _ => 0)), (q23, zA (cy 0) 80 (fun _ => 0))] H := hP
  have hD : va_D (zA0 a sz) [(a, .inr (2, [.ref (q7), .ref (q15), .null, .null, .null, .int (iI 0), .int (iI 0)])), (q7, zA (cy 0) 80 (fun _ => 0)), (q15, zA (cy 0) 80 (fun _ => 0)), (q23, zA (cy 0) 80 (fun _ => 0))] := hD
  refine zi_putF (ci := 2) (v := .ref (q23)) (ws' := [(a, .inr (2, [.ref (q7), .ref (q15), .ref (q23), .null, .null, .int (iI 0), .int (iI 0)])), (q7, zA (cy 0) 80 (fun _ => 0)), (q15, zA (cy 0) 80 (fun _ => 0)), (q23, zA (cy 0) 80 (fun _ => 0))]) M hin2 hE hP hD hS 0 rfl rfl zu_X2 2 (by decide) zk_fl_RX2_18 rfl rfl rfl tyX2_ok nmX2 rfl rfl (Nat.le_of_ble_eq_true rfl) rfl dX2_init_25 (fun H locs hP hD hS => ?_)
  refine lv_aload_n M.1 M.2.1 dX2_init_28 rfl (lv_at hl 0 rfl) ?_
  refine zi_bipush M dX2_init_29 ⟨by decide, by decide⟩ ?_
  refine zi_newa (atype := .int) (ty := .int) M hE hP hD hS hA 0 rfl rfl (fun _ h => h) zk_ac_int rfl (N := 80) rfl (by decide) (by decide) (by decide) (by decide) dX2_init_31 (fun q31 H hP hD hS => ?_)
  have hP : va_P D vwCl [(a, .inr (2, [.ref (q7), .ref (q15), .ref (q23), .null, .null, .int (iI 0), .int (iI 0)])), (q7, zA (cy 0) 80 (fun _ => 0)), (q15, zA (cy 0) 80 (fun _ => 0)), (q23, zA (cy 0) 80 (fun _ => 0)), (q31, zA (cy 0) 80 (fun _ => 0))] H := hP
  have hD : va_D (zA0 a sz) [(a, .inr (2, [.ref (q7), .ref (q15), .ref (q23), .null, .null, .int (iI 0), .int (iI 0)])), (q7, zA (cy 0) 80 (fun _ => 0)), (q15, zA (cy 0) 80 (fun _ => 0)), (q23, zA (cy 0) 80 (fun _ => 0)), (q31, zA (cy 0) 80 (fun _ => 0))] := hD
  refine zi_putF (ci := 2) (v := .ref (q31)) (ws' := [(a, .inr (2, [.ref (q7), .ref (q15), .ref (q23), .ref (q31), .null, .int (iI 0), .int (iI 0)])), (q7, zA (cy 0) 80 (fun _ => 0)), (q15, zA (cy 0) 80 (fun _ => 0)), (q23, zA (cy 0) 80 (fun _ => 0)), (q31, zA (cy 0) 80 (fun _ => 0))]) M hin2 hE hP hD hS 0 rfl rfl zu_X2 3 (by decide) zk_fl_RX2_21 rfl rfl rfl tyX2_ok nmX2 rfl rfl (Nat.le_of_ble_eq_true rfl) rfl dX2_init_33 (fun H locs hP hD hS => ?_)
  refine lv_aload_n M.1 M.2.1 dX2_init_36 rfl (lv_at hl 0 rfl) ?_
  refine zi_bipush M dX2_init_37 ⟨by decide, by decide⟩ ?_
  refine zi_newa (atype := .int) (ty := .int) M hE hP hD hS hA 0 rfl rfl (fun _ h => h) zk_ac_int rfl (N := 80) rfl (by decide) (by decide) (by decide) (by decide) dX2_init_39 (fun q39 H hP hD hS => ?_)
  have hP : va_P D vwCl [(a, .inr (2, [.ref (q7), .ref (q15), .ref (q23), .ref (q31), .null, .int (iI 0), .int (iI 0)])), (q7, zA (cy 0) 80 (fun _ => 0)), (q15, zA (cy 0) 80 (fun _ => 0)), (q23, zA (cy 0) 80 (fun _ => 0)), (q31, zA (cy 0) 80 (fun _ => 0)), (q39, zA (cy 0) 80 (fun _ => 0))] H := hP
  have hD : va_D (zA0 a sz) [(a, .inr (2, [.ref (q7), .ref (q15), .ref (q23), .ref (q31), .null, .int (iI 0), .int (iI 0)])), (q7, zA (cy 0) 80 (fun _ => 0)), (q15, zA (cy 0) 80 (fun _ => 0)), (q23, zA (cy 0) 80 (fun _ => 0)), (q31, zA (cy 0) 80 (fun _ => 0)), (q39, zA (cy 0) 80 (fun _ => 0))] := hD
  refine zi_putF (ci := 2) (v := .ref (q39)) (ws' := [(a, .inr (2, [.ref (q7), .ref (q15), .ref (q23), .ref (q31), .ref (q39), .int (iI 0), .int (iI 0)])), (q7, zA (cy 0) 80 (fun _ => 0)), (q15, zA (cy 0) 80 (fun _ => 0)), (q23, zA (cy 0) 80 (fun _ => 0)), (q31, zA (cy 0) 80 (fun _ => 0)), (q39, zA (cy 0) 80 (fun _ => 0))]) M hin2 hE hP hD hS 0 rfl rfl zu_X2 4 (by decide) zk_fl_RX2_24 rfl rfl rfl tyX2_ok nmX2 rfl rfl (Nat.le_of_ble_eq_true rfl) rfl dX2_init_41 (fun H locs hP hD hS => ?_)
  exact zw_I M hr hlk (fun k : Nat => if k = 0 then a else if k = 1 then q7 else if k = 2 then q15 else if k = 3 then q23 else if k = 4 then q31 else q39) rfl hP hD hS (by decide) (by decide) dX2_init_44
