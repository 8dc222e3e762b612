/-! contracts of the methods that only reckon -/
set_option maxRecDepth 100000 in
set_option maxHeartbeats 4000000 in
theorem c_X6_ring (l : Launch) (D : va_G) (cy : Nat → ClassId) (z0 : Nat) (a : Int) (ha : -1000 ≤ a ∧ a ≤ 1000) : Met l yX6_ring [.code yX6_ring cX6_ring 2 (some .int)] (zRm 0 0 0 0) (zPc [.int (iI a)] D cy z0 (fun _ => True)) (QcRead (iI (a % 48))) 0 0 (fun _ => False) := by
  refine z_of (by decide) (Nat.le_of_ble_eq_true rfl) ?_
  intro p e s m args below meth c M hr hlk _ hargs hP hE ls hl
  have hS : va_S (fun q => z0 ≤ q) s.heap s.heap [] := va_S.rf
  have hAz : ∀ q : Nat, (fun q => z0 ≤ q) q → z0 ≤ q := fun _ h => h
  have hl : lv_has ls 2 [(0, .int (iI a))] := hl
  refine lv_iload_n M.1 M.2.1 dX6_ring_0 rfl (lv_at hl 0 rfl) ?_
  refine zi_bipush M dX6_ring_1 ⟨by decide, by decide⟩ ?_
  refine zi_tmod M dX6_ring_3 (by omega) (by omega) (by omega) (by omega) ?_
  have ht := tm48 a
  refine lv_istore_n (lv' := [(1, .int (iI (a.tmod 48))), (0, .int (iI a))]) M.1 M.2.1 dX6_ring_4 rfl hl (by decide) rfl (fun ls hl => ?_)
  refine lv_iload_n M.1 M.2.1 dX6_ring_5 rfl (lv_at hl 0 rfl) ?_
  refine zi_if_ge (tgt := 16) M dX6_ring_6 (by decide) (by omega) (fun c_1 => ?_) (fun c_1 => ?_)
  ·
    refine lv_iload_n M.1 M.2.1 dX6_ring_16 rfl (lv_at hl 0 rfl) ?_
    exact zr_i M hr hlk (congrArg iI (show ((a.tmod 48) : Int) = a % 48 by omega)) dX6_ring_17
  ·
    refine lv_iload_n M.1 M.2.1 dX6_ring_9 rfl (lv_at hl 0 rfl) ?_
    refine zi_bipush M dX6_ring_10 ⟨by decide, by decide⟩ ?_
    refine zi_iadd M dX6_ring_12 ?_
    refine zi_goto (tgt := 17) M dX6_ring_13 (by decide) ?_
    exact zr_i M hr hlk (congrArg iI (show (((a.tmod 48) + 48) : Int) = a % 48 by omega)) dX6_ring_17

set_option maxRecDepth 100000 in
set_option maxHeartbeats 4000000 in
theorem c_X6_lengthBy (l : Launch) (D : va_G) (cy : Nat → ClassId) (z0 : Nat) (y : Int) (a : Int) (hy : 0 ≤ y ∧ y ≤ 2) (ha : 1 ≤ a ∧ a ≤ 9) : Met l yX6_lengthBy [.code yX6_lengthBy cX6_lengthBy 2 (some .int)] (zRm 0 0 0 0) (zPc [.int (iI y), .int (iI a)] D cy z0 (fun _ => True)) (QcRead (iI (lenZ y a))) 0 0 (fun _ => False) := by
  refine z_of (by decide) (Nat.le_of_ble_eq_true rfl) ?_
  intro p e s m args below meth c M hr hlk _ hargs hP hE ls hl
  have hS : va_S (fun q => z0 ≤ q) s.heap s.heap [] := va_S.rf
  have hAz : ∀ q : Nat, (fun q => z0 ≤ q) q → z0 ≤ q := fun _ h => h
  have hl : lv_has ls 2 [(0, .int (iI y)), (1, .int (iI a))] := hl
  refine lv_iload_n M.1 M.2.1 dX6_lengthBy_0 rfl (lv_at hl 0 rfl) ?_
  refine zi_push M dX6_lengthBy_1 ?_
  refine zi_icmp_ne (tgt := 14) M dX6_lengthBy_2 (by decide) (by omega) ⟨by decide, by decide⟩ (fun c_1 => ?_) (fun c_1 => ?_)
  ·
    refine zi_bipush M dX6_lengthBy_14 ⟨by decide, by decide⟩ ?_
    refine lv_iload_n M.1 M.2.1 dX6_lengthBy_16 rfl (lv_at hl 1 rfl) ?_
    refine zi_isub M dX6_lengthBy_17 ?_
    refine zi_push M dX6_lengthBy_18 ?_
    refine zi_idiv M dX6_lengthBy_19 (by omega) (by omega) (by omega) (by omega) ?_
    exact zr_i M hr hlk (congrArg iI (show (((11 - a) / 2) : Int) = lenZ y a by simp only [lenZ]; split <;> omega)) dX6_lengthBy_20
  ·
    refine zi_bipush M dX6_lengthBy_5 ⟨by decide, by decide⟩ ?_
    refine lv_iload_n M.1 M.2.1 dX6_lengthBy_7 rfl (lv_at hl 1 rfl) ?_
    refine zi_isub M dX6_lengthBy_8 ?_
    refine zi_push M dX6_lengthBy_9 ?_
    refine zi_idiv M dX6_lengthBy_10 (by omega) (by omega) (by omega) (by omega) ?_
    refine zi_goto (tgt := 20) M dX6_lengthBy_11 (by decide) ?_
    exact zr_i M hr hlk (congrArg iI (show (((10 - a) / 4) : Int) = lenZ y a by simp only [lenZ]; split <;> omega)) dX6_lengthBy_20

set_option maxRecDepth 100000 in
set_option maxHeartbeats 4000000 in
theorem c_X6_bends (l : Launch) (D : va_G) (cy : Nat → ClassId) (z0 : Nat) (d : Int) (a : Int) (f : Int) (hd : 0 ≤ d ∧ d ≤ 1000) (ha : 1 ≤ a ∧ a ≤ 9) (hf : 10 ≤ f ∧ f ≤ 300) : Met l yX6_bends [.code yX6_bends cX6_bends 3 (some .boolean)] (zRm 0 0 0 0) (zPc [.int (iI d), .int (iI a), .int (iI f)] D cy z0 (fun _ => True)) (QcRead (iI (if 10 * f ≤ d * (46 - 4 * a) then 1 else 0))) 0 0 (fun _ => False) := by
  refine z_of (by decide) (Nat.le_of_ble_eq_true rfl) ?_
  intro p e s m args below meth c M hr hlk _ hargs hP hE ls hl
  have hS : va_S (fun q => z0 ≤ q) s.heap s.heap [] := va_S.rf
  have hAz : ∀ q : Nat, (fun q => z0 ≤ q) q → z0 ≤ q := fun _ h => h
  have hl : lv_has ls 3 [(0, .int (iI d)), (1, .int (iI a)), (2, .int (iI f))] := hl
  have hm := mulr (d := d) (k := 46 - 4 * a) (D := 1000) (K := 42) (by omega) (by omega) (by omega) (by omega)
  refine zi_bipush M dX6_bends_0 ⟨by decide, by decide⟩ ?_
  refine lv_iload_n M.1 M.2.1 dX6_bends_2 rfl (lv_at hl 2 rfl) ?_
  refine zi_imul M dX6_bends_3 ?_
  refine lv_iload_n M.1 M.2.1 dX6_bends_4 rfl (lv_at hl 0 rfl) ?_
  refine zi_bipush M dX6_bends_5 ⟨by decide, by decide⟩ ?_
  refine zi_push M dX6_bends_7 ?_
  refine lv_iload_n M.1 M.2.1 dX6_bends_8 rfl (lv_at hl 1 rfl) ?_
  refine zi_imul M dX6_bends_9 ?_
  refine zi_isub M dX6_bends_10 ?_
  refine zi_imul M dX6_bends_11 ?_
  refine zi_icmp_gt (tgt := 19) M dX6_bends_12 (by decide) (by omega) (by omega) (fun c_1 => ?_) (fun c_1 => ?_)
  ·
    refine zi_push M dX6_bends_19 ?_
    exact zr_z M hr hlk (v := 0) (show (0 : Int) = if 10 * f ≤ d * (46 - 4 * a) then 1 else 0 by first | exact (if_pos (by omega)).symm | exact (if_neg (by omega)).symm) (Or.inl rfl) dX6_bends_20
  ·
    refine zi_push M dX6_bends_15 ?_
    refine zi_goto (tgt := 20) M dX6_bends_16 (by decide) ?_
    exact zr_z M hr hlk (v := 1) (show (1 : Int) = if 10 * f ≤ d * (46 - 4 * a) then 1 else 0 by first | exact (if_pos (by omega)).symm | exact (if_neg (by omega)).symm) (Or.inr rfl) dX6_bends_20

set_option maxRecDepth 100000 in
set_option maxHeartbeats 4000000 in
theorem c_X6_lightIn (l : Launch) (D : va_G) (cy : Nat → ClassId) (z0 : Nat) (h : Int) (q : Int) (hh : 0 ≤ h ∧ h ≤ 6000) (hq : 0 ≤ q ∧ q < 48) : Met l yX6_lightIn [.code yX6_lightIn cX6_lightIn 3 (some .int)] (zRm 1 0 0 21) (zPc [.int (iI h), .int (iI q)] D cy z0 (fun _ => True)) (QcRead (iI (lightZ h q))) 0 0 (fun _ => False) := by
  refine z_of (by decide) (Nat.le_of_ble_eq_true rfl) ?_
  intro p e s m args below meth c M hr hlk _ hargs hP hE ls hl
  have hS : va_S (fun q => z0 ≤ q) s.heap s.heap [] := va_S.rf
  have hAz : ∀ q : Nat, (fun q => z0 ≤ q) q → z0 ≤ q := fun _ h => h
  have hl : lv_has ls 3 [(0, .int (iI h)), (1, .int (iI q))] := hl
  refine lv_iload_n M.1 M.2.1 dX6_lightIn_0 rfl (lv_at hl 0 rfl) ?_
  refine lv_iload_n M.1 M.2.1 dX6_lightIn_1 rfl (lv_at hl 1 rfl) ?_
  refine zi_push M dX6_lightIn_2 ?_
  refine zi_idiv M dX6_lightIn_3 (by omega) (by omega) (by omega) (by omega) ?_
  refine zi_iadd M dX6_lightIn_4 ?_
  refine zi_bipush M dX6_lightIn_5 ⟨by decide, by decide⟩ ?_
  refine zi_irem M dX6_lightIn_7 (by omega) (by omega) (by omega) (by omega) ?_
  refine lv_istore_n (lv' := [(2, .int (iI ((h + (q / 2)) % 24))), (0, .int (iI h)), (1, .int (iI q))]) M.1 M.2.1 dX6_lightIn_8 rfl hl (by decide) rfl (fun ls hl => ?_)
  refine zi_push M dX6_lightIn_9 ?_
  refine zi_bipush M dX6_lightIn_10 ⟨by decide, by decide⟩ ?_
  refine lv_iload_n M.1 M.2.1 dX6_lightIn_12 rfl (lv_at hl 0 rfl) ?_
  refine zi_bipush M dX6_lightIn_13 ⟨by decide, by decide⟩ ?_
  refine zi_isub M dX6_lightIn_15 ?_
  refine zi_abs M hl.1 zk_ml_RX6_211 (by decide) (Nat.le_of_ble_eq_true rfl) (by decide) (by decide) (by omega) dX6_lightIn_16 ?_
  refine zi_isub M dX6_lightIn_19 ?_
  refine zi_max M hl.1 zk_ml_RX6_226 (by decide) (Nat.le_of_ble_eq_true rfl) (by decide) (by decide) ⟨by decide, by decide⟩ (by omega) dX6_lightIn_20 ?_
  exact zr_i M hr hlk (congrArg iI (show ((max 0 (6 - (max (((h + (q / 2)) % 24) - 12) (-(((h + (q / 2)) % 24) - 12))))) : Int) = lightZ h q by rfl)) dX6_lightIn_23

set_option maxRecDepth 100000 in
set_option maxHeartbeats 4000000 in
theorem c_X6_distance (l : Launch) (D : va_G) (cy : Nat → ClassId) (z0 : Nat) (x : Int) (y : Int) (hx : 0 ≤ x ∧ x < 48) (hy : 0 ≤ y ∧ y < 48) : Met l yX6_distance [.code yX6_distance cX6_distance 3 (some .int)] (zRm 1 0 0 21) (zPc [.int (iI x), .int (iI y)] D cy z0 (fun _ => True)) (QcRead (iI (distZ x y))) 0 0 (fun _ => False) := by
  refine z_of (by decide) (Nat.le_of_ble_eq_true rfl) ?_
  intro p e s m args below meth c M hr hlk _ hargs hP hE ls hl
  have hS : va_S (fun q => z0 ≤ q) s.heap s.heap [] := va_S.rf
  have hAz : ∀ q : Nat, (fun q => z0 ≤ q) q → z0 ≤ q := fun _ h => h
  have hl : lv_has ls 3 [(0, .int (iI x)), (1, .int (iI y))] := hl
  refine lv_iload_n M.1 M.2.1 dX6_distance_0 rfl (lv_at hl 0 rfl) ?_
  refine lv_iload_n M.1 M.2.1 dX6_distance_1 rfl (lv_at hl 1 rfl) ?_
  refine zi_isub M dX6_distance_2 ?_
  refine zi_abs M hl.1 zk_ml_RX6_211 (by decide) (Nat.le_of_ble_eq_true rfl) (by decide) (by decide) (by omega) dX6_distance_3 ?_
  refine lv_istore_n (lv' := [(2, .int (iI (max (x - y) (-(x - y))))), (0, .int (iI x)), (1, .int (iI y))]) M.1 M.2.1 dX6_distance_6 rfl hl (by decide) rfl (fun ls hl => ?_)
  refine lv_iload_n M.1 M.2.1 dX6_distance_7 rfl (lv_at hl 0 rfl) ?_
  refine zi_bipush M dX6_distance_8 ⟨by decide, by decide⟩ ?_
  refine lv_iload_n M.1 M.2.1 dX6_distance_10 rfl (lv_at hl 0 rfl) ?_
  refine zi_isub M dX6_distance_11 ?_
  refine zi_min M hl.1 zk_ml_RX6_223 (by decide) (Nat.le_of_ble_eq_true rfl) (by decide) (by decide) (by omega) (by omega) dX6_distance_12 ?_
  exact zr_i M hr hlk (congrArg iI (show ((min (max (x - y) (-(x - y))) (48 - (max (x - y) (-(x - y))))) : Int) = distZ x y by rfl)) dX6_distance_15

set_option maxRecDepth 100000 in
set_option maxHeartbeats 4000000 in
theorem c_X6_neededFor (l : Launch) (D : va_G) (cy : Nat → ClassId) (z0 : Nat) (md : Int) (hmd : 0 ≤ md ∧ md ≤ 2) : Met l yX6_neededFor [.code yX6_neededFor cX6_neededFor 1 (some .int)] (zRm 0 0 0 0) (zPc [.int (iI md)] D cy z0 (fun _ => True)) (QcRead (iI (neZ md))) 0 0 (fun _ => False) := by
  refine z_of (by decide) (Nat.le_of_ble_eq_true rfl) ?_
  intro p e s m args below meth c M hr hlk _ hargs hP hE ls hl
  have hS : va_S (fun q => z0 ≤ q) s.heap s.heap [] := va_S.rf
  have hAz : ∀ q : Nat, (fun q => z0 ≤ q) q → z0 ≤ q := fun _ h => h
  have hl : lv_has ls 1 [(0, .int (iI md))] := hl
  refine lv_iload_n M.1 M.2.1 dX6_neededFor_0 rfl (lv_at hl 0 rfl) ?_
  rcases (by omega : md = 0 ∨ md = 1 ∨ md = 2) with rfl | rfl | rfl
  ·
    refine lv_lookup (off := 27) (tgt := 28) M.1 M.2.1 dX6_neededFor_1 (by decide) (by decide) (by decide) ?_
    refine zi_bipush M dX6_neededFor_28 ⟨by decide, by decide⟩ ?_
    exact zr_i M hr hlk (congrArg iI (show (10 : Int) = neZ 0 by rfl)) dX6_neededFor_30
  ·
    refine lv_lookup (off := 30) (tgt := 31) M.1 M.2.1 dX6_neededFor_1 (by decide) (by decide) (by decide) ?_
    refine zi_push M dX6_neededFor_31 ?_
    exact zr_i M hr hlk (congrArg iI (show (4 : Int) = neZ 1 by rfl)) dX6_neededFor_32
  ·
    refine lv_lookup (off := 32) (tgt := 33) M.1 M.2.1 dX6_neededFor_1 (by decide) (by decide) (by decide) ?_
    refine zi_bipush M dX6_neededFor_33 ⟨by decide, by decide⟩ ?_
    exact zr_i M hr hlk (congrArg iI (show ((-2) : Int) = neZ 2 by rfl)) dX6_neededFor_35

set_option maxRecDepth 100000 in
set_option maxHeartbeats 4000000 in
theorem c_X6_directionOf (l : Launch) (D : va_G) (cy : Nat → ClassId) (z0 : Nat) (n : Int) (hn : 0 ≤ n ∧ n < 18) : Met l yX6_directionOf [.code yX6_directionOf cX6_directionOf 1 (some .int)] (zRm 0 0 0 0) (zPc [.int (iI n)] D cy z0 (fun _ => True)) (QcRead (iI (drZ n))) 0 0 (fun _ => False) := by
  refine z_of (by decide) (Nat.le_of_ble_eq_true rfl) ?_
  intro p e s m args below meth c M hr hlk _ hargs hP hE ls hl
  have hS : va_S (fun q => z0 ≤ q) s.heap s.heap [] := va_S.rf
  have hAz : ∀ q : Nat, (fun q => z0 ≤ q) q → z0 ≤ q := fun _ h => h
  have hl : lv_has ls 1 [(0, .int (iI n))] := hl
  refine lv_iload_n M.1 M.2.1 dX6_directionOf_0 rfl (lv_at hl 0 rfl) ?_
  refine zi_bipush M dX6_directionOf_1 ⟨by decide, by decide⟩ ?_
  refine zi_icmp_ge (tgt := 10) M dX6_directionOf_3 (by decide) (by omega) ⟨by decide, by decide⟩ (fun c_1 => ?_) (fun c_1 => ?_)
  ·
    refine zi_push M dX6_directionOf_10 ?_
    exact zr_i M hr hlk (congrArg iI (show (1 : Int) = drZ n by (unfold drZ; first | exact (if_pos (by omega)).symm | exact (if_neg (by omega)).symm))) dX6_directionOf_11
  ·
    refine zi_push M dX6_directionOf_6 ?_
    refine zi_goto (tgt := 11) M dX6_directionOf_7 (by decide) ?_
    exact zr_i M hr hlk (congrArg iI (show (0 : Int) = drZ n by (unfold drZ; first | exact (if_pos (by omega)).symm | exact (if_neg (by omega)).symm))) dX6_directionOf_11

set_option maxRecDepth 100000 in
set_option maxHeartbeats 4000000 in
theorem c_X6_angleOf (l : Launch) (D : va_G) (cy : Nat → ClassId) (z0 : Nat) (n : Int) (hn : 0 ≤ n ∧ n < 18) : Met l yX6_angleOf [.code yX6_angleOf cX6_angleOf 1 (some .int)] (zRm 0 0 0 0) (zPc [.int (iI n)] D cy z0 (fun _ => True)) (QcRead (iI (n % 9 + 1))) 0 0 (fun _ => False) := by
  refine z_of (by decide) (Nat.le_of_ble_eq_true rfl) ?_
  intro p e s m args below meth c M hr hlk _ hargs hP hE ls hl
  have hS : va_S (fun q => z0 ≤ q) s.heap s.heap [] := va_S.rf
  have hAz : ∀ q : Nat, (fun q => z0 ≤ q) q → z0 ≤ q := fun _ h => h
  have hl : lv_has ls 1 [(0, .int (iI n))] := hl
  refine lv_iload_n M.1 M.2.1 dX6_angleOf_0 rfl (lv_at hl 0 rfl) ?_
  refine zi_bipush M dX6_angleOf_1 ⟨by decide, by decide⟩ ?_
  refine zi_irem M dX6_angleOf_3 (by omega) (by omega) (by omega) (by omega) ?_
  refine zi_push M dX6_angleOf_4 ?_
  refine zi_iadd M dX6_angleOf_5 ?_
  exact zr_i M hr hlk (congrArg iI (show (((n % 9) + 1) : Int) = n % 9 + 1 by rfl)) dX6_angleOf_6

set_option maxRecDepth 100000 in
set_option maxHeartbeats 4000000 in
theorem c_X5_gain (l : Launch) (D : va_G) (cy : Nat → ClassId) (z0 : Nat) (t : Int) (a : Int) (ht : 0 ≤ t ∧ t ≤ 2) (ha : 1 ≤ a ∧ a ≤ 9) : Met l yX5_gain [.code yX5_gain cX5_gain 2 (some .int)] (zRm 0 0 0 0) (zPc [.int (iI t), .int (iI a)] D cy z0 (fun _ => True)) (QcRead (iI (gainZ t a))) 0 0 (fun _ => False) := by
  refine z_of (by decide) (Nat.le_of_ble_eq_true rfl) ?_
  intro p e s m args below meth c M hr hlk _ hargs hP hE ls hl
  have hS : va_S (fun q => z0 ≤ q) s.heap s.heap [] := va_S.rf
  have hAz : ∀ q : Nat, (fun q => z0 ≤ q) q → z0 ≤ q := fun _ h => h
  have hl : lv_has ls 2 [(0, .int (iI t)), (1, .int (iI a))] := hl
  refine lv_iload_n M.1 M.2.1 dX5_gain_0 rfl (lv_at hl 0 rfl) ?_
  rcases (by omega : t = 0 ∨ t = 1 ∨ t = 2) with rfl | rfl | rfl
  ·
    refine lv_lookup (off := 27) (tgt := 28) M.1 M.2.1 dX5_gain_1 (by decide) (by decide) (by decide) ?_
    refine zi_bipush M dX5_gain_28 ⟨by decide, by decide⟩ ?_
    refine zi_push M dX5_gain_30 ?_
    refine lv_iload_n M.1 M.2.1 dX5_gain_31 rfl (lv_at hl 1 rfl) ?_
    refine zi_imul M dX5_gain_32 ?_
    refine zi_isub M dX5_gain_33 ?_
    exact zr_i M hr hlk (congrArg iI (show ((10 - (2 * a)) : Int) = gainZ 0 a by rfl)) dX5_gain_34
  ·
    refine lv_lookup (off := 34) (tgt := 35) M.1 M.2.1 dX5_gain_1 (by decide) (by decide) (by decide) ?_
    refine zi_push M dX5_gain_35 ?_
    refine lv_iload_n M.1 M.2.1 dX5_gain_36 rfl (lv_at hl 1 rfl) ?_
    refine zi_imul M dX5_gain_37 ?_
    refine zi_bipush M dX5_gain_38 ⟨by decide, by decide⟩ ?_
    refine zi_isub M dX5_gain_40 ?_
    exact zr_i M hr hlk (congrArg iI (show (((2 * a) - 10) : Int) = gainZ 1 a by rfl)) dX5_gain_41
  ·
    refine lv_lookup (off := 41) (tgt := 42) M.1 M.2.1 dX5_gain_1 (by decide) (by decide) (by decide) ?_
    refine zi_push M dX5_gain_42 ?_
    exact zr_i M hr hlk (congrArg iI (show (0 : Int) = gainZ 2 a by rfl)) dX5_gain_43

set_option maxRecDepth 100000 in
set_option maxHeartbeats 4000000 in
theorem c_X5_aside (l : Launch) (D : va_G) (cy : Nat → ClassId) (z0 : Nat) (hd : Int) (r : Int) (hhd : 0 ≤ hd ∧ hd ≤ 2) (hdr : 0 ≤ r ∧ r ≤ 1) : Met l yX5_aside [.code yX5_aside cX5_aside 2 (some .int)] (zRm 0 0 0 0) (zPc [.int (iI hd), .int (iI r)] D cy z0 (fun _ => True)) (QcRead (iI (asideZ hd r))) 0 0 (fun _ => False) := by
  refine z_of (by decide) (Nat.le_of_ble_eq_true rfl) ?_
  intro p e s m args below meth c M hr hlk _ hargs hP hE ls hl
  have hS : va_S (fun q => z0 ≤ q) s.heap s.heap [] := va_S.rf
  have hAz : ∀ q : Nat, (fun q => z0 ≤ q) q → z0 ≤ q := fun _ h => h
  have hl : lv_has ls 2 [(0, .int (iI hd)), (1, .int (iI r))] := hl
  refine lv_iload_n M.1 M.2.1 dX5_aside_0 rfl (lv_at hl 0 rfl) ?_
  refine zi_push M dX5_aside_1 ?_
  refine zi_icmp_ne (tgt := 7) M dX5_aside_2 (by decide) (by omega) ⟨by decide, by decide⟩ (fun c_1 => ?_) (fun c_1 => ?_)
  ·
    refine lv_iload_n M.1 M.2.1 dX5_aside_7 rfl (lv_at hl 0 rfl) ?_
    refine lv_iload_n M.1 M.2.1 dX5_aside_8 rfl (lv_at hl 1 rfl) ?_
    refine zi_icmp_ne (tgt := 16) M dX5_aside_9 (by decide) (by omega) (by omega) (fun c_2 => ?_) (fun c_2 => ?_)
    ·
      refine zi_bipush M dX5_aside_16 ⟨by decide, by decide⟩ ?_
      exact zr_i M hr hlk (congrArg iI (show (20 : Int) = asideZ hd r by simp only [asideZ]; split <;> (try split) <;> omega)) dX5_aside_18
    ·
      refine zi_push M dX5_aside_12 ?_
      refine zi_goto (tgt := 18) M dX5_aside_13 (by decide) ?_
      exact zr_i M hr hlk (congrArg iI (show (0 : Int) = asideZ hd r by simp only [asideZ]; split <;> (try split) <;> omega)) dX5_aside_18
  ·
    refine zi_push M dX5_aside_5 ?_
    exact zr_i M hr hlk (congrArg iI (show (3 : Int) = asideZ hd r by simp only [asideZ]; split <;> (try split) <;> omega)) dX5_aside_6

set_option maxRecDepth 100000 in
set_option maxHeartbeats 4000000 in
theorem c_X6_walked (l : Launch) (D : va_G) (cy : Nat → ClassId) (z0 : Nat) (q : Int) (ea : Int) (k : Int) (hq : 0 ≤ q ∧ q < 48) (he : ea = 0 ∨ ea = 1) (hk : 0 ≤ k ∧ k ≤ 48) : Met l yX6_walked [.code yX6_walked cX6_walked 5 (some .int)] (zRm 0 0 0 0) (zPc [.int (iI q), .int (iI ea), .int (iI k)] D cy z0 (fun _ => True)) (QcRead (iI (mvZ ea q k))) 0 0 (fun _ => False) := by
  refine z_of (by decide) (Nat.le_of_ble_eq_true rfl) ?_
  intro p e s m args below meth c M hr hlk _ hargs hP hE ls hl
  have hS : va_S (fun q => z0 ≤ q) s.heap s.heap [] := va_S.rf
  have hAz : ∀ q : Nat, (fun q => z0 ≤ q) q → z0 ≤ q := fun _ h => h
  have hl : lv_has ls 5 [(0, .int (iI q)), (1, .int (iI ea)), (2, .int (iI k))] := hl
  refine lv_iload_n M.1 M.2.1 dX6_walked_0 rfl (lv_at hl 0 rfl) ?_
  refine lv_istore_n (lv' := [(3, .int (iI q)), (0, .int (iI q)), (1, .int (iI ea)), (2, .int (iI k))]) M.1 M.2.1 dX6_walked_1 rfl hl (by decide) rfl (fun ls hl => ?_)
  refine zi_push M dX6_walked_2 ?_
  refine lv_istore (lv' := [(4, .int (iI 0)), (3, .int (iI q)), (0, .int (iI q)), (1, .int (iI ea)), (2, .int (iI k))]) M.1 M.2.1 dX6_walked_3 hl (by decide) rfl (fun ls hl => ?_)
  have L_5 : ∀ (k_5 : Nat) (at_ : Int) (i : Int) (hi : 0 ≤ i ∧ i ≤ k) (hat : at_ = mvZ ea q i) (hm : k - i < (k_5 : Int)) (ls : Array Slot) (hl : lv_has ls 5 [(0, .int (iI q)), (1, .int (iI ea)), (2, .int (iI k)), (3, .int (iI at_)), (4, .int (iI i))]), W p l e (zRm 0 0 0 0) s m args below meth c s.heap [] 0 0 (MQ below (QcRead (iI (mvZ ea q k))) args s 0 0 (fun _ => False)) (F0 m 5 ls []) := by
    intro k_5
    induction k_5 with
    | zero =>
      intro at_ i hi hat hm ls hl
      exact absurd hm (by omega)
    | succ k_5 ih_5 =>
      intro at_ i hi hat hm ls hl
      have hx := mvZ_rg ea q i
      rw [← hat] at hx
      refine lv_iload M.1 M.2.1 dX6_walked_5 (lv_at hl 4 rfl) ?_
      refine lv_iload_n M.1 M.2.1 dX6_walked_7 rfl (lv_at hl 2 rfl) ?_
      refine zi_icmp_ge (tgt := 51) M dX6_walked_8 (by decide) (by omega) (by omega) (fun c_1 => ?_) (fun c_1 => ?_)
      ·
        refine lv_iload_n M.1 M.2.1 dX6_walked_51 rfl (lv_at hl 3 rfl) ?_
        exact zr_i M hr hlk (congrArg iI (show (at_ : Int) = mvZ ea q k by (have h9 : i = k := (by omega); rw [hat, h9]))) dX6_walked_52
      ·
        refine lv_iload_n M.1 M.2.1 dX6_walked_11 rfl (lv_at hl 1 rfl) ?_
        refine zi_if_eq (tgt := 32) M dX6_walked_12 (by decide) (by omega) (fun c_2 => ?_) (fun c_2 => ?_)
        ·
          refine lv_iload_n M.1 M.2.1 dX6_walked_32 rfl (lv_at hl 3 rfl) ?_
          refine zi_if_gt (tgt := 41) M dX6_walked_33 (by decide) (by omega) (fun c_3 => ?_) (fun c_3 => ?_)
          ·
            refine lv_iload_n M.1 M.2.1 dX6_walked_41 rfl (lv_at hl 3 rfl) ?_
            refine zi_push M dX6_walked_42 ?_
            refine zi_isub M dX6_walked_43 ?_
            refine lv_istore_n (lv' := [(3, .int (iI (at_ - 1))), (0, .int (iI q)), (1, .int (iI ea)), (2, .int (iI k)), (4, .int (iI i))]) M.1 M.2.1 dX6_walked_44 rfl hl (by decide) rfl (fun ls hl => ?_)
            refine zi_iinc (lv' := [(4, .int (iI (i + 1))), (3, .int (iI (at_ - 1))), (0, .int (iI q)), (1, .int (iI ea)), (2, .int (iI k))]) M dX6_walked_45 hl 4 rfl (by decide) rfl (fun ls hl => ?_)
            refine zi_goto (tgt := 5) M dX6_walked_48 (by decide) ?_
            exact ih_5 (at_ - 1) (i + 1) (by omega) (by rcases he with rfl | rfl <;> simp only [mvZ] at hat ⊢ <;> simp at hat ⊢ <;> omega) (by omega) ls (lv_sub hl [2, 3, 4, 1, 0] rfl)
          ·
            refine zi_bipush M dX6_walked_36 ⟨by decide, by decide⟩ ?_
            refine zi_goto (tgt := 44) M dX6_walked_38 (by decide) ?_
            refine lv_istore_n (lv' := [(3, .int (iI 47)), (0, .int (iI q)), (1, .int (iI ea)), (2, .int (iI k)), (4, .int (iI i))]) M.1 M.2.1 dX6_walked_44 rfl hl (by decide) rfl (fun ls hl => ?_)
            refine zi_iinc (lv' := [(4, .int (iI (i + 1))), (3, .int (iI 47)), (0, .int (iI q)), (1, .int (iI ea)), (2, .int (iI k))]) M dX6_walked_45 hl 4 rfl (by decide) rfl (fun ls hl => ?_)
            refine zi_goto (tgt := 5) M dX6_walked_48 (by decide) ?_
            exact ih_5 47 (i + 1) (by omega) (by rcases he with rfl | rfl <;> simp only [mvZ] at hat ⊢ <;> simp at hat ⊢ <;> omega) (by omega) ls (lv_sub hl [2, 3, 4, 1, 0] rfl)
        ·
          refine lv_iload_n M.1 M.2.1 dX6_walked_15 rfl (lv_at hl 3 rfl) ?_
          refine zi_bipush M dX6_walked_16 ⟨by decide, by decide⟩ ?_
          refine zi_icmp_lt (tgt := 25) M dX6_walked_18 (by decide) (by omega) ⟨by decide, by decide⟩ (fun c_4 => ?_) (fun c_4 => ?_)
          ·
            refine lv_iload_n M.1 M.2.1 dX6_walked_25 rfl (lv_at hl 3 rfl) ?_
            refine zi_push M dX6_walked_26 ?_
            refine zi_iadd M dX6_walked_27 ?_
            refine lv_istore_n (lv' := [(3, .int (iI (at_ + 1))), (0, .int (iI q)), (1, .int (iI ea)), (2, .int (iI k)), (4, .int (iI i))]) M.1 M.2.1 dX6_walked_28 rfl hl (by decide) rfl (fun ls hl => ?_)
            refine zi_goto (tgt := 45) M dX6_walked_29 (by decide) ?_
            refine zi_iinc (lv' := [(4, .int (iI (i + 1))), (3, .int (iI (at_ + 1))), (0, .int (iI q)), (1, .int (iI ea)), (2, .int (iI k))]) M dX6_walked_45 hl 4 rfl (by decide) rfl (fun ls hl => ?_)
            refine zi_goto (tgt := 5) M dX6_walked_48 (by decide) ?_
            exact ih_5 (at_ + 1) (i + 1) (by omega) (by rcases he with rfl | rfl <;> simp only [mvZ] at hat ⊢ <;> simp at hat ⊢ <;> omega) (by omega) ls (lv_sub hl [2, 3, 4, 1, 0] rfl)
          ·
            refine zi_push M dX6_walked_21 ?_
            refine zi_goto (tgt := 28) M dX6_walked_22 (by decide) ?_
            refine lv_istore_n (lv' := [(3, .int (iI 0)), (0, .int (iI q)), (1, .int (iI ea)), (2, .int (iI k)), (4, .int (iI i))]) M.1 M.2.1 dX6_walked_28 rfl hl (by decide) rfl (fun ls hl => ?_)
            refine zi_goto (tgt := 45) M dX6_walked_29 (by decide) ?_
            refine zi_iinc (lv' := [(4, .int (iI (i + 1))), (3, .int (iI 0)), (0, .int (iI q)), (1, .int (iI ea)), (2, .int (iI k))]) M dX6_walked_45 hl 4 rfl (by decide) rfl (fun ls hl => ?_)
            refine zi_goto (tgt := 5) M dX6_walked_48 (by decide) ?_
            exact ih_5 0 (i + 1) (by omega) (by rcases he with rfl | rfl <;> simp only [mvZ] at hat ⊢ <;> simp at hat ⊢ <;> omega) (by omega) ls (lv_sub hl [2, 3, 4, 1, 0] rfl)
  exact L_5 (Int.toNat (k - 0) + 1) q 0 (by omega) (by unfold mvZ; split <;> omega) (by omega) ls (lv_sub hl [2, 3, 4, 1, 0] rfl)
