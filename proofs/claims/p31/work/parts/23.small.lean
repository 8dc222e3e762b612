/-! contracts of the small classes -/
set_option maxRecDepth 100000 in
set_option maxHeartbeats 4000000 in
theorem c_X1_isFull (l : Launch) (D : va_G) (cy : Nat → ClassId) (z0 : Nat) (ad : Nat → Nat) (b : Nat) (cm : Int) (c1 c2 c3 c4 c5 : Int → Int) (hcm : 0 ≤ cm ∧ cm ≤ 60) : Met l yX1_isFull [.code yX1_isFull cX1_isFull 1 (some .boolean)] (zRm 0 0 0 0) (zPc [.ref (ad b)] D cy z0 (fun H => va_P D vwCl (conW ad b cy cm c1 c2 c3 c4 c5) H)) (QcRead (iI (if 60 ≤ cm then 1 else 0))) 0 0 (fun _ => False) := by
  refine z_of (by decide) (Nat.le_of_ble_eq_true rfl) ?_
  intro p e s m args below meth c M hr hlk _ hargs hP hE ls hl
  have hS : va_S (fun q => z0 ≤ q) s.heap s.heap [] := va_S.rf
  have hAz : ∀ q : Nat, (fun q => z0 ≤ q) q → z0 ≤ q := fun _ h => h
  have hl : lv_has ls 1 [(0, .ref (ad b))] := hl
  refine lv_aload_n M.1 M.2.1 dX1_isFull_0 rfl (lv_at hl 0 rfl) ?_
  refine zi_get (ci := 1) (v := .int (iI cm)) M hE hP 0 rfl rfl zu_X1 5 (by decide) zk_fl_RX1_27 rfl rfl dX1_isFull_1 ?_
  refine zi_bipush M dX1_isFull_4 ⟨by decide, by decide⟩ ?_
  refine zi_icmp_lt (tgt := 13) M dX1_isFull_6 (by decide) (by omega) ⟨by decide, by decide⟩ (fun c_1 => ?_) (fun c_1 => ?_)
  ·
    refine zi_push M dX1_isFull_13 ?_
    exact zr_z M hr hlk (v := 0) (show (0 : Int) = if 60 ≤ cm then 1 else 0 by first | exact (if_pos (by omega)).symm | exact (if_neg (by omega)).symm) (Or.inl rfl) dX1_isFull_14
  ·
    refine zi_push M dX1_isFull_9 ?_
    refine zi_goto (tgt := 14) M dX1_isFull_10 (by decide) ?_
    exact zr_z M hr hlk (v := 1) (show (1 : Int) = if 60 ≤ cm then 1 else 0 by first | exact (if_pos (by omega)).symm | exact (if_neg (by omega)).symm) (Or.inr rfl) dX1_isFull_14

set_option maxRecDepth 100000 in
set_option maxHeartbeats 4000000 in
theorem c_X2_isFull (l : Launch) (D : va_G) (cy : Nat → ClassId) (z0 : Nat) (ad : Nat → Nat) (b : Nat) (em ep : Int) (e1 e2 e3 e4 e5 : Int → Int) (hcm : 0 ≤ em ∧ em ≤ 80) : Met l yX2_isFull [.code yX2_isFull cX2_isFull 1 (some .boolean)] (zRm 0 0 0 0) (zPc [.ref (ad b)] D cy z0 (fun H => va_P D vwCl (entW ad b cy em ep e1 e2 e3 e4 e5) H)) (QcRead (iI (if 80 ≤ em then 1 else 0))) 0 0 (fun _ => False) := by
  refine z_of (by decide) (Nat.le_of_ble_eq_true rfl) ?_
  intro p e s m args below meth c M hr hlk _ hargs hP hE ls hl
  have hS : va_S (fun q => z0 ≤ q) s.heap s.heap [] := va_S.rf
  have hAz : ∀ q : Nat, (fun q => z0 ≤ q) q → z0 ≤ q := fun _ h => h
  have hl : lv_has ls 1 [(0, .ref (ad b))] := hl
  refine lv_aload_n M.1 M.2.1 dX2_isFull_0 rfl (lv_at hl 0 rfl) ?_
  refine zi_get (ci := 2) (v := .int (iI em)) M hE hP 0 rfl rfl zu_X2 5 (by decide) zk_fl_RX2_27 rfl rfl dX2_isFull_1 ?_
  refine zi_bipush M dX2_isFull_4 ⟨by decide, by decide⟩ ?_
  refine zi_icmp_lt (tgt := 13) M dX2_isFull_6 (by decide) (by omega) ⟨by decide, by decide⟩ (fun c_1 => ?_) (fun c_1 => ?_)
  ·
    refine zi_push M dX2_isFull_13 ?_
    exact zr_z M hr hlk (v := 0) (show (0 : Int) = if 80 ≤ em then 1 else 0 by first | exact (if_pos (by omega)).symm | exact (if_neg (by omega)).symm) (Or.inl rfl) dX2_isFull_14
  ·
    refine zi_push M dX2_isFull_9 ?_
    refine zi_goto (tgt := 14) M dX2_isFull_10 (by decide) ?_
    exact zr_z M hr hlk (v := 1) (show (1 : Int) = if 80 ≤ em then 1 else 0 by first | exact (if_pos (by omega)).symm | exact (if_neg (by omega)).symm) (Or.inr rfl) dX2_isFull_14

set_option maxRecDepth 100000 in
set_option maxHeartbeats 4000000 in
theorem c_X1_has (l : Launch) (D : va_G) (cy : Nat → ClassId) (z0 : Nat) (ad : Nat → Nat) (b : Nat) (cm : Int) (c1 c2 c3 c4 c5 : Int → Int) (k : Int) (hcm : 0 ≤ cm ∧ cm ≤ 60) (hk : r32 k) : Met l yX1_has [.code yX1_has cX1_has 2 (some .boolean)] (zRm 0 0 0 0) (zPc [.ref (ad b), .int (iI k)] D cy z0 (fun H => va_P D vwCl (conW ad b cy cm c1 c2 c3 c4 c5) H)) (QcRead (iI (if 0 ≤ k ∧ k < cm then 1 else 0))) 0 0 (fun _ => False) := by
  refine z_of (by decide) (Nat.le_of_ble_eq_true rfl) ?_
  intro p e s m args below meth c M hr hlk _ hargs hP hE ls hl
  have hS : va_S (fun q => z0 ≤ q) s.heap s.heap [] := va_S.rf
  have hAz : ∀ q : Nat, (fun q => z0 ≤ q) q → z0 ≤ q := fun _ h => h
  have hl : lv_has ls 2 [(0, .ref (ad b)), (1, .int (iI k))] := hl
  refine lv_iload_n M.1 M.2.1 dX1_has_0 rfl (lv_at hl 1 rfl) ?_
  refine zi_if_lt (tgt := 16) M dX1_has_1 (by decide) (by omega) (fun c_1 => ?_) (fun c_1 => ?_)
  ·
    refine zi_push M dX1_has_16 ?_
    exact zr_z M hr hlk (v := 0) (show (0 : Int) = if 0 ≤ k ∧ k < cm then 1 else 0 by first | exact (if_pos (by omega)).symm | exact (if_neg (by omega)).symm) (Or.inl rfl) dX1_has_17
  ·
    refine lv_iload_n M.1 M.2.1 dX1_has_4 rfl (lv_at hl 1 rfl) ?_
    refine lv_aload_n M.1 M.2.1 dX1_has_5 rfl (lv_at hl 0 rfl) ?_
    refine zi_get (ci := 1) (v := .int (iI cm)) M hE hP 0 rfl rfl zu_X1 5 (by decide) zk_fl_RX1_27 rfl rfl dX1_has_6 ?_
    refine zi_icmp_ge (tgt := 16) M dX1_has_9 (by decide) (by omega) (by omega) (fun c_2 => ?_) (fun c_2 => ?_)
    ·
      refine zi_push M dX1_has_16 ?_
      exact zr_z M hr hlk (v := 0) (show (0 : Int) = if 0 ≤ k ∧ k < cm then 1 else 0 by first | exact (if_pos (by omega)).symm | exact (if_neg (by omega)).symm) (Or.inl rfl) dX1_has_17
    ·
      refine zi_push M dX1_has_12 ?_
      refine zi_goto (tgt := 17) M dX1_has_13 (by decide) ?_
      exact zr_z M hr hlk (v := 1) (show (1 : Int) = if 0 ≤ k ∧ k < cm then 1 else 0 by first | exact (if_pos (by omega)).symm | exact (if_neg (by omega)).symm) (Or.inr rfl) dX1_has_17

set_option maxRecDepth 100000 in
set_option maxHeartbeats 4000000 in
theorem c_X2_has (l : Launch) (D : va_G) (cy : Nat → ClassId) (z0 : Nat) (ad : Nat → Nat) (b : Nat) (em ep : Int) (e1 e2 e3 e4 e5 : Int → Int) (k : Int) (hcm : 0 ≤ em ∧ em ≤ 80) (hk : r32 k) : Met l yX2_has [.code yX2_has cX2_has 2 (some .boolean)] (zRm 0 0 0 0) (zPc [.ref (ad b), .int (iI k)] D cy z0 (fun H => va_P D vwCl (entW ad b cy em ep e1 e2 e3 e4 e5) H)) (QcRead (iI (if 0 ≤ k ∧ k < em then 1 else 0))) 0 0 (fun _ => False) := by
  refine z_of (by decide) (Nat.le_of_ble_eq_true rfl) ?_
  intro p e s m args below meth c M hr hlk _ hargs hP hE ls hl
  have hS : va_S (fun q => z0 ≤ q) s.heap s.heap [] := va_S.rf
  have hAz : ∀ q : Nat, (fun q => z0 ≤ q) q → z0 ≤ q := fun _ h => h
  have hl : lv_has ls 2 [(0, .ref (ad b)), (1, .int (iI k))] := hl
  refine lv_iload_n M.1 M.2.1 dX2_has_0 rfl (lv_at hl 1 rfl) ?_
  refine zi_if_lt (tgt := 16) M dX2_has_1 (by decide) (by omega) (fun c_1 => ?_) (fun c_1 => ?_)
  ·
    refine zi_push M dX2_has_16 ?_
    exact zr_z M hr hlk (v := 0) (show (0 : Int) = if 0 ≤ k ∧ k < em then 1 else 0 by first | exact (if_pos (by omega)).symm | exact (if_neg (by omega)).symm) (Or.inl rfl) dX2_has_17
  ·
    refine lv_iload_n M.1 M.2.1 dX2_has_4 rfl (lv_at hl 1 rfl) ?_
    refine lv_aload_n M.1 M.2.1 dX2_has_5 rfl (lv_at hl 0 rfl) ?_
    refine zi_get (ci := 2) (v := .int (iI em)) M hE hP 0 rfl rfl zu_X2 5 (by decide) zk_fl_RX2_27 rfl rfl dX2_has_6 ?_
    refine zi_icmp_ge (tgt := 16) M dX2_has_9 (by decide) (by omega) (by omega) (fun c_2 => ?_) (fun c_2 => ?_)
    ·
      refine zi_push M dX2_has_16 ?_
      exact zr_z M hr hlk (v := 0) (show (0 : Int) = if 0 ≤ k ∧ k < em then 1 else 0 by first | exact (if_pos (by omega)).symm | exact (if_neg (by omega)).symm) (Or.inl rfl) dX2_has_17
    ·
      refine zi_push M dX2_has_12 ?_
      refine zi_goto (tgt := 17) M dX2_has_13 (by decide) ?_
      exact zr_z M hr hlk (v := 1) (show (1 : Int) = if 0 ≤ k ∧ k < em then 1 else 0 by first | exact (if_pos (by omega)).symm | exact (if_neg (by omega)).symm) (Or.inr rfl) dX2_has_17

set_option maxRecDepth 100000 in
set_option maxHeartbeats 4000000 in
theorem c_X5_has (l : Launch) (D : va_G) (cy : Nat → ClassId) (z0 : Nat) (ad : Nat → Nat) (b : Nat) (n : Nat) (sm : Int) (pl pw an hd fq : Int → Int) (k : Int) (hcm : 0 ≤ sm ∧ sm ≤ 12) (hk : r32 k) : Met l yX5_has [.code yX5_has cX5_has 2 (some .boolean)] (zRm 0 0 0 0) (zPc [.ref (ad b), .int (iI k)] D cy z0 (fun H => va_P D vwCl (sndW ad b cy n sm pl pw an hd fq) H)) (QcRead (iI (if 0 ≤ k ∧ k < sm then 1 else 0))) 0 0 (fun _ => False) := by
  refine z_of (by decide) (Nat.le_of_ble_eq_true rfl) ?_
  intro p e s m args below meth c M hr hlk _ hargs hP hE ls hl
  have hS : va_S (fun q => z0 ≤ q) s.heap s.heap [] := va_S.rf
  have hAz : ∀ q : Nat, (fun q => z0 ≤ q) q → z0 ≤ q := fun _ h => h
  have hl : lv_has ls 2 [(0, .ref (ad b)), (1, .int (iI k))] := hl
  refine lv_iload_n M.1 M.2.1 dX5_has_0 rfl (lv_at hl 1 rfl) ?_
  refine zi_if_lt (tgt := 16) M dX5_has_1 (by decide) (by omega) (fun c_1 => ?_) (fun c_1 => ?_)
  ·
    refine zi_push M dX5_has_16 ?_
    exact zr_z M hr hlk (v := 0) (show (0 : Int) = if 0 ≤ k ∧ k < sm then 1 else 0 by first | exact (if_pos (by omega)).symm | exact (if_neg (by omega)).symm) (Or.inl rfl) dX5_has_17
  ·
    refine lv_iload_n M.1 M.2.1 dX5_has_4 rfl (lv_at hl 1 rfl) ?_
    refine lv_aload_n M.1 M.2.1 dX5_has_5 rfl (lv_at hl 0 rfl) ?_
    refine zi_get (ci := 5) (v := .int (iI sm)) M hE hP 0 rfl rfl zu_X5 5 (by decide) zk_fl_RX5_27 rfl rfl dX5_has_6 ?_
    refine zi_icmp_ge (tgt := 16) M dX5_has_9 (by decide) (by omega) (by omega) (fun c_2 => ?_) (fun c_2 => ?_)
    ·
      refine zi_push M dX5_has_16 ?_
      exact zr_z M hr hlk (v := 0) (show (0 : Int) = if 0 ≤ k ∧ k < sm then 1 else 0 by first | exact (if_pos (by omega)).symm | exact (if_neg (by omega)).symm) (Or.inl rfl) dX5_has_17
    ·
      refine zi_push M dX5_has_12 ?_
      refine zi_goto (tgt := 17) M dX5_has_13 (by decide) ?_
      exact zr_z M hr hlk (v := 1) (show (1 : Int) = if 0 ≤ k ∧ k < sm then 1 else 0 by first | exact (if_pos (by omega)).symm | exact (if_neg (by omega)).symm) (Or.inr rfl) dX5_has_17

set_option maxRecDepth 100000 in
set_option maxHeartbeats 4000000 in
theorem c_X5_isFull (l : Launch) (D : va_G) (cy : Nat → ClassId) (z0 : Nat) (ad : Nat → Nat) (b : Nat) (n : Nat) (sm : Int) (pl pw an hd fq : Int → Int) (hcm : 0 ≤ sm ∧ sm ≤ 12) (hnn : n ≤ 12) : Met l yX5_isFull [.code yX5_isFull cX5_isFull 1 (some .boolean)] (zRm 0 0 0 0) (zPc [.ref (ad b)] D cy z0 (fun H => va_P D vwCl (sndW ad b cy n sm pl pw an hd fq) H)) (QcRead (iI (if (n : Int) ≤ sm then 1 else 0))) 0 0 (fun _ => False) := by
  refine z_of (by decide) (Nat.le_of_ble_eq_true rfl) ?_
  intro p e s m args below meth c M hr hlk _ hargs hP hE ls hl
  have hS : va_S (fun q => z0 ≤ q) s.heap s.heap [] := va_S.rf
  have hAz : ∀ q : Nat, (fun q => z0 ≤ q) q → z0 ≤ q := fun _ h => h
  have hl : lv_has ls 1 [(0, .ref (ad b))] := hl
  refine lv_aload_n M.1 M.2.1 dX5_isFull_0 rfl (lv_at hl 0 rfl) ?_
  refine zi_get (ci := 5) (v := .int (iI sm)) M hE hP 0 rfl rfl zu_X5 5 (by decide) zk_fl_RX5_27 rfl rfl dX5_isFull_1 ?_
  refine lv_aload_n M.1 M.2.1 dX5_isFull_4 rfl (lv_at hl 0 rfl) ?_
  refine zi_get (ci := 5) (v := .ref (ad (b + 1))) M hE hP 0 rfl rfl zu_X5 0 (by decide) zk_fl_RX5_9 rfl rfl dX5_isFull_5 ?_
  refine zi_alen M hE hP 1 0 (n := n) (g := pl) rfl rfl dX5_isFull_8 ?_
  refine zi_icmp_lt (tgt := 16) M dX5_isFull_9 (by decide) (by omega) (by omega) (fun c_1 => ?_) (fun c_1 => ?_)
  ·
    refine zi_push M dX5_isFull_16 ?_
    exact zr_z M hr hlk (v := 0) (show (0 : Int) = if (n : Int) ≤ sm then 1 else 0 by first | exact (if_pos (by omega)).symm | exact (if_neg (by omega)).symm) (Or.inl rfl) dX5_isFull_17
  ·
    refine zi_push M dX5_isFull_12 ?_
    refine zi_goto (tgt := 17) M dX5_isFull_13 (by decide) ?_
    exact zr_z M hr hlk (v := 1) (show (1 : Int) = if (n : Int) ≤ sm then 1 else 0 by first | exact (if_pos (by omega)).symm | exact (if_neg (by omega)).symm) (Or.inr rfl) dX5_isFull_17

set_option maxRecDepth 100000 in
set_option maxHeartbeats 4000000 in
theorem c_X1_isOf (l : Launch) (D : va_G) (cy : Nat → ClassId) (z0 : Nat) (ad : Nat → Nat) (b : Nat) (cm : Int) (c1 c2 c3 c4 c5 : Int → Int) (k : Int) (x : Int) (y : Int) (g_c1 : zrg 60 0 11 c1) (g_c2 : zrg 60 0 11 c2) (hk : 0 ≤ k ∧ k < 60) (hx : 0 ≤ x ∧ x ≤ 11) (hy : 0 ≤ y ∧ y ≤ 11) : Met l yX1_isOf [.code yX1_isOf cX1_isOf 4 (some .boolean)] (zRm 0 0 0 0) (zPc [.ref (ad b), .int (iI k), .int (iI x), .int (iI y)] D cy z0 (fun H => va_P D vwCl (conW ad b cy cm c1 c2 c3 c4 c5) H)) (QcRead (iI (if (c1 k = x ∧ c2 k = y) ∨ (c1 k = y ∧ c2 k = x) then 1 else 0))) 0 0 (fun _ => False) := by
  refine z_of (by decide) (Nat.le_of_ble_eq_true rfl) ?_
  intro p e s m args below meth c M hr hlk _ hargs hP hE ls hl
  have hS : va_S (fun q => z0 ≤ q) s.heap s.heap [] := va_S.rf
  have hAz : ∀ q : Nat, (fun q => z0 ≤ q) q → z0 ≤ q := fun _ h => h
  have hl : lv_has ls 4 [(0, .ref (ad b)), (1, .int (iI k)), (2, .int (iI x)), (3, .int (iI y))] := hl
  refine lv_aload_n M.1 M.2.1 dX1_isOf_0 rfl (lv_at hl 0 rfl) ?_
  refine zi_get (ci := 1) (v := .ref (ad (b + 1))) M hE hP 0 rfl rfl zu_X1 0 (by decide) zk_fl_RX1_9 rfl rfl dX1_isOf_1 ?_
  refine lv_iload_n M.1 M.2.1 dX1_isOf_4 rfl (lv_at hl 1 rfl) ?_
  refine zi_iald M hE hP 1 (n := 60) (g := c1) rfl (Nat.le_of_ble_eq_true rfl) (by omega) (by omega) dX1_isOf_5 ?_
  have hr_1 := g_c1 k (by omega) (by omega)
  refine lv_iload_n M.1 M.2.1 dX1_isOf_6 rfl (lv_at hl 2 rfl) ?_
  refine zi_icmp_ne (tgt := 20) M dX1_isOf_7 (by decide) (by omega) (by omega) (fun c_2 => ?_) (fun c_2 => ?_)
  ·
    refine lv_aload_n M.1 M.2.1 dX1_isOf_20 rfl (lv_at hl 0 rfl) ?_
    refine zi_get (ci := 1) (v := .ref (ad (b + 1))) M hE hP 0 rfl rfl zu_X1 0 (by decide) zk_fl_RX1_9 rfl rfl dX1_isOf_21 ?_
    refine lv_iload_n M.1 M.2.1 dX1_isOf_24 rfl (lv_at hl 1 rfl) ?_
    refine zi_iald M hE hP 1 (n := 60) (g := c1) rfl (Nat.le_of_ble_eq_true rfl) (by omega) (by omega) dX1_isOf_25 ?_
    have hr_3 := g_c1 k (by omega) (by omega)
    refine lv_iload_n M.1 M.2.1 dX1_isOf_26 rfl (lv_at hl 3 rfl) ?_
    refine zi_icmp_ne (tgt := 44) M dX1_isOf_27 (by decide) (by omega) (by omega) (fun c_4 => ?_) (fun c_4 => ?_)
    ·
      refine zi_push M dX1_isOf_44 ?_
      exact zr_z M hr hlk (v := 0) (show (0 : Int) = if (c1 k = x ∧ c2 k = y) ∨ (c1 k = y ∧ c2 k = x) then 1 else 0 by first | exact (if_pos (by omega)).symm | exact (if_neg (by omega)).symm) (Or.inl rfl) dX1_isOf_45
    ·
      refine lv_aload_n M.1 M.2.1 dX1_isOf_30 rfl (lv_at hl 0 rfl) ?_
      refine zi_get (ci := 1) (v := .ref (ad (b + 2))) M hE hP 0 rfl rfl zu_X1 1 (by decide) zk_fl_RX1_15 rfl rfl dX1_isOf_31 ?_
      refine lv_iload_n M.1 M.2.1 dX1_isOf_34 rfl (lv_at hl 1 rfl) ?_
      refine zi_iald M hE hP 2 (n := 60) (g := c2) rfl (Nat.le_of_ble_eq_true rfl) (by omega) (by omega) dX1_isOf_35 ?_
      have hr_5 := g_c2 k (by omega) (by omega)
      refine lv_iload_n M.1 M.2.1 dX1_isOf_36 rfl (lv_at hl 2 rfl) ?_
      refine zi_icmp_ne (tgt := 44) M dX1_isOf_37 (by decide) (by omega) (by omega) (fun c_6 => ?_) (fun c_6 => ?_)
      ·
        refine zi_push M dX1_isOf_44 ?_
        exact zr_z M hr hlk (v := 0) (show (0 : Int) = if (c1 k = x ∧ c2 k = y) ∨ (c1 k = y ∧ c2 k = x) then 1 else 0 by first | exact (if_pos (by omega)).symm | exact (if_neg (by omega)).symm) (Or.inl rfl) dX1_isOf_45
      ·
        refine zi_push M dX1_isOf_40 ?_
        refine zi_goto (tgt := 45) M dX1_isOf_41 (by decide) ?_
        exact zr_z M hr hlk (v := 1) (show (1 : Int) = if (c1 k = x ∧ c2 k = y) ∨ (c1 k = y ∧ c2 k = x) then 1 else 0 by first | exact (if_pos (by omega)).symm | exact (if_neg (by omega)).symm) (Or.inr rfl) dX1_isOf_45
  ·
    refine lv_aload_n M.1 M.2.1 dX1_isOf_10 rfl (lv_at hl 0 rfl) ?_
    refine zi_get (ci := 1) (v := .ref (ad (b + 2))) M hE hP 0 rfl rfl zu_X1 1 (by decide) zk_fl_RX1_15 rfl rfl dX1_isOf_11 ?_
    refine lv_iload_n M.1 M.2.1 dX1_isOf_14 rfl (lv_at hl 1 rfl) ?_
    refine zi_iald M hE hP 2 (n := 60) (g := c2) rfl (Nat.le_of_ble_eq_true rfl) (by omega) (by omega) dX1_isOf_15 ?_
    have hr_7 := g_c2 k (by omega) (by omega)
    refine lv_iload_n M.1 M.2.1 dX1_isOf_16 rfl (lv_at hl 3 rfl) ?_
    refine zi_icmp_eq (tgt := 40) M dX1_isOf_17 (by decide) (by omega) (by omega) (fun c_8 => ?_) (fun c_8 => ?_)
    ·
      refine zi_push M dX1_isOf_40 ?_
      refine zi_goto (tgt := 45) M dX1_isOf_41 (by decide) ?_
      exact zr_z M hr hlk (v := 1) (show (1 : Int) = if (c1 k = x ∧ c2 k = y) ∨ (c1 k = y ∧ c2 k = x) then 1 else 0 by first | exact (if_pos (by omega)).symm | exact (if_neg (by omega)).symm) (Or.inr rfl) dX1_isOf_45
    ·
      refine lv_aload_n M.1 M.2.1 dX1_isOf_20 rfl (lv_at hl 0 rfl) ?_
      refine zi_get (ci := 1) (v := .ref (ad (b + 1))) M hE hP 0 rfl rfl zu_X1 0 (by decide) zk_fl_RX1_9 rfl rfl dX1_isOf_21 ?_
      refine lv_iload_n M.1 M.2.1 dX1_isOf_24 rfl (lv_at hl 1 rfl) ?_
      refine zi_iald M hE hP 1 (n := 60) (g := c1) rfl (Nat.le_of_ble_eq_true rfl) (by omega) (by omega) dX1_isOf_25 ?_
      have hr_9 := g_c1 k (by omega) (by omega)
      refine lv_iload_n M.1 M.2.1 dX1_isOf_26 rfl (lv_at hl 3 rfl) ?_
      refine zi_icmp_ne (tgt := 44) M dX1_isOf_27 (by decide) (by omega) (by omega) (fun c_10 => ?_) (fun c_10 => ?_)
      ·
        refine zi_push M dX1_isOf_44 ?_
        exact zr_z M hr hlk (v := 0) (show (0 : Int) = if (c1 k = x ∧ c2 k = y) ∨ (c1 k = y ∧ c2 k = x) then 1 else 0 by first | exact (if_pos (by omega)).symm | exact (if_neg (by omega)).symm) (Or.inl rfl) dX1_isOf_45
      ·
        refine lv_aload_n M.1 M.2.1 dX1_isOf_30 rfl (lv_at hl 0 rfl) ?_
        refine zi_get (ci := 1) (v := .ref (ad (b + 2))) M hE hP 0 rfl rfl zu_X1 1 (by decide) zk_fl_RX1_15 rfl rfl dX1_isOf_31 ?_
        refine lv_iload_n M.1 M.2.1 dX1_isOf_34 rfl (lv_at hl 1 rfl) ?_
        refine zi_iald M hE hP 2 (n := 60) (g := c2) rfl (Nat.le_of_ble_eq_true rfl) (by omega) (by omega) dX1_isOf_35 ?_
        have hr_11 := g_c2 k (by omega) (by omega)
        refine lv_iload_n M.1 M.2.1 dX1_isOf_36 rfl (lv_at hl 2 rfl) ?_
        refine zi_icmp_ne (tgt := 44) M dX1_isOf_37 (by decide) (by omega) (by omega) (fun c_12 => ?_) (fun c_12 => ?_)
        ·
          refine zi_push M dX1_isOf_44 ?_
          exact zr_z M hr hlk (v := 0) (show (0 : Int) = if (c1 k = x ∧ c2 k = y) ∨ (c1 k = y ∧ c2 k = x) then 1 else 0 by first | exact (if_pos (by omega)).symm | exact (if_neg (by omega)).symm) (Or.inl rfl) dX1_isOf_45
        ·
          refine zi_push M dX1_isOf_40 ?_
          refine zi_goto (tgt := 45) M dX1_isOf_41 (by decide) ?_
          exact zr_z M hr hlk (v := 1) (show (1 : Int) = if (c1 k = x ∧ c2 k = y) ∨ (c1 k = y ∧ c2 k = x) then 1 else 0 by first | exact (if_pos (by omega)).symm | exact (if_neg (by omega)).symm) (Or.inr rfl) dX1_isOf_45

set_option maxRecDepth 100000 in
set_option maxHeartbeats 4000000 in
theorem c_X1_tell (l : Launch) (D : va_G) (cy : Nat → ClassId) (z0 : Nat) (ad : Nat → Nat) (b : Nat) (cm : Int) (c1 c2 c3 c4 c5 : Int → Int) (k : Int) (wh : Int) (hk : 0 ≤ k ∧ k < 60) (hwh : 0 ≤ wh ∧ wh ≤ 4) : Met l yX1_tell [.code yX1_tell cX1_tell 3 (some .int)] (zRm 0 0 0 0) (zPc [.ref (ad b), .int (iI k), .int (iI wh)] D cy z0 (fun H => va_P D vwCl (conW ad b cy cm c1 c2 c3 c4 c5) H)) (QcRead (iI (tell5 (c1 k) (c2 k) (c3 k) (c4 k) (c5 k) wh))) 0 0 (fun _ => False) := by
  refine z_of (by decide) (Nat.le_of_ble_eq_true rfl) ?_
  intro p e s m args below meth c M hr hlk _ hargs hP hE ls hl
  have hS : va_S (fun q => z0 ≤ q) s.heap s.heap [] := va_S.rf
  have hAz : ∀ q : Nat, (fun q => z0 ≤ q) q → z0 ≤ q := fun _ h => h
  have hl : lv_has ls 3 [(0, .ref (ad b)), (1, .int (iI k)), (2, .int (iI wh))] := hl
  refine lv_iload_n M.1 M.2.1 dX1_tell_0 rfl (lv_at hl 2 rfl) ?_
  rcases (by omega : wh = 0 ∨ wh = 1 ∨ wh = 2 ∨ wh = 3 ∨ wh = 4) with rfl | rfl | rfl | rfl | rfl
  ·
    refine lv_tableIn (off := 31) (tgt := 32) M.1 M.2.1 dX1_tell_1 (by decide) (by decide) rfl (by decide) ?_
    refine lv_aload_n M.1 M.2.1 dX1_tell_32 rfl (lv_at hl 0 rfl) ?_
    refine zi_get (ci := 1) (v := .ref (ad (b + 1))) M hE hP 0 rfl rfl zu_X1 0 (by decide) zk_fl_RX1_9 rfl rfl dX1_tell_33 ?_
    refine lv_iload_n M.1 M.2.1 dX1_tell_36 rfl (lv_at hl 1 rfl) ?_
    refine zi_iald M hE hP 1 (n := 60) (g := c1) rfl (Nat.le_of_ble_eq_true rfl) (by omega) (by omega) dX1_tell_37 ?_
    exact zr_i M hr hlk (congrArg iI (show ((c1 k) : Int) = tell5 (c1 k) (c2 k) (c3 k) (c4 k) (c5 k) 0 by rfl)) dX1_tell_38
  ·
    refine lv_tableIn (off := 38) (tgt := 39) M.1 M.2.1 dX1_tell_1 (by decide) (by decide) rfl (by decide) ?_
    refine lv_aload_n M.1 M.2.1 dX1_tell_39 rfl (lv_at hl 0 rfl) ?_
    refine zi_get (ci := 1) (v := .ref (ad (b + 2))) M hE hP 0 rfl rfl zu_X1 1 (by decide) zk_fl_RX1_15 rfl rfl dX1_tell_40 ?_
    refine lv_iload_n M.1 M.2.1 dX1_tell_43 rfl (lv_at hl 1 rfl) ?_
    refine zi_iald M hE hP 2 (n := 60) (g := c2) rfl (Nat.le_of_ble_eq_true rfl) (by omega) (by omega) dX1_tell_44 ?_
    exact zr_i M hr hlk (congrArg iI (show ((c2 k) : Int) = tell5 (c1 k) (c2 k) (c3 k) (c4 k) (c5 k) 1 by rfl)) dX1_tell_45
  ·
    refine lv_tableIn (off := 45) (tgt := 46) M.1 M.2.1 dX1_tell_1 (by decide) (by decide) rfl (by decide) ?_
    refine lv_aload_n M.1 M.2.1 dX1_tell_46 rfl (lv_at hl 0 rfl) ?_
    refine zi_get (ci := 1) (v := .ref (ad (b + 3))) M hE hP 0 rfl rfl zu_X1 2 (by decide) zk_fl_RX1_18 rfl rfl dX1_tell_47 ?_
    refine lv_iload_n M.1 M.2.1 dX1_tell_50 rfl (lv_at hl 1 rfl) ?_
    refine zi_iald M hE hP 3 (n := 60) (g := c3) rfl (Nat.le_of_ble_eq_true rfl) (by omega) (by omega) dX1_tell_51 ?_
    exact zr_i M hr hlk (congrArg iI (show ((c3 k) : Int) = tell5 (c1 k) (c2 k) (c3 k) (c4 k) (c5 k) 2 by rfl)) dX1_tell_52
  ·
    refine lv_tableIn (off := 52) (tgt := 53) M.1 M.2.1 dX1_tell_1 (by decide) (by decide) rfl (by decide) ?_
    refine lv_aload_n M.1 M.2.1 dX1_tell_53 rfl (lv_at hl 0 rfl) ?_
    refine zi_get (ci := 1) (v := .ref (ad (b + 4))) M hE hP 0 rfl rfl zu_X1 3 (by decide) zk_fl_RX1_21 rfl rfl dX1_tell_54 ?_
    refine lv_iload_n M.1 M.2.1 dX1_tell_57 rfl (lv_at hl 1 rfl) ?_
    refine zi_iald M hE hP 4 (n := 60) (g := c4) rfl (Nat.le_of_ble_eq_true rfl) (by omega) (by omega) dX1_tell_58 ?_
    exact zr_i M hr hlk (congrArg iI (show ((c4 k) : Int) = tell5 (c1 k) (c2 k) (c3 k) (c4 k) (c5 k) 3 by rfl)) dX1_tell_59
  ·
    refine lv_tableOut (tgt := 60) M.1 M.2.1 dX1_tell_1 (by decide) (by decide) ?_
    refine lv_aload_n M.1 M.2.1 dX1_tell_60 rfl (lv_at hl 0 rfl) ?_
    refine zi_get (ci := 1) (v := .ref (ad (b + 5))) M hE hP 0 rfl rfl zu_X1 4 (by decide) zk_fl_RX1_24 rfl rfl dX1_tell_61 ?_
    refine lv_iload_n M.1 M.2.1 dX1_tell_64 rfl (lv_at hl 1 rfl) ?_
    refine zi_iald M hE hP 5 (n := 60) (g := c5) rfl (Nat.le_of_ble_eq_true rfl) (by omega) (by omega) dX1_tell_65 ?_
    exact zr_i M hr hlk (congrArg iI (show ((c5 k) : Int) = tell5 (c1 k) (c2 k) (c3 k) (c4 k) (c5 k) 4 by rfl)) dX1_tell_66

set_option maxRecDepth 100000 in
set_option maxHeartbeats 4000000 in
theorem c_X2_tell (l : Launch) (D : va_G) (cy : Nat → ClassId) (z0 : Nat) (ad : Nat → Nat) (b : Nat) (em ep : Int) (e1 e2 e3 e4 e5 : Int → Int) (k : Int) (wh : Int) (hk : 0 ≤ k ∧ k < 80) (hwh : 0 ≤ wh ∧ wh ≤ 4) : Met l yX2_tell [.code yX2_tell cX2_tell 3 (some .int)] (zRm 0 0 0 0) (zPc [.ref (ad b), .int (iI k), .int (iI wh)] D cy z0 (fun H => va_P D vwCl (entW ad b cy em ep e1 e2 e3 e4 e5) H)) (QcRead (iI (tell5 (e1 k) (e2 k) (e3 k) (e4 k) (e5 k) wh))) 0 0 (fun _ => False) := by
  refine z_of (by decide) (Nat.le_of_ble_eq_true rfl) ?_
  intro p e s m args below meth c M hr hlk _ hargs hP hE ls hl
  have hS : va_S (fun q => z0 ≤ q) s.heap s.heap [] := va_S.rf
  have hAz : ∀ q : Nat, (fun q => z0 ≤ q) q → z0 ≤ q := fun _ h => h
  have hl : lv_has ls 3 [(0, .ref (ad b)), (1, .int (iI k)), (2, .int (iI wh))] := hl
  refine lv_iload_n M.1 M.2.1 dX2_tell_0 rfl (lv_at hl 2 rfl) ?_
  rcases (by omega : wh = 0 ∨ wh = 1 ∨ wh = 2 ∨ wh = 3 ∨ wh = 4) with rfl | rfl | rfl | rfl | rfl
  ·
    refine lv_tableIn (off := 31) (tgt := 32) M.1 M.2.1 dX2_tell_1 (by decide) (by decide) rfl (by decide) ?_
    refine lv_aload_n M.1 M.2.1 dX2_tell_32 rfl (lv_at hl 0 rfl) ?_
    refine zi_get (ci := 2) (v := .ref (ad (b + 1))) M hE hP 0 rfl rfl zu_X2 0 (by decide) zk_fl_RX2_9 rfl rfl dX2_tell_33 ?_
    refine lv_iload_n M.1 M.2.1 dX2_tell_36 rfl (lv_at hl 1 rfl) ?_
    refine zi_iald M hE hP 1 (n := 80) (g := e1) rfl (Nat.le_of_ble_eq_true rfl) (by omega) (by omega) dX2_tell_37 ?_
    exact zr_i M hr hlk (congrArg iI (show ((e1 k) : Int) = tell5 (e1 k) (e2 k) (e3 k) (e4 k) (e5 k) 0 by rfl)) dX2_tell_38
  ·
    refine lv_tableIn (off := 38) (tgt := 39) M.1 M.2.1 dX2_tell_1 (by decide) (by decide) rfl (by decide) ?_
    refine lv_aload_n M.1 M.2.1 dX2_tell_39 rfl (lv_at hl 0 rfl) ?_
    refine zi_get (ci := 2) (v := .ref (ad (b + 2))) M hE hP 0 rfl rfl zu_X2 1 (by decide) zk_fl_RX2_15 rfl rfl dX2_tell_40 ?_
    refine lv_iload_n M.1 M.2.1 dX2_tell_43 rfl (lv_at hl 1 rfl) ?_
    refine zi_iald M hE hP 2 (n := 80) (g := e2) rfl (Nat.le_of_ble_eq_true rfl) (by omega) (by omega) dX2_tell_44 ?_
    exact zr_i M hr hlk (congrArg iI (show ((e2 k) : Int) = tell5 (e1 k) (e2 k) (e3 k) (e4 k) (e5 k) 1 by rfl)) dX2_tell_45
  ·
    refine lv_tableIn (off := 45) (tgt := 46) M.1 M.2.1 dX2_tell_1 (by decide) (by decide) rfl (by decide) ?_
    refine lv_aload_n M.1 M.2.1 dX2_tell_46 rfl (lv_at hl 0 rfl) ?_
    refine zi_get (ci := 2) (v := .ref (ad (b + 3))) M hE hP 0 rfl rfl zu_X2 2 (by decide) zk_fl_RX2_18 rfl rfl dX2_tell_47 ?_
    refine lv_iload_n M.1 M.2.1 dX2_tell_50 rfl (lv_at hl 1 rfl) ?_
    refine zi_iald M hE hP 3 (n := 80) (g := e3) rfl (Nat.le_of_ble_eq_true rfl) (by omega) (by omega) dX2_tell_51 ?_
    exact zr_i M hr hlk (congrArg iI (show ((e3 k) : Int) = tell5 (e1 k) (e2 k) (e3 k) (e4 k) (e5 k) 2 by rfl)) dX2_tell_52
  ·
    refine lv_tableIn (off := 52) (tgt := 53) M.1 M.2.1 dX2_tell_1 (by decide) (by decide) rfl (by decide) ?_
    refine lv_aload_n M.1 M.2.1 dX2_tell_53 rfl (lv_at hl 0 rfl) ?_
    refine zi_get (ci := 2) (v := .ref (ad (b + 4))) M hE hP 0 rfl rfl zu_X2 3 (by decide) zk_fl_RX2_21 rfl rfl dX2_tell_54 ?_
    refine lv_iload_n M.1 M.2.1 dX2_tell_57 rfl (lv_at hl 1 rfl) ?_
    refine zi_iald M hE hP 4 (n := 80) (g := e4) rfl (Nat.le_of_ble_eq_true rfl) (by omega) (by omega) dX2_tell_58 ?_
    exact zr_i M hr hlk (congrArg iI (show ((e4 k) : Int) = tell5 (e1 k) (e2 k) (e3 k) (e4 k) (e5 k) 3 by rfl)) dX2_tell_59
  ·
    refine lv_tableOut (tgt := 60) M.1 M.2.1 dX2_tell_1 (by decide) (by decide) ?_
    refine lv_aload_n M.1 M.2.1 dX2_tell_60 rfl (lv_at hl 0 rfl) ?_
    refine zi_get (ci := 2) (v := .ref (ad (b + 5))) M hE hP 0 rfl rfl zu_X2 4 (by decide) zk_fl_RX2_24 rfl rfl dX2_tell_61 ?_
    refine lv_iload_n M.1 M.2.1 dX2_tell_64 rfl (lv_at hl 1 rfl) ?_
    refine zi_iald M hE hP 5 (n := 80) (g := e5) rfl (Nat.le_of_ble_eq_true rfl) (by omega) (by omega) dX2_tell_65 ?_
    exact zr_i M hr hlk (congrArg iI (show ((e5 k) : Int) = tell5 (e1 k) (e2 k) (e3 k) (e4 k) (e5 k) 4 by rfl)) dX2_tell_66

set_option maxRecDepth 100000 in
set_option maxHeartbeats 4000000 in
theorem c_X4_tell (l : Launch) (D : va_G) (cy : Nat → ClassId) (z0 : Nat) (ad : Nat → Nat) (b : Nat) (ypl ydr yan yfr yst ylg yle ydl : Int) (wh : Int) (hwh : 0 ≤ wh ∧ wh ≤ 5) : Met l yX4_tell [.code yX4_tell cX4_tell 2 (some .int)] (zRm 0 0 0 0) (zPc [.ref (ad b), .int (iI wh)] D cy z0 (fun H => va_P D vwCl (rayW ad b cy ypl ydr yan yfr yst ylg yle ydl) H)) (QcRead (iI (tell6 ydr yan ylg yle yst ydl wh))) 0 0 (fun _ => False) := by
  refine z_of (by decide) (Nat.le_of_ble_eq_true rfl) ?_
  intro p e s m args below meth c M hr hlk _ hargs hP hE ls hl
  have hS : va_S (fun q => z0 ≤ q) s.heap s.heap [] := va_S.rf
  have hAz : ∀ q : Nat, (fun q => z0 ≤ q) q → z0 ≤ q := fun _ h => h
  have hl : lv_has ls 2 [(0, .ref (ad b)), (1, .int (iI wh))] := hl
  refine lv_iload_n M.1 M.2.1 dX4_tell_0 rfl (lv_at hl 1 rfl) ?_
  rcases (by omega : wh = 0 ∨ wh = 1 ∨ wh = 2 ∨ wh = 3 ∨ wh = 4 ∨ wh = 5) with rfl | rfl | rfl | rfl | rfl | rfl
  ·
    refine lv_tableIn (off := 35) (tgt := 36) M.1 M.2.1 dX4_tell_1 (by decide) (by decide) rfl (by decide) ?_
    refine lv_aload_n M.1 M.2.1 dX4_tell_36 rfl (lv_at hl 0 rfl) ?_
    refine zi_get (ci := 4) (v := .int (iI ydr)) M hE hP 0 rfl rfl zu_X4 1 (by decide) zk_fl_RX4_15 rfl rfl dX4_tell_37 ?_
    exact zr_i M hr hlk (congrArg iI (show (ydr : Int) = tell6 ydr yan ylg yle yst ydl 0 by rfl)) dX4_tell_40
  ·
    refine lv_tableIn (off := 40) (tgt := 41) M.1 M.2.1 dX4_tell_1 (by decide) (by decide) rfl (by decide) ?_
    refine lv_aload_n M.1 M.2.1 dX4_tell_41 rfl (lv_at hl 0 rfl) ?_
    refine zi_get (ci := 4) (v := .int (iI yan)) M hE hP 0 rfl rfl zu_X4 2 (by decide) zk_fl_RX4_18 rfl rfl dX4_tell_42 ?_
    exact zr_i M hr hlk (congrArg iI (show (yan : Int) = tell6 ydr yan ylg yle yst ydl 1 by rfl)) dX4_tell_45
  ·
    refine lv_tableIn (off := 45) (tgt := 46) M.1 M.2.1 dX4_tell_1 (by decide) (by decide) rfl (by decide) ?_
    refine lv_aload_n M.1 M.2.1 dX4_tell_46 rfl (lv_at hl 0 rfl) ?_
    refine zi_get (ci := 4) (v := .int (iI ylg)) M hE hP 0 rfl rfl zu_X4 5 (by decide) zk_fl_RX4_27 rfl rfl dX4_tell_47 ?_
    exact zr_i M hr hlk (congrArg iI (show (ylg : Int) = tell6 ydr yan ylg yle yst ydl 2 by rfl)) dX4_tell_50
  ·
    refine lv_tableIn (off := 50) (tgt := 51) M.1 M.2.1 dX4_tell_1 (by decide) (by decide) rfl (by decide) ?_
    refine lv_aload_n M.1 M.2.1 dX4_tell_51 rfl (lv_at hl 0 rfl) ?_
    refine zi_get (ci := 4) (v := .int (iI yle)) M hE hP 0 rfl rfl zu_X4 6 (by decide) zk_fl_RX4_30 rfl rfl dX4_tell_52 ?_
    exact zr_i M hr hlk (congrArg iI (show (yle : Int) = tell6 ydr yan ylg yle yst ydl 3 by rfl)) dX4_tell_55
  ·
    refine lv_tableIn (off := 55) (tgt := 56) M.1 M.2.1 dX4_tell_1 (by decide) (by decide) rfl (by decide) ?_
    refine lv_aload_n M.1 M.2.1 dX4_tell_56 rfl (lv_at hl 0 rfl) ?_
    refine zi_get (ci := 4) (v := .int (iI yst)) M hE hP 0 rfl rfl zu_X4 4 (by decide) zk_fl_RX4_24 rfl rfl dX4_tell_57 ?_
    exact zr_i M hr hlk (congrArg iI (show (yst : Int) = tell6 ydr yan ylg yle yst ydl 4 by rfl)) dX4_tell_60
  ·
    refine lv_tableOut (tgt := 61) M.1 M.2.1 dX4_tell_1 (by decide) (by decide) ?_
    refine lv_aload_n M.1 M.2.1 dX4_tell_61 rfl (lv_at hl 0 rfl) ?_
    refine zi_get (ci := 4) (v := .int (iI ydl)) M hE hP 0 rfl rfl zu_X4 7 (by decide) zk_fl_RX4_33 rfl rfl dX4_tell_62 ?_
    exact zr_i M hr hlk (congrArg iI (show (ydl : Int) = tell6 ydr yan ylg yle yst ydl 5 by rfl)) dX4_tell_65

set_option maxRecDepth 100000 in
set_option maxHeartbeats 4000000 in
theorem c_X3_takes (l : Launch) (D : va_G) (cy : Nat → ClassId) (z0 : Nat) (ad : Nat → Nat) (b : Nat) (sea noi : Int → Int) (q : Int) (g_sea : zrg 48 0 1 sea) (hq : 0 ≤ q ∧ q < 48) : Met l yX3_takes [.code yX3_takes cX3_takes 2 (some .int)] (zRm 0 0 0 0) (zPc [.ref (ad b), .int (iI q)] D cy z0 (fun H => va_P D vwCl (grdW ad b cy sea noi) H)) (QcRead (iI (if sea q = 0 then 6 else 3))) 0 0 (fun _ => False) := by
  refine z_of (by decide) (Nat.le_of_ble_eq_true rfl) ?_
  intro p e s m args below meth c M hr hlk _ hargs hP hE ls hl
  have hS : va_S (fun q => z0 ≤ q) s.heap s.heap [] := va_S.rf
  have hAz : ∀ q : Nat, (fun q => z0 ≤ q) q → z0 ≤ q := fun _ h => h
  have hl : lv_has ls 2 [(0, .ref (ad b)), (1, .int (iI q))] := hl
  refine lv_aload_n M.1 M.2.1 dX3_takes_0 rfl (lv_at hl 0 rfl) ?_
  refine zi_get (ci := 3) (v := .ref (ad (b + 1))) M hE hP 0 rfl rfl zu_X3 0 (by decide) zk_fl_RX3_9 rfl rfl dX3_takes_1 ?_
  refine lv_iload_n M.1 M.2.1 dX3_takes_4 rfl (lv_at hl 1 rfl) ?_
  refine zi_zald M hE hP 1 (n := 48) (g := sea) rfl (Nat.le_of_ble_eq_true rfl) (by omega) (by omega) dX3_takes_5 ?_
  have hr_1 := g_sea q (by omega) (by omega)
  refine zi_if_eq (tgt := 13) M dX3_takes_6 (by decide) (by omega) (fun c_2 => ?_) (fun c_2 => ?_)
  ·
    refine zi_bipush M dX3_takes_13 ⟨by decide, by decide⟩ ?_
    exact zr_i M hr hlk (congrArg iI (show (6 : Int) = if sea q = 0 then 6 else 3 by first | exact (if_pos (by omega)).symm | exact (if_neg (by omega)).symm)) dX3_takes_15
  ·
    refine zi_push M dX3_takes_9 ?_
    refine zi_goto (tgt := 15) M dX3_takes_10 (by decide) ?_
    exact zr_i M hr hlk (congrArg iI (show (3 : Int) = if sea q = 0 then 6 else 3 by first | exact (if_pos (by omega)).symm | exact (if_neg (by omega)).symm)) dX3_takes_15

set_option maxRecDepth 100000 in
set_option maxHeartbeats 4000000 in
theorem c_X5_strengthAtFirst (l : Launch) (D : va_G) (cy : Nat → ClassId) (z0 : Nat) (ad : Nat → Nat) (b : Nat) (n : Nat) (sm : Int) (pl pw an hd fq : Int → Int) (k : Int) (r : Int) (a : Int) (g_pw : zrg n 0 80 pw) (g_an : zrg n 0 2 an) (g_hd : zrg n 0 2 hd) (hnn : n ≤ 2147483647) (hk : 0 ≤ k ∧ k < n) (hr1 : 0 ≤ r ∧ r ≤ 1) (ha : 1 ≤ a ∧ a ≤ 9) : Met l yX5_strengthAtFirst [.code yX5_strengthAtFirst cX5_strengthAtFirst 4 (some .int)] (zRm 1 0 0 21) (zPc [.ref (ad b), .int (iI k), .int (iI r), .int (iI a)] D cy z0 (fun H => va_P D vwCl (sndW ad b cy n sm pl pw an hd fq) H)) (QcRead (iI (pw k + gainZ (an k) a - asideZ (hd k) r))) 0 0 (fun _ => False) := by
  refine z_of (by decide) (Nat.le_of_ble_eq_true rfl) ?_
  intro p e s m args below meth c M hr hlk _ hargs hP hE ls hl
  have hS : va_S (fun q => z0 ≤ q) s.heap s.heap [] := va_S.rf
  have hAz : ∀ q : Nat, (fun q => z0 ≤ q) q → z0 ≤ q := fun _ h => h
  have hl : lv_has ls 4 [(0, .ref (ad b)), (1, .int (iI k)), (2, .int (iI r)), (3, .int (iI a))] := hl
  refine lv_aload_n M.1 M.2.1 dX5_strengthAtFirst_0 rfl (lv_at hl 0 rfl) ?_
  refine zi_get (ci := 5) (v := .ref (ad (b + 2))) M hE hP 0 rfl rfl zu_X5 1 (by decide) zk_fl_RX5_15 rfl rfl dX5_strengthAtFirst_1 ?_
  refine lv_iload_n M.1 M.2.1 dX5_strengthAtFirst_4 rfl (lv_at hl 1 rfl) ?_
  refine zi_iald M hE hP 2 (n := n) (g := pw) rfl hnn (by omega) (by omega) dX5_strengthAtFirst_5 ?_
  have hr_1 := g_pw k (by omega) (by omega)
  refine lv_aload_n M.1 M.2.1 dX5_strengthAtFirst_6 rfl (lv_at hl 0 rfl) ?_
  refine zi_get (ci := 5) (v := .ref (ad (b + 3))) M hE hP 0 rfl rfl zu_X5 2 (by decide) zk_fl_RX5_18 rfl rfl dX5_strengthAtFirst_7 ?_
  refine lv_iload_n M.1 M.2.1 dX5_strengthAtFirst_10 rfl (lv_at hl 1 rfl) ?_
  refine zi_iald M hE hP 3 (n := n) (g := an) rfl hnn (by omega) (by omega) dX5_strengthAtFirst_11 ?_
  have hr_2 := g_an k (by omega) (by omega)
  refine lv_iload_n M.1 M.2.1 dX5_strengthAtFirst_12 rfl (lv_at hl 3 rfl) ?_
  refine z_cR (z_runS (As := [.int (iI (an k)), .int (iI a)]) (rest := [.int (iI (pw k))]) M (c_X5_gain l D cy z0 (an k) a (by omega) (by omega)) hE hS hAz trivial zk_cd_X5_gain zk_in_RX5 zk_st_X5_gain zk_ml_RX5_31 rfl rfl zd_X5_gain ⟨by decide, by decide⟩ rfl hl.1 rfl (Nat.le_of_ble_eq_true rfl) dX5_strengthAtFirst_13 ⟨by decide, by decide⟩) ?_
  have hx_3 := gainZ_rg (an k) a (by omega)
  refine zi_iadd M dX5_strengthAtFirst_16 ?_
  refine lv_aload_n M.1 M.2.1 dX5_strengthAtFirst_17 rfl (lv_at hl 0 rfl) ?_
  refine zi_get (ci := 5) (v := .ref (ad (b + 4))) M hE hP 0 rfl rfl zu_X5 3 (by decide) zk_fl_RX5_21 rfl rfl dX5_strengthAtFirst_18 ?_
  refine lv_iload_n M.1 M.2.1 dX5_strengthAtFirst_21 rfl (lv_at hl 1 rfl) ?_
  refine zi_iald M hE hP 4 (n := n) (g := hd) rfl hnn (by omega) (by omega) dX5_strengthAtFirst_22 ?_
  have hr_4 := g_hd k (by omega) (by omega)
  refine lv_iload_n M.1 M.2.1 dX5_strengthAtFirst_23 rfl (lv_at hl 2 rfl) ?_
  refine z_cR (z_runS (As := [.int (iI (hd k)), .int (iI r)]) (rest := [.int (iI ((pw k) + (gainZ (an k) a)))]) M (c_X5_aside l D cy z0 (hd k) r (by omega) (by omega)) hE hS hAz trivial zk_cd_X5_aside zk_in_RX5 zk_st_X5_aside zk_ml_RX5_35 rfl rfl zd_X5_aside ⟨by decide, by decide⟩ rfl hl.1 rfl (Nat.le_of_ble_eq_true rfl) dX5_strengthAtFirst_24 ⟨by decide, by decide⟩) ?_
  have hx_5 := asideZ_rg (hd k) r
  refine zi_isub M dX5_strengthAtFirst_27 ?_
  exact zr_i M hr hlk (congrArg iI (show ((((pw k) + (gainZ (an k) a)) - (asideZ (hd k) r)) : Int) = pw k + gainZ (an k) a - asideZ (hd k) r by rfl)) dX5_strengthAtFirst_28

set_option maxRecDepth 100000 in
set_option maxHeartbeats 4000000 in
theorem c_X2_partnerFor (l : Launch) (D : va_G) (cy : Nat → ClassId) (z0 : Nat) (ad : Nat → Nat) (b : Nat) (em ep : Int) (e1 e2 e3 e4 e5 : Int → Int) (x : Int) (y : Int) (f : Int) (t : Int) (g_e1 : zrg 80 0 11 e1) (g_e2 : zrg 80 0 11 e2) (g_e3 : zrg 80 0 300 e3) (g_e4 : zrg 80 0 5000 e4) (g_e5 : zrg 80 (-1) 79 e5) (hem : 0 ≤ em ∧ em ≤ 80) (hx : 0 ≤ x ∧ x ≤ 11) (hy : 0 ≤ y ∧ y ≤ 11) (hf : 10 ≤ f ∧ f ≤ 300) (ht1 : 0 ≤ t ∧ t ≤ 5000) : Met l yX2_partnerFor [.code yX2_partnerFor cX2_partnerFor 6 (some .int)] (zRm 0 0 0 0) (zPc [.ref (ad b), .int (iI x), .int (iI y), .int (iI f), .int (iI t)] D cy z0 (fun H => va_P D vwCl (entW ad b cy em ep e1 e2 e3 e4 e5) H)) (QcRead (iI (lowZ (parP e1 e2 e3 e4 e5 x y f t) em))) 0 0 (fun _ => False) := by
  refine z_of (by decide) (Nat.le_of_ble_eq_true rfl) ?_
  intro p e s m args below meth c M hr hlk _ hargs hP hE ls hl
  have hS : va_S (fun q => z0 ≤ q) s.heap s.heap [] := va_S.rf
  have hAz : ∀ q : Nat, (fun q => z0 ≤ q) q → z0 ≤ q := fun _ h => h
  have hl : lv_has ls 6 [(0, .ref (ad b)), (1, .int (iI x)), (2, .int (iI y)), (3, .int (iI f)), (4, .int (iI t))] := hl
  refine zi_push M dX2_partnerFor_0 ?_
  refine lv_istore (lv' := [(5, .int (iI 0)), (0, .ref (ad b)), (1, .int (iI x)), (2, .int (iI y)), (3, .int (iI f)), (4, .int (iI t))]) M.1 M.2.1 dX2_partnerFor_1 hl (by decide) rfl (fun ls hl => ?_)
  have L_3 : ∀ (k_3 : Nat) (i : Int) (hi : 0 ≤ i ∧ i ≤ em) (hno : ∀ j : Int, 0 ≤ j → j < i → ¬ parP e1 e2 e3 e4 e5 x y f t j) (hm : em - i < (k_3 : Int)) (ls : Array Slot) (hl : lv_has ls 6 [(0, .ref (ad b)), (1, .int (iI x)), (2, .int (iI y)), (3, .int (iI f)), (4, .int (iI t)), (5, .int (iI i))]), W p l e (zRm 0 0 0 0) s m args below meth c s.heap [] 0 0 (MQ below (QcRead (iI (lowZ (parP e1 e2 e3 e4 e5 x y f t) em))) args s 0 0 (fun _ => False)) (F0 m 3 ls []) := by
    intro k_3
    induction k_3 with
    | zero =>
      intro i hi hno hm ls hl
      exact absurd hm (by omega)
    | succ k_3 ih_3 =>
      intro i hi hno hm ls hl
      refine lv_iload M.1 M.2.1 dX2_partnerFor_3 (lv_at hl 5 rfl) ?_
      refine lv_aload_n M.1 M.2.1 dX2_partnerFor_5 rfl (lv_at hl 0 rfl) ?_
      refine zi_get (ci := 2) (v := .int (iI em)) M hE hP 0 rfl rfl zu_X2 5 (by decide) zk_fl_RX2_27 rfl rfl dX2_partnerFor_6 ?_
      refine zi_icmp_ge (tgt := 79) M dX2_partnerFor_9 (by decide) (by omega) (by omega) (fun c_1 => ?_) (fun c_1 => ?_)
      ·
        refine zi_push M dX2_partnerFor_79 ?_
        exact zr_i M hr hlk (congrArg iI (show ((-1) : Int) = lowZ (parP e1 e2 e3 e4 e5 x y f t) em by (exact (lowZ_is (Or.inr ⟨rfl, fun j h0 h1 => hno j h0 (by omega)⟩)).symm))) dX2_partnerFor_80
      ·
        refine lv_aload_n M.1 M.2.1 dX2_partnerFor_12 rfl (lv_at hl 0 rfl) ?_
        refine zi_get (ci := 2) (v := .ref (ad (b + 5))) M hE hP 0 rfl rfl zu_X2 4 (by decide) zk_fl_RX2_24 rfl rfl dX2_partnerFor_13 ?_
        refine lv_iload M.1 M.2.1 dX2_partnerFor_16 (lv_at hl 5 rfl) ?_
        refine zi_iald M hE hP 5 (n := 80) (g := e5) rfl (Nat.le_of_ble_eq_true rfl) (by omega) (by omega) dX2_partnerFor_18 ?_
        have hr_2 := g_e5 i (by omega) (by omega)
        refine zi_push M dX2_partnerFor_19 ?_
        refine zi_icmp_ne (tgt := 73) M dX2_partnerFor_20 (by decide) (by omega) ⟨by decide, by decide⟩ (fun c_3 => ?_) (fun c_3 => ?_)
        ·
          refine zi_iinc (lv' := [(5, .int (iI (i + 1))), (0, .ref (ad b)), (1, .int (iI x)), (2, .int (iI y)), (3, .int (iI f)), (4, .int (iI t))]) M dX2_partnerFor_73 hl 5 rfl (by decide) rfl (fun ls hl => ?_)
          refine zi_goto (tgt := 3) M dX2_partnerFor_76 (by decide) ?_
          exact ih_3 (i + 1) (by omega) (fun j h0 h1 => by rcases Int.lt_or_le j i with hj | hj; exact hno j h0 hj; (have hji : j = i := (by omega)); subst hji; unfold parP; omega) (by omega) ls (lv_sub hl [1, 2, 3, 4, 5, 0] rfl)
        ·
          refine lv_aload_n M.1 M.2.1 dX2_partnerFor_23 rfl (lv_at hl 0 rfl) ?_
          refine zi_get (ci := 2) (v := .ref (ad (b + 1))) M hE hP 0 rfl rfl zu_X2 0 (by decide) zk_fl_RX2_9 rfl rfl dX2_partnerFor_24 ?_
          refine lv_iload M.1 M.2.1 dX2_partnerFor_27 (lv_at hl 5 rfl) ?_
          refine zi_iald M hE hP 1 (n := 80) (g := e1) rfl (Nat.le_of_ble_eq_true rfl) (by omega) (by omega) dX2_partnerFor_29 ?_
          have hr_4 := g_e1 i (by omega) (by omega)
          refine lv_iload_n M.1 M.2.1 dX2_partnerFor_30 rfl (lv_at hl 2 rfl) ?_
          refine zi_icmp_ne (tgt := 73) M dX2_partnerFor_31 (by decide) (by omega) (by omega) (fun c_5 => ?_) (fun c_5 => ?_)
          ·
            refine zi_iinc (lv' := [(5, .int (iI (i + 1))), (0, .ref (ad b)), (1, .int (iI x)), (2, .int (iI y)), (3, .int (iI f)), (4, .int (iI t))]) M dX2_partnerFor_73 hl 5 rfl (by decide) rfl (fun ls hl => ?_)
            refine zi_goto (tgt := 3) M dX2_partnerFor_76 (by decide) ?_
            exact ih_3 (i + 1) (by omega) (fun j h0 h1 => by rcases Int.lt_or_le j i with hj | hj; exact hno j h0 hj; (have hji : j = i := (by omega)); subst hji; unfold parP; omega) (by omega) ls (lv_sub hl [1, 2, 3, 4, 5, 0] rfl)
          ·
            refine lv_aload_n M.1 M.2.1 dX2_partnerFor_34 rfl (lv_at hl 0 rfl) ?_
            refine zi_get (ci := 2) (v := .ref (ad (b + 2))) M hE hP 0 rfl rfl zu_X2 1 (by decide) zk_fl_RX2_15 rfl rfl dX2_partnerFor_35 ?_
            refine lv_iload M.1 M.2.1 dX2_partnerFor_38 (lv_at hl 5 rfl) ?_
            refine zi_iald M hE hP 2 (n := 80) (g := e2) rfl (Nat.le_of_ble_eq_true rfl) (by omega) (by omega) dX2_partnerFor_40 ?_
            have hr_6 := g_e2 i (by omega) (by omega)
            refine lv_iload_n M.1 M.2.1 dX2_partnerFor_41 rfl (lv_at hl 1 rfl) ?_
            refine zi_icmp_ne (tgt := 73) M dX2_partnerFor_42 (by decide) (by omega) (by omega) (fun c_7 => ?_) (fun c_7 => ?_)
            ·
              refine zi_iinc (lv' := [(5, .int (iI (i + 1))), (0, .ref (ad b)), (1, .int (iI x)), (2, .int (iI y)), (3, .int (iI f)), (4, .int (iI t))]) M dX2_partnerFor_73 hl 5 rfl (by decide) rfl (fun ls hl => ?_)
              refine zi_goto (tgt := 3) M dX2_partnerFor_76 (by decide) ?_
              exact ih_3 (i + 1) (by omega) (fun j h0 h1 => by rcases Int.lt_or_le j i with hj | hj; exact hno j h0 hj; (have hji : j = i := (by omega)); subst hji; unfold parP; omega) (by omega) ls (lv_sub hl [1, 2, 3, 4, 5, 0] rfl)
            ·
              refine lv_aload_n M.1 M.2.1 dX2_partnerFor_45 rfl (lv_at hl 0 rfl) ?_
              refine zi_get (ci := 2) (v := .ref (ad (b + 3))) M hE hP 0 rfl rfl zu_X2 2 (by decide) zk_fl_RX2_18 rfl rfl dX2_partnerFor_46 ?_
              refine lv_iload M.1 M.2.1 dX2_partnerFor_49 (lv_at hl 5 rfl) ?_
              refine zi_iald M hE hP 3 (n := 80) (g := e3) rfl (Nat.le_of_ble_eq_true rfl) (by omega) (by omega) dX2_partnerFor_51 ?_
              have hr_8 := g_e3 i (by omega) (by omega)
              refine lv_iload_n M.1 M.2.1 dX2_partnerFor_52 rfl (lv_at hl 3 rfl) ?_
              refine zi_icmp_ne (tgt := 73) M dX2_partnerFor_53 (by decide) (by omega) (by omega) (fun c_9 => ?_) (fun c_9 => ?_)
              ·
                refine zi_iinc (lv' := [(5, .int (iI (i + 1))), (0, .ref (ad b)), (1, .int (iI x)), (2, .int (iI y)), (3, .int (iI f)), (4, .int (iI t))]) M dX2_partnerFor_73 hl 5 rfl (by decide) rfl (fun ls hl => ?_)
                refine zi_goto (tgt := 3) M dX2_partnerFor_76 (by decide) ?_
                exact ih_3 (i + 1) (by omega) (fun j h0 h1 => by rcases Int.lt_or_le j i with hj | hj; exact hno j h0 hj; (have hji : j = i := (by omega)); subst hji; unfold parP; omega) (by omega) ls (lv_sub hl [1, 2, 3, 4, 5, 0] rfl)
              ·
                refine lv_iload M.1 M.2.1 dX2_partnerFor_56 (lv_at hl 4 rfl) ?_
                refine lv_aload_n M.1 M.2.1 dX2_partnerFor_58 rfl (lv_at hl 0 rfl) ?_
                refine zi_get (ci := 2) (v := .ref (ad (b + 4))) M hE hP 0 rfl rfl zu_X2 3 (by decide) zk_fl_RX2_21 rfl rfl dX2_partnerFor_59 ?_
                refine lv_iload M.1 M.2.1 dX2_partnerFor_62 (lv_at hl 5 rfl) ?_
                refine zi_iald M hE hP 4 (n := 80) (g := e4) rfl (Nat.le_of_ble_eq_true rfl) (by omega) (by omega) dX2_partnerFor_64 ?_
                have hr_10 := g_e4 i (by omega) (by omega)
                refine zi_isub M dX2_partnerFor_65 ?_
                refine zi_push M dX2_partnerFor_66 ?_
                refine zi_icmp_gt (tgt := 73) M dX2_partnerFor_67 (by decide) (by omega) ⟨by decide, by decide⟩ (fun c_11 => ?_) (fun c_11 => ?_)
                ·
                  refine zi_iinc (lv' := [(5, .int (iI (i + 1))), (0, .ref (ad b)), (1, .int (iI x)), (2, .int (iI y)), (3, .int (iI f)), (4, .int (iI t))]) M dX2_partnerFor_73 hl 5 rfl (by decide) rfl (fun ls hl => ?_)
                  refine zi_goto (tgt := 3) M dX2_partnerFor_76 (by decide) ?_
                  exact ih_3 (i + 1) (by omega) (fun j h0 h1 => by rcases Int.lt_or_le j i with hj | hj; exact hno j h0 hj; (have hji : j = i := (by omega)); subst hji; unfold parP; omega) (by omega) ls (lv_sub hl [1, 2, 3, 4, 5, 0] rfl)
                ·
                  refine lv_iload M.1 M.2.1 dX2_partnerFor_70 (lv_at hl 5 rfl) ?_
                  exact zr_i M hr hlk (congrArg iI (show (i : Int) = lowZ (parP e1 e2 e3 e4 e5 x y f t) em by (exact (lowZ_is (Or.inl ⟨by omega, by omega, (by unfold parP; omega), hno⟩)).symm))) dX2_partnerFor_72
  exact L_3 (Int.toNat (em - 0) + 1) 0 (by omega) (fun j h0 h1 => absurd h1 (by omega)) (by omega) ls (lv_sub hl [1, 2, 3, 4, 5, 0] rfl)

set_option maxRecDepth 100000 in
set_option maxHeartbeats 4000000 in
theorem c_X1_add (l : Launch) (D : va_G) (cy : Nat → ClassId) (z0 : Nat) (ad : Nat → Nat) (b : Nat) (cm : Int) (c1 c2 c3 c4 c5 : Int → Int) (a1 : Int) (a2 : Int) (a3 : Int) (a4 : Int) (a5 : Int) (hcm : 0 ≤ cm ∧ cm < 60) : Met l yX1_add [.code yX1_add cX1_add 6 none] (zRm 0 0 0 0) (zPc [.ref (ad b), .int (iI a1), .int (iI a2), .int (iI a3), .int (iI a4), .int (iI a5)] D cy z0 (zWl D z0 (conW ad b cy cm c1 c2 c3 c4 c5))) (zQ0 D (conW ad b cy cm c1 c2 c3 c4 c5) (fun (_ : Unit) => True) (fun (_ : Unit) => (conW ad b cy (cm + 1) (zu c1 cm a1) (zu c2 cm a2) (zu c3 cm a3) (zu c4 cm a4) (zu c5 cm a5)))) 0 0 (zIn (conW ad b cy cm c1 c2 c3 c4 c5)) := by
  refine z_of (by decide) (Nat.le_of_ble_eq_true rfl) ?_
  intro p e s m args below meth c M hr hlk hini hargs hP0 hE ls hl
  have hP : va_P D vwCl (conW ad b cy cm c1 c2 c3 c4 c5) s.heap := hP0.1
  have hD : va_D (zIn (conW ad b cy cm c1 c2 c3 c4 c5)) (conW ad b cy cm c1 c2 c3 c4 c5) := hP0.self
  have hAz := hP0.A
  have hS : va_S (zIn (conW ad b cy cm c1 c2 c3 c4 c5)) s.heap s.heap [] := va_S.rf
  have hl : lv_has ls 6 [(0, .ref (ad b)), (1, .int (iI a1)), (2, .int (iI a2)), (3, .int (iI a3)), (4, .int (iI a4)), (5, .int (iI a5))] := hl
  refine lv_aload_n M.1 M.2.1 dX1_add_0 rfl (lv_at hl 0 rfl) ?_
  refine zi_get (ci := 1) (v := .ref (ad (b + 1))) M hE hP 0 rfl rfl zu_X1 0 (by decide) zk_fl_RX1_9 rfl rfl dX1_add_1 ?_
  refine lv_aload_n M.1 M.2.1 dX1_add_4 rfl (lv_at hl 0 rfl) ?_
  refine zi_get (ci := 1) (v := .int (iI cm)) M hE hP 0 rfl rfl zu_X1 5 (by decide) zk_fl_RX1_27 rfl rfl dX1_add_5 ?_
  refine lv_iload_n M.1 M.2.1 dX1_add_8 rfl (lv_at hl 1 rfl) ?_
  refine zi_iast (ws' := (conW ad b cy cm (zu c1 cm a1) c2 c3 c4 c5)) M hE hP hD hS 1 (n := 60) (g := c1) rfl (Nat.le_of_ble_eq_true rfl) (by omega) (by omega) rfl dX1_add_9 (fun H locs hP hD hS => ?_)
  refine lv_aload_n M.1 M.2.1 dX1_add_10 rfl (lv_at hl 0 rfl) ?_
  refine zi_get (ci := 1) (v := .ref (ad (b + 2))) M hE hP 0 rfl rfl zu_X1 1 (by decide) zk_fl_RX1_15 rfl rfl dX1_add_11 ?_
  refine lv_aload_n M.1 M.2.1 dX1_add_14 rfl (lv_at hl 0 rfl) ?_
  refine zi_get (ci := 1) (v := .int (iI cm)) M hE hP 0 rfl rfl zu_X1 5 (by decide) zk_fl_RX1_27 rfl rfl dX1_add_15 ?_
  refine lv_iload_n M.1 M.2.1 dX1_add_18 rfl (lv_at hl 2 rfl) ?_
  refine zi_iast (ws' := (conW ad b cy cm (zu c1 cm a1) (zu c2 cm a2) c3 c4 c5)) M hE hP hD hS 2 (n := 60) (g := c2) rfl (Nat.le_of_ble_eq_true rfl) (by omega) (by omega) rfl dX1_add_19 (fun H locs hP hD hS => ?_)
  refine lv_aload_n M.1 M.2.1 dX1_add_20 rfl (lv_at hl 0 rfl) ?_
  refine zi_get (ci := 1) (v := .ref (ad (b + 3))) M hE hP 0 rfl rfl zu_X1 2 (by decide) zk_fl_RX1_18 rfl rfl dX1_add_21 ?_
  refine lv_aload_n M.1 M.2.1 dX1_add_24 rfl (lv_at hl 0 rfl) ?_
  refine zi_get (ci := 1) (v := .int (iI cm)) M hE hP 0 rfl rfl zu_X1 5 (by decide) zk_fl_RX1_27 rfl rfl dX1_add_25 ?_
  refine lv_iload_n M.1 M.2.1 dX1_add_28 rfl (lv_at hl 3 rfl) ?_
  refine zi_iast (ws' := (conW ad b cy cm (zu c1 cm a1) (zu c2 cm a2) (zu c3 cm a3) c4 c5)) M hE hP hD hS 3 (n := 60) (g := c3) rfl (Nat.le_of_ble_eq_true rfl) (by omega) (by omega) rfl dX1_add_29 (fun H locs hP hD hS => ?_)
  refine lv_aload_n M.1 M.2.1 dX1_add_30 rfl (lv_at hl 0 rfl) ?_
  refine zi_get (ci := 1) (v := .ref (ad (b + 4))) M hE hP 0 rfl rfl zu_X1 3 (by decide) zk_fl_RX1_21 rfl rfl dX1_add_31 ?_
  refine lv_aload_n M.1 M.2.1 dX1_add_34 rfl (lv_at hl 0 rfl) ?_
  refine zi_get (ci := 1) (v := .int (iI cm)) M hE hP 0 rfl rfl zu_X1 5 (by decide) zk_fl_RX1_27 rfl rfl dX1_add_35 ?_
  refine lv_iload M.1 M.2.1 dX1_add_38 (lv_at hl 4 rfl) ?_
  refine zi_iast (ws' := (conW ad b cy cm (zu c1 cm a1) (zu c2 cm a2) (zu c3 cm a3) (zu c4 cm a4) c5)) M hE hP hD hS 4 (n := 60) (g := c4) rfl (Nat.le_of_ble_eq_true rfl) (by omega) (by omega) rfl dX1_add_40 (fun H locs hP hD hS => ?_)
  refine lv_aload_n M.1 M.2.1 dX1_add_41 rfl (lv_at hl 0 rfl) ?_
  refine zi_get (ci := 1) (v := .ref (ad (b + 5))) M hE hP 0 rfl rfl zu_X1 4 (by decide) zk_fl_RX1_24 rfl rfl dX1_add_42 ?_
  refine lv_aload_n M.1 M.2.1 dX1_add_45 rfl (lv_at hl 0 rfl) ?_
  refine zi_get (ci := 1) (v := .int (iI cm)) M hE hP 0 rfl rfl zu_X1 5 (by decide) zk_fl_RX1_27 rfl rfl dX1_add_46 ?_
  refine lv_iload M.1 M.2.1 dX1_add_49 (lv_at hl 5 rfl) ?_
  refine zi_iast (ws' := (conW ad b cy cm (zu c1 cm a1) (zu c2 cm a2) (zu c3 cm a3) (zu c4 cm a4) (zu c5 cm a5))) M hE hP hD hS 5 (n := 60) (g := c5) rfl (Nat.le_of_ble_eq_true rfl) (by omega) (by omega) rfl dX1_add_51 (fun H locs hP hD hS => ?_)
  refine lv_aload_n M.1 M.2.1 dX1_add_52 rfl (lv_at hl 0 rfl) ?_
  refine lv_dup M.1 M.2.1 dX1_add_53 rfl ?_
  refine zi_get (ci := 1) (v := .int (iI cm)) M hE hP 0 rfl rfl zu_X1 5 (by decide) zk_fl_RX1_27 rfl rfl dX1_add_54 ?_
  refine zi_push M dX1_add_57 ?_
  refine zi_iadd M dX1_add_58 ?_
  refine zi_put (ci := 1) (ws' := (conW ad b cy (cm + 1) (zu c1 cm a1) (zu c2 cm a2) (zu c3 cm a3) (zu c4 cm a4) (zu c5 cm a5))) M hE hP hD hS 0 rfl rfl zu_X1 5 (by decide) zk_fl_RX1_27 rfl rfl tyX1_ok nmX1 rfl rfl (Nat.le_of_ble_eq_true rfl) rfl dX1_add_59 (fun H locs hP hD hS => ?_)
  have hP : va_P D vwCl (conW ad b cy (cm + 1) (zu c1 cm a1) (zu c2 cm a2) (zu c3 cm a3) (zu c4 cm a4) (zu c5 cm a5)) H := hP
  exact zw_v M hr hlk () hP hS (by trivial) (by decide) (by decide) dX1_add_62

set_option maxRecDepth 100000 in
set_option maxHeartbeats 4000000 in
theorem c_X5_add (l : Launch) (D : va_G) (cy : Nat → ClassId) (z0 : Nat) (ad : Nat → Nat) (b : Nat) (n : Nat) (sm : Int) (pl pw an hd fq : Int → Int) (a1 : Int) (a2 : Int) (a3 : Int) (a4 : Int) (a5 : Int) (hcm : 0 ≤ sm ∧ sm < n) (hnn : n ≤ 2147483647) : Met l yX5_add [.code yX5_add cX5_add 7 (some .int)] (zRm 0 0 0 0) (zPc [.ref (ad b), .int (iI a1), .int (iI a2), .int (iI a3), .int (iI a4), .int (iI a5)] D cy z0 (zWl D z0 (sndW ad b cy n sm pl pw an hd fq))) (zQ1 D (sndW ad b cy n sm pl pw an hd fq) (fun (r : Int32) (_ : Unit) => r = iI sm) (fun (_ : Unit) => (sndW ad b cy n (sm + 1) (zu pl sm a1) (zu pw sm a2) (zu an sm a3) (zu hd sm a4) (zu fq sm a5)))) 0 0 (zIn (sndW ad b cy n sm pl pw an hd fq)) := by
  refine z_of (by decide) (Nat.le_of_ble_eq_true rfl) ?_
  intro p e s m args below meth c M hr hlk hini hargs hP0 hE ls hl
  have hP : va_P D vwCl (sndW ad b cy n sm pl pw an hd fq) s.heap := hP0.1
  have hD : va_D (zIn (sndW ad b cy n sm pl pw an hd fq)) (sndW ad b cy n sm pl pw an hd fq) := hP0.self
  have hAz := hP0.A
  have hS : va_S (zIn (sndW ad b cy n sm pl pw an hd fq)) s.heap s.heap [] := va_S.rf
  have hl : lv_has ls 7 [(0, .ref (ad b)), (1, .int (iI a1)), (2, .int (iI a2)), (3, .int (iI a3)), (4, .int (iI a4)), (5, .int (iI a5))] := hl
  refine lv_aload_n M.1 M.2.1 dX5_add_0 rfl (lv_at hl 0 rfl) ?_
  refine zi_get (ci := 5) (v := .int (iI sm)) M hE hP 0 rfl rfl zu_X5 5 (by decide) zk_fl_RX5_27 rfl rfl dX5_add_1 ?_
  refine lv_istore (lv' := [(6, .int (iI sm)), (0, .ref (ad b)), (1, .int (iI a1)), (2, .int (iI a2)), (3, .int (iI a3)), (4, .int (iI a4)), (5, .int (iI a5))]) M.1 M.2.1 dX5_add_4 hl (by decide) rfl (fun ls hl => ?_)
  refine lv_aload_n M.1 M.2.1 dX5_add_6 rfl (lv_at hl 1 rfl) ?_
  refine zi_get (ci := 5) (v := .ref (ad (b + 1))) M hE hP 0 rfl rfl zu_X5 0 (by decide) zk_fl_RX5_9 rfl rfl dX5_add_7 ?_
  refine lv_iload M.1 M.2.1 dX5_add_10 (lv_at hl 0 rfl) ?_
  refine lv_iload_n M.1 M.2.1 dX5_add_12 rfl (lv_at hl 2 rfl) ?_
  refine zi_iast (ws' := (sndW ad b cy n sm (zu pl sm a1) pw an hd fq)) M hE hP hD hS 1 (n := n) (g := pl) rfl hnn (by omega) (by omega) rfl dX5_add_13 (fun H locs hP hD hS => ?_)
  refine lv_aload_n M.1 M.2.1 dX5_add_14 rfl (lv_at hl 1 rfl) ?_
  refine zi_get (ci := 5) (v := .ref (ad (b + 2))) M hE hP 0 rfl rfl zu_X5 1 (by decide) zk_fl_RX5_15 rfl rfl dX5_add_15 ?_
  refine lv_iload M.1 M.2.1 dX5_add_18 (lv_at hl 0 rfl) ?_
  refine lv_iload_n M.1 M.2.1 dX5_add_20 rfl (lv_at hl 3 rfl) ?_
  refine zi_iast (ws' := (sndW ad b cy n sm (zu pl sm a1) (zu pw sm a2) an hd fq)) M hE hP hD hS 2 (n := n) (g := pw) rfl hnn (by omega) (by omega) rfl dX5_add_21 (fun H locs hP hD hS => ?_)
  refine lv_aload_n M.1 M.2.1 dX5_add_22 rfl (lv_at hl 1 rfl) ?_
  refine zi_get (ci := 5) (v := .ref (ad (b + 3))) M hE hP 0 rfl rfl zu_X5 2 (by decide) zk_fl_RX5_18 rfl rfl dX5_add_23 ?_
  refine lv_iload M.1 M.2.1 dX5_add_26 (lv_at hl 0 rfl) ?_
  refine lv_iload_n M.1 M.2.1 dX5_add_28 rfl (lv_at hl 4 rfl) ?_
  refine zi_iast (ws' := (sndW ad b cy n sm (zu pl sm a1) (zu pw sm a2) (zu an sm a3) hd fq)) M hE hP hD hS 3 (n := n) (g := an) rfl hnn (by omega) (by omega) rfl dX5_add_29 (fun H locs hP hD hS => ?_)
  refine lv_aload_n M.1 M.2.1 dX5_add_30 rfl (lv_at hl 1 rfl) ?_
  refine zi_get (ci := 5) (v := .ref (ad (b + 4))) M hE hP 0 rfl rfl zu_X5 3 (by decide) zk_fl_RX5_21 rfl rfl dX5_add_31 ?_
  refine lv_iload M.1 M.2.1 dX5_add_34 (lv_at hl 0 rfl) ?_
  refine lv_iload M.1 M.2.1 dX5_add_36 (lv_at hl 5 rfl) ?_
  refine zi_iast (ws' := (sndW ad b cy n sm (zu pl sm a1) (zu pw sm a2) (zu an sm a3) (zu hd sm a4) fq)) M hE hP hD hS 4 (n := n) (g := hd) rfl hnn (by omega) (by omega) rfl dX5_add_38 (fun H locs hP hD hS => ?_)
  refine lv_aload_n M.1 M.2.1 dX5_add_39 rfl (lv_at hl 1 rfl) ?_
  refine zi_get (ci := 5) (v := .ref (ad (b + 5))) M hE hP 0 rfl rfl zu_X5 4 (by decide) zk_fl_RX5_24 rfl rfl dX5_add_40 ?_
  refine lv_iload M.1 M.2.1 dX5_add_43 (lv_at hl 0 rfl) ?_
  refine lv_iload M.1 M.2.1 dX5_add_45 (lv_at hl 6 rfl) ?_
  refine zi_iast (ws' := (sndW ad b cy n sm (zu pl sm a1) (zu pw sm a2) (zu an sm a3) (zu hd sm a4) (zu fq sm a5))) M hE hP hD hS 5 (n := n) (g := fq) rfl hnn (by omega) (by omega) rfl dX5_add_47 (fun H locs hP hD hS => ?_)
  refine lv_aload_n M.1 M.2.1 dX5_add_48 rfl (lv_at hl 1 rfl) ?_
  refine lv_dup M.1 M.2.1 dX5_add_49 rfl ?_
  refine zi_get (ci := 5) (v := .int (iI sm)) M hE hP 0 rfl rfl zu_X5 5 (by decide) zk_fl_RX5_27 rfl rfl dX5_add_50 ?_
  refine zi_push M dX5_add_53 ?_
  refine zi_iadd M dX5_add_54 ?_
  refine zi_put (ci := 5) (ws' := (sndW ad b cy n (sm + 1) (zu pl sm a1) (zu pw sm a2) (zu an sm a3) (zu hd sm a4) (zu fq sm a5))) M hE hP hD hS 0 rfl rfl zu_X5 5 (by decide) zk_fl_RX5_27 rfl rfl tyX5_ok nmX5 rfl rfl (Nat.le_of_ble_eq_true rfl) rfl dX5_add_55 (fun H locs hP hD hS => ?_)
  refine lv_iload M.1 M.2.1 dX5_add_58 (lv_at hl 0 rfl) ?_
  have hP : va_P D vwCl (sndW ad b cy n (sm + 1) (zu pl sm a1) (zu pw sm a2) (zu an sm a3) (zu hd sm a4) (zu fq sm a5)) H := hP
  exact zw_i M hr hlk () hP hS (congrArg iI (show (sm : Int) = sm by rfl)) (by decide) (by decide) dX5_add_60

set_option maxRecDepth 100000 in
set_option maxHeartbeats 4000000 in
theorem c_X2_add (l : Launch) (D : va_G) (cy : Nat → ClassId) (z0 : Nat) (ad : Nat → Nat) (b : Nat) (em ep : Int) (e1 e2 e3 e4 e5 : Int → Int) (x : Int) (y : Int) (f : Int) (t : Int) (g_e1 : zrg 80 0 11 e1) (g_e2 : zrg 80 0 11 e2) (g_e3 : zrg 80 0 300 e3) (g_e4 : zrg 80 0 5000 e4) (g_e5 : zrg 80 (-1) 79 e5) (hem : 0 ≤ em ∧ em < 80) (hx : 0 ≤ x ∧ x ≤ 11) (hy : 0 ≤ y ∧ y ≤ 11) (hf : 10 ≤ f ∧ f ≤ 300) (ht1 : 0 ≤ t ∧ t ≤ 5000) : Met l yX2_add [.code yX2_add cX2_add 7 (some .int)] (zRm 1 0 0 25) (zPc [.ref (ad b), .int (iI x), .int (iI y), .int (iI f), .int (iI t)] D cy z0 (zWl D z0 (entW ad b cy em ep e1 e2 e3 e4 e5))) (zQ1 D (entW ad b cy em ep e1 e2 e3 e4 e5) (fun (r : Int32) (_ : Unit) => r = iI em) (fun (_ : Unit) => (entW ad b cy (em + 1) (if (lowZ (parP e1 e2 e3 e4 e5 x y f t) em) = -1 then ep else ep + 2) (zu e1 em x) (zu e2 em y) (zu e3 em f) (zu e4 em t) (zpair (zu e5 em (lowZ (parP e1 e2 e3 e4 e5 x y f t) em)) em (lowZ (parP e1 e2 e3 e4 e5 x y f t) em))))) 0 0 (zIn (entW ad b cy em ep e1 e2 e3 e4 e5)) := by
  refine z_of (by decide) (Nat.le_of_ble_eq_true rfl) ?_
  intro p e s m args below meth c M hr hlk hini hargs hP0 hE ls hl
  have hP : va_P D vwCl (entW ad b cy em ep e1 e2 e3 e4 e5) s.heap := hP0.1
  have hD : va_D (zIn (entW ad b cy em ep e1 e2 e3 e4 e5)) (entW ad b cy em ep e1 e2 e3 e4 e5) := hP0.self
  have hAz := hP0.A
  have hS : va_S (zIn (entW ad b cy em ep e1 e2 e3 e4 e5)) s.heap s.heap [] := va_S.rf
  have hl : lv_has ls 7 [(0, .ref (ad b)), (1, .int (iI x)), (2, .int (iI y)), (3, .int (iI f)), (4, .int (iI t))] := hl
  refine lv_aload_n M.1 M.2.1 dX2_add_0 rfl (lv_at hl 0 rfl) ?_
  refine zi_get (ci := 2) (v := .int (iI em)) M hE hP 0 rfl rfl zu_X2 5 (by decide) zk_fl_RX2_27 rfl rfl dX2_add_1 ?_
  refine lv_istore (lv' := [(5, .int (iI em)), (0, .ref (ad b)), (1, .int (iI x)), (2, .int (iI y)), (3, .int (iI f)), (4, .int (iI t))]) M.1 M.2.1 dX2_add_4 hl (by decide) rfl (fun ls hl => ?_)
  refine lv_aload_n M.1 M.2.1 dX2_add_6 rfl (lv_at hl 1 rfl) ?_
  refine lv_iload_n M.1 M.2.1 dX2_add_7 rfl (lv_at hl 2 rfl) ?_
  refine lv_iload_n M.1 M.2.1 dX2_add_8 rfl (lv_at hl 3 rfl) ?_
  refine lv_iload_n M.1 M.2.1 dX2_add_9 rfl (lv_at hl 4 rfl) ?_
  refine lv_iload M.1 M.2.1 dX2_add_10 (lv_at hl 5 rfl) ?_
  refine z_cR (z_runV (As := [.int (iI x), .int (iI y), .int (iI f), .int (iI t)]) (rest := []) M (c_X2_partnerFor l D cy z0 ad b em ep e1 e2 e3 e4 e5 x y f t g_e1 g_e2 g_e3 g_e4 g_e5 (by omega) (by omega) (by omega) (by omega) (by omega)) hE hS hAz hP (zRc.of (ci := 2) (q0 := 0) hE hP rfl rfl) zk_cd_X2_partnerFor zk_in_RX2 zk_im_X2_partnerFor zk_se_X2_partnerFor zk_ml_RX2_31 rfl rfl zd_X2_partnerFor ⟨by decide, by decide⟩ rfl hl.1 rfl (Nat.le_of_ble_eq_true rfl) dX2_add_12 ⟨by decide, by decide⟩) ?_
  have hx_1 := lowZ_rg (P := parP e1 e2 e3 e4 e5 x y f t) (n := em) (by omega)
  refine lv_istore (lv' := [(6, .int (iI (lowZ (parP e1 e2 e3 e4 e5 x y f t) em))), (5, .int (iI em)), (0, .ref (ad b)), (1, .int (iI x)), (2, .int (iI y)), (3, .int (iI f)), (4, .int (iI t))]) M.1 M.2.1 dX2_add_15 hl (by decide) rfl (fun ls hl => ?_)
  refine lv_aload_n M.1 M.2.1 dX2_add_17 rfl (lv_at hl 2 rfl) ?_
  refine zi_get (ci := 2) (v := .ref (ad (b + 1))) M hE hP 0 rfl rfl zu_X2 0 (by decide) zk_fl_RX2_9 rfl rfl dX2_add_18 ?_
  refine lv_iload M.1 M.2.1 dX2_add_21 (lv_at hl 1 rfl) ?_
  refine lv_iload_n M.1 M.2.1 dX2_add_23 rfl (lv_at hl 3 rfl) ?_
  refine zi_iast (ws' := (entW ad b cy em ep (zu e1 em x) e2 e3 e4 e5)) M hE hP hD hS 1 (n := 80) (g := e1) rfl (Nat.le_of_ble_eq_true rfl) (by omega) (by omega) rfl dX2_add_24 (fun H locs hP hD hS => ?_)
  refine lv_aload_n M.1 M.2.1 dX2_add_25 rfl (lv_at hl 2 rfl) ?_
  refine zi_get (ci := 2) (v := .ref (ad (b + 2))) M hE hP 0 rfl rfl zu_X2 1 (by decide) zk_fl_RX2_15 rfl rfl dX2_add_26 ?_
  refine lv_iload M.1 M.2.1 dX2_add_29 (lv_at hl 1 rfl) ?_
  refine lv_iload_n M.1 M.2.1 dX2_add_31 rfl (lv_at hl 4 rfl) ?_
  refine zi_iast (ws' := (entW ad b cy em ep (zu e1 em x) (zu e2 em y) e3 e4 e5)) M hE hP hD hS 2 (n := 80) (g := e2) rfl (Nat.le_of_ble_eq_true rfl) (by omega) (by omega) rfl dX2_add_32 (fun H locs hP hD hS => ?_)
  refine lv_aload_n M.1 M.2.1 dX2_add_33 rfl (lv_at hl 2 rfl) ?_
  refine zi_get (ci := 2) (v := .ref (ad (b + 3))) M hE hP 0 rfl rfl zu_X2 2 (by decide) zk_fl_RX2_18 rfl rfl dX2_add_34 ?_
  refine lv_iload M.1 M.2.1 dX2_add_37 (lv_at hl 1 rfl) ?_
  refine lv_iload_n M.1 M.2.1 dX2_add_39 rfl (lv_at hl 5 rfl) ?_
  refine zi_iast (ws' := (entW ad b cy em ep (zu e1 em x) (zu e2 em y) (zu e3 em f) e4 e5)) M hE hP hD hS 3 (n := 80) (g := e3) rfl (Nat.le_of_ble_eq_true rfl) (by omega) (by omega) rfl dX2_add_40 (fun H locs hP hD hS => ?_)
  refine lv_aload_n M.1 M.2.1 dX2_add_41 rfl (lv_at hl 2 rfl) ?_
  refine zi_get (ci := 2) (v := .ref (ad (b + 4))) M hE hP 0 rfl rfl zu_X2 3 (by decide) zk_fl_RX2_21 rfl rfl dX2_add_42 ?_
  refine lv_iload M.1 M.2.1 dX2_add_45 (lv_at hl 1 rfl) ?_
  refine lv_iload M.1 M.2.1 dX2_add_47 (lv_at hl 6 rfl) ?_
  refine zi_iast (ws' := (entW ad b cy em ep (zu e1 em x) (zu e2 em y) (zu e3 em f) (zu e4 em t) e5)) M hE hP hD hS 4 (n := 80) (g := e4) rfl (Nat.le_of_ble_eq_true rfl) (by omega) (by omega) rfl dX2_add_49 (fun H locs hP hD hS => ?_)
  refine lv_aload_n M.1 M.2.1 dX2_add_50 rfl (lv_at hl 2 rfl) ?_
  refine zi_get (ci := 2) (v := .ref (ad (b + 5))) M hE hP 0 rfl rfl zu_X2 4 (by decide) zk_fl_RX2_24 rfl rfl dX2_add_51 ?_
  refine lv_iload M.1 M.2.1 dX2_add_54 (lv_at hl 1 rfl) ?_
  refine lv_iload M.1 M.2.1 dX2_add_56 (lv_at hl 0 rfl) ?_
  refine zi_iast (ws' := (entW ad b cy em ep (zu e1 em x) (zu e2 em y) (zu e3 em f) (zu e4 em t) (zu e5 em (lowZ (parP e1 e2 e3 e4 e5 x y f t) em)))) M hE hP hD hS 5 (n := 80) (g := e5) rfl (Nat.le_of_ble_eq_true rfl) (by omega) (by omega) rfl dX2_add_58 (fun H locs hP hD hS => ?_)
  refine lv_iload M.1 M.2.1 dX2_add_59 (lv_at hl 0 rfl) ?_
  refine zi_push M dX2_add_61 ?_
  refine zi_icmp_eq (tgt := 84) M dX2_add_62 (by decide) (by omega) ⟨by decide, by decide⟩ (fun c_2 => ?_) (fun c_2 => ?_)
  ·
    refine lv_aload_n M.1 M.2.1 dX2_add_84 rfl (lv_at hl 2 rfl) ?_
    refine lv_dup M.1 M.2.1 dX2_add_85 rfl ?_
    refine zi_get (ci := 2) (v := .int (iI em)) M hE hP 0 rfl rfl zu_X2 5 (by decide) zk_fl_RX2_27 rfl rfl dX2_add_86 ?_
    refine zi_push M dX2_add_89 ?_
    refine zi_iadd M dX2_add_90 ?_
    refine zi_put (ci := 2) (ws' := (entW ad b cy (em + 1) ep (zu e1 em x) (zu e2 em y) (zu e3 em f) (zu e4 em t) (zu e5 em (lowZ (parP e1 e2 e3 e4 e5 x y f t) em)))) M hE hP hD hS 0 rfl rfl zu_X2 5 (by decide) zk_fl_RX2_27 rfl rfl tyX2_ok nmX2 rfl rfl (Nat.le_of_ble_eq_true rfl) rfl dX2_add_91 (fun H locs hP hD hS => ?_)
    refine lv_iload M.1 M.2.1 dX2_add_94 (lv_at hl 1 rfl) ?_
    have q1 : zpair (zu e5 em (lowZ (parP e1 e2 e3 e4 e5 x y f t) em)) em (lowZ (parP e1 e2 e3 e4 e5 x y f t) em) = (zu e5 em (lowZ (parP e1 e2 e3 e4 e5 x y f t) em)) := if_pos (by omega)
    have q2 : (if (lowZ (parP e1 e2 e3 e4 e5 x y f t) em) = -1 then ep else ep + 2) = ep := if_pos (by omega)
    have hP : va_P D vwCl (entW ad b cy (em + 1) (if (lowZ (parP e1 e2 e3 e4 e5 x y f t) em) = -1 then ep else ep + 2) (zu e1 em x) (zu e2 em y) (zu e3 em f) (zu e4 em t) (zpair (zu e5 em (lowZ (parP e1 e2 e3 e4 e5 x y f t) em)) em (lowZ (parP e1 e2 e3 e4 e5 x y f t) em))) H := by rw [q1, q2]; exact hP
    exact zw_i M hr hlk () hP hS (congrArg iI (show (em : Int) = em by rfl)) (by decide) (by decide) dX2_add_96
  ·
    refine lv_aload_n M.1 M.2.1 dX2_add_65 rfl (lv_at hl 2 rfl) ?_
    refine zi_get (ci := 2) (v := .ref (ad (b + 5))) M hE hP 0 rfl rfl zu_X2 4 (by decide) zk_fl_RX2_24 rfl rfl dX2_add_66 ?_
    refine lv_iload M.1 M.2.1 dX2_add_69 (lv_at hl 0 rfl) ?_
    refine lv_iload M.1 M.2.1 dX2_add_71 (lv_at hl 1 rfl) ?_
    refine zi_iast (ws' := (entW ad b cy em ep (zu e1 em x) (zu e2 em y) (zu e3 em f) (zu e4 em t) (zu (zu e5 em (lowZ (parP e1 e2 e3 e4 e5 x y f t) em)) (lowZ (parP e1 e2 e3 e4 e5 x y f t) em) em))) M hE hP hD hS 5 (n := 80) (g := (zu e5 em (lowZ (parP e1 e2 e3 e4 e5 x y f t) em))) rfl (Nat.le_of_ble_eq_true rfl) (by omega) (by omega) rfl dX2_add_73 (fun H locs hP hD hS => ?_)
    refine lv_aload_n M.1 M.2.1 dX2_add_74 rfl (lv_at hl 2 rfl) ?_
    refine lv_dup M.1 M.2.1 dX2_add_75 rfl ?_
    refine zi_get (ci := 2) (v := .int (iI ep)) M hE hP 0 rfl rfl zu_X2 6 (by decide) zk_fl_RX2_35 rfl rfl dX2_add_76 ?_
    refine zi_push M dX2_add_79 ?_
    refine zi_iadd M dX2_add_80 ?_
    refine zi_put (ci := 2) (ws' := (entW ad b cy em (ep + 2) (zu e1 em x) (zu e2 em y) (zu e3 em f) (zu e4 em t) (zu (zu e5 em (lowZ (parP e1 e2 e3 e4 e5 x y f t) em)) (lowZ (parP e1 e2 e3 e4 e5 x y f t) em) em))) M hE hP hD hS 0 rfl rfl zu_X2 6 (by decide) zk_fl_RX2_35 rfl rfl tyX2_ok nmX2 rfl rfl (Nat.le_of_ble_eq_true rfl) rfl dX2_add_81 (fun H locs hP hD hS => ?_)
    refine lv_aload_n M.1 M.2.1 dX2_add_84 rfl (lv_at hl 2 rfl) ?_
    refine lv_dup M.1 M.2.1 dX2_add_85 rfl ?_
    refine zi_get (ci := 2) (v := .int (iI em)) M hE hP 0 rfl rfl zu_X2 5 (by decide) zk_fl_RX2_27 rfl rfl dX2_add_86 ?_
    refine zi_push M dX2_add_89 ?_
    refine zi_iadd M dX2_add_90 ?_
    refine zi_put (ci := 2) (ws' := (entW ad b cy (em + 1) (ep + 2) (zu e1 em x) (zu e2 em y) (zu e3 em f) (zu e4 em t) (zu (zu e5 em (lowZ (parP e1 e2 e3 e4 e5 x y f t) em)) (lowZ (parP e1 e2 e3 e4 e5 x y f t) em) em))) M hE hP hD hS 0 rfl rfl zu_X2 5 (by decide) zk_fl_RX2_27 rfl rfl tyX2_ok nmX2 rfl rfl (Nat.le_of_ble_eq_true rfl) rfl dX2_add_91 (fun H locs hP hD hS => ?_)
    refine lv_iload M.1 M.2.1 dX2_add_94 (lv_at hl 1 rfl) ?_
    have q1 : zpair (zu e5 em (lowZ (parP e1 e2 e3 e4 e5 x y f t) em)) em (lowZ (parP e1 e2 e3 e4 e5 x y f t) em) = zu (zu e5 em (lowZ (parP e1 e2 e3 e4 e5 x y f t) em)) (lowZ (parP e1 e2 e3 e4 e5 x y f t) em) em := if_neg (by omega)
    have q2 : (if (lowZ (parP e1 e2 e3 e4 e5 x y f t) em) = -1 then ep else ep + 2) = ep + 2 := if_neg (by omega)
    have hP : va_P D vwCl (entW ad b cy (em + 1) (if (lowZ (parP e1 e2 e3 e4 e5 x y f t) em) = -1 then ep else ep + 2) (zu e1 em x) (zu e2 em y) (zu e3 em f) (zu e4 em t) (zpair (zu e5 em (lowZ (parP e1 e2 e3 e4 e5 x y f t) em)) em (lowZ (parP e1 e2 e3 e4 e5 x y f t) em))) H := by rw [q1, q2]; exact hP
    exact zw_i M hr hlk () hP hS (congrArg iI (show (em : Int) = em by rfl)) (by decide) (by decide) dX2_add_96

set_option maxRecDepth 100000 in
set_option maxHeartbeats 4000000 in
theorem c_X4_leave (l : Launch) (D : va_G) (cy : Nat → ClassId) (z0 : Nat) (ad : Nat → Nat) (b : Nat) (ypl ydr yan yfr yst ylg yle ydl : Int) (a1 : Int) (a2 : Int) (a3 : Int) (a4 : Int) (a5 : Int) : Met l yX4_leave [.code yX4_leave cX4_leave 6 none] (zRm 0 0 0 0) (zPc [.ref (ad b), .int (iI a1), .int (iI a2), .int (iI a3), .int (iI a4), .int (iI a5)] D cy z0 (zWl D z0 (rayW ad b cy ypl ydr yan yfr yst ylg yle ydl))) (zQ0 D (rayW ad b cy ypl ydr yan yfr yst ylg yle ydl) (fun (_ : Unit) => True) (fun (_ : Unit) => (rayW ad b cy a1 a2 a3 a4 a5 0 0 0))) 0 0 (zIn (rayW ad b cy ypl ydr yan yfr yst ylg yle ydl)) := by
  refine z_of (by decide) (Nat.le_of_ble_eq_true rfl) ?_
  intro p e s m args below meth c M hr hlk hini hargs hP0 hE ls hl
  have hP : va_P D vwCl (rayW ad b cy ypl ydr yan yfr yst ylg yle ydl) s.heap := hP0.1
  have hD : va_D (zIn (rayW ad b cy ypl ydr yan yfr yst ylg yle ydl)) (rayW ad b cy ypl ydr yan yfr yst ylg yle ydl) := hP0.self
  have hAz := hP0.A
  have hS : va_S (zIn (rayW ad b cy ypl ydr yan yfr yst ylg yle ydl)) s.heap s.heap [] := va_S.rf
  have hl : lv_has ls 6 [(0, .ref (ad b)), (1, .int (iI a1)), (2, .int (iI a2)), (3, .int (iI a3)), (4, .int (iI a4)), (5, .int (iI a5))] := hl
  refine lv_aload_n M.1 M.2.1 dX4_leave_0 rfl (lv_at hl 0 rfl) ?_
  refine lv_iload_n M.1 M.2.1 dX4_leave_1 rfl (lv_at hl 1 rfl) ?_
  refine zi_put (ci := 4) (ws' := (rayW ad b cy a1 ydr yan yfr yst ylg yle ydl)) M hE hP hD hS 0 rfl rfl zu_X4 0 (by decide) zk_fl_RX4_9 rfl rfl tyX4_ok nmX4 rfl rfl (Nat.le_of_ble_eq_true rfl) rfl dX4_leave_2 (fun H locs hP hD hS => ?_)
  refine lv_aload_n M.1 M.2.1 dX4_leave_5 rfl (lv_at hl 0 rfl) ?_
  refine lv_iload_n M.1 M.2.1 dX4_leave_6 rfl (lv_at hl 2 rfl) ?_
  refine zi_put (ci := 4) (ws' := (rayW ad b cy a1 a2 yan yfr yst ylg yle ydl)) M hE hP hD hS 0 rfl rfl zu_X4 1 (by decide) zk_fl_RX4_15 rfl rfl tyX4_ok nmX4 rfl rfl (Nat.le_of_ble_eq_true rfl) rfl dX4_leave_7 (fun H locs hP hD hS => ?_)
  refine lv_aload_n M.1 M.2.1 dX4_leave_10 rfl (lv_at hl 0 rfl) ?_
  refine lv_iload_n M.1 M.2.1 dX4_leave_11 rfl (lv_at hl 3 rfl) ?_
  refine zi_put (ci := 4) (ws' := (rayW ad b cy a1 a2 a3 yfr yst ylg yle ydl)) M hE hP hD hS 0 rfl rfl zu_X4 2 (by decide) zk_fl_RX4_18 rfl rfl tyX4_ok nmX4 rfl rfl (Nat.le_of_ble_eq_true rfl) rfl dX4_leave_12 (fun H locs hP hD hS => ?_)
  refine lv_aload_n M.1 M.2.1 dX4_leave_15 rfl (lv_at hl 0 rfl) ?_
  refine lv_iload M.1 M.2.1 dX4_leave_16 (lv_at hl 4 rfl) ?_
  refine zi_put (ci := 4) (ws' := (rayW ad b cy a1 a2 a3 a4 yst ylg yle ydl)) M hE hP hD hS 0 rfl rfl zu_X4 3 (by decide) zk_fl_RX4_21 rfl rfl tyX4_ok nmX4 rfl rfl (Nat.le_of_ble_eq_true rfl) rfl dX4_leave_18 (fun H locs hP hD hS => ?_)
  refine lv_aload_n M.1 M.2.1 dX4_leave_21 rfl (lv_at hl 0 rfl) ?_
  refine lv_iload M.1 M.2.1 dX4_leave_22 (lv_at hl 5 rfl) ?_
  refine zi_put (ci := 4) (ws' := (rayW ad b cy a1 a2 a3 a4 a5 ylg yle ydl)) M hE hP hD hS 0 rfl rfl zu_X4 4 (by decide) zk_fl_RX4_24 rfl rfl tyX4_ok nmX4 rfl rfl (Nat.le_of_ble_eq_true rfl) rfl dX4_leave_24 (fun H locs hP hD hS => ?_)
  refine lv_aload_n M.1 M.2.1 dX4_leave_27 rfl (lv_at hl 0 rfl) ?_
  refine zi_push M dX4_leave_28 ?_
  refine zi_put (ci := 4) (ws' := (rayW ad b cy a1 a2 a3 a4 a5 0 yle ydl)) M hE hP hD hS 0 rfl rfl zu_X4 5 (by decide) zk_fl_RX4_27 rfl rfl tyX4_ok nmX4 rfl rfl (Nat.le_of_ble_eq_true rfl) rfl dX4_leave_29 (fun H locs hP hD hS => ?_)
  refine lv_aload_n M.1 M.2.1 dX4_leave_32 rfl (lv_at hl 0 rfl) ?_
  refine zi_push M dX4_leave_33 ?_
  refine zi_put (ci := 4) (ws' := (rayW ad b cy a1 a2 a3 a4 a5 0 0 ydl)) M hE hP hD hS 0 rfl rfl zu_X4 6 (by decide) zk_fl_RX4_30 rfl rfl tyX4_ok nmX4 rfl rfl (Nat.le_of_ble_eq_true rfl) rfl dX4_leave_34 (fun H locs hP hD hS => ?_)
  refine lv_aload_n M.1 M.2.1 dX4_leave_37 rfl (lv_at hl 0 rfl) ?_
  refine zi_push M dX4_leave_38 ?_
  refine zi_put (ci := 4) (ws' := (rayW ad b cy a1 a2 a3 a4 a5 0 0 0)) M hE hP hD hS 0 rfl rfl zu_X4 7 (by decide) zk_fl_RX4_33 rfl rfl tyX4_ok nmX4 rfl rfl (Nat.le_of_ble_eq_true rfl) rfl dX4_leave_39 (fun H locs hP hD hS => ?_)
  have hP : va_P D vwCl (rayW ad b cy a1 a2 a3 a4 a5 0 0 0) H := hP
  exact zw_v M hr hlk () hP hS (by trivial) (by decide) (by decide) dX4_leave_42
