/-! contracts: the model, reading -/
set_option maxRecDepth 100000 in
set_option maxHeartbeats 4000000 in
theorem c_X7_in (l : Launch) (D : va_G) (cy : Nat → ClassId) (z0 : Nat) (v : Int) (lo : Int) (hi : Int) (r_v : r32 v) (r_lo : r32 lo) (r_hi : r32 hi) : Met l yX7_in [.code yX7_in cX7_in 3 (some .boolean)] (zRm 0 0 0 0) (zPc [.int (iI v), .int (iI lo), .int (iI hi)] D cy z0 (fun _ => True)) (QcRead (iI (if lo ≤ v ∧ v ≤ hi then 1 else 0))) 0 0 (fun _ => False) := by
  refine z_of (by decide) (Nat.le_of_ble_eq_true rfl) ?_
  intro p e s m args below meth c M hr hlk _ hargs hP hE ls hl
  have hS : va_S (fun q => z0 ≤ q) s.heap s.heap [] := va_S.rf
  have hAz : ∀ q : Nat, (fun q => z0 ≤ q) q → z0 ≤ q := fun _ h => h
  have hl : lv_has ls 3 [(0, .int (iI v)), (1, .int (iI lo)), (2, .int (iI hi))] := hl
  refine lv_iload_n M.1 M.2.1 dX7_in_0 rfl (lv_at hl 0 rfl) ?_
  refine lv_iload_n M.1 M.2.1 dX7_in_1 rfl (lv_at hl 1 rfl) ?_
  refine zi_icmp_lt (tgt := 14) M dX7_in_2 (by decide) (by omega) (by omega) (fun c_1 => ?_) (fun c_1 => ?_)
  ·
    refine zi_push M dX7_in_14 ?_
    exact zr_z M hr hlk (v := 0) (show (0 : Int) = if lo ≤ v ∧ v ≤ hi then 1 else 0 by first | exact (if_pos (by omega)).symm | exact (if_neg (by omega)).symm) (Or.inl rfl) dX7_in_15
  ·
    refine lv_iload_n M.1 M.2.1 dX7_in_5 rfl (lv_at hl 0 rfl) ?_
    refine lv_iload_n M.1 M.2.1 dX7_in_6 rfl (lv_at hl 2 rfl) ?_
    refine zi_icmp_gt (tgt := 14) M dX7_in_7 (by decide) (by omega) (by omega) (fun c_2 => ?_) (fun c_2 => ?_)
    ·
      refine zi_push M dX7_in_14 ?_
      exact zr_z M hr hlk (v := 0) (show (0 : Int) = if lo ≤ v ∧ v ≤ hi then 1 else 0 by first | exact (if_pos (by omega)).symm | exact (if_neg (by omega)).symm) (Or.inl rfl) dX7_in_15
    ·
      refine zi_push M dX7_in_10 ?_
      refine zi_goto (tgt := 15) M dX7_in_11 (by decide) ?_
      exact zr_z M hr hlk (v := 1) (show (1 : Int) = if lo ≤ v ∧ v ≤ hi then 1 else 0 by first | exact (if_pos (by omega)).symm | exact (if_neg (by omega)).symm) (Or.inr rfl) dX7_in_15

set_option maxRecDepth 100000 in
set_option maxHeartbeats 4000000 in
theorem c_X7_isPlace (l : Launch) (D : va_G) (cy : Nat → ClassId) (z0 : Nat) (q : Int) (r_q : r32 q) : Met l yX7_isPlace [.code yX7_isPlace cX7_isPlace 1 (some .boolean)] (zRm 1 0 0 22) (zPc [.int (iI q)] D cy z0 (fun _ => True)) (QcRead (iI (if 0 ≤ q ∧ q ≤ 47 then 1 else 0))) 0 0 (fun _ => False) := by
  refine z_of (by decide) (Nat.le_of_ble_eq_true rfl) ?_
  intro p e s m args below meth c M hr hlk _ hargs hP hE ls hl
  have hS : va_S (fun q => z0 ≤ q) s.heap s.heap [] := va_S.rf
  have hAz : ∀ q : Nat, (fun q => z0 ≤ q) q → z0 ≤ q := fun _ h => h
  have hl : lv_has ls 1 [(0, .int (iI q))] := hl
  refine lv_iload_n M.1 M.2.1 dX7_isPlace_0 rfl (lv_at hl 0 rfl) ?_
  refine zi_push M dX7_isPlace_1 ?_
  refine zi_bipush M dX7_isPlace_2 ⟨by decide, by decide⟩ ?_
  refine z_cR (z_runS (As := [.int (iI q), .int (iI 0), .int (iI 47)]) (rest := []) M (c_X7_in l D cy z0 q 0 47 (by omega) (by omega) (by omega)) hE hS hAz trivial zk_cd_X7_in zk_in_RX7 zk_st_X7_in zk_ml_RX7_81 rfl rfl zd_X7_in ⟨by decide, by decide⟩ rfl hl.1 rfl (Nat.le_of_ble_eq_true rfl) dX7_isPlace_4 ⟨by decide, by decide⟩) ?_
  refine zi_b (P := 0 ≤ q ∧ q ≤ 47) (g := fun r => F0 m 7 ls (.int r :: [])) (fun b_1 => ?_) (fun b_1 => ?_)
  ·
    exact zr_z M hr hlk (v := 1) (show (1 : Int) = if 0 ≤ q ∧ q ≤ 47 then 1 else 0 by first | exact (if_pos (by omega)).symm | exact (if_neg (by omega)).symm) (Or.inr rfl) dX7_isPlace_7
  ·
    exact zr_z M hr hlk (v := 0) (show (0 : Int) = if 0 ≤ q ∧ q ≤ 47 then 1 else 0 by first | exact (if_pos (by omega)).symm | exact (if_neg (by omega)).symm) (Or.inl rfl) dX7_isPlace_7

set_option maxRecDepth 100000 in
set_option maxHeartbeats 4000000 in
theorem c_X7_isOn (l : Launch) (D : va_G) (cy : Nat → ClassId) (z0 : Nat) (f : Int) (r_f : r32 f) : Met l yX7_isOn [.code yX7_isOn cX7_isOn 1 (some .boolean)] (zRm 1 0 0 22) (zPc [.int (iI f)] D cy z0 (fun _ => True)) (QcRead (iI (if 10 ≤ f ∧ f ≤ 300 then 1 else 0))) 0 0 (fun _ => False) := by
  refine z_of (by decide) (Nat.le_of_ble_eq_true rfl) ?_
  intro p e s m args below meth c M hr hlk _ hargs hP hE ls hl
  have hS : va_S (fun q => z0 ≤ q) s.heap s.heap [] := va_S.rf
  have hAz : ∀ q : Nat, (fun q => z0 ≤ q) q → z0 ≤ q := fun _ h => h
  have hl : lv_has ls 1 [(0, .int (iI f))] := hl
  refine lv_iload_n M.1 M.2.1 dX7_isOn_0 rfl (lv_at hl 0 rfl) ?_
  refine zi_bipush M dX7_isOn_1 ⟨by decide, by decide⟩ ?_
  refine zi_sipush M dX7_isOn_3 ⟨by decide, by decide⟩ ?_
  refine z_cR (z_runS (As := [.int (iI f), .int (iI 10), .int (iI 300)]) (rest := []) M (c_X7_in l D cy z0 f 10 300 (by omega) (by omega) (by omega)) hE hS hAz trivial zk_cd_X7_in zk_in_RX7 zk_st_X7_in zk_ml_RX7_81 rfl rfl zd_X7_in ⟨by decide, by decide⟩ rfl hl.1 rfl (Nat.le_of_ble_eq_true rfl) dX7_isOn_6 ⟨by decide, by decide⟩) ?_
  refine zi_b (P := 10 ≤ f ∧ f ≤ 300) (g := fun r => F0 m 9 ls (.int r :: [])) (fun b_1 => ?_) (fun b_1 => ?_)
  ·
    exact zr_z M hr hlk (v := 1) (show (1 : Int) = if 10 ≤ f ∧ f ≤ 300 then 1 else 0 by first | exact (if_pos (by omega)).symm | exact (if_neg (by omega)).symm) (Or.inr rfl) dX7_isOn_9
  ·
    exact zr_z M hr hlk (v := 0) (show (0 : Int) = if 10 ≤ f ∧ f ≤ 300 then 1 else 0 by first | exact (if_pos (by omega)).symm | exact (if_neg (by omega)).symm) (Or.inl rfl) dX7_isOn_9

set_option maxRecDepth 100000 in
set_option maxHeartbeats 4000000 in
theorem c_X7_isStation (l : Launch) (D : va_G) (cy : Nat → ClassId) (z0 : Nat) (ad : Nat → Nat) (th h su st sh fl ic sn bn fm fr cm em lg le lf dl : Int) (cS cH sea noi pl pw an hd bp bo bw c1 c2 c3 c4 c5 e1 e2 e3 e4 e5 : Int → Int) (k : Int) (r_k : r32 k) (hsn : 0 ≤ sn ∧ sn ≤ 12) : Met l yX7_isStation [.code yX7_isStation cX7_isStation 2 (some .boolean)] (zRm 1 0 0 22) (zPc [.ref (ad 0), .int (iI k)] D cy z0 (fun H => va_P D vwCl (mdlW ad 0 cy th h su st sh fl ic sn bn fm fr cm em lg le lf dl cS cH sea noi pl pw an hd bp bo bw c1 c2 c3 c4 c5 e1 e2 e3 e4 e5) H)) (QcRead (iI (if 0 ≤ k ∧ k ≤ sn - 1 then 1 else 0))) 0 0 (fun _ => False) := by
  refine z_of (by decide) (Nat.le_of_ble_eq_true rfl) ?_
  intro p e s m args below meth c M hr hlk _ hargs hP hE ls hl
  have hS : va_S (fun q => z0 ≤ q) s.heap s.heap [] := va_S.rf
  have hAz : ∀ q : Nat, (fun q => z0 ≤ q) q → z0 ≤ q := fun _ h => h
  have hl : lv_has ls 2 [(0, .ref (ad 0)), (1, .int (iI k))] := hl
  refine lv_iload_n M.1 M.2.1 dX7_isStation_0 rfl (lv_at hl 1 rfl) ?_
  refine zi_push M dX7_isStation_1 ?_
  refine lv_aload_n M.1 M.2.1 dX7_isStation_2 rfl (lv_at hl 0 rfl) ?_
  refine zi_get (ci := 7) (v := .int (iI sn)) M hE hP 0 rfl rfl zu_X7 11 (by decide) zk_fl_RX7_85 rfl rfl dX7_isStation_3 ?_
  refine zi_push M dX7_isStation_6 ?_
  refine zi_isub M dX7_isStation_7 ?_
  refine z_cR (z_runS (As := [.int (iI k), .int (iI 0), .int (iI (sn - 1))]) (rest := []) M (c_X7_in l D cy z0 k 0 (sn - 1) (by omega) (by omega) (by omega)) hE hS hAz trivial zk_cd_X7_in zk_in_RX7 zk_st_X7_in zk_ml_RX7_81 rfl rfl zd_X7_in ⟨by decide, by decide⟩ rfl hl.1 rfl (Nat.le_of_ble_eq_true rfl) dX7_isStation_8 ⟨by decide, by decide⟩) ?_
  refine zi_b (P := 0 ≤ k ∧ k ≤ (sn - 1)) (g := fun r => F0 m 11 ls (.int r :: [])) (fun b_1 => ?_) (fun b_1 => ?_)
  ·
    exact zr_z M hr hlk (v := 1) (show (1 : Int) = if 0 ≤ k ∧ k ≤ sn - 1 then 1 else 0 by first | exact (if_pos (by omega)).symm | exact (if_neg (by omega)).symm) (Or.inr rfl) dX7_isStation_11
  ·
    exact zr_z M hr hlk (v := 0) (show (0 : Int) = if 0 ≤ k ∧ k ≤ sn - 1 then 1 else 0 by first | exact (if_pos (by omega)).symm | exact (if_neg (by omega)).symm) (Or.inl rfl) dX7_isStation_11

set_option maxRecDepth 100000 in
set_option maxHeartbeats 4000000 in
theorem c_X7_gap (l : Launch) (D : va_G) (cy : Nat → ClassId) (z0 : Nat) (x : Int) (y : Int) (hx : 0 ≤ x ∧ x < 48) (hy : 0 ≤ y ∧ y < 48) : Met l yX7_gap [.code yX7_gap cX7_gap 3 (some .int)] (zRm 0 0 0 0) (zPc [.int (iI x), .int (iI y)] D cy z0 (fun _ => True)) (QcRead (iI (distZ x y))) 0 0 (fun _ => False) := by
  refine z_of (by decide) (Nat.le_of_ble_eq_true rfl) ?_
  intro p e s m args below meth c M hr hlk _ hargs hP hE ls hl
  have hS : va_S (fun q => z0 ≤ q) s.heap s.heap [] := va_S.rf
  have hAz : ∀ q : Nat, (fun q => z0 ≤ q) q → z0 ≤ q := fun _ h => h
  have hl : lv_has ls 3 [(0, .int (iI x)), (1, .int (iI y))] := hl
  refine lv_iload_n M.1 M.2.1 dX7_gap_0 rfl (lv_at hl 0 rfl) ?_
  refine lv_iload_n M.1 M.2.1 dX7_gap_1 rfl (lv_at hl 1 rfl) ?_
  refine zi_icmp_le (tgt := 11) M dX7_gap_2 (by decide) (by omega) (by omega) (fun c_1 => ?_) (fun c_1 => ?_)
  ·
    refine lv_iload_n M.1 M.2.1 dX7_gap_11 rfl (lv_at hl 1 rfl) ?_
    refine lv_iload_n M.1 M.2.1 dX7_gap_12 rfl (lv_at hl 0 rfl) ?_
    refine zi_isub M dX7_gap_13 ?_
    refine lv_istore_n (lv' := [(2, .int (iI (y - x))), (0, .int (iI x)), (1, .int (iI y))]) M.1 M.2.1 dX7_gap_14 rfl hl (by decide) rfl (fun ls hl => ?_)
    refine lv_iload_n M.1 M.2.1 dX7_gap_15 rfl (lv_at hl 0 rfl) ?_
    refine zi_bipush M dX7_gap_16 ⟨by decide, by decide⟩ ?_
    refine zi_icmp_le (tgt := 28) M dX7_gap_18 (by decide) (by omega) ⟨by decide, by decide⟩ (fun c_2 => ?_) (fun c_2 => ?_)
    ·
      refine lv_iload_n M.1 M.2.1 dX7_gap_28 rfl (lv_at hl 0 rfl) ?_
      exact zr_i M hr hlk (congrArg iI (show ((y - x) : Int) = distZ x y by unfold distZ; omega)) dX7_gap_29
    ·
      refine zi_bipush M dX7_gap_21 ⟨by decide, by decide⟩ ?_
      refine lv_iload_n M.1 M.2.1 dX7_gap_23 rfl (lv_at hl 0 rfl) ?_
      refine zi_isub M dX7_gap_24 ?_
      refine zi_goto (tgt := 29) M dX7_gap_25 (by decide) ?_
      exact zr_i M hr hlk (congrArg iI (show ((48 - (y - x)) : Int) = distZ x y by unfold distZ; omega)) dX7_gap_29
  ·
    refine lv_iload_n M.1 M.2.1 dX7_gap_5 rfl (lv_at hl 0 rfl) ?_
    refine lv_iload_n M.1 M.2.1 dX7_gap_6 rfl (lv_at hl 1 rfl) ?_
    refine zi_isub M dX7_gap_7 ?_
    refine zi_goto (tgt := 14) M dX7_gap_8 (by decide) ?_
    refine lv_istore_n (lv' := [(2, .int (iI (x - y))), (0, .int (iI x)), (1, .int (iI y))]) M.1 M.2.1 dX7_gap_14 rfl hl (by decide) rfl (fun ls hl => ?_)
    refine lv_iload_n M.1 M.2.1 dX7_gap_15 rfl (lv_at hl 0 rfl) ?_
    refine zi_bipush M dX7_gap_16 ⟨by decide, by decide⟩ ?_
    refine zi_icmp_le (tgt := 28) M dX7_gap_18 (by decide) (by omega) ⟨by decide, by decide⟩ (fun c_3 => ?_) (fun c_3 => ?_)
    ·
      refine lv_iload_n M.1 M.2.1 dX7_gap_28 rfl (lv_at hl 0 rfl) ?_
      exact zr_i M hr hlk (congrArg iI (show ((x - y) : Int) = distZ x y by unfold distZ; omega)) dX7_gap_29
    ·
      refine zi_bipush M dX7_gap_21 ⟨by decide, by decide⟩ ?_
      refine lv_iload_n M.1 M.2.1 dX7_gap_23 rfl (lv_at hl 0 rfl) ?_
      refine zi_isub M dX7_gap_24 ?_
      refine zi_goto (tgt := 29) M dX7_gap_25 (by decide) ?_
      exact zr_i M hr hlk (congrArg iI (show ((48 - (x - y)) : Int) = distZ x y by unfold distZ; omega)) dX7_gap_29

set_option maxRecDepth 100000 in
set_option maxHeartbeats 4000000 in
theorem c_X7_thrown (l : Launch) (D : va_G) (cy : Nat → ClassId) (z0 : Nat) (ad : Nat → Nat) (th h su st sh fl ic sn bn fm fr cm em lg le lf dl : Int) (cS cH sea noi pl pw an hd bp bo bw c1 c2 c3 c4 c5 e1 e2 e3 e4 e5 : Int → Int) : Met l yX7_thrown [.code yX7_thrown cX7_thrown 1 (some .int)] (zRm 0 0 0 0) (zPc [.ref (ad 0)] D cy z0 (fun H => va_P D vwCl (mdlW ad 0 cy th h su st sh fl ic sn bn fm fr cm em lg le lf dl cS cH sea noi pl pw an hd bp bo bw c1 c2 c3 c4 c5 e1 e2 e3 e4 e5) H)) (QcRead (iI th)) 0 0 (fun _ => False) := by
  refine z_of (by decide) (Nat.le_of_ble_eq_true rfl) ?_
  intro p e s m args below meth c M hr hlk _ hargs hP hE ls hl
  have hS : va_S (fun q => z0 ≤ q) s.heap s.heap [] := va_S.rf
  have hAz : ∀ q : Nat, (fun q => z0 ≤ q) q → z0 ≤ q := fun _ h => h
  have hl : lv_has ls 1 [(0, .ref (ad 0))] := hl
  refine lv_aload_n M.1 M.2.1 dX7_thrown_0 rfl (lv_at hl 0 rfl) ?_
  refine zi_get (ci := 7) (v := .int (iI th)) M hE hP 0 rfl rfl zu_X7 0 (by decide) zk_fl_RX7_78 rfl rfl dX7_thrown_1 ?_
  exact zr_i M hr hlk (congrArg iI (show (th : Int) = th by rfl)) dX7_thrown_4

set_option maxRecDepth 100000 in
set_option maxHeartbeats 4000000 in
theorem c_X7_lightOf (l : Launch) (D : va_G) (cy : Nat → ClassId) (z0 : Nat) (ad : Nat → Nat) (th h su st sh fl ic sn bn fm fr cm em lg le lf dl : Int) (cS cH sea noi pl pw an hd bp bo bw c1 c2 c3 c4 c5 e1 e2 e3 e4 e5 : Int → Int) (q : Int) (k : Int) (h_h : 0 ≤ h ∧ h ≤ 5000) (hq : 0 ≤ q ∧ q < 48) (hk : 0 ≤ k ∧ k ≤ 24) : Met l yX7_lightOf [.code yX7_lightOf cX7_lightOf 5 (some .int)] (zRm 0 0 0 0) (zPc [.ref (ad 0), .int (iI q), .int (iI k)] D cy z0 (fun H => va_P D vwCl (mdlW ad 0 cy th h su st sh fl ic sn bn fm fr cm em lg le lf dl cS cH sea noi pl pw an hd bp bo bw c1 c2 c3 c4 c5 e1 e2 e3 e4 e5) H)) (QcRead (iI (lightZ (h + k) q))) 0 0 (fun _ => False) := by
  refine z_of (by decide) (Nat.le_of_ble_eq_true rfl) ?_
  intro p e s m args below meth c M hr hlk _ hargs hP hE ls hl
  have hS : va_S (fun q => z0 ≤ q) s.heap s.heap [] := va_S.rf
  have hAz : ∀ q : Nat, (fun q => z0 ≤ q) q → z0 ≤ q := fun _ h => h
  have hl : lv_has ls 5 [(0, .ref (ad 0)), (1, .int (iI q)), (2, .int (iI k))] := hl
  refine lv_aload_n M.1 M.2.1 dX7_lightOf_0 rfl (lv_at hl 0 rfl) ?_
  refine zi_get (ci := 7) (v := .int (iI h)) M hE hP 0 rfl rfl zu_X7 1 (by decide) zk_fl_RX7_104 rfl rfl dX7_lightOf_1 ?_
  refine lv_iload_n M.1 M.2.1 dX7_lightOf_4 rfl (lv_at hl 2 rfl) ?_
  refine zi_iadd M dX7_lightOf_5 ?_
  refine lv_iload_n M.1 M.2.1 dX7_lightOf_6 rfl (lv_at hl 1 rfl) ?_
  refine zi_push M dX7_lightOf_7 ?_
  refine zi_idiv M dX7_lightOf_8 (by omega) (by omega) (by omega) (by omega) ?_
  refine zi_iadd M dX7_lightOf_9 ?_
  refine zi_bipush M dX7_lightOf_10 ⟨by decide, by decide⟩ ?_
  refine zi_irem M dX7_lightOf_12 (by omega) (by omega) (by omega) (by omega) ?_
  refine zi_bipush M dX7_lightOf_13 ⟨by decide, by decide⟩ ?_
  refine zi_isub M dX7_lightOf_15 ?_
  refine lv_istore_n (lv' := [(3, .int (iI ((((h + k) + (q / 2)) % 24) - 12))), (0, .ref (ad 0)), (1, .int (iI q)), (2, .int (iI k))]) M.1 M.2.1 dX7_lightOf_16 rfl hl (by decide) rfl (fun ls hl => ?_)
  refine lv_iload_n M.1 M.2.1 dX7_lightOf_17 rfl (lv_at hl 0 rfl) ?_
  refine zi_if_ge (tgt := 26) M dX7_lightOf_18 (by decide) (by omega) (fun c_1 => ?_) (fun c_1 => ?_)
  ·
    refine lv_iload_n M.1 M.2.1 dX7_lightOf_26 rfl (lv_at hl 0 rfl) ?_
    refine lv_istore (lv' := [(4, .int (iI ((((h + k) + (q / 2)) % 24) - 12))), (3, .int (iI ((((h + k) + (q / 2)) % 24) - 12))), (0, .ref (ad 0)), (1, .int (iI q)), (2, .int (iI k))]) M.1 M.2.1 dX7_lightOf_27 hl (by decide) rfl (fun ls hl => ?_)
    refine lv_iload M.1 M.2.1 dX7_lightOf_29 (lv_at hl 0 rfl) ?_
    refine zi_bipush M dX7_lightOf_31 ⟨by decide, by decide⟩ ?_
    refine zi_icmp_ge (tgt := 44) M dX7_lightOf_33 (by decide) (by omega) ⟨by decide, by decide⟩ (fun c_2 => ?_) (fun c_2 => ?_)
    ·
      refine zi_push M dX7_lightOf_44 ?_
      exact zr_i M hr hlk (congrArg iI (show (0 : Int) = lightZ (h + k) q by unfold lightZ; omega)) dX7_lightOf_45
    ·
      refine zi_bipush M dX7_lightOf_36 ⟨by decide, by decide⟩ ?_
      refine lv_iload M.1 M.2.1 dX7_lightOf_38 (lv_at hl 0 rfl) ?_
      refine zi_isub M dX7_lightOf_40 ?_
      refine zi_goto (tgt := 45) M dX7_lightOf_41 (by decide) ?_
      exact zr_i M hr hlk (congrArg iI (show ((6 - ((((h + k) + (q / 2)) % 24) - 12)) : Int) = lightZ (h + k) q by unfold lightZ; omega)) dX7_lightOf_45
  ·
    refine lv_iload_n M.1 M.2.1 dX7_lightOf_21 rfl (lv_at hl 0 rfl) ?_
    refine zi_ineg M dX7_lightOf_22 ?_
    refine zi_goto (tgt := 27) M dX7_lightOf_23 (by decide) ?_
    refine lv_istore (lv' := [(4, .int (iI (-((((h + k) + (q / 2)) % 24) - 12)))), (3, .int (iI ((((h + k) + (q / 2)) % 24) - 12))), (0, .ref (ad 0)), (1, .int (iI q)), (2, .int (iI k))]) M.1 M.2.1 dX7_lightOf_27 hl (by decide) rfl (fun ls hl => ?_)
    refine lv_iload M.1 M.2.1 dX7_lightOf_29 (lv_at hl 0 rfl) ?_
    refine zi_bipush M dX7_lightOf_31 ⟨by decide, by decide⟩ ?_
    refine zi_icmp_ge (tgt := 44) M dX7_lightOf_33 (by decide) (by omega) ⟨by decide, by decide⟩ (fun c_3 => ?_) (fun c_3 => ?_)
    ·
      refine zi_push M dX7_lightOf_44 ?_
      exact zr_i M hr hlk (congrArg iI (show (0 : Int) = lightZ (h + k) q by unfold lightZ; omega)) dX7_lightOf_45
    ·
      refine zi_bipush M dX7_lightOf_36 ⟨by decide, by decide⟩ ?_
      refine lv_iload M.1 M.2.1 dX7_lightOf_38 (lv_at hl 0 rfl) ?_
      refine zi_isub M dX7_lightOf_40 ?_
      refine zi_goto (tgt := 45) M dX7_lightOf_41 (by decide) ?_
      exact zr_i M hr hlk (congrArg iI (show ((6 - (-((((h + k) + (q / 2)) % 24) - 12))) : Int) = lightZ (h + k) q by unfold lightZ; omega)) dX7_lightOf_45

set_option maxRecDepth 100000 in
set_option maxHeartbeats 4000000 in
theorem c_X7_dense (l : Launch) (D : va_G) (cy : Nat → ClassId) (z0 : Nat) (ad : Nat → Nat) (th h su st sh fl ic sn bn fm fr cm em lg le lf dl : Int) (cS cH sea noi pl pw an hd bp bo bw c1 c2 c3 c4 c5 e1 e2 e3 e4 e5 : Int → Int) (q : Int) (y : Int) (h_h : 0 ≤ h ∧ h ≤ 5000) (h_su : 0 ≤ su ∧ su ≤ 100) (h_st : 0 ≤ st ∧ st ≤ 60) (h_fl : 0 ≤ fl ∧ fl ≤ 80) (h_cS : zrg 48 0 100 cS) (h_ic : 0 ≤ ic ∧ ic ≤ 1) (hq : 0 ≤ q ∧ q < 48) (hy : 0 ≤ y ∧ y ≤ 2) : Met l yX7_dense [.code yX7_dense cX7_dense 5 (some .int)] (zRm 1 0 0 24) (zPc [.ref (ad 0), .int (iI q), .int (iI y)] D cy z0 (fun H => va_P D vwCl (mdlW ad 0 cy th h su st sh fl ic sn bn fm fr cm em lg le lf dl cS cH sea noi pl pw an hd bp bo bw c1 c2 c3 c4 c5 e1 e2 e3 e4 e5) H)) (QcRead (iI (tell3 (mdD ic h fl) (mdE ic h cS) (mdF ic h su st) y q))) 0 0 (fun _ => False) := by
  refine z_of (by decide) (Nat.le_of_ble_eq_true rfl) ?_
  intro p e s m args below meth c M hr hlk _ hargs hP hE ls hl
  have hS : va_S (fun q => z0 ≤ q) s.heap s.heap [] := va_S.rf
  have hAz : ∀ q : Nat, (fun q => z0 ≤ q) q → z0 ≤ q := fun _ h => h
  have hl : lv_has ls 5 [(0, .ref (ad 0)), (1, .int (iI q)), (2, .int (iI y))] := hl
  have hlz := lightZ_rg h q
  rcases (by omega : y = 0 ∨ y = 1 ∨ y = 2) with rfl | rfl | rfl
  ·
    refine lv_aload_n M.1 M.2.1 dX7_dense_0 rfl (lv_at hl 0 rfl) ?_
    refine lv_iload_n M.1 M.2.1 dX7_dense_1 rfl (lv_at hl 1 rfl) ?_
    refine zi_push M dX7_dense_2 ?_
    refine z_cR (z_runV (As := [.int (iI q), .int (iI 0)]) (rest := []) M (c_X7_lightOf l D cy z0 ad th h su st sh fl ic sn bn fm fr cm em lg le lf dl cS cH sea noi pl pw an hd bp bo bw c1 c2 c3 c4 c5 e1 e2 e3 e4 e5 q 0 (by omega) (by omega) (by omega)) hE hS hAz hP (zRc.of (ci := 7) (q0 := 0) hE hP rfl rfl) zk_cd_X7_lightOf zk_in_RX7 zk_im_X7_lightOf zk_se_X7_lightOf zk_ml_RX7_110 rfl rfl zd_X7_lightOf ⟨by decide, by decide⟩ rfl hl.1 rfl (Nat.le_of_ble_eq_true rfl) dX7_dense_3 ⟨by decide, by decide⟩) ?_
    refine z_rw (b := lightZ h q) (by rw [Int.add_zero]) ?_
    have hx_1 := lightZ_rg (h + 0) q
    refine lv_istore_n (lv' := [(3, .int (iI (lightZ h q))), (0, .ref (ad 0)), (1, .int (iI q)), (2, .int (iI 0))]) M.1 M.2.1 dX7_dense_6 rfl hl (by decide) rfl (fun ls hl => ?_)
    refine lv_iload_n M.1 M.2.1 dX7_dense_7 rfl (lv_at hl 3 rfl) ?_
    refine zi_if_ne (tgt := 35) M dX7_dense_8 (by decide) ⟨by decide, by decide⟩ (fun q => absurd q (by decide)) (fun _ => ?_)
    refine zi_push M dX7_dense_11 ?_
    refine lv_iload_n M.1 M.2.1 dX7_dense_12 rfl (lv_at hl 0 rfl) ?_
    refine zi_imul M dX7_dense_13 ?_
    refine lv_iload_n M.1 M.2.1 dX7_dense_14 rfl (lv_at hl 0 rfl) ?_
    refine zi_if_le (tgt := 32) M dX7_dense_15 (by decide) (by omega) (fun c_2 => ?_) (fun c_2 => ?_)
    ·
      refine zi_push M dX7_dense_32 ?_
      refine zi_iadd M dX7_dense_33 ?_
      exact zr_i M hr hlk (congrArg iI (show (((2 * lightZ h q) + 0) : Int) = tell3 (mdD ic h fl) (mdE ic h cS) (mdF ic h su st) 0 q by (show _ = mdD ic h fl q; simp only [mdD, dnD]; (repeat' split) <;> omega))) dX7_dense_34
    ·
      refine lv_aload_n M.1 M.2.1 dX7_dense_18 rfl (lv_at hl 1 rfl) ?_
      refine zi_get (ci := 7) (v := .int (iI ic)) M hE hP 0 rfl rfl zu_X7 10 (by decide) zk_fl_RX7_114 rfl rfl dX7_dense_19 ?_
      refine zi_if_ne (tgt := 32) M dX7_dense_22 (by decide) (by omega) (fun c_3 => ?_) (fun c_3 => ?_)
      ·
        refine zi_push M dX7_dense_32 ?_
        refine zi_iadd M dX7_dense_33 ?_
        exact zr_i M hr hlk (congrArg iI (show (((2 * lightZ h q) + 0) : Int) = tell3 (mdD ic h fl) (mdE ic h cS) (mdF ic h su st) 0 q by (show _ = mdD ic h fl q; simp only [mdD, dnD]; (repeat' split) <;> omega))) dX7_dense_34
      ·
        refine lv_aload_n M.1 M.2.1 dX7_dense_25 rfl (lv_at hl 1 rfl) ?_
        refine zi_get (ci := 7) (v := .int (iI fl)) M hE hP 0 rfl rfl zu_X7 5 (by decide) zk_fl_RX7_98 rfl rfl dX7_dense_26 ?_
        refine zi_goto (tgt := 33) M dX7_dense_29 (by decide) ?_
        refine zi_iadd M dX7_dense_33 ?_
        exact zr_i M hr hlk (congrArg iI (show (((2 * lightZ h q) + fl) : Int) = tell3 (mdD ic h fl) (mdE ic h cS) (mdF ic h su st) 0 q by (show _ = mdD ic h fl q; simp only [mdD, dnD]; (repeat' split) <;> omega))) dX7_dense_34
  ·
    refine lv_aload_n M.1 M.2.1 dX7_dense_0 rfl (lv_at hl 0 rfl) ?_
    refine lv_iload_n M.1 M.2.1 dX7_dense_1 rfl (lv_at hl 1 rfl) ?_
    refine zi_push M dX7_dense_2 ?_
    refine z_cR (z_runV (As := [.int (iI q), .int (iI 0)]) (rest := []) M (c_X7_lightOf l D cy z0 ad th h su st sh fl ic sn bn fm fr cm em lg le lf dl cS cH sea noi pl pw an hd bp bo bw c1 c2 c3 c4 c5 e1 e2 e3 e4 e5 q 0 (by omega) (by omega) (by omega)) hE hS hAz hP (zRc.of (ci := 7) (q0 := 0) hE hP rfl rfl) zk_cd_X7_lightOf zk_in_RX7 zk_im_X7_lightOf zk_se_X7_lightOf zk_ml_RX7_110 rfl rfl zd_X7_lightOf ⟨by decide, by decide⟩ rfl hl.1 rfl (Nat.le_of_ble_eq_true rfl) dX7_dense_3 ⟨by decide, by decide⟩) ?_
    refine z_rw (b := lightZ h q) (by rw [Int.add_zero]) ?_
    have hx_4 := lightZ_rg (h + 0) q
    refine lv_istore_n (lv' := [(3, .int (iI (lightZ h q))), (0, .ref (ad 0)), (1, .int (iI q)), (2, .int (iI 1))]) M.1 M.2.1 dX7_dense_6 rfl hl (by decide) rfl (fun ls hl => ?_)
    refine lv_iload_n M.1 M.2.1 dX7_dense_7 rfl (lv_at hl 3 rfl) ?_
    refine zi_if_ne (tgt := 35) M dX7_dense_8 (by decide) ⟨by decide, by decide⟩ (fun _ => ?_) (fun q => absurd q (by decide))
    refine lv_iload_n M.1 M.2.1 dX7_dense_35 rfl (lv_at hl 3 rfl) ?_
    refine zi_push M dX7_dense_36 ?_
    refine zi_icmp_ne (tgt := 66) M dX7_dense_37 (by decide) ⟨by decide, by decide⟩ ⟨by decide, by decide⟩ (fun q => absurd q (by decide)) (fun _ => ?_)
    refine zi_bipush M dX7_dense_40 ⟨by decide, by decide⟩ ?_
    refine zi_bipush M dX7_dense_42 ⟨by decide, by decide⟩ ?_
    refine lv_iload_n M.1 M.2.1 dX7_dense_44 rfl (lv_at hl 0 rfl) ?_
    refine zi_imul M dX7_dense_45 ?_
    refine zi_iadd M dX7_dense_46 ?_
    refine lv_aload_n M.1 M.2.1 dX7_dense_47 rfl (lv_at hl 1 rfl) ?_
    refine zi_get (ci := 7) (v := .int (iI ic)) M hE hP 0 rfl rfl zu_X7 10 (by decide) zk_fl_RX7_114 rfl rfl dX7_dense_48 ?_
    refine zi_if_eq (tgt := 58) M dX7_dense_51 (by decide) (by omega) (fun c_5 => ?_) (fun c_5 => ?_)
    ·
      refine lv_aload_n M.1 M.2.1 dX7_dense_58 rfl (lv_at hl 1 rfl) ?_
      refine zi_get (ci := 7) (v := .ref (ad (0 + 1))) M hE hP 0 rfl rfl zu_X7 6 (by decide) zk_fl_RX7_13 rfl rfl dX7_dense_59 ?_
      refine lv_iload_n M.1 M.2.1 dX7_dense_62 rfl (lv_at hl 2 rfl) ?_
      refine zi_iald M hE hP 1 (n := 48) (g := cS) rfl (Nat.le_of_ble_eq_true rfl) (by omega) (by omega) dX7_dense_63 ?_
      have hr_6 := h_cS q (by omega) (by omega)
      refine zi_iadd M dX7_dense_64 ?_
      exact zr_i M hr hlk (congrArg iI (show (((10 + (6 * lightZ h q)) + (cS q)) : Int) = tell3 (mdD ic h fl) (mdE ic h cS) (mdF ic h su st) 1 q by (show _ = mdE ic h cS q; simp only [mdE, dnE]; (repeat' split) <;> omega))) dX7_dense_65
    ·
      refine zi_push M dX7_dense_54 ?_
      refine zi_goto (tgt := 64) M dX7_dense_55 (by decide) ?_
      refine zi_iadd M dX7_dense_64 ?_
      exact zr_i M hr hlk (congrArg iI (show (((10 + (6 * lightZ h q)) + 0) : Int) = tell3 (mdD ic h fl) (mdE ic h cS) (mdF ic h su st) 1 q by (show _ = mdE ic h cS q; simp only [mdE, dnE]; (repeat' split) <;> omega))) dX7_dense_65
  ·
    refine lv_aload_n M.1 M.2.1 dX7_dense_0 rfl (lv_at hl 0 rfl) ?_
    refine lv_iload_n M.1 M.2.1 dX7_dense_1 rfl (lv_at hl 1 rfl) ?_
    refine zi_push M dX7_dense_2 ?_
    refine z_cR (z_runV (As := [.int (iI q), .int (iI 0)]) (rest := []) M (c_X7_lightOf l D cy z0 ad th h su st sh fl ic sn bn fm fr cm em lg le lf dl cS cH sea noi pl pw an hd bp bo bw c1 c2 c3 c4 c5 e1 e2 e3 e4 e5 q 0 (by omega) (by omega) (by omega)) hE hS hAz hP (zRc.of (ci := 7) (q0 := 0) hE hP rfl rfl) zk_cd_X7_lightOf zk_in_RX7 zk_im_X7_lightOf zk_se_X7_lightOf zk_ml_RX7_110 rfl rfl zd_X7_lightOf ⟨by decide, by decide⟩ rfl hl.1 rfl (Nat.le_of_ble_eq_true rfl) dX7_dense_3 ⟨by decide, by decide⟩) ?_
    refine z_rw (b := lightZ h q) (by rw [Int.add_zero]) ?_
    have hx_7 := lightZ_rg (h + 0) q
    refine lv_istore_n (lv' := [(3, .int (iI (lightZ h q))), (0, .ref (ad 0)), (1, .int (iI q)), (2, .int (iI 2))]) M.1 M.2.1 dX7_dense_6 rfl hl (by decide) rfl (fun ls hl => ?_)
    refine lv_iload_n M.1 M.2.1 dX7_dense_7 rfl (lv_at hl 3 rfl) ?_
    refine zi_if_ne (tgt := 35) M dX7_dense_8 (by decide) ⟨by decide, by decide⟩ (fun _ => ?_) (fun q => absurd q (by decide))
    refine lv_iload_n M.1 M.2.1 dX7_dense_35 rfl (lv_at hl 3 rfl) ?_
    refine zi_push M dX7_dense_36 ?_
    refine zi_icmp_ne (tgt := 66) M dX7_dense_37 (by decide) ⟨by decide, by decide⟩ ⟨by decide, by decide⟩ (fun _ => ?_) (fun q => absurd q (by decide))
    refine zi_bipush M dX7_dense_66 ⟨by decide, by decide⟩ ?_
    refine zi_push M dX7_dense_68 ?_
    refine lv_iload_n M.1 M.2.1 dX7_dense_69 rfl (lv_at hl 0 rfl) ?_
    refine zi_imul M dX7_dense_70 ?_
    refine zi_iadd M dX7_dense_71 ?_
    refine lv_aload_n M.1 M.2.1 dX7_dense_72 rfl (lv_at hl 1 rfl) ?_
    refine zi_get (ci := 7) (v := .int (iI su)) M hE hP 0 rfl rfl zu_X7 2 (by decide) zk_fl_RX7_7 rfl rfl dX7_dense_73 ?_
    refine lv_iload_n M.1 M.2.1 dX7_dense_76 rfl (lv_at hl 0 rfl) ?_
    refine zi_if_le (tgt := 84) M dX7_dense_77 (by decide) (by omega) (fun c_8 => ?_) (fun c_8 => ?_)
    ·
      refine zi_push M dX7_dense_84 ?_
      refine zi_idiv M dX7_dense_85 (by omega) (by omega) (by omega) (by omega) ?_
      refine zi_iadd M dX7_dense_86 ?_
      refine lv_aload_n M.1 M.2.1 dX7_dense_87 rfl (lv_at hl 1 rfl) ?_
      refine zi_get (ci := 7) (v := .int (iI ic)) M hE hP 0 rfl rfl zu_X7 10 (by decide) zk_fl_RX7_114 rfl rfl dX7_dense_88 ?_
      refine zi_if_eq (tgt := 98) M dX7_dense_91 (by decide) (by omega) (fun c_9 => ?_) (fun c_9 => ?_)
      ·
        refine lv_aload_n M.1 M.2.1 dX7_dense_98 rfl (lv_at hl 1 rfl) ?_
        refine zi_get (ci := 7) (v := .int (iI st)) M hE hP 0 rfl rfl zu_X7 3 (by decide) zk_fl_RX7_92 rfl rfl dX7_dense_99 ?_
        refine zi_isub M dX7_dense_102 ?_
        refine lv_istore (lv' := [(4, .int (iI (((30 + (5 * lightZ h q)) + (su / 4)) - st))), (3, .int (iI (lightZ h q))), (0, .ref (ad 0)), (1, .int (iI q)), (2, .int (iI 2))]) M.1 M.2.1 dX7_dense_103 hl (by decide) rfl (fun ls hl => ?_)
        refine lv_iload M.1 M.2.1 dX7_dense_105 (lv_at hl 0 rfl) ?_
        refine zi_push M dX7_dense_107 ?_
        refine zi_icmp_ge (tgt := 115) M dX7_dense_108 (by decide) (by omega) ⟨by decide, by decide⟩ (fun c_10 => ?_) (fun c_10 => ?_)
        ·
          refine lv_iload M.1 M.2.1 dX7_dense_115 (lv_at hl 0 rfl) ?_
          exact zr_i M hr hlk (congrArg iI (show ((((30 + (5 * lightZ h q)) + (su / 4)) - st) : Int) = tell3 (mdD ic h fl) (mdE ic h cS) (mdF ic h su st) 2 q by (show _ = mdF ic h su st q; simp only [mdF, dnF]; (repeat' split) <;> omega))) dX7_dense_117
        ·
          refine zi_push M dX7_dense_111 ?_
          refine zi_goto (tgt := 117) M dX7_dense_112 (by decide) ?_
          exact zr_i M hr hlk (congrArg iI (show (5 : Int) = tell3 (mdD ic h fl) (mdE ic h cS) (mdF ic h su st) 2 q by (show _ = mdF ic h su st q; simp only [mdF, dnF]; (repeat' split) <;> omega))) dX7_dense_117
      ·
        refine zi_push M dX7_dense_94 ?_
        refine zi_goto (tgt := 102) M dX7_dense_95 (by decide) ?_
        refine zi_isub M dX7_dense_102 ?_
        refine lv_istore (lv' := [(4, .int (iI (((30 + (5 * lightZ h q)) + (su / 4)) - 0))), (3, .int (iI (lightZ h q))), (0, .ref (ad 0)), (1, .int (iI q)), (2, .int (iI 2))]) M.1 M.2.1 dX7_dense_103 hl (by decide) rfl (fun ls hl => ?_)
        refine lv_iload M.1 M.2.1 dX7_dense_105 (lv_at hl 0 rfl) ?_
        refine zi_push M dX7_dense_107 ?_
        refine zi_icmp_ge (tgt := 115) M dX7_dense_108 (by decide) (by omega) ⟨by decide, by decide⟩ (fun c_11 => ?_) (fun c_11 => ?_)
        ·
          refine lv_iload M.1 M.2.1 dX7_dense_115 (lv_at hl 0 rfl) ?_
          exact zr_i M hr hlk (congrArg iI (show ((((30 + (5 * lightZ h q)) + (su / 4)) - 0) : Int) = tell3 (mdD ic h fl) (mdE ic h cS) (mdF ic h su st) 2 q by (show _ = mdF ic h su st q; simp only [mdF, dnF]; (repeat' split) <;> omega))) dX7_dense_117
        ·
          refine zi_push M dX7_dense_111 ?_
          refine zi_goto (tgt := 117) M dX7_dense_112 (by decide) ?_
          exact zr_i M hr hlk (congrArg iI (show (5 : Int) = tell3 (mdD ic h fl) (mdE ic h cS) (mdF ic h su st) 2 q by (show _ = mdF ic h su st q; simp only [mdF, dnF]; (repeat' split) <;> omega))) dX7_dense_117
    ·
      refine zi_push M dX7_dense_80 ?_
      refine zi_goto (tgt := 85) M dX7_dense_81 (by decide) ?_
      refine zi_idiv M dX7_dense_85 (by omega) (by omega) (by omega) (by omega) ?_
      refine zi_iadd M dX7_dense_86 ?_
      refine lv_aload_n M.1 M.2.1 dX7_dense_87 rfl (lv_at hl 1 rfl) ?_
      refine zi_get (ci := 7) (v := .int (iI ic)) M hE hP 0 rfl rfl zu_X7 10 (by decide) zk_fl_RX7_114 rfl rfl dX7_dense_88 ?_
      refine zi_if_eq (tgt := 98) M dX7_dense_91 (by decide) (by omega) (fun c_12 => ?_) (fun c_12 => ?_)
      ·
        refine lv_aload_n M.1 M.2.1 dX7_dense_98 rfl (lv_at hl 1 rfl) ?_
        refine zi_get (ci := 7) (v := .int (iI st)) M hE hP 0 rfl rfl zu_X7 3 (by decide) zk_fl_RX7_92 rfl rfl dX7_dense_99 ?_
        refine zi_isub M dX7_dense_102 ?_
        refine lv_istore (lv' := [(4, .int (iI (((30 + (5 * lightZ h q)) + (su / 2)) - st))), (3, .int (iI (lightZ h q))), (0, .ref (ad 0)), (1, .int (iI q)), (2, .int (iI 2))]) M.1 M.2.1 dX7_dense_103 hl (by decide) rfl (fun ls hl => ?_)
        refine lv_iload M.1 M.2.1 dX7_dense_105 (lv_at hl 0 rfl) ?_
        refine zi_push M dX7_dense_107 ?_
        refine zi_icmp_ge (tgt := 115) M dX7_dense_108 (by decide) (by omega) ⟨by decide, by decide⟩ (fun c_13 => ?_) (fun c_13 => ?_)
        ·
          refine lv_iload M.1 M.2.1 dX7_dense_115 (lv_at hl 0 rfl) ?_
          exact zr_i M hr hlk (congrArg iI (show ((((30 + (5 * lightZ h q)) + (su / 2)) - st) : Int) = tell3 (mdD ic h fl) (mdE ic h cS) (mdF ic h su st) 2 q by (show _ = mdF ic h su st q; simp only [mdF, dnF]; (repeat' split) <;> omega))) dX7_dense_117
        ·
          refine zi_push M dX7_dense_111 ?_
          refine zi_goto (tgt := 117) M dX7_dense_112 (by decide) ?_
          exact zr_i M hr hlk (congrArg iI (show (5 : Int) = tell3 (mdD ic h fl) (mdE ic h cS) (mdF ic h su st) 2 q by (show _ = mdF ic h su st q; simp only [mdF, dnF]; (repeat' split) <;> omega))) dX7_dense_117
      ·
        refine zi_push M dX7_dense_94 ?_
        refine zi_goto (tgt := 102) M dX7_dense_95 (by decide) ?_
        refine zi_isub M dX7_dense_102 ?_
        refine lv_istore (lv' := [(4, .int (iI (((30 + (5 * lightZ h q)) + (su / 2)) - 0))), (3, .int (iI (lightZ h q))), (0, .ref (ad 0)), (1, .int (iI q)), (2, .int (iI 2))]) M.1 M.2.1 dX7_dense_103 hl (by decide) rfl (fun ls hl => ?_)
        refine lv_iload M.1 M.2.1 dX7_dense_105 (lv_at hl 0 rfl) ?_
        refine zi_push M dX7_dense_107 ?_
        refine zi_icmp_ge (tgt := 115) M dX7_dense_108 (by decide) (by omega) ⟨by decide, by decide⟩ (fun c_14 => ?_) (fun c_14 => ?_)
        ·
          refine lv_iload M.1 M.2.1 dX7_dense_115 (lv_at hl 0 rfl) ?_
          exact zr_i M hr hlk (congrArg iI (show ((((30 + (5 * lightZ h q)) + (su / 2)) - 0) : Int) = tell3 (mdD ic h fl) (mdE ic h cS) (mdF ic h su st) 2 q by (show _ = mdF ic h su st q; simp only [mdF, dnF]; (repeat' split) <;> omega))) dX7_dense_117
        ·
          refine zi_push M dX7_dense_111 ?_
          refine zi_goto (tgt := 117) M dX7_dense_112 (by decide) ?_
          exact zr_i M hr hlk (congrArg iI (show (5 : Int) = tell3 (mdD ic h fl) (mdE ic h cS) (mdF ic h su st) 2 q by (show _ = mdF ic h su st q; simp only [mdF, dnF]; (repeat' split) <;> omega))) dX7_dense_117

set_option maxRecDepth 100000 in
set_option maxHeartbeats 4000000 in
theorem c_X7_on (l : Launch) (D : va_G) (cy : Nat → ClassId) (z0 : Nat) (q : Int) (g : Int) (k : Int) (hq : 0 ≤ q ∧ q < 48) (hg : 0 ≤ g ∧ g ≤ 1) (hk : 0 ≤ k ∧ k ≤ 48) : Met l yX7_on [.code yX7_on cX7_on 3 (some .int)] (zRm 0 0 0 0) (zPc [.int (iI q), .int (iI g), .int (iI k)] D cy z0 (fun _ => True)) (QcRead (iI (mvZ g q k))) 0 0 (fun _ => False) := by
  refine z_of (by decide) (Nat.le_of_ble_eq_true rfl) ?_
  intro p e s m args below meth c M hr hlk _ hargs hP hE ls hl
  have hS : va_S (fun q => z0 ≤ q) s.heap s.heap [] := va_S.rf
  have hAz : ∀ q : Nat, (fun q => z0 ≤ q) q → z0 ≤ q := fun _ h => h
  have hl : lv_has ls 3 [(0, .int (iI q)), (1, .int (iI g)), (2, .int (iI k))] := hl
  refine lv_iload_n M.1 M.2.1 dX7_on_0 rfl (lv_at hl 0 rfl) ?_
  refine lv_iload_n M.1 M.2.1 dX7_on_1 rfl (lv_at hl 1 rfl) ?_
  refine zi_if_eq (tgt := 9) M dX7_on_2 (by decide) (by omega) (fun c_1 => ?_) (fun c_1 => ?_)
  ·
    refine zi_bipush M dX7_on_9 ⟨by decide, by decide⟩ ?_
    refine lv_iload_n M.1 M.2.1 dX7_on_11 rfl (lv_at hl 2 rfl) ?_
    refine zi_isub M dX7_on_12 ?_
    refine zi_iadd M dX7_on_13 ?_
    refine zi_bipush M dX7_on_14 ⟨by decide, by decide⟩ ?_
    refine zi_irem M dX7_on_16 (by omega) (by omega) (by omega) (by omega) ?_
    exact zr_i M hr hlk (congrArg iI (show (((q + (48 - k)) % 48) : Int) = mvZ g q k by unfold mvZ; split <;> omega)) dX7_on_17
  ·
    refine lv_iload_n M.1 M.2.1 dX7_on_5 rfl (lv_at hl 2 rfl) ?_
    refine zi_goto (tgt := 13) M dX7_on_6 (by decide) ?_
    refine zi_iadd M dX7_on_13 ?_
    refine zi_bipush M dX7_on_14 ⟨by decide, by decide⟩ ?_
    refine zi_irem M dX7_on_16 (by omega) (by omega) (by omega) (by omega) ?_
    exact zr_i M hr hlk (congrArg iI (show (((q + k) % 48) : Int) = mvZ g q k by unfold mvZ; split <;> omega)) dX7_on_17

set_option maxRecDepth 100000 in
set_option maxHeartbeats 4000000 in
theorem c_X7_bends (l : Launch) (D : va_G) (cy : Nat → ClassId) (z0 : Nat) (ad : Nat → Nat) (th h su st sh fl ic sn bn fm fr cm em lg le lf dl : Int) (cS cH sea noi pl pw an hd bp bo bw c1 c2 c3 c4 c5 e1 e2 e3 e4 e5 : Int → Int) (q : Int) (y : Int) (a : Int) (f : Int) (h_h : 0 ≤ h ∧ h ≤ 5000) (h_su : 0 ≤ su ∧ su ≤ 100) (h_st : 0 ≤ st ∧ st ≤ 60) (h_fl : 0 ≤ fl ∧ fl ≤ 80) (h_cS : zrg 48 0 100 cS) (h_ic : 0 ≤ ic ∧ ic ≤ 1) (hq : 0 ≤ q ∧ q < 48) (hy : 0 ≤ y ∧ y ≤ 2) (ha : 1 ≤ a ∧ a ≤ 9) (hf : 10 ≤ f ∧ f ≤ 300) : Met l yX7_bends [.code yX7_bends cX7_bends 5 (some .boolean)] (zRm 2 0 0 48) (zPc [.ref (ad 0), .int (iI q), .int (iI y), .int (iI a), .int (iI f)] D cy z0 (fun H => va_P D vwCl (mdlW ad 0 cy th h su st sh fl ic sn bn fm fr cm em lg le lf dl cS cH sea noi pl pw an hd bp bo bw c1 c2 c3 c4 c5 e1 e2 e3 e4 e5) H)) (QcRead (iI (if 10 * f ≤ tell3 (mdD ic h fl) (mdE ic h cS) (mdF ic h su st) y q * (46 - 4 * a) then 1 else 0))) 0 0 (fun _ => False) := by
  refine z_of (by decide) (Nat.le_of_ble_eq_true rfl) ?_
  intro p e s m args below meth c M hr hlk _ hargs hP hE ls hl
  have hS : va_S (fun q => z0 ≤ q) s.heap s.heap [] := va_S.rf
  have hAz : ∀ q : Nat, (fun q => z0 ≤ q) q → z0 ≤ q := fun _ h => h
  have hl : lv_has ls 5 [(0, .ref (ad 0)), (1, .int (iI q)), (2, .int (iI y)), (3, .int (iI a)), (4, .int (iI f))] := hl
  refine zi_bipush M dX7_bends_0 ⟨by decide, by decide⟩ ?_
  refine lv_iload M.1 M.2.1 dX7_bends_2 (lv_at hl 4 rfl) ?_
  refine zi_imul M dX7_bends_4 ?_
  refine lv_aload_n M.1 M.2.1 dX7_bends_5 rfl (lv_at hl 0 rfl) ?_
  refine lv_iload_n M.1 M.2.1 dX7_bends_6 rfl (lv_at hl 1 rfl) ?_
  refine lv_iload_n M.1 M.2.1 dX7_bends_7 rfl (lv_at hl 2 rfl) ?_
  refine z_cR (z_runV (As := [.int (iI q), .int (iI y)]) (rest := [.int (iI (10 * f))]) M (c_X7_dense l D cy z0 ad th h su st sh fl ic sn bn fm fr cm em lg le lf dl cS cH sea noi pl pw an hd bp bo bw c1 c2 c3 c4 c5 e1 e2 e3 e4 e5 q y (by omega) (by omega) (by omega) (by omega) h_cS (by omega) (by omega) (by omega)) hE hS hAz hP (zRc.of (ci := 7) (q0 := 0) hE hP rfl rfl) zk_cd_X7_dense zk_in_RX7 zk_im_X7_dense zk_se_X7_dense zk_ml_RX7_118 rfl rfl zd_X7_dense ⟨by decide, by decide⟩ rfl hl.1 rfl (Nat.le_of_ble_eq_true rfl) dX7_bends_8 ⟨by decide, by decide⟩) ?_
  have hx_1 : 0 ≤ tell3 (mdD ic h fl) (mdE ic h cS) (mdF ic h su st) y q ∧ tell3 (mdD ic h fl) (mdE ic h cS) (mdF ic h su st) y q ≤ 1000 := dens_rg h_fl h_cS h_su h_st (by omega)
  have hm := mulr (d := tell3 (mdD ic h fl) (mdE ic h cS) (mdF ic h su st) y q) (k := 46 - 4 * a) (D := 1000) (K := 42) (by omega) (by omega) (by omega) (by omega)
  refine zi_bipush M dX7_bends_11 ⟨by decide, by decide⟩ ?_
  refine zi_push M dX7_bends_13 ?_
  refine lv_iload_n M.1 M.2.1 dX7_bends_14 rfl (lv_at hl 3 rfl) ?_
  refine zi_imul M dX7_bends_15 ?_
  refine zi_isub M dX7_bends_16 ?_
  refine zi_imul M dX7_bends_17 ?_
  refine zi_icmp_gt (tgt := 25) M dX7_bends_18 (by decide) (by omega) (by omega) (fun c_2 => ?_) (fun c_2 => ?_)
  ·
    refine zi_push M dX7_bends_25 ?_
    exact zr_z M hr hlk (v := 0) (show (0 : Int) = if 10 * f ≤ tell3 (mdD ic h fl) (mdE ic h cS) (mdF ic h su st) y q * (46 - 4 * a) then 1 else 0 by first | exact (if_pos (by omega)).symm | exact (if_neg (by omega)).symm) (Or.inl rfl) dX7_bends_26
  ·
    refine zi_push M dX7_bends_21 ?_
    refine zi_goto (tgt := 26) M dX7_bends_22 (by decide) ?_
    exact zr_z M hr hlk (v := 1) (show (1 : Int) = if 10 * f ≤ tell3 (mdD ic h fl) (mdE ic h cS) (mdF ic h su st) y q * (46 - 4 * a) then 1 else 0 by first | exact (if_pos (by omega)).symm | exact (if_neg (by omega)).symm) (Or.inr rfl) dX7_bends_26

set_option maxRecDepth 100000 in
set_option maxHeartbeats 4000000 in
theorem c_X7_layerOf (l : Launch) (D : va_G) (cy : Nat → ClassId) (z0 : Nat) (ad : Nat → Nat) (th h su st sh fl ic sn bn fm fr cm em lg le lf dl : Int) (cS cH sea noi pl pw an hd bp bo bw c1 c2 c3 c4 c5 e1 e2 e3 e4 e5 : Int → Int) (q : Int) (g : Int) (a : Int) (f : Int) (h_h : 0 ≤ h ∧ h ≤ 5000) (h_su : 0 ≤ su ∧ su ≤ 100) (h_st : 0 ≤ st ∧ st ≤ 60) (h_fl : 0 ≤ fl ∧ fl ≤ 80) (h_cS : zrg 48 0 100 cS) (h_ic : 0 ≤ ic ∧ ic ≤ 1) (hq : 0 ≤ q ∧ q < 48) (hg : 0 ≤ g ∧ g ≤ 1) (ha : 1 ≤ a ∧ a ≤ 9) (hf : 10 ≤ f ∧ f ≤ 300) : Met l yX7_layerOf [.code yX7_layerOf cX7_layerOf 5 (some .int)] (zRm 3 0 0 72) (zPc [.ref (ad 0), .int (iI q), .int (iI g), .int (iI a), .int (iI f)] D cy z0 (fun H => va_P D vwCl (mdlW ad 0 cy th h su st sh fl ic sn bn fm fr cm em lg le lf dl cS cH sea noi pl pw an hd bp bo bw c1 c2 c3 c4 c5 e1 e2 e3 e4 e5) H)) (QcRead (iI (lyZ (mdE ic h cS) (mdF ic h su st) g q a f))) 0 0 (fun _ => False) := by
  refine z_of (by decide) (Nat.le_of_ble_eq_true rfl) ?_
  intro p e s m args below meth c M hr hlk _ hargs hP hE ls hl
  have hS : va_S (fun q => z0 ≤ q) s.heap s.heap [] := va_S.rf
  have hAz : ∀ q : Nat, (fun q => z0 ≤ q) q → z0 ≤ q := fun _ h => h
  have hl : lv_has ls 5 [(0, .ref (ad 0)), (1, .int (iI q)), (2, .int (iI g)), (3, .int (iI a)), (4, .int (iI f))] := hl
  refine lv_aload_n M.1 M.2.1 dX7_layerOf_0 rfl (lv_at hl 0 rfl) ?_
  refine lv_iload_n M.1 M.2.1 dX7_layerOf_1 rfl (lv_at hl 1 rfl) ?_
  refine lv_iload_n M.1 M.2.1 dX7_layerOf_2 rfl (lv_at hl 2 rfl) ?_
  refine zi_bipush M dX7_layerOf_3 ⟨by decide, by decide⟩ ?_
  refine lv_iload_n M.1 M.2.1 dX7_layerOf_5 rfl (lv_at hl 3 rfl) ?_
  refine zi_isub M dX7_layerOf_6 ?_
  refine zi_push M dX7_layerOf_7 ?_
  refine zi_idiv M dX7_layerOf_8 (by omega) (by omega) (by omega) (by omega) ?_
  refine zi_push M dX7_layerOf_9 ?_
  refine zi_idiv M dX7_layerOf_10 (by omega) (by omega) (by omega) (by omega) ?_
  refine z_cR (z_runS (As := [.int (iI q), .int (iI g), .int (iI (((10 - a) / 4) / 2))]) (rest := [.ref (ad 0)]) M (c_X7_on l D cy z0 q g (((10 - a) / 4) / 2) (by omega) (by omega) (by omega)) hE hS hAz trivial zk_cd_X7_on zk_in_RX7 zk_st_X7_on zk_ml_RX7_121 rfl rfl zd_X7_on ⟨by decide, by decide⟩ rfl hl.1 rfl (Nat.le_of_ble_eq_true rfl) dX7_layerOf_11 ⟨by decide, by decide⟩) ?_
  have hx_1 := mvZ_rg g q (((10 - a) / 4) / 2)
  refine zi_push M dX7_layerOf_14 ?_
  refine lv_iload_n M.1 M.2.1 dX7_layerOf_15 rfl (lv_at hl 3 rfl) ?_
  refine lv_iload M.1 M.2.1 dX7_layerOf_16 (lv_at hl 4 rfl) ?_
  refine z_cR (z_runV (As := [.int (iI (mvZ g q (((10 - a) / 4) / 2))), .int (iI 1), .int (iI a), .int (iI f)]) (rest := []) M (c_X7_bends l D cy z0 ad th h su st sh fl ic sn bn fm fr cm em lg le lf dl cS cH sea noi pl pw an hd bp bo bw c1 c2 c3 c4 c5 e1 e2 e3 e4 e5 (mvZ g q (((10 - a) / 4) / 2)) 1 a f (by omega) (by omega) (by omega) (by omega) (by omega) (by omega) (by omega) (by omega) (by omega) (by omega)) hE hS hAz hP (zRc.of (ci := 7) (q0 := 0) hE hP rfl rfl) zk_cd_X7_bends zk_in_RX7 zk_im_X7_bends zk_se_X7_bends zk_ml_RX7_125 rfl rfl zd_X7_bends ⟨by decide, by decide⟩ rfl hl.1 rfl (Nat.le_of_ble_eq_true rfl) dX7_layerOf_18 ⟨by decide, by decide⟩) ?_
  refine zi_b (P := 10 * f ≤ tell3 (mdD ic h fl) (mdE ic h cS) (mdF ic h su st) 1 (mvZ g q (((10 - a) / 4) / 2)) * (46 - 4 * a)) (g := fun r => F0 m 21 ls (.int r :: [])) (fun b_2 => ?_) (fun b_2 => ?_)
  ·
    refine zi_if_eq (tgt := 26) M dX7_layerOf_21 (by decide) ⟨by decide, by decide⟩ (fun q => absurd q (by decide)) (fun _ => ?_)
    refine zi_push M dX7_layerOf_24 ?_
    exact zr_i M hr hlk (congrArg iI (show (1 : Int) = lyZ (mdE ic h cS) (mdF ic h su st) g q a f by (unfold lyZ bndZ; rw [if_pos (show 10 * f ≤ mdE ic h cS (mvZ g q (lenZ 1 a / 2)) * (46 - 4 * a) from b_2), if_neg (by decide)]))) dX7_layerOf_25
  ·
    refine zi_if_eq (tgt := 26) M dX7_layerOf_21 (by decide) ⟨by decide, by decide⟩ (fun _ => ?_) (fun q => absurd q (by decide))
    refine lv_aload_n M.1 M.2.1 dX7_layerOf_26 rfl (lv_at hl 0 rfl) ?_
    refine lv_iload_n M.1 M.2.1 dX7_layerOf_27 rfl (lv_at hl 1 rfl) ?_
    refine lv_iload_n M.1 M.2.1 dX7_layerOf_28 rfl (lv_at hl 2 rfl) ?_
    refine zi_bipush M dX7_layerOf_29 ⟨by decide, by decide⟩ ?_
    refine lv_iload_n M.1 M.2.1 dX7_layerOf_31 rfl (lv_at hl 3 rfl) ?_
    refine zi_isub M dX7_layerOf_32 ?_
    refine zi_push M dX7_layerOf_33 ?_
    refine zi_idiv M dX7_layerOf_34 (by omega) (by omega) (by omega) (by omega) ?_
    refine zi_push M dX7_layerOf_35 ?_
    refine zi_idiv M dX7_layerOf_36 (by omega) (by omega) (by omega) (by omega) ?_
    refine z_cR (z_runS (As := [.int (iI q), .int (iI g), .int (iI (((11 - a) / 2) / 2))]) (rest := [.ref (ad 0)]) M (c_X7_on l D cy z0 q g (((11 - a) / 2) / 2) (by omega) (by omega) (by omega)) hE hS hAz trivial zk_cd_X7_on zk_in_RX7 zk_st_X7_on zk_ml_RX7_121 rfl rfl zd_X7_on ⟨by decide, by decide⟩ rfl hl.1 rfl (Nat.le_of_ble_eq_true rfl) dX7_layerOf_37 ⟨by decide, by decide⟩) ?_
    have hx_3 := mvZ_rg g q (((11 - a) / 2) / 2)
    refine zi_push M dX7_layerOf_40 ?_
    refine lv_iload_n M.1 M.2.1 dX7_layerOf_41 rfl (lv_at hl 3 rfl) ?_
    refine lv_iload M.1 M.2.1 dX7_layerOf_42 (lv_at hl 4 rfl) ?_
    refine z_cR (z_runV (As := [.int (iI (mvZ g q (((11 - a) / 2) / 2))), .int (iI 2), .int (iI a), .int (iI f)]) (rest := []) M (c_X7_bends l D cy z0 ad th h su st sh fl ic sn bn fm fr cm em lg le lf dl cS cH sea noi pl pw an hd bp bo bw c1 c2 c3 c4 c5 e1 e2 e3 e4 e5 (mvZ g q (((11 - a) / 2) / 2)) 2 a f (by omega) (by omega) (by omega) (by omega) (by omega) (by omega) (by omega) (by omega) (by omega) (by omega)) hE hS hAz hP (zRc.of (ci := 7) (q0 := 0) hE hP rfl rfl) zk_cd_X7_bends zk_in_RX7 zk_im_X7_bends zk_se_X7_bends zk_ml_RX7_125 rfl rfl zd_X7_bends ⟨by decide, by decide⟩ rfl hl.1 rfl (Nat.le_of_ble_eq_true rfl) dX7_layerOf_44 ⟨by decide, by decide⟩) ?_
    refine zi_b (P := 10 * f ≤ tell3 (mdD ic h fl) (mdE ic h cS) (mdF ic h su st) 2 (mvZ g q (((11 - a) / 2) / 2)) * (46 - 4 * a)) (g := fun r => F0 m 47 ls (.int r :: [])) (fun b_4 => ?_) (fun b_4 => ?_)
    ·
      refine zi_if_eq (tgt := 54) M dX7_layerOf_47 (by decide) ⟨by decide, by decide⟩ (fun q => absurd q (by decide)) (fun _ => ?_)
      refine zi_push M dX7_layerOf_50 ?_
      refine zi_goto (tgt := 55) M dX7_layerOf_51 (by decide) ?_
      exact zr_i M hr hlk (congrArg iI (show (2 : Int) = lyZ (mdE ic h cS) (mdF ic h su st) g q a f by (unfold lyZ bndZ; rw [if_neg (show ¬ 10 * f ≤ mdE ic h cS (mvZ g q (lenZ 1 a / 2)) * (46 - 4 * a) from b_2), if_pos (show 10 * f ≤ mdF ic h su st (mvZ g q (lenZ 2 a / 2)) * (46 - 4 * a) from b_4), if_neg (by decide)]))) dX7_layerOf_55
    ·
      refine zi_if_eq (tgt := 54) M dX7_layerOf_47 (by decide) ⟨by decide, by decide⟩ (fun _ => ?_) (fun q => absurd q (by decide))
      refine zi_push M dX7_layerOf_54 ?_
      exact zr_i M hr hlk (congrArg iI (show (0 : Int) = lyZ (mdE ic h cS) (mdF ic h su st) g q a f by (unfold lyZ bndZ; rw [if_neg (show ¬ 10 * f ≤ mdE ic h cS (mvZ g q (lenZ 1 a / 2)) * (46 - 4 * a) from b_2), if_neg (show ¬ 10 * f ≤ mdF ic h su st (mvZ g q (lenZ 2 a / 2)) * (46 - 4 * a) from b_4), if_pos rfl]))) dX7_layerOf_55

set_option maxRecDepth 100000 in
set_option maxHeartbeats 4000000 in
theorem c_X7_lengthOf (l : Launch) (D : va_G) (cy : Nat → ClassId) (z0 : Nat) (y : Int) (a : Int) (hy : 0 ≤ y ∧ y ≤ 2) (ha : 1 ≤ a ∧ a ≤ 9) : Met l yX7_lengthOf [.code yX7_lengthOf cX7_lengthOf 2 (some .int)] (zRm 0 0 0 0) (zPc [.int (iI y), .int (iI a)] D cy z0 (fun _ => True)) (QcRead (iI (lenZ y a))) 0 0 (fun _ => False) := by
  refine z_of (by decide) (Nat.le_of_ble_eq_true rfl) ?_
  intro p e s m args below meth c M hr hlk _ hargs hP hE ls hl
  have hS : va_S (fun q => z0 ≤ q) s.heap s.heap [] := va_S.rf
  have hAz : ∀ q : Nat, (fun q => z0 ≤ q) q → z0 ≤ q := fun _ h => h
  have hl : lv_has ls 2 [(0, .int (iI y)), (1, .int (iI a))] := hl
  refine lv_iload_n M.1 M.2.1 dX7_lengthOf_0 rfl (lv_at hl 0 rfl) ?_
  refine zi_push M dX7_lengthOf_1 ?_
  refine zi_icmp_ne (tgt := 14) M dX7_lengthOf_2 (by decide) (by omega) ⟨by decide, by decide⟩ (fun c_1 => ?_) (fun c_1 => ?_)
  ·
    refine zi_bipush M dX7_lengthOf_14 ⟨by decide, by decide⟩ ?_
    refine lv_iload_n M.1 M.2.1 dX7_lengthOf_16 rfl (lv_at hl 1 rfl) ?_
    refine zi_isub M dX7_lengthOf_17 ?_
    refine zi_push M dX7_lengthOf_18 ?_
    refine zi_idiv M dX7_lengthOf_19 (by omega) (by omega) (by omega) (by omega) ?_
    exact zr_i M hr hlk (congrArg iI (show (((11 - a) / 2) : Int) = lenZ y a by simp only [lenZ]; split <;> omega)) dX7_lengthOf_20
  ·
    refine zi_bipush M dX7_lengthOf_5 ⟨by decide, by decide⟩ ?_
    refine lv_iload_n M.1 M.2.1 dX7_lengthOf_7 rfl (lv_at hl 1 rfl) ?_
    refine zi_isub M dX7_lengthOf_8 ?_
    refine zi_push M dX7_lengthOf_9 ?_
    refine zi_idiv M dX7_lengthOf_10 (by omega) (by omega) (by omega) (by omega) ?_
    refine zi_goto (tgt := 20) M dX7_lengthOf_11 (by decide) ?_
    exact zr_i M hr hlk (congrArg iI (show (((10 - a) / 4) : Int) = lenZ y a by simp only [lenZ]; split <;> omega)) dX7_lengthOf_20

set_option maxRecDepth 100000 in
set_option maxHeartbeats 4000000 in
theorem c_X7_landed (l : Launch) (D : va_G) (cy : Nat → ClassId) (z0 : Nat) (ad : Nat → Nat) (th h su st sh fl ic sn bn fm fr cm em lg le lf dl : Int) (cS cH sea noi pl pw an hd bp bo bw c1 c2 c3 c4 c5 e1 e2 e3 e4 e5 : Int → Int) (q : Int) (g : Int) (a : Int) (f : Int) (n : Int) (h_h : 0 ≤ h ∧ h ≤ 5000) (h_su : 0 ≤ su ∧ su ≤ 100) (h_st : 0 ≤ st ∧ st ≤ 60) (h_fl : 0 ≤ fl ∧ fl ≤ 80) (h_cS : zrg 48 0 100 cS) (h_ic : 0 ≤ ic ∧ ic ≤ 1) (hq : 0 ≤ q ∧ q < 48) (hg : 0 ≤ g ∧ g ≤ 1) (ha : 1 ≤ a ∧ a ≤ 9) (hf : 10 ≤ f ∧ f ≤ 300) (hn : 1 ≤ n ∧ n ≤ 10) : Met l yX7_landed [.code yX7_landed cX7_landed 9 (some .int)] (zRm 4 0 0 96) (zPc [.ref (ad 0), .int (iI q), .int (iI g), .int (iI a), .int (iI f), .int (iI n)] D cy z0 (fun H => va_P D vwCl (mdlW ad 0 cy th h su st sh fl ic sn bn fm fr cm em lg le lf dl cS cH sea noi pl pw an hd bp bo bw c1 c2 c3 c4 c5 e1 e2 e3 e4 e5) H)) (QcRead (iI (landZ (mdE ic h cS) (mdF ic h su st) g a f n.toNat q))) 0 0 (fun _ => False) := by
  refine z_of (by decide) (Nat.le_of_ble_eq_true rfl) ?_
  intro p e s m args below meth c M hr hlk _ hargs hP hE ls hl
  have hS : va_S (fun q => z0 ≤ q) s.heap s.heap [] := va_S.rf
  have hAz : ∀ q : Nat, (fun q => z0 ≤ q) q → z0 ≤ q := fun _ h => h
  have hl : lv_has ls 9 [(0, .ref (ad 0)), (1, .int (iI q)), (2, .int (iI g)), (3, .int (iI a)), (4, .int (iI f)), (5, .int (iI n))] := hl
  refine lv_iload_n M.1 M.2.1 dX7_landed_0 rfl (lv_at hl 1 rfl) ?_
  refine lv_istore (lv' := [(6, .int (iI q)), (0, .ref (ad 0)), (1, .int (iI q)), (2, .int (iI g)), (3, .int (iI a)), (4, .int (iI f)), (5, .int (iI n))]) M.1 M.2.1 dX7_landed_1 hl (by decide) rfl (fun ls hl => ?_)
  refine zi_push M dX7_landed_3 ?_
  refine lv_istore (lv' := [(7, .int (iI 0)), (6, .int (iI q)), (0, .ref (ad 0)), (1, .int (iI q)), (2, .int (iI g)), (3, .int (iI a)), (4, .int (iI f)), (5, .int (iI n))]) M.1 M.2.1 dX7_landed_4 hl (by decide) rfl (fun ls hl => ?_)
  have L_6 : ∀ (k_6 : Nat) (at_ : Int) (i : Int) (hi : 0 ≤ i ∧ i ≤ n) (hat : 0 ≤ at_ ∧ at_ < 48) (hx : landZ (mdE ic h cS) (mdF ic h su st) g a f n.toNat q = landZ (mdE ic h cS) (mdF ic h su st) g a f (n - i).toNat at_) (hm : n - i < (k_6 : Int)) (ls : Array Slot) (hl : lv_has ls 9 [(0, .ref (ad 0)), (1, .int (iI q)), (2, .int (iI g)), (3, .int (iI a)), (4, .int (iI f)), (5, .int (iI n)), (6, .int (iI at_)), (7, .int (iI i))]), W p l e (zRm 4 0 0 96) s m args below meth c s.heap [] 0 0 (MQ below (QcRead (iI (landZ (mdE ic h cS) (mdF ic h su st) g a f n.toNat q))) args s 0 0 (fun _ => False)) (F0 m 6 ls []) := by
    intro k_6
    induction k_6 with
    | zero =>
      intro at_ i hi hat hx hm ls hl
      exact absurd hm (by omega)
    | succ k_6 ih_6 =>
      intro at_ i hi hat hx hm ls hl
      refine lv_iload M.1 M.2.1 dX7_landed_6 (lv_at hl 7 rfl) ?_
      refine lv_iload M.1 M.2.1 dX7_landed_8 (lv_at hl 5 rfl) ?_
      refine zi_icmp_ge (tgt := 52) M dX7_landed_10 (by decide) (by omega) (by omega) (fun c_1 => ?_) (fun c_1 => ?_)
      ·
        refine lv_iload M.1 M.2.1 dX7_landed_52 (lv_at hl 6 rfl) ?_
        exact zr_i M hr hlk (congrArg iI (show (at_ : Int) = landZ (mdE ic h cS) (mdF ic h su st) g a f n.toNat q by (exact (landZ_e (by omega) hx).symm))) dX7_landed_54
      ·
        refine lv_aload_n M.1 M.2.1 dX7_landed_13 rfl (lv_at hl 0 rfl) ?_
        refine lv_iload M.1 M.2.1 dX7_landed_14 (lv_at hl 6 rfl) ?_
        refine lv_iload_n M.1 M.2.1 dX7_landed_16 rfl (lv_at hl 2 rfl) ?_
        refine lv_iload_n M.1 M.2.1 dX7_landed_17 rfl (lv_at hl 3 rfl) ?_
        refine lv_iload M.1 M.2.1 dX7_landed_18 (lv_at hl 4 rfl) ?_
        refine z_cR (z_runV (As := [.int (iI at_), .int (iI g), .int (iI a), .int (iI f)]) (rest := []) M (c_X7_layerOf l D cy z0 ad th h su st sh fl ic sn bn fm fr cm em lg le lf dl cS cH sea noi pl pw an hd bp bo bw c1 c2 c3 c4 c5 e1 e2 e3 e4 e5 at_ g a f (by omega) (by omega) (by omega) (by omega) (by omega) (by omega) (by omega) (by omega) (by omega) (by omega)) hE hS hAz hP (zRc.of (ci := 7) (q0 := 0) hE hP rfl rfl) zk_cd_X7_layerOf zk_in_RX7 zk_im_X7_layerOf zk_se_X7_layerOf zk_ml_RX7_141 rfl rfl zd_X7_layerOf ⟨by decide, by decide⟩ rfl hl.1 rfl (Nat.le_of_ble_eq_true rfl) dX7_landed_20 ⟨by decide, by decide⟩) ?_
        obtain ⟨yL, hyL⟩ : ∃ y : Int, y = lyZ (mdE ic h cS) (mdF ic h su st) g at_ a f := ⟨_, rfl⟩
        refine z_rw (b := yL) hyL.symm ?_
        have hyc := lyZ_c (dE := (mdE ic h cS)) (dF := (mdF ic h su st)) (ea := g) (p := at_) (a := a) (f := f)
        have hlc := legZ_c (dE := (mdE ic h cS)) (dF := (mdF ic h su st)) (ea := g) (p := at_) (a := a) (f := f) (by omega)
        rw [← hyL] at hyc
        refine lv_istore (lv' := [(8, .int (iI yL)), (0, .ref (ad 0)), (1, .int (iI q)), (2, .int (iI g)), (3, .int (iI a)), (4, .int (iI f)), (5, .int (iI n)), (6, .int (iI at_)), (7, .int (iI i))]) M.1 M.2.1 dX7_landed_23 hl (by decide) rfl (fun ls hl => ?_)
        refine lv_iload M.1 M.2.1 dX7_landed_25 (lv_at hl 0 rfl) ?_
        refine zi_if_ne (tgt := 32) M dX7_landed_27 (by decide) (by omega) (fun c_2 => ?_) (fun c_2 => ?_)
        ·
          have hbd : bndZ (mdE ic h cS) (mdF ic h su st) g at_ a f = yL := by omega
          rw [hbd] at hlc
          refine lv_iload M.1 M.2.1 dX7_landed_32 (lv_at hl 7 rfl) ?_
          refine lv_iload_n M.1 M.2.1 dX7_landed_34 rfl (lv_at hl 3 rfl) ?_
          refine lv_iload M.1 M.2.1 dX7_landed_35 (lv_at hl 0 rfl) ?_
          refine lv_iload_n M.1 M.2.1 dX7_landed_37 rfl (lv_at hl 4 rfl) ?_
          refine z_cR (z_runS (As := [.int (iI yL), .int (iI a)]) (rest := [.int (iI g), .int (iI at_)]) M (c_X7_lengthOf l D cy z0 yL a (by omega) (by omega)) hE hS hAz trivial zk_cd_X7_lengthOf zk_in_RX7 zk_st_X7_lengthOf zk_ml_RX7_145 rfl rfl zd_X7_lengthOf ⟨by decide, by decide⟩ rfl hl.1 rfl (Nat.le_of_ble_eq_true rfl) dX7_landed_38 ⟨by decide, by decide⟩) ?_
          have hx_3 := lenZ_rg yL a (by omega)
          refine z_cR (z_runS (As := [.int (iI at_), .int (iI g), .int (iI (lenZ yL a))]) (rest := []) M (c_X7_on l D cy z0 at_ g (lenZ yL a) (by omega) (by omega) (by omega)) hE hS hAz trivial zk_cd_X7_on zk_in_RX7 zk_st_X7_on zk_ml_RX7_121 rfl rfl zd_X7_on ⟨by decide, by decide⟩ rfl hl.1 rfl (Nat.le_of_ble_eq_true rfl) dX7_landed_41 ⟨by decide, by decide⟩) ?_
          have hx_4 := mvZ_rg g at_ (lenZ yL a)
          refine lv_istore (lv' := [(6, .int (iI (mvZ g at_ (lenZ yL a)))), (8, .int (iI yL)), (0, .ref (ad 0)), (1, .int (iI q)), (2, .int (iI g)), (3, .int (iI a)), (4, .int (iI f)), (5, .int (iI n)), (7, .int (iI i))]) M.1 M.2.1 dX7_landed_44 hl (by decide) rfl (fun ls hl => ?_)
          refine zi_iinc (lv' := [(7, .int (iI (i + 1))), (6, .int (iI (mvZ g at_ (lenZ yL a)))), (8, .int (iI yL)), (0, .ref (ad 0)), (1, .int (iI q)), (2, .int (iI g)), (3, .int (iI a)), (4, .int (iI f)), (5, .int (iI n))]) M dX7_landed_46 hl 8 rfl (by decide) rfl (fun ls hl => ?_)
          refine zi_goto (tgt := 6) M dX7_landed_49 (by decide) ?_
          exact ih_6 (mvZ g at_ (lenZ yL a)) (i + 1) (by omega) (mvZ_rg _ _ _) (landZ_i hi.1 (by omega) hx (by omega) (by omega)) (by omega) ls (lv_sub hl [3, 4, 5, 6, 7, 8, 1, 0] rfl)
        ·
          refine zi_push M dX7_landed_30 ?_
          exact zr_i M hr hlk (congrArg iI (show ((-1) : Int) = landZ (mdE ic h cS) (mdF ic h su st) g a f n.toNat q by (exact (landZ_x hi.1 (by omega) hx (by omega)).symm))) dX7_landed_31
  exact L_6 (Int.toNat (n - 0) + 1) q 0 (by omega) (by omega) (by rw [Int.sub_zero]) (by omega) ls (lv_sub hl [2, 3, 4, 5, 6, 7, 1, 0] rfl)
