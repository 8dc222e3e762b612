/-! contracts: needs -/
set_option maxRecDepth 100000 in
set_option maxHeartbeats 4000000 in
theorem c_X6_needPlace (l : Launch) (hst : l.stackTraces = false) (D : va_G) (cy : Nat → ClassId) (z0 : Nat) (q : Int) (r_q : r32 q) : vx_Met l yX6_needPlace [.code yX6_needPlace cX6_needPlace 1 none] (zRm 6 1 6 90) (zPc [.int (iI q)] D cy z0 (fun _ => True)) (zQn ((0 ≤ q ∧ q < 48))) (zXC (fun E => (E = eIB ∧ (¬ (0 ≤ q ∧ q < 48))))) 1 6 (fun _ => False) := by
  refine z_ofX (by decide) (Nat.le_of_ble_eq_true rfl) ?_
  intro p e s m args below meth c M hr hlk ht hargs hP0 hE ls hl
  have hS : va_S (fun q => z0 ≤ q) s.heap s.heap [] := va_S.rf
  have hAz : ∀ q : Nat, (fun q => z0 ≤ q) q → z0 ≤ q := fun _ h => h
  have hl : lv_has ls 1 [(0, .int (iI q))] := hl
  refine lv_iload_n M.1 M.2.1 dX6_needPlace_0 rfl (lv_at hl 0 rfl) ?_
  refine zi_if_lt (tgt := 10) M dX6_needPlace_1 (by decide) (by omega) (fun c_1 => ?_) (fun c_1 => ?_)
  ·
    exact zx_throwW M hst hE hS hAz (cls := eIB) (ik := 203) (is := 272) (ic := 207) (by decide +kernel) zk_cl_RX6_203 zk_in_java_lang_IndexOutOfBoundsException (by unfold zTi; decide) zat_207 zgd_207 hl.1 dX6_needPlace_10 dX6_needPlace_13 dX6_needPlace_14 dX6_needPlace_17 dX6_needPlace_20 ht (by decide) (by decide) (by decide) (by decide) hlk (fun t hA9 hz hq => ⟨⟨rfl, by omega⟩, hz, hq⟩) (fun _ h => nomatch h) (by decide) (by decide)
  ·
    refine lv_iload_n M.1 M.2.1 dX6_needPlace_4 rfl (lv_at hl 0 rfl) ?_
    refine zi_bipush M dX6_needPlace_5 ⟨by decide, by decide⟩ ?_
    refine zi_icmp_lt (tgt := 21) M dX6_needPlace_7 (by decide) (by omega) ⟨by decide, by decide⟩ (fun c_2 => ?_) (fun c_2 => ?_)
    ·
      exact zx_n M hr hlk (by omega) (by decide) (by decide) dX6_needPlace_21
    ·
      exact zx_throwW M hst hE hS hAz (cls := eIB) (ik := 203) (is := 272) (ic := 207) (by decide +kernel) zk_cl_RX6_203 zk_in_java_lang_IndexOutOfBoundsException (by unfold zTi; decide) zat_207 zgd_207 hl.1 dX6_needPlace_10 dX6_needPlace_13 dX6_needPlace_14 dX6_needPlace_17 dX6_needPlace_20 ht (by decide) (by decide) (by decide) (by decide) hlk (fun t hA9 hz hq => ⟨⟨rfl, by omega⟩, hz, hq⟩) (fun _ h => nomatch h) (by decide) (by decide)

set_option maxRecDepth 100000 in
set_option maxHeartbeats 4000000 in
theorem c_X6_needRange (l : Launch) (hst : l.stackTraces = false) (D : va_G) (cy : Nat → ClassId) (z0 : Nat) (v : Int) (lo : Int) (hi : Int) (r_v : r32 v) (r_lo : r32 lo) (r_hi : r32 hi) : vx_Met l yX6_needRange [.code yX6_needRange cX6_needRange 3 none] (zRm 6 1 6 90) (zPc [.int (iI v), .int (iI lo), .int (iI hi)] D cy z0 (fun _ => True)) (zQn ((lo ≤ v ∧ v ≤ hi))) (zXC (fun E => (E = eIA ∧ (¬ (lo ≤ v ∧ v ≤ hi))))) 1 6 (fun _ => False) := by
  refine z_ofX (by decide) (Nat.le_of_ble_eq_true rfl) ?_
  intro p e s m args below meth c M hr hlk ht hargs hP0 hE ls hl
  have hS : va_S (fun q => z0 ≤ q) s.heap s.heap [] := va_S.rf
  have hAz : ∀ q : Nat, (fun q => z0 ≤ q) q → z0 ≤ q := fun _ h => h
  have hl : lv_has ls 3 [(0, .int (iI v)), (1, .int (iI lo)), (2, .int (iI hi))] := hl
  refine lv_iload_n M.1 M.2.1 dX6_needRange_0 rfl (lv_at hl 0 rfl) ?_
  refine lv_iload_n M.1 M.2.1 dX6_needRange_1 rfl (lv_at hl 1 rfl) ?_
  refine zi_icmp_lt (tgt := 10) M dX6_needRange_2 (by decide) (by omega) (by omega) (fun c_1 => ?_) (fun c_1 => ?_)
  ·
    exact zx_throwW M hst hE hS hAz (cls := eIA) (ik := 274) (is := 276) (ic := 278) (by decide +kernel) zk_cl_RX6_274 zk_in_java_lang_IllegalArgumentException (by unfold zTi; decide) zat_278 zgd_278 hl.1 dX6_needRange_10 dX6_needRange_13 dX6_needRange_14 dX6_needRange_17 dX6_needRange_20 ht (by decide) (by decide) (by decide) (by decide) hlk (fun t hA9 hz hq => ⟨⟨rfl, by omega⟩, hz, hq⟩) (fun _ h => nomatch h) (by decide) (by decide)
  ·
    refine lv_iload_n M.1 M.2.1 dX6_needRange_5 rfl (lv_at hl 0 rfl) ?_
    refine lv_iload_n M.1 M.2.1 dX6_needRange_6 rfl (lv_at hl 2 rfl) ?_
    refine zi_icmp_le (tgt := 21) M dX6_needRange_7 (by decide) (by omega) (by omega) (fun c_2 => ?_) (fun c_2 => ?_)
    ·
      exact zx_n M hr hlk (by omega) (by decide) (by decide) dX6_needRange_21
    ·
      exact zx_throwW M hst hE hS hAz (cls := eIA) (ik := 274) (is := 276) (ic := 278) (by decide +kernel) zk_cl_RX6_274 zk_in_java_lang_IllegalArgumentException (by unfold zTi; decide) zat_278 zgd_278 hl.1 dX6_needRange_10 dX6_needRange_13 dX6_needRange_14 dX6_needRange_17 dX6_needRange_20 ht (by decide) (by decide) (by decide) (by decide) hlk (fun t hA9 hz hq => ⟨⟨rfl, by omega⟩, hz, hq⟩) (fun _ h => nomatch h) (by decide) (by decide)

set_option maxRecDepth 100000 in
set_option maxHeartbeats 4000000 in
theorem c_X6_needFrequency (l : Launch) (hst : l.stackTraces = false) (D : va_G) (cy : Nat → ClassId) (z0 : Nat) (f : Int) (r_f : r32 f) : vx_Met l yX6_needFrequency [.code yX6_needFrequency cX6_needFrequency 1 none] (zRm 7 1 6 112) (zPc [.int (iI f)] D cy z0 (fun _ => True)) (zQn ((10 ≤ f ∧ f ≤ 300))) (zXC (fun E => (E = eIA ∧ (¬ (10 ≤ f ∧ f ≤ 300))))) 1 6 (fun _ => False) := by
  refine z_ofX (by decide) (Nat.le_of_ble_eq_true rfl) ?_
  intro p e s m args below meth c M hr hlk ht hargs hP0 hE ls hl
  have hS : va_S (fun q => z0 ≤ q) s.heap s.heap [] := va_S.rf
  have hAz : ∀ q : Nat, (fun q => z0 ≤ q) q → z0 ≤ q := fun _ h => h
  have hl : lv_has ls 1 [(0, .int (iI f))] := hl
  refine lv_iload_n M.1 M.2.1 dX6_needFrequency_0 rfl (lv_at hl 0 rfl) ?_
  refine zi_bipush M dX6_needFrequency_1 ⟨by decide, by decide⟩ ?_
  refine zi_sipush M dX6_needFrequency_3 ⟨by decide, by decide⟩ ?_
  refine zx_need (zx_runS (As := [.int (iI f), .int (iI 10), .int (iI 300)]) (rest := []) M (c_X6_needRange l hst D cy z0 f 10 300 (by omega) (by omega) (by omega)) hE hS hAz trivial zk_cd_X6_needRange zk_in_RX6 zk_st_X6_needRange zk_ml_RX6_59 rfl rfl zd_X6_needRange ⟨by decide, by decide⟩ rfl hl.1 rfl (Nat.le_of_ble_eq_true rfl) dX6_needFrequency_6 ⟨by decide, by decide⟩) ht hlk (by decide) (by decide) (fun E t hA9 hC hz hq => ⟨by obtain ⟨rfl, h9⟩ := hC; exact ⟨rfl, by omega⟩, hz, hq⟩) (fun hn_1 => ?_)
  exact zx_n M hr hlk (by omega) (by decide) (by decide) dX6_needFrequency_9

set_option maxRecDepth 100000 in
set_option maxHeartbeats 4000000 in
theorem c_X6_needStrength (l : Launch) (hst : l.stackTraces = false) (D : va_G) (cy : Nat → ClassId) (z0 : Nat) (w : Int) (r_w : r32 w) : vx_Met l yX6_needStrength [.code yX6_needStrength cX6_needStrength 1 none] (zRm 7 1 6 112) (zPc [.int (iI w)] D cy z0 (fun _ => True)) (zQn ((0 ≤ w ∧ w ≤ 100))) (zXC (fun E => (E = eIA ∧ (¬ (0 ≤ w ∧ w ≤ 100))))) 1 6 (fun _ => False) := by
  refine z_ofX (by decide) (Nat.le_of_ble_eq_true rfl) ?_
  intro p e s m args below meth c M hr hlk ht hargs hP0 hE ls hl
  have hS : va_S (fun q => z0 ≤ q) s.heap s.heap [] := va_S.rf
  have hAz : ∀ q : Nat, (fun q => z0 ≤ q) q → z0 ≤ q := fun _ h => h
  have hl : lv_has ls 1 [(0, .int (iI w))] := hl
  refine lv_iload_n M.1 M.2.1 dX6_needStrength_0 rfl (lv_at hl 0 rfl) ?_
  refine zi_push M dX6_needStrength_1 ?_
  refine zi_bipush M dX6_needStrength_2 ⟨by decide, by decide⟩ ?_
  refine zx_need (zx_runS (As := [.int (iI w), .int (iI 0), .int (iI 100)]) (rest := []) M (c_X6_needRange l hst D cy z0 w 0 100 (by omega) (by omega) (by omega)) hE hS hAz trivial zk_cd_X6_needRange zk_in_RX6 zk_st_X6_needRange zk_ml_RX6_59 rfl rfl zd_X6_needRange ⟨by decide, by decide⟩ rfl hl.1 rfl (Nat.le_of_ble_eq_true rfl) dX6_needStrength_4 ⟨by decide, by decide⟩) ht hlk (by decide) (by decide) (fun E t hA9 hC hz hq => ⟨by obtain ⟨rfl, h9⟩ := hC; exact ⟨rfl, by omega⟩, hz, hq⟩) (fun hn_1 => ?_)
  exact zx_n M hr hlk (by omega) (by decide) (by decide) dX6_needStrength_7

set_option maxRecDepth 100000 in
set_option maxHeartbeats 4000000 in
theorem c_X6_needDifferent (l : Launch) (hst : l.stackTraces = false) (D : va_G) (cy : Nat → ClassId) (z0 : Nat) (x : Int) (y : Int) (r_x : r32 x) (r_y : r32 y) : vx_Met l yX6_needDifferent [.code yX6_needDifferent cX6_needDifferent 2 none] (zRm 6 1 6 90) (zPc [.int (iI x), .int (iI y)] D cy z0 (fun _ => True)) (zQn ((¬ x = y))) (zXC (fun E => (E = eIA ∧ (¬ (¬ x = y))))) 1 6 (fun _ => False) := by
  refine z_ofX (by decide) (Nat.le_of_ble_eq_true rfl) ?_
  intro p e s m args below meth c M hr hlk ht hargs hP0 hE ls hl
  have hS : va_S (fun q => z0 ≤ q) s.heap s.heap [] := va_S.rf
  have hAz : ∀ q : Nat, (fun q => z0 ≤ q) q → z0 ≤ q := fun _ h => h
  have hl : lv_has ls 2 [(0, .int (iI x)), (1, .int (iI y))] := hl
  refine lv_iload_n M.1 M.2.1 dX6_needDifferent_0 rfl (lv_at hl 0 rfl) ?_
  refine lv_iload_n M.1 M.2.1 dX6_needDifferent_1 rfl (lv_at hl 1 rfl) ?_
  refine zi_icmp_ne (tgt := 16) M dX6_needDifferent_2 (by decide) (by omega) (by omega) (fun c_1 => ?_) (fun c_1 => ?_)
  ·
    exact zx_n M hr hlk (by omega) (by decide) (by decide) dX6_needDifferent_16
  ·
    exact zx_throwW M hst hE hS hAz (cls := eIA) (ik := 274) (is := 279) (ic := 278) (by decide +kernel) zk_cl_RX6_274 zk_in_java_lang_IllegalArgumentException (by unfold zTi; decide) zat_278 zgd_278 hl.1 dX6_needDifferent_5 dX6_needDifferent_8 dX6_needDifferent_9 dX6_needDifferent_12 dX6_needDifferent_15 ht (by decide) (by decide) (by decide) (by decide) hlk (fun t hA9 hz hq => ⟨⟨rfl, by omega⟩, hz, hq⟩) (fun _ h => nomatch h) (by decide) (by decide)

set_option maxRecDepth 100000 in
set_option maxHeartbeats 4000000 in
theorem c_X6_needRay (l : Launch) (hst : l.stackTraces = false) (D : va_G) (cy : Nat → ClassId) (z0 : Nat) (q : Int) (a : Int) (f : Int) (n : Int) (r_q : r32 q) (r_a : r32 a) (r_f : r32 f) (r_n : r32 n) : vx_Met l yX6_needRay [.code yX6_needRay cX6_needRay 4 none] (zRm 8 4 24 132) (zPc [.int (iI q), .int (iI a), .int (iI f), .int (iI n)] D cy z0 (fun _ => True)) (zQn ((0 ≤ q ∧ q < 48) ∧ ((1 ≤ a ∧ a ≤ 9) ∧ (10 ≤ f ∧ f ≤ 300) ∧ (1 ≤ n ∧ n ≤ 10)))) (zXC (fun E => (E = eIB ∧ (¬ (0 ≤ q ∧ q < 48))) ∨ (E = eIA ∧ ((0 ≤ q ∧ q < 48) ∧ ¬ ((1 ≤ a ∧ a ≤ 9) ∧ (10 ≤ f ∧ f ≤ 300) ∧ (1 ≤ n ∧ n ≤ 10)))))) 4 24 (fun _ => False) := by
  refine z_ofX (by decide) (Nat.le_of_ble_eq_true rfl) ?_
  intro p e s m args below meth c M hr hlk ht hargs hP0 hE ls hl
  have hS : va_S (fun q => z0 ≤ q) s.heap s.heap [] := va_S.rf
  have hAz : ∀ q : Nat, (fun q => z0 ≤ q) q → z0 ≤ q := fun _ h => h
  have hl : lv_has ls 4 [(0, .int (iI q)), (1, .int (iI a)), (2, .int (iI f)), (3, .int (iI n))] := hl
  refine lv_iload_n M.1 M.2.1 dX6_needRay_0 rfl (lv_at hl 0 rfl) ?_
  refine zx_need (zx_runS (As := [.int (iI q)]) (rest := []) M (c_X6_needPlace l hst D cy z0 q (by omega)) hE hS hAz trivial zk_cd_X6_needPlace zk_in_RX6 zk_st_X6_needPlace zk_ml_RX6_80 rfl rfl zd_X6_needPlace ⟨by decide, by decide⟩ rfl hl.1 rfl (Nat.le_of_ble_eq_true rfl) dX6_needRay_1 ⟨by decide, by decide⟩) ht hlk (by decide) (by decide) (fun E t hA9 hC hz hq => ⟨by obtain ⟨rfl, h9⟩ := hC; exact Or.inl (⟨rfl, by omega⟩), hz, hq⟩) (fun hn_1 => ?_)
  refine lv_iload_n M.1 M.2.1 dX6_needRay_4 rfl (lv_at hl 1 rfl) ?_
  refine zi_push M dX6_needRay_5 ?_
  refine zi_bipush M dX6_needRay_6 ⟨by decide, by decide⟩ ?_
  refine zx_need (zx_runS (As := [.int (iI a), .int (iI 1), .int (iI 9)]) (rest := []) M (c_X6_needRange l hst D cy z0 a 1 9 (by omega) (by omega) (by omega)) hE hS hAz trivial zk_cd_X6_needRange zk_in_RX6 zk_st_X6_needRange zk_ml_RX6_59 rfl rfl zd_X6_needRange ⟨by decide, by decide⟩ rfl hl.1 rfl (Nat.le_of_ble_eq_true rfl) dX6_needRay_8 ⟨by decide, by decide⟩) ht hlk (by decide) (by decide) (fun E t hA9 hC hz hq => ⟨by obtain ⟨rfl, h9⟩ := hC; exact Or.inr (⟨rfl, by omega⟩), hz, hq⟩) (fun hn_2 => ?_)
  refine lv_iload_n M.1 M.2.1 dX6_needRay_11 rfl (lv_at hl 2 rfl) ?_
  refine zx_need (zx_runS (As := [.int (iI f)]) (rest := []) M (c_X6_needFrequency l hst D cy z0 f (by omega)) hE hS hAz trivial zk_cd_X6_needFrequency zk_in_RX6 zk_st_X6_needFrequency zk_ml_RX6_117 rfl rfl zd_X6_needFrequency ⟨by decide, by decide⟩ rfl hl.1 rfl (Nat.le_of_ble_eq_true rfl) dX6_needRay_12 ⟨by decide, by decide⟩) ht hlk (by decide) (by decide) (fun E t hA9 hC hz hq => ⟨by obtain ⟨rfl, h9⟩ := hC; exact Or.inr (⟨rfl, by omega⟩), hz, hq⟩) (fun hn_3 => ?_)
  refine lv_iload_n M.1 M.2.1 dX6_needRay_15 rfl (lv_at hl 3 rfl) ?_
  refine zi_push M dX6_needRay_16 ?_
  refine zi_bipush M dX6_needRay_17 ⟨by decide, by decide⟩ ?_
  refine zx_need (zx_runS (As := [.int (iI n), .int (iI 1), .int (iI 10)]) (rest := []) M (c_X6_needRange l hst D cy z0 n 1 10 (by omega) (by omega) (by omega)) hE hS hAz trivial zk_cd_X6_needRange zk_in_RX6 zk_st_X6_needRange zk_ml_RX6_59 rfl rfl zd_X6_needRange ⟨by decide, by decide⟩ rfl hl.1 rfl (Nat.le_of_ble_eq_true rfl) dX6_needRay_19 ⟨by decide, by decide⟩) ht hlk (by decide) (by decide) (fun E t hA9 hC hz hq => ⟨by obtain ⟨rfl, h9⟩ := hC; exact Or.inr (⟨rfl, by omega⟩), hz, hq⟩) (fun hn_4 => ?_)
  exact zx_n M hr hlk (by omega) (by decide) (by decide) dX6_needRay_22

set_option maxRecDepth 100000 in
set_option maxHeartbeats 4000000 in
theorem c_X6_needPath (l : Launch) (hst : l.stackTraces = false) (D : va_G) (cy : Nat → ClassId) (z0 : Nat) (q : Int) (t : Int) (f : Int) (w : Int) (r_q : r32 q) (r_t : r32 t) (r_f : r32 f) (r_w : r32 w) : vx_Met l yX6_needPath [.code yX6_needPath cX6_needPath 4 none] (zRm 8 4 24 132) (zPc [.int (iI q), .int (iI t), .int (iI f), .int (iI w)] D cy z0 (fun _ => True)) (zQn (((0 ≤ q ∧ q < 48) ∧ (0 ≤ t ∧ t < 48)) ∧ ((10 ≤ f ∧ f ≤ 300) ∧ (0 ≤ w ∧ w ≤ 100)))) (zXC (fun E => (E = eIB ∧ (¬ ((0 ≤ q ∧ q < 48) ∧ (0 ≤ t ∧ t < 48)))) ∨ (E = eIA ∧ (((0 ≤ q ∧ q < 48) ∧ (0 ≤ t ∧ t < 48)) ∧ ¬ ((10 ≤ f ∧ f ≤ 300) ∧ (0 ≤ w ∧ w ≤ 100)))))) 4 24 (fun _ => False) := by
  refine z_ofX (by decide) (Nat.le_of_ble_eq_true rfl) ?_
  intro p e s m args below meth c M hr hlk ht hargs hP0 hE ls hl
  have hS : va_S (fun q => z0 ≤ q) s.heap s.heap [] := va_S.rf
  have hAz : ∀ q : Nat, (fun q => z0 ≤ q) q → z0 ≤ q := fun _ h => h
  have hl : lv_has ls 4 [(0, .int (iI q)), (1, .int (iI t)), (2, .int (iI f)), (3, .int (iI w))] := hl
  refine lv_iload_n M.1 M.2.1 dX6_needPath_0 rfl (lv_at hl 0 rfl) ?_
  refine zx_need (zx_runS (As := [.int (iI q)]) (rest := []) M (c_X6_needPlace l hst D cy z0 q (by omega)) hE hS hAz trivial zk_cd_X6_needPlace zk_in_RX6 zk_st_X6_needPlace zk_ml_RX6_80 rfl rfl zd_X6_needPlace ⟨by decide, by decide⟩ rfl hl.1 rfl (Nat.le_of_ble_eq_true rfl) dX6_needPath_1 ⟨by decide, by decide⟩) ht hlk (by decide) (by decide) (fun E t hA9 hC hz hq => ⟨by obtain ⟨rfl, h9⟩ := hC; exact Or.inl (⟨rfl, by omega⟩), hz, hq⟩) (fun hn_1 => ?_)
  refine lv_iload_n M.1 M.2.1 dX6_needPath_4 rfl (lv_at hl 1 rfl) ?_
  refine zx_need (zx_runS (As := [.int (iI t)]) (rest := []) M (c_X6_needPlace l hst D cy z0 t (by omega)) hE hS hAz trivial zk_cd_X6_needPlace zk_in_RX6 zk_st_X6_needPlace zk_ml_RX6_80 rfl rfl zd_X6_needPlace ⟨by decide, by decide⟩ rfl hl.1 rfl (Nat.le_of_ble_eq_true rfl) dX6_needPath_5 ⟨by decide, by decide⟩) ht hlk (by decide) (by decide) (fun E t hA9 hC hz hq => ⟨by obtain ⟨rfl, h9⟩ := hC; exact Or.inl (⟨rfl, by omega⟩), hz, hq⟩) (fun hn_2 => ?_)
  refine lv_iload_n M.1 M.2.1 dX6_needPath_8 rfl (lv_at hl 2 rfl) ?_
  refine zx_need (zx_runS (As := [.int (iI f)]) (rest := []) M (c_X6_needFrequency l hst D cy z0 f (by omega)) hE hS hAz trivial zk_cd_X6_needFrequency zk_in_RX6 zk_st_X6_needFrequency zk_ml_RX6_117 rfl rfl zd_X6_needFrequency ⟨by decide, by decide⟩ rfl hl.1 rfl (Nat.le_of_ble_eq_true rfl) dX6_needPath_9 ⟨by decide, by decide⟩) ht hlk (by decide) (by decide) (fun E t hA9 hC hz hq => ⟨by obtain ⟨rfl, h9⟩ := hC; exact Or.inr (⟨rfl, by omega⟩), hz, hq⟩) (fun hn_3 => ?_)
  refine lv_iload_n M.1 M.2.1 dX6_needPath_12 rfl (lv_at hl 3 rfl) ?_
  refine zx_need (zx_runS (As := [.int (iI w)]) (rest := []) M (c_X6_needStrength l hst D cy z0 w (by omega)) hE hS hAz trivial zk_cd_X6_needStrength zk_in_RX6 zk_st_X6_needStrength zk_ml_RX6_216 rfl rfl zd_X6_needStrength ⟨by decide, by decide⟩ rfl hl.1 rfl (Nat.le_of_ble_eq_true rfl) dX6_needPath_13 ⟨by decide, by decide⟩) ht hlk (by decide) (by decide) (fun E t hA9 hC hz hq => ⟨by obtain ⟨rfl, h9⟩ := hC; exact Or.inr (⟨rfl, by omega⟩), hz, hq⟩) (fun hn_4 => ?_)
  exact zx_n M hr hlk (by omega) (by decide) (by decide) dX6_needPath_16

set_option maxRecDepth 100000 in
set_option maxHeartbeats 4000000 in
theorem c_X6_needStation (l : Launch) (hst : l.stackTraces = false) (D : va_G) (cy : Nat → ClassId) (z0 : Nat) (ad : Nat → Nat) (fm fr sm : Int) (pl pw an hd fq : Int → Int) (k : Int) (r_k : r32 k) (hsm : 0 ≤ sm ∧ sm ≤ 12) : vx_Met l yX6_needStation [.code yX6_needStation cX6_needStation 2 none] (zRm 6 1 6 90) (zPc [.ref (ad 0), .int (iI k)] D cy z0 (fun H => va_P D vwCl ((rooW ad 0 cy fm fr) ++ (sndW ad 19 cy 12 sm pl pw an hd fq)) H)) (zQn ((0 ≤ k ∧ k < sm))) (zXC (fun E => (E = eIB ∧ (¬ (0 ≤ k ∧ k < sm))))) 1 6 (fun _ => False) := by
  refine z_ofX (by decide) (Nat.le_of_ble_eq_true rfl) ?_
  intro p e s m args below meth c M hr hlk ht hargs hP0 hE ls hl
  have hP : va_P D vwCl ((rooW ad 0 cy fm fr) ++ (sndW ad 19 cy 12 sm pl pw an hd fq)) s.heap := hP0
  have hS : va_S (fun q => z0 ≤ q) s.heap s.heap [] := va_S.rf
  have hAz : ∀ q : Nat, (fun q => z0 ≤ q) q → z0 ≤ q := fun _ h => h
  have hl : lv_has ls 2 [(0, .ref (ad 0)), (1, .int (iI k))] := hl
  refine lv_aload_n M.1 M.2.1 dX6_needStation_0 rfl (lv_at hl 0 rfl) ?_
  refine zi_get (ci := 6) (v := .ref (ad 19)) M hE hP 0 rfl rfl zu_X6 4 (by decide) zk_fl_RX6_38 rfl rfl dX6_needStation_1 ?_
  refine lv_iload_n M.1 M.2.1 dX6_needStation_4 rfl (lv_at hl 1 rfl) ?_
  refine z_cR (z_runV (As := [.int (iI k)]) (rest := []) M (c_X5_has l D cy z0 ad 19 12 sm pl pw an hd fq k (by omega) (by omega)) hE hS hAz (hP.sub [1, 2, 3, 4, 5, 6] rfl) (zRc.of (ci := 5) (q0 := 1) hE hP rfl rfl) zk_cd_X5_has zk_in_RX5 zk_im_X5_has zk_se_X5_has zk_ml_RX6_281 rfl rfl zd_X5_has ⟨by decide, by decide⟩ rfl hl.1 rfl (Nat.le_of_ble_eq_true rfl) dX6_needStation_5 ⟨by decide, by decide⟩) ?_
  refine zi_b (P := 0 ≤ k ∧ k < sm) (g := fun r => F0 m 8 ls (.int r :: [])) (fun b_1 => ?_) (fun b_1 => ?_)
  ·
    refine zi_if_ne (tgt := 22) M dX6_needStation_8 (by decide) ⟨by decide, by decide⟩ (fun _ => ?_) (fun q => absurd q (by decide))
    exact zx_n M hr hlk (by omega) (by decide) (by decide) dX6_needStation_22
  ·
    refine zi_if_ne (tgt := 22) M dX6_needStation_8 (by decide) ⟨by decide, by decide⟩ (fun q => absurd q (by decide)) (fun _ => ?_)
    exact zx_throwW M hst hE hS hAz (cls := eIB) (ik := 203) (is := 282) (ic := 207) (by decide +kernel) zk_cl_RX6_203 zk_in_java_lang_IndexOutOfBoundsException (by unfold zTi; decide) zat_207 zgd_207 hl.1 dX6_needStation_11 dX6_needStation_14 dX6_needStation_15 dX6_needStation_18 dX6_needStation_21 ht (by decide) (by decide) (by decide) (by decide) hlk (fun t hA9 hz hq => ⟨⟨rfl, by omega⟩, hz, hq⟩) (fun _ h => nomatch h) (by decide) (by decide)
