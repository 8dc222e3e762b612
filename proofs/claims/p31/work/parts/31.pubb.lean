/-! contracts: what everybody may call -/
set_option maxRecDepth 100000 in
set_option maxHeartbeats 4000000 in
theorem c_X6_station (l : Launch) (hst : l.stackTraces = false) (D : va_G) (cy : Nat → ClassId) (z0 : Nat) (ad : Nat → Nat) (fm fr sm : Int) (pl pw an hd fq : Int → Int) (q : Int) (v : Int) (a : Int) (d : Int) (r_q : r32 q) (r_v : r32 v) (r_a : r32 a) (r_d : r32 d) (hsm : 0 ≤ sm ∧ sm ≤ 12) : vx_Met l yX6_station [.code yX6_station cX6_station 5 (some .int)] (zRm 7 5 30 112) (zPc [.ref (ad 0), .int (iI q), .int (iI v), .int (iI a), .int (iI d)] D cy z0 (zWl D z0 ((rooW ad 0 cy fm fr) ++ (sndW ad 19 cy 12 sm pl pw an hd fq)))) (zQ1 D ((rooW ad 0 cy fm fr) ++ (sndW ad 19 cy 12 sm pl pw an hd fq)) (fun (r : Int32) (_ : Unit) => ((0 ≤ q ∧ q < 48) ∧ ((1 ≤ v ∧ v ≤ 80) ∧ (0 ≤ a ∧ a ≤ 2) ∧ (0 ≤ d ∧ d ≤ 2)) ∧ (sm < 12)) ∧ r = iI sm) (fun (_ : Unit) => ((rooW ad 0 cy fm fr) ++ (sndW ad 19 cy 12 (sm + 1) (zu pl sm q) (zu pw sm v) (zu an sm a) (zu hd sm d) (zu fq sm (-1)))))) (zXC (fun E => (E = eIB ∧ (¬ (0 ≤ q ∧ q < 48))) ∨ (E = eIA ∧ ((0 ≤ q ∧ q < 48) ∧ ¬ ((1 ≤ v ∧ v ≤ 80) ∧ (0 ≤ a ∧ a ≤ 2) ∧ (0 ≤ d ∧ d ≤ 2)))) ∨ (E = eIS ∧ ((0 ≤ q ∧ q < 48) ∧ ((1 ≤ v ∧ v ≤ 80) ∧ (0 ≤ a ∧ a ≤ 2) ∧ (0 ≤ d ∧ d ≤ 2)) ∧ ¬ (sm < 12))))) 5 30 (zIn ((rooW ad 0 cy fm fr) ++ (sndW ad 19 cy 12 sm pl pw an hd fq))) := by
  refine z_ofX (by decide) (Nat.le_of_ble_eq_true rfl) ?_
  intro p e s m args below meth c M hr hlk ht hargs hP0 hE ls hl
  have hP : va_P D vwCl ((rooW ad 0 cy fm fr) ++ (sndW ad 19 cy 12 sm pl pw an hd fq)) s.heap := hP0.1
  have hD : va_D (zIn ((rooW ad 0 cy fm fr) ++ (sndW ad 19 cy 12 sm pl pw an hd fq))) ((rooW ad 0 cy fm fr) ++ (sndW ad 19 cy 12 sm pl pw an hd fq)) := hP0.self
  have hAz := hP0.A
  have hS : va_S (zIn ((rooW ad 0 cy fm fr) ++ (sndW ad 19 cy 12 sm pl pw an hd fq))) s.heap s.heap [] := va_S.rf
  have hl : lv_has ls 5 [(0, .ref (ad 0)), (1, .int (iI q)), (2, .int (iI v)), (3, .int (iI a)), (4, .int (iI d))] := hl
  refine lv_iload_n M.1 M.2.1 dX6_station_0 rfl (lv_at hl 1 rfl) ?_
  refine zx_need (zx_runS (As := [.int (iI q)]) (rest := []) M (c_X6_needPlace l hst D cy z0 q (by omega)) hE hS hAz trivial zk_cd_X6_needPlace zk_in_RX6 zk_st_X6_needPlace zk_ml_RX6_80 rfl rfl zd_X6_needPlace ⟨by decide, by decide⟩ rfl hl.1 rfl (Nat.le_of_ble_eq_true rfl) dX6_station_1 ⟨by decide, by decide⟩) ht hlk (by decide) (by decide) (fun E t hA9 hC hz hq => ⟨by obtain ⟨rfl, h9⟩ := hC; exact Or.inl (⟨rfl, by omega⟩), hz, hq⟩) (fun hn_1 => ?_)
  refine lv_iload_n M.1 M.2.1 dX6_station_4 rfl (lv_at hl 2 rfl) ?_
  refine zi_push M dX6_station_5 ?_
  refine zi_bipush M dX6_station_6 ⟨by decide, by decide⟩ ?_
  refine zx_need (zx_runS (As := [.int (iI v), .int (iI 1), .int (iI 80)]) (rest := []) M (c_X6_needRange l hst D cy z0 v 1 80 (by omega) (by omega) (by omega)) hE hS hAz trivial zk_cd_X6_needRange zk_in_RX6 zk_st_X6_needRange zk_ml_RX6_59 rfl rfl zd_X6_needRange ⟨by decide, by decide⟩ rfl hl.1 rfl (Nat.le_of_ble_eq_true rfl) dX6_station_8 ⟨by decide, by decide⟩) ht hlk (by decide) (by decide) (fun E t hA9 hC hz hq => ⟨by obtain ⟨rfl, h9⟩ := hC; exact Or.inr (Or.inl (⟨rfl, by omega⟩)), hz, hq⟩) (fun hn_2 => ?_)
  refine lv_iload_n M.1 M.2.1 dX6_station_11 rfl (lv_at hl 3 rfl) ?_
  refine zi_push M dX6_station_12 ?_
  refine zi_push M dX6_station_13 ?_
  refine zx_need (zx_runS (As := [.int (iI a), .int (iI 0), .int (iI 2)]) (rest := []) M (c_X6_needRange l hst D cy z0 a 0 2 (by omega) (by omega) (by omega)) hE hS hAz trivial zk_cd_X6_needRange zk_in_RX6 zk_st_X6_needRange zk_ml_RX6_59 rfl rfl zd_X6_needRange ⟨by decide, by decide⟩ rfl hl.1 rfl (Nat.le_of_ble_eq_true rfl) dX6_station_14 ⟨by decide, by decide⟩) ht hlk (by decide) (by decide) (fun E t hA9 hC hz hq => ⟨by obtain ⟨rfl, h9⟩ := hC; exact Or.inr (Or.inl (⟨rfl, by omega⟩)), hz, hq⟩) (fun hn_3 => ?_)
  refine lv_iload M.1 M.2.1 dX6_station_17 (lv_at hl 4 rfl) ?_
  refine zi_push M dX6_station_19 ?_
  refine zi_push M dX6_station_20 ?_
  refine zx_need (zx_runS (As := [.int (iI d), .int (iI 0), .int (iI 2)]) (rest := []) M (c_X6_needRange l hst D cy z0 d 0 2 (by omega) (by omega) (by omega)) hE hS hAz trivial zk_cd_X6_needRange zk_in_RX6 zk_st_X6_needRange zk_ml_RX6_59 rfl rfl zd_X6_needRange ⟨by decide, by decide⟩ rfl hl.1 rfl (Nat.le_of_ble_eq_true rfl) dX6_station_21 ⟨by decide, by decide⟩) ht hlk (by decide) (by decide) (fun E t hA9 hC hz hq => ⟨by obtain ⟨rfl, h9⟩ := hC; exact Or.inr (Or.inl (⟨rfl, by omega⟩)), hz, hq⟩) (fun hn_4 => ?_)
  refine lv_aload_n M.1 M.2.1 dX6_station_24 rfl (lv_at hl 0 rfl) ?_
  refine zi_get (ci := 6) (v := .ref (ad 19)) M hE hP 0 rfl rfl zu_X6 4 (by decide) zk_fl_RX6_38 rfl rfl dX6_station_25 ?_
  refine z_cR (z_runV (As := []) (rest := []) M (c_X5_isFull l D cy z0 ad 19 12 sm pl pw an hd fq (by omega) (by omega)) hE hS hAz (hP.sub [1, 2, 3, 4, 5, 6] rfl) (zRc.of (ci := 5) (q0 := 1) hE hP rfl rfl) zk_cd_X5_isFull zk_in_RX5 zk_im_X5_isFull zk_se_X5_isFull zk_ml_RX6_107 rfl rfl zd_X5_isFull ⟨by decide, by decide⟩ rfl hl.1 rfl (Nat.le_of_ble_eq_true rfl) dX6_station_28 ⟨by decide, by decide⟩) ?_
  refine zi_b (P := (12 : Int) ≤ sm) (g := fun r => F0 m 31 ls (.int r :: [])) (fun b_5 => ?_) (fun b_5 => ?_)
  ·
    refine zi_if_eq (tgt := 44) M dX6_station_31 (by decide) ⟨by decide, by decide⟩ (fun q => absurd q (by decide)) (fun _ => ?_)
    exact zx_throw M hst hE hS hAz (cls := eIS) (ik := 97) (is := 111) (ic := 101) (by decide +kernel) zk_cl_RX6_97 zk_in_java_lang_IllegalStateException (by unfold zTi; decide) zat_101 zgd_101 hl.1 dX6_station_34 dX6_station_37 dX6_station_38 dX6_station_40 dX6_station_43 ht (by decide) (by decide) (by decide) (by decide) hlk (fun t hA9 hz hq => ⟨Or.inr (Or.inr (⟨rfl, by omega⟩)), hz, hq⟩) (fun _ h => nomatch h) (by decide) (by decide)
  ·
    refine zi_if_eq (tgt := 44) M dX6_station_31 (by decide) ⟨by decide, by decide⟩ (fun _ => ?_) (fun q => absurd q (by decide))
    refine lv_aload_n M.1 M.2.1 dX6_station_44 rfl (lv_at hl 0 rfl) ?_
    refine zi_get (ci := 6) (v := .ref (ad 19)) M hE hP 0 rfl rfl zu_X6 4 (by decide) zk_fl_RX6_38 rfl rfl dX6_station_45 ?_
    refine lv_iload_n M.1 M.2.1 dX6_station_48 rfl (lv_at hl 1 rfl) ?_
    refine lv_iload_n M.1 M.2.1 dX6_station_49 rfl (lv_at hl 2 rfl) ?_
    refine lv_iload_n M.1 M.2.1 dX6_station_50 rfl (lv_at hl 3 rfl) ?_
    refine lv_iload M.1 M.2.1 dX6_station_51 (lv_at hl 4 rfl) ?_
    refine zi_push M dX6_station_53 ?_
    refine z_cW (z_runV (As := [.int (iI q), .int (iI v), .int (iI a), .int (iI d), .int (iI (-1))]) (rest := []) M (c_X5_add l D cy z0 ad 19 12 sm pl pw an hd fq q v a d (-1) (by omega) (by omega)) hE hS hAz (z_cut hP hD hAz [1, 2, 3, 4, 5, 6] rfl (by decide +kernel)) (zRc.of (ci := 5) (q0 := 1) hE hP rfl rfl) zk_cd_X5_add zk_in_RX5 zk_im_X5_add zk_se_X5_add zk_ml_RX6_113 rfl rfl zd_X5_add ⟨by decide, by decide⟩ rfl hl.1 rfl (Nat.le_of_ble_eq_true rfl) dX6_station_54 ⟨by decide, by decide⟩) hP hD hS [1, 2, 3, 4, 5, 6] rfl (fun _ => rfl) (fun r_6 u_6 H locs hp_6 hP hD hS => ?_)
    have hP : va_P D vwCl ((rooW ad 0 cy fm fr) ++ (sndW ad 19 cy 12 (sm + 1) (zu pl sm q) (zu pw sm v) (zu an sm a) (zu hd sm d) (zu fq sm (-1)))) H := hP
    have hD : va_D (zIn ((rooW ad 0 cy fm fr) ++ (sndW ad 19 cy 12 sm pl pw an hd fq))) ((rooW ad 0 cy fm fr) ++ (sndW ad 19 cy 12 (sm + 1) (zu pl sm q) (zu pw sm v) (zu an sm a) (zu hd sm d) (zu fq sm (-1)))) := hD
    subst hp_6
    have hP : va_P D vwCl ((rooW ad 0 cy fm fr) ++ (sndW ad 19 cy 12 (sm + 1) (zu pl sm q) (zu pw sm v) (zu an sm a) (zu hd sm d) (zu fq sm (-1)))) H := hP
    exact vx_ret (zw_i M hr hlk () hP hS (by exact ⟨by omega, congrArg iI (show (sm : Int) = sm by rfl)⟩) (by decide) (by decide) dX6_station_57)

set_option maxRecDepth 100000 in
set_option maxHeartbeats 4000000 in
theorem c_X6_beacon (l : Launch) (hst : l.stackTraces = false) (D : va_G) (cy : Nat → ClassId) (z0 : Nat) (ad : Nat → Nat) (fm fr bsm : Int) (bpl bpw ban bhd bfq : Int → Int) (q : Int) (f : Int) (v : Int) (r_q : r32 q) (r_f : r32 f) (r_v : r32 v) (hbm : 0 ≤ bsm ∧ bsm ≤ 6) : vx_Met l yX6_beacon [.code yX6_beacon cX6_beacon 4 (some .int)] (zRm 8 4 24 132) (zPc [.ref (ad 0), .int (iI q), .int (iI f), .int (iI v)] D cy z0 (zWl D z0 ((rooW ad 0 cy fm fr) ++ (sndW ad 25 cy 6 bsm bpl bpw ban bhd bfq)))) (zQ1 D ((rooW ad 0 cy fm fr) ++ (sndW ad 25 cy 6 bsm bpl bpw ban bhd bfq)) (fun (r : Int32) (_ : Unit) => ((0 ≤ q ∧ q < 48) ∧ ((10 ≤ f ∧ f ≤ 300) ∧ (1 ≤ v ∧ v ≤ 80)) ∧ (bsm < 6)) ∧ r = iI bsm) (fun (_ : Unit) => ((rooW ad 0 cy fm fr) ++ (sndW ad 25 cy 6 (bsm + 1) (zu bpl bsm q) (zu bpw bsm v) (zu ban bsm 2) (zu bhd bsm 2) (zu bfq bsm f))))) (zXC (fun E => (E = eIB ∧ (¬ (0 ≤ q ∧ q < 48))) ∨ (E = eIA ∧ ((0 ≤ q ∧ q < 48) ∧ ¬ ((10 ≤ f ∧ f ≤ 300) ∧ (1 ≤ v ∧ v ≤ 80)))) ∨ (E = eIS ∧ ((0 ≤ q ∧ q < 48) ∧ ((10 ≤ f ∧ f ≤ 300) ∧ (1 ≤ v ∧ v ≤ 80)) ∧ ¬ (bsm < 6))))) 4 24 (zIn ((rooW ad 0 cy fm fr) ++ (sndW ad 25 cy 6 bsm bpl bpw ban bhd bfq))) := by
  refine z_ofX (by decide) (Nat.le_of_ble_eq_true rfl) ?_
  intro p e s m args below meth c M hr hlk ht hargs hP0 hE ls hl
  have hP : va_P D vwCl ((rooW ad 0 cy fm fr) ++ (sndW ad 25 cy 6 bsm bpl bpw ban bhd bfq)) s.heap := hP0.1
  have hD : va_D (zIn ((rooW ad 0 cy fm fr) ++ (sndW ad 25 cy 6 bsm bpl bpw ban bhd bfq))) ((rooW ad 0 cy fm fr) ++ (sndW ad 25 cy 6 bsm bpl bpw ban bhd bfq)) := hP0.self
  have hAz := hP0.A
  have hS : va_S (zIn ((rooW ad 0 cy fm fr) ++ (sndW ad 25 cy 6 bsm bpl bpw ban bhd bfq))) s.heap s.heap [] := va_S.rf
  have hl : lv_has ls 4 [(0, .ref (ad 0)), (1, .int (iI q)), (2, .int (iI f)), (3, .int (iI v))] := hl
  refine lv_iload_n M.1 M.2.1 dX6_beacon_0 rfl (lv_at hl 1 rfl) ?_
  refine zx_need (zx_runS (As := [.int (iI q)]) (rest := []) M (c_X6_needPlace l hst D cy z0 q (by omega)) hE hS hAz trivial zk_cd_X6_needPlace zk_in_RX6 zk_st_X6_needPlace zk_ml_RX6_80 rfl rfl zd_X6_needPlace ⟨by decide, by decide⟩ rfl hl.1 rfl (Nat.le_of_ble_eq_true rfl) dX6_beacon_1 ⟨by decide, by decide⟩) ht hlk (by decide) (by decide) (fun E t hA9 hC hz hq => ⟨by obtain ⟨rfl, h9⟩ := hC; exact Or.inl (⟨rfl, by omega⟩), hz, hq⟩) (fun hn_1 => ?_)
  refine lv_iload_n M.1 M.2.1 dX6_beacon_4 rfl (lv_at hl 2 rfl) ?_
  refine zx_need (zx_runS (As := [.int (iI f)]) (rest := []) M (c_X6_needFrequency l hst D cy z0 f (by omega)) hE hS hAz trivial zk_cd_X6_needFrequency zk_in_RX6 zk_st_X6_needFrequency zk_ml_RX6_117 rfl rfl zd_X6_needFrequency ⟨by decide, by decide⟩ rfl hl.1 rfl (Nat.le_of_ble_eq_true rfl) dX6_beacon_5 ⟨by decide, by decide⟩) ht hlk (by decide) (by decide) (fun E t hA9 hC hz hq => ⟨by obtain ⟨rfl, h9⟩ := hC; exact Or.inr (Or.inl (⟨rfl, by omega⟩)), hz, hq⟩) (fun hn_2 => ?_)
  refine lv_iload_n M.1 M.2.1 dX6_beacon_8 rfl (lv_at hl 3 rfl) ?_
  refine zi_push M dX6_beacon_9 ?_
  refine zi_bipush M dX6_beacon_10 ⟨by decide, by decide⟩ ?_
  refine zx_need (zx_runS (As := [.int (iI v), .int (iI 1), .int (iI 80)]) (rest := []) M (c_X6_needRange l hst D cy z0 v 1 80 (by omega) (by omega) (by omega)) hE hS hAz trivial zk_cd_X6_needRange zk_in_RX6 zk_st_X6_needRange zk_ml_RX6_59 rfl rfl zd_X6_needRange ⟨by decide, by decide⟩ rfl hl.1 rfl (Nat.le_of_ble_eq_true rfl) dX6_beacon_12 ⟨by decide, by decide⟩) ht hlk (by decide) (by decide) (fun E t hA9 hC hz hq => ⟨by obtain ⟨rfl, h9⟩ := hC; exact Or.inr (Or.inl (⟨rfl, by omega⟩)), hz, hq⟩) (fun hn_3 => ?_)
  refine lv_aload_n M.1 M.2.1 dX6_beacon_15 rfl (lv_at hl 0 rfl) ?_
  refine zi_get (ci := 6) (v := .ref (ad 25)) M hE hP 0 rfl rfl zu_X6 5 (by decide) zk_fl_RX6_42 rfl rfl dX6_beacon_16 ?_
  refine z_cR (z_runV (As := []) (rest := []) M (c_X5_isFull l D cy z0 ad 25 6 bsm bpl bpw ban bhd bfq (by omega) (by omega)) hE hS hAz (hP.sub [1, 2, 3, 4, 5, 6] rfl) (zRc.of (ci := 5) (q0 := 1) hE hP rfl rfl) zk_cd_X5_isFull zk_in_RX5 zk_im_X5_isFull zk_se_X5_isFull zk_ml_RX6_107 rfl rfl zd_X5_isFull ⟨by decide, by decide⟩ rfl hl.1 rfl (Nat.le_of_ble_eq_true rfl) dX6_beacon_19 ⟨by decide, by decide⟩) ?_
  refine zi_b (P := (6 : Int) ≤ bsm) (g := fun r => F0 m 22 ls (.int r :: [])) (fun b_4 => ?_) (fun b_4 => ?_)
  ·
    refine zi_if_eq (tgt := 35) M dX6_beacon_22 (by decide) ⟨by decide, by decide⟩ (fun q => absurd q (by decide)) (fun _ => ?_)
    exact zx_throw M hst hE hS hAz (cls := eIS) (ik := 97) (is := 120) (ic := 101) (by decide +kernel) zk_cl_RX6_97 zk_in_java_lang_IllegalStateException (by unfold zTi; decide) zat_101 zgd_101 hl.1 dX6_beacon_25 dX6_beacon_28 dX6_beacon_29 dX6_beacon_31 dX6_beacon_34 ht (by decide) (by decide) (by decide) (by decide) hlk (fun t hA9 hz hq => ⟨Or.inr (Or.inr (⟨rfl, by omega⟩)), hz, hq⟩) (fun _ h => nomatch h) (by decide) (by decide)
  ·
    refine zi_if_eq (tgt := 35) M dX6_beacon_22 (by decide) ⟨by decide, by decide⟩ (fun _ => ?_) (fun q => absurd q (by decide))
    refine lv_aload_n M.1 M.2.1 dX6_beacon_35 rfl (lv_at hl 0 rfl) ?_
    refine zi_get (ci := 6) (v := .ref (ad 25)) M hE hP 0 rfl rfl zu_X6 5 (by decide) zk_fl_RX6_42 rfl rfl dX6_beacon_36 ?_
    refine lv_iload_n M.1 M.2.1 dX6_beacon_39 rfl (lv_at hl 1 rfl) ?_
    refine lv_iload_n M.1 M.2.1 dX6_beacon_40 rfl (lv_at hl 3 rfl) ?_
    refine zi_push M dX6_beacon_41 ?_
    refine zi_push M dX6_beacon_42 ?_
    refine lv_iload_n M.1 M.2.1 dX6_beacon_43 rfl (lv_at hl 2 rfl) ?_
    refine z_cW (z_runV (As := [.int (iI q), .int (iI v), .int (iI 2), .int (iI 2), .int (iI f)]) (rest := []) M (c_X5_add l D cy z0 ad 25 6 bsm bpl bpw ban bhd bfq q v 2 2 f (by omega) (by omega)) hE hS hAz (z_cut hP hD hAz [1, 2, 3, 4, 5, 6] rfl (by decide +kernel)) (zRc.of (ci := 5) (q0 := 1) hE hP rfl rfl) zk_cd_X5_add zk_in_RX5 zk_im_X5_add zk_se_X5_add zk_ml_RX6_113 rfl rfl zd_X5_add ⟨by decide, by decide⟩ rfl hl.1 rfl (Nat.le_of_ble_eq_true rfl) dX6_beacon_44 ⟨by decide, by decide⟩) hP hD hS [1, 2, 3, 4, 5, 6] rfl (fun _ => rfl) (fun r_5 u_5 H locs hp_5 hP hD hS => ?_)
    have hP : va_P D vwCl ((rooW ad 0 cy fm fr) ++ (sndW ad 25 cy 6 (bsm + 1) (zu bpl bsm q) (zu bpw bsm v) (zu ban bsm 2) (zu bhd bsm 2) (zu bfq bsm f))) H := hP
    have hD : va_D (zIn ((rooW ad 0 cy fm fr) ++ (sndW ad 25 cy 6 bsm bpl bpw ban bhd bfq))) ((rooW ad 0 cy fm fr) ++ (sndW ad 25 cy 6 (bsm + 1) (zu bpl bsm q) (zu bpw bsm v) (zu ban bsm 2) (zu bhd bsm 2) (zu bfq bsm f))) := hD
    subst hp_5
    have hP : va_P D vwCl ((rooW ad 0 cy fm fr) ++ (sndW ad 25 cy 6 (bsm + 1) (zu bpl bsm q) (zu bpw bsm v) (zu ban bsm 2) (zu bhd bsm 2) (zu bfq bsm f))) H := hP
    exact vx_ret (zw_i M hr hlk () hP hS (by exact ⟨by omega, congrArg iI (show (bsm : Int) = bsm by rfl)⟩) (by decide) (by decide) dX6_beacon_47)

set_option maxRecDepth 100000 in
set_option maxHeartbeats 4000000 in
theorem c_X6_log (l : Launch) (hst : l.stackTraces = false) (D : va_G) (cy : Nat → ClassId) (z0 : Nat) (ad : Nat → Nat) (fm fr h su st sh fl sm em ep : Int) (cS cH dD dE dF pl pw an hd fq e1 e2 e3 e4 e5 : Int → Int) (x : Int) (y : Int) (f : Int) (r_x : r32 x) (r_y : r32 y) (r_f : r32 f) (hsm : 0 ≤ sm ∧ sm ≤ 12) (hem : 0 ≤ em ∧ em ≤ 80) (h_h : 0 ≤ h ∧ h ≤ 5000) (g_e1 : zrg 80 0 11 e1) (g_e2 : zrg 80 0 11 e2) (g_e3 : zrg 80 0 300 e3) (g_e4 : zrg 80 0 5000 e4) (g_e5 : zrg 80 (-1) 79 e5) : vx_Met l yX6_log [.code yX6_log cX6_log 4 (some .int)] (zRm 8 5 30 132) (zPc [.ref (ad 0), .int (iI x), .int (iI y), .int (iI f)] D cy z0 (zWl D z0 ((rooW ad 0 cy fm fr) ++ ((airW ad 1 cy h su st sh fl cS cH dD dE dF) ++ ((sndW ad 19 cy 12 sm pl pw an hd fq) ++ (entW ad 37 cy em ep e1 e2 e3 e4 e5)))))) (zQ1 D ((rooW ad 0 cy fm fr) ++ ((airW ad 1 cy h su st sh fl cS cH dD dE dF) ++ ((sndW ad 19 cy 12 sm pl pw an hd fq) ++ (entW ad 37 cy em ep e1 e2 e3 e4 e5)))) (fun (r : Int32) (_ : Unit) => (((0 ≤ x ∧ x < sm) ∧ (0 ≤ y ∧ y < sm)) ∧ ((10 ≤ f ∧ f ≤ 300) ∧ (¬ x = y)) ∧ (em < 80)) ∧ r = iI em) (fun (_ : Unit) => ((rooW ad 0 cy fm fr) ++ ((airW ad 1 cy h su st sh fl cS cH dD dE dF) ++ ((sndW ad 19 cy 12 sm pl pw an hd fq) ++ (entW ad 37 cy (em + 1) (if (lowZ (parP e1 e2 e3 e4 e5 x y f h) em) = -1 then ep else ep + 2) (zu e1 em x) (zu e2 em y) (zu e3 em f) (zu e4 em h) (zpair (zu e5 em (lowZ (parP e1 e2 e3 e4 e5 x y f h) em)) em (lowZ (parP e1 e2 e3 e4 e5 x y f h) em)))))))) (zXC (fun E => (E = eIB ∧ (¬ ((0 ≤ x ∧ x < sm) ∧ (0 ≤ y ∧ y < sm)))) ∨ (E = eIA ∧ (((0 ≤ x ∧ x < sm) ∧ (0 ≤ y ∧ y < sm)) ∧ ¬ ((10 ≤ f ∧ f ≤ 300) ∧ (¬ x = y)))) ∨ (E = eIS ∧ (((0 ≤ x ∧ x < sm) ∧ (0 ≤ y ∧ y < sm)) ∧ ((10 ≤ f ∧ f ≤ 300) ∧ (¬ x = y)) ∧ ¬ (em < 80))))) 5 30 (zIn ((rooW ad 0 cy fm fr) ++ ((airW ad 1 cy h su st sh fl cS cH dD dE dF) ++ ((sndW ad 19 cy 12 sm pl pw an hd fq) ++ (entW ad 37 cy em ep e1 e2 e3 e4 e5))))) := by
  refine z_ofX (by decide) (Nat.le_of_ble_eq_true rfl) ?_
  intro p e s m args below meth c M hr hlk ht hargs hP0 hE ls hl
  have hP : va_P D vwCl ((rooW ad 0 cy fm fr) ++ ((airW ad 1 cy h su st sh fl cS cH dD dE dF) ++ ((sndW ad 19 cy 12 sm pl pw an hd fq) ++ (entW ad 37 cy em ep e1 e2 e3 e4 e5)))) s.heap := hP0.1
  have hD : va_D (zIn ((rooW ad 0 cy fm fr) ++ ((airW ad 1 cy h su st sh fl cS cH dD dE dF) ++ ((sndW ad 19 cy 12 sm pl pw an hd fq) ++ (entW ad 37 cy em ep e1 e2 e3 e4 e5))))) ((rooW ad 0 cy fm fr) ++ ((airW ad 1 cy h su st sh fl cS cH dD dE dF) ++ ((sndW ad 19 cy 12 sm pl pw an hd fq) ++ (entW ad 37 cy em ep e1 e2 e3 e4 e5)))) := hP0.self
  have hAz := hP0.A
  have hS : va_S (zIn ((rooW ad 0 cy fm fr) ++ ((airW ad 1 cy h su st sh fl cS cH dD dE dF) ++ ((sndW ad 19 cy 12 sm pl pw an hd fq) ++ (entW ad 37 cy em ep e1 e2 e3 e4 e5))))) s.heap s.heap [] := va_S.rf
  have hl : lv_has ls 4 [(0, .ref (ad 0)), (1, .int (iI x)), (2, .int (iI y)), (3, .int (iI f))] := hl
  refine lv_aload_n M.1 M.2.1 dX6_log_0 rfl (lv_at hl 0 rfl) ?_
  refine lv_iload_n M.1 M.2.1 dX6_log_1 rfl (lv_at hl 1 rfl) ?_
  refine zx_need (zx_runV (As := [.int (iI x)]) (rest := []) M (c_X6_needStation l hst D cy z0 ad fm fr sm pl pw an hd fq x (by omega) (by omega)) hE hS hAz (hP.sub [0, 8, 9, 10, 11, 12, 13] rfl) (zRc.of (ci := 6) (q0 := 0) hE hP rfl rfl) zk_cd_X6_needStation zk_in_RX6 zk_im_X6_needStation zk_se_X6_needStation zk_ml_RX6_122 rfl rfl zd_X6_needStation ⟨by decide, by decide⟩ rfl hl.1 rfl (Nat.le_of_ble_eq_true rfl) dX6_log_2 ⟨by decide, by decide⟩) ht hlk (by decide) (by decide) (fun E t hA9 hC hz hq => ⟨by obtain ⟨rfl, h9⟩ := hC; exact Or.inl (⟨rfl, by omega⟩), hz, hq⟩) (fun hn_1 => ?_)
  refine lv_aload_n M.1 M.2.1 dX6_log_5 rfl (lv_at hl 0 rfl) ?_
  refine lv_iload_n M.1 M.2.1 dX6_log_6 rfl (lv_at hl 2 rfl) ?_
  refine zx_need (zx_runV (As := [.int (iI y)]) (rest := []) M (c_X6_needStation l hst D cy z0 ad fm fr sm pl pw an hd fq y (by omega) (by omega)) hE hS hAz (hP.sub [0, 8, 9, 10, 11, 12, 13] rfl) (zRc.of (ci := 6) (q0 := 0) hE hP rfl rfl) zk_cd_X6_needStation zk_in_RX6 zk_im_X6_needStation zk_se_X6_needStation zk_ml_RX6_122 rfl rfl zd_X6_needStation ⟨by decide, by decide⟩ rfl hl.1 rfl (Nat.le_of_ble_eq_true rfl) dX6_log_7 ⟨by decide, by decide⟩) ht hlk (by decide) (by decide) (fun E t hA9 hC hz hq => ⟨by obtain ⟨rfl, h9⟩ := hC; exact Or.inl (⟨rfl, by omega⟩), hz, hq⟩) (fun hn_2 => ?_)
  refine lv_iload_n M.1 M.2.1 dX6_log_10 rfl (lv_at hl 3 rfl) ?_
  refine zx_need (zx_runS (As := [.int (iI f)]) (rest := []) M (c_X6_needFrequency l hst D cy z0 f (by omega)) hE hS hAz trivial zk_cd_X6_needFrequency zk_in_RX6 zk_st_X6_needFrequency zk_ml_RX6_117 rfl rfl zd_X6_needFrequency ⟨by decide, by decide⟩ rfl hl.1 rfl (Nat.le_of_ble_eq_true rfl) dX6_log_11 ⟨by decide, by decide⟩) ht hlk (by decide) (by decide) (fun E t hA9 hC hz hq => ⟨by obtain ⟨rfl, h9⟩ := hC; exact Or.inr (Or.inl (⟨rfl, by omega⟩)), hz, hq⟩) (fun hn_3 => ?_)
  refine lv_iload_n M.1 M.2.1 dX6_log_14 rfl (lv_at hl 1 rfl) ?_
  refine lv_iload_n M.1 M.2.1 dX6_log_15 rfl (lv_at hl 2 rfl) ?_
  refine zx_need (zx_runS (As := [.int (iI x), .int (iI y)]) (rest := []) M (c_X6_needDifferent l hst D cy z0 x y (by omega) (by omega)) hE hS hAz trivial zk_cd_X6_needDifferent zk_in_RX6 zk_st_X6_needDifferent zk_ml_RX6_125 rfl rfl zd_X6_needDifferent ⟨by decide, by decide⟩ rfl hl.1 rfl (Nat.le_of_ble_eq_true rfl) dX6_log_16 ⟨by decide, by decide⟩) ht hlk (by decide) (by decide) (fun E t hA9 hC hz hq => ⟨by obtain ⟨rfl, h9⟩ := hC; exact Or.inr (Or.inl (⟨rfl, by omega⟩)), hz, hq⟩) (fun hn_4 => ?_)
  refine lv_aload_n M.1 M.2.1 dX6_log_19 rfl (lv_at hl 0 rfl) ?_
  refine zi_get (ci := 6) (v := .ref (ad 37)) M hE hP 0 rfl rfl zu_X6 7 (by decide) zk_fl_RX6_55 rfl rfl dX6_log_20 ?_
  refine z_cR (z_runV (As := []) (rest := []) M (c_X2_isFull l D cy z0 ad 37 em ep e1 e2 e3 e4 e5 (by omega)) hE hS hAz (hP.sub [14, 15, 16, 17, 18, 19] rfl) (zRc.of (ci := 2) (q0 := 14) hE hP rfl rfl) zk_cd_X2_isFull zk_in_RX2 zk_im_X2_isFull zk_se_X2_isFull zk_ml_RX6_142 rfl rfl zd_X2_isFull ⟨by decide, by decide⟩ rfl hl.1 rfl (Nat.le_of_ble_eq_true rfl) dX6_log_23 ⟨by decide, by decide⟩) ?_
  refine zi_b (P := 80 ≤ em) (g := fun r => F0 m 26 ls (.int r :: [])) (fun b_5 => ?_) (fun b_5 => ?_)
  ·
    refine zi_if_eq (tgt := 39) M dX6_log_26 (by decide) ⟨by decide, by decide⟩ (fun q => absurd q (by decide)) (fun _ => ?_)
    exact zx_throw M hst hE hS hAz (cls := eIS) (ik := 97) (is := 143) (ic := 101) (by decide +kernel) zk_cl_RX6_97 zk_in_java_lang_IllegalStateException (by unfold zTi; decide) zat_101 zgd_101 hl.1 dX6_log_29 dX6_log_32 dX6_log_33 dX6_log_35 dX6_log_38 ht (by decide) (by decide) (by decide) (by decide) hlk (fun t hA9 hz hq => ⟨Or.inr (Or.inr (⟨rfl, by omega⟩)), hz, hq⟩) (fun _ h => nomatch h) (by decide) (by decide)
  ·
    refine zi_if_eq (tgt := 39) M dX6_log_26 (by decide) ⟨by decide, by decide⟩ (fun _ => ?_) (fun q => absurd q (by decide))
    refine lv_aload_n M.1 M.2.1 dX6_log_39 rfl (lv_at hl 0 rfl) ?_
    refine zi_get (ci := 6) (v := .ref (ad 37)) M hE hP 0 rfl rfl zu_X6 7 (by decide) zk_fl_RX6_55 rfl rfl dX6_log_40 ?_
    refine lv_iload_n M.1 M.2.1 dX6_log_43 rfl (lv_at hl 1 rfl) ?_
    refine lv_iload_n M.1 M.2.1 dX6_log_44 rfl (lv_at hl 2 rfl) ?_
    refine lv_iload_n M.1 M.2.1 dX6_log_45 rfl (lv_at hl 3 rfl) ?_
    refine lv_aload_n M.1 M.2.1 dX6_log_46 rfl (lv_at hl 0 rfl) ?_
    refine zi_get (ci := 6) (v := .ref (ad 1)) M hE hP 0 rfl rfl zu_X6 0 (by decide) zk_fl_RX6_12 rfl rfl dX6_log_47 ?_
    refine zi_getN (ci := 0) (v := .int (iI h)) M hE hP 1 rfl rfl zu_X0 0 (by decide) zk_fn_RX6_94 rfl rfl dX6_log_50 ?_
    refine z_cW (z_runV (As := [.int (iI x), .int (iI y), .int (iI f), .int (iI h)]) (rest := []) M (c_X2_add l D cy z0 ad 37 em ep e1 e2 e3 e4 e5 x y f h g_e1 g_e2 g_e3 g_e4 g_e5 (by omega) (by omega) (by omega) (by omega) (by omega)) hE hS hAz (z_cut hP hD hAz [14, 15, 16, 17, 18, 19] rfl (by decide +kernel)) (zRc.of (ci := 2) (q0 := 14) hE hP rfl rfl) zk_cd_X2_add zk_in_RX2 zk_im_X2_add zk_se_X2_add zk_ml_RX6_145 rfl rfl zd_X2_add ⟨by decide, by decide⟩ rfl hl.1 rfl (Nat.le_of_ble_eq_true rfl) dX6_log_53 ⟨by decide, by decide⟩) hP hD hS [14, 15, 16, 17, 18, 19] rfl (fun _ => rfl) (fun r_6 u_6 H locs hp_6 hP hD hS => ?_)
    have hP : va_P D vwCl ((rooW ad 0 cy fm fr) ++ ((airW ad 1 cy h su st sh fl cS cH dD dE dF) ++ ((sndW ad 19 cy 12 sm pl pw an hd fq) ++ (entW ad 37 cy (em + 1) (if (lowZ (parP e1 e2 e3 e4 e5 x y f h) em) = -1 then ep else ep + 2) (zu e1 em x) (zu e2 em y) (zu e3 em f) (zu e4 em h) (zpair (zu e5 em (lowZ (parP e1 e2 e3 e4 e5 x y f h) em)) em (lowZ (parP e1 e2 e3 e4 e5 x y f h) em)))))) H := hP
    have hD : va_D (zIn ((rooW ad 0 cy fm fr) ++ ((airW ad 1 cy h su st sh fl cS cH dD dE dF) ++ ((sndW ad 19 cy 12 sm pl pw an hd fq) ++ (entW ad 37 cy em ep e1 e2 e3 e4 e5))))) ((rooW ad 0 cy fm fr) ++ ((airW ad 1 cy h su st sh fl cS cH dD dE dF) ++ ((sndW ad 19 cy 12 sm pl pw an hd fq) ++ (entW ad 37 cy (em + 1) (if (lowZ (parP e1 e2 e3 e4 e5 x y f h) em) = -1 then ep else ep + 2) (zu e1 em x) (zu e2 em y) (zu e3 em f) (zu e4 em h) (zpair (zu e5 em (lowZ (parP e1 e2 e3 e4 e5 x y f h) em)) em (lowZ (parP e1 e2 e3 e4 e5 x y f h) em)))))) := hD
    subst hp_6
    have hP : va_P D vwCl ((rooW ad 0 cy fm fr) ++ ((airW ad 1 cy h su st sh fl cS cH dD dE dF) ++ ((sndW ad 19 cy 12 sm pl pw an hd fq) ++ (entW ad 37 cy (em + 1) (if (lowZ (parP e1 e2 e3 e4 e5 x y f h) em) = -1 then ep else ep + 2) (zu e1 em x) (zu e2 em y) (zu e3 em f) (zu e4 em h) (zpair (zu e5 em (lowZ (parP e1 e2 e3 e4 e5 x y f h) em)) em (lowZ (parP e1 e2 e3 e4 e5 x y f h) em)))))) H := hP
    exact vx_ret (zw_i M hr hlk () hP hS (by exact ⟨by omega, congrArg iI (show (em : Int) = em by rfl)⟩) (by decide) (by decide) dX6_log_56)

set_option maxRecDepth 100000 in
set_option maxHeartbeats 4000000 in
theorem c_X6_hour (l : Launch) (D : va_G) (cy : Nat → ClassId) (z0 : Nat) (ad : Nat → Nat) (fm fr h su st sh fl : Int) (cS cH dD dE dF : Int → Int) : Met l yX6_hour [.code yX6_hour cX6_hour 1 (some .int)] (zRm 0 0 0 0) (zPc [.ref (ad 0)] D cy z0 (fun H => va_P D vwCl ((rooW ad 0 cy fm fr) ++ (airW ad 1 cy h su st sh fl cS cH dD dE dF)) H)) (QcRead (iI h)) 0 0 (fun _ => False) := by
  refine z_of (by decide) (Nat.le_of_ble_eq_true rfl) ?_
  intro p e s m args below meth c M hr hlk _ hargs hP hE ls hl
  have hS : va_S (fun q => z0 ≤ q) s.heap s.heap [] := va_S.rf
  have hAz : ∀ q : Nat, (fun q => z0 ≤ q) q → z0 ≤ q := fun _ h => h
  have hl : lv_has ls 1 [(0, .ref (ad 0))] := hl
  refine lv_aload_n M.1 M.2.1 dX6_hour_0 rfl (lv_at hl 0 rfl) ?_
  refine zi_get (ci := 6) (v := .ref (ad 1)) M hE hP 0 rfl rfl zu_X6 0 (by decide) zk_fl_RX6_12 rfl rfl dX6_hour_1 ?_
  refine zi_getN (ci := 0) (v := .int (iI h)) M hE hP 1 rfl rfl zu_X0 0 (by decide) zk_fn_RX6_94 rfl rfl dX6_hour_4 ?_
  exact zr_i M hr hlk (congrArg iI (show (h : Int) = h by rfl)) dX6_hour_7

set_option maxRecDepth 100000 in
set_option maxHeartbeats 4000000 in
theorem c_X6_forecasts (l : Launch) (D : va_G) (cy : Nat → ClassId) (z0 : Nat) (ad : Nat → Nat) (fm fr : Int) (g : Int) (hg : g = 0 ∨ g = 1) : Met l yX6_forecasts [.code yX6_forecasts cX6_forecasts 2 (some .int)] (zRm 0 0 0 0) (zPc [.ref (ad 0), .int (iI g)] D cy z0 (fun H => va_P D vwCl (rooW ad 0 cy fm fr) H)) (QcRead (iI (if g = 0 then fm else fr))) 0 0 (fun _ => False) := by
  refine z_of (by decide) (Nat.le_of_ble_eq_true rfl) ?_
  intro p e s m args below meth c M hr hlk _ hargs hP hE ls hl
  have hS : va_S (fun q => z0 ≤ q) s.heap s.heap [] := va_S.rf
  have hAz : ∀ q : Nat, (fun q => z0 ≤ q) q → z0 ≤ q := fun _ h => h
  have hl : lv_has ls 2 [(0, .ref (ad 0)), (1, .int (iI g))] := hl
  refine lv_iload_n M.1 M.2.1 dX6_forecasts_0 rfl (lv_at hl 1 rfl) ?_
  refine zi_if_eq (tgt := 11) M dX6_forecasts_1 (by decide) (by omega) (fun c_1 => ?_) (fun c_1 => ?_)
  ·
    refine lv_aload_n M.1 M.2.1 dX6_forecasts_11 rfl (lv_at hl 0 rfl) ?_
    refine zi_get (ci := 6) (v := .int (iI fm)) M hE hP 0 rfl rfl zu_X6 8 (by decide) zk_fl_RX6_161 rfl rfl dX6_forecasts_12 ?_
    exact zr_i M hr hlk (congrArg iI (show (fm : Int) = if g = 0 then fm else fr by (first | exact (if_pos (by omega)).symm | exact (if_neg (by omega)).symm))) dX6_forecasts_15
  ·
    refine lv_aload_n M.1 M.2.1 dX6_forecasts_4 rfl (lv_at hl 0 rfl) ?_
    refine zi_get (ci := 6) (v := .int (iI fr)) M hE hP 0 rfl rfl zu_X6 9 (by decide) zk_fl_RX6_158 rfl rfl dX6_forecasts_5 ?_
    refine zi_goto (tgt := 15) M dX6_forecasts_8 (by decide) ?_
    exact zr_i M hr hlk (congrArg iI (show (fr : Int) = if g = 0 then fm else fr by (first | exact (if_pos (by omega)).symm | exact (if_neg (by omega)).symm))) dX6_forecasts_15

set_option maxRecDepth 100000 in
set_option maxHeartbeats 4000000 in
theorem c_X6_light (l : Launch) (hst : l.stackTraces = false) (D : va_G) (cy : Nat → ClassId) (z0 : Nat) (ad : Nat → Nat) (fm fr h su st sh fl : Int) (cS cH dD dE dF : Int → Int) (q : Int) (k : Int) (r_q : r32 q) (r_k : r32 k) (h_h : 0 ≤ h ∧ h ≤ 5000) : vx_Met l yX6_light [.code yX6_light cX6_light 3 (some .int)] (zRm 7 2 12 112) (zPc [.ref (ad 0), .int (iI q), .int (iI k)] D cy z0 (zWl D z0 ((rooW ad 0 cy fm fr) ++ (airW ad 1 cy h su st sh fl cS cH dD dE dF)))) (zQ1 D ((rooW ad 0 cy fm fr) ++ (airW ad 1 cy h su st sh fl cS cH dD dE dF)) (fun (r : Int32) (_ : Unit) => ((0 ≤ q ∧ q < 48) ∧ (0 ≤ k ∧ k ≤ 24)) ∧ r = iI (lightZ (h + k) q)) (fun (_ : Unit) => ((rooW ad 0 cy fm fr) ++ (airW ad 1 cy h su st sh fl cS cH dD dE dF)))) (zXC (fun E => (E = eIB ∧ (¬ (0 ≤ q ∧ q < 48))) ∨ (E = eIA ∧ ((0 ≤ q ∧ q < 48) ∧ ¬ (0 ≤ k ∧ k ≤ 24))))) 2 12 (zIn ((rooW ad 0 cy fm fr) ++ (airW ad 1 cy h su st sh fl cS cH dD dE dF))) := by
  refine z_ofX (by decide) (Nat.le_of_ble_eq_true rfl) ?_
  intro p e s m args below meth c M hr hlk ht hargs hP0 hE ls hl
  have hP : va_P D vwCl ((rooW ad 0 cy fm fr) ++ (airW ad 1 cy h su st sh fl cS cH dD dE dF)) s.heap := hP0.1
  have hD : va_D (zIn ((rooW ad 0 cy fm fr) ++ (airW ad 1 cy h su st sh fl cS cH dD dE dF))) ((rooW ad 0 cy fm fr) ++ (airW ad 1 cy h su st sh fl cS cH dD dE dF)) := hP0.self
  have hAz := hP0.A
  have hS : va_S (zIn ((rooW ad 0 cy fm fr) ++ (airW ad 1 cy h su st sh fl cS cH dD dE dF))) s.heap s.heap [] := va_S.rf
  have hl : lv_has ls 3 [(0, .ref (ad 0)), (1, .int (iI q)), (2, .int (iI k))] := hl
  refine lv_iload_n M.1 M.2.1 dX6_light_0 rfl (lv_at hl 1 rfl) ?_
  refine zx_need (zx_runS (As := [.int (iI q)]) (rest := []) M (c_X6_needPlace l hst D cy z0 q (by omega)) hE hS hAz trivial zk_cd_X6_needPlace zk_in_RX6 zk_st_X6_needPlace zk_ml_RX6_80 rfl rfl zd_X6_needPlace ⟨by decide, by decide⟩ rfl hl.1 rfl (Nat.le_of_ble_eq_true rfl) dX6_light_1 ⟨by decide, by decide⟩) ht hlk (by decide) (by decide) (fun E t hA9 hC hz hq => ⟨by obtain ⟨rfl, h9⟩ := hC; exact Or.inl (⟨rfl, by omega⟩), hz, hq⟩) (fun hn_1 => ?_)
  refine lv_iload_n M.1 M.2.1 dX6_light_4 rfl (lv_at hl 2 rfl) ?_
  refine zi_push M dX6_light_5 ?_
  refine zi_bipush M dX6_light_6 ⟨by decide, by decide⟩ ?_
  refine zx_need (zx_runS (As := [.int (iI k), .int (iI 0), .int (iI 24)]) (rest := []) M (c_X6_needRange l hst D cy z0 k 0 24 (by omega) (by omega) (by omega)) hE hS hAz trivial zk_cd_X6_needRange zk_in_RX6 zk_st_X6_needRange zk_ml_RX6_59 rfl rfl zd_X6_needRange ⟨by decide, by decide⟩ rfl hl.1 rfl (Nat.le_of_ble_eq_true rfl) dX6_light_8 ⟨by decide, by decide⟩) ht hlk (by decide) (by decide) (fun E t hA9 hC hz hq => ⟨by obtain ⟨rfl, h9⟩ := hC; exact Or.inr (⟨rfl, by omega⟩), hz, hq⟩) (fun hn_2 => ?_)
  refine lv_aload_n M.1 M.2.1 dX6_light_11 rfl (lv_at hl 0 rfl) ?_
  refine zi_get (ci := 6) (v := .ref (ad 1)) M hE hP 0 rfl rfl zu_X6 0 (by decide) zk_fl_RX6_12 rfl rfl dX6_light_12 ?_
  refine zi_getN (ci := 0) (v := .int (iI h)) M hE hP 1 rfl rfl zu_X0 0 (by decide) zk_fn_RX6_94 rfl rfl dX6_light_15 ?_
  refine lv_iload_n M.1 M.2.1 dX6_light_18 rfl (lv_at hl 2 rfl) ?_
  refine zi_iadd M dX6_light_19 ?_
  refine lv_iload_n M.1 M.2.1 dX6_light_20 rfl (lv_at hl 1 rfl) ?_
  refine z_cR (z_runS (As := [.int (iI (h + k)), .int (iI q)]) (rest := []) M (c_X6_lightIn l D cy z0 (h + k) q (by omega) (by omega)) hE hS hAz trivial zk_cd_X6_lightIn zk_in_RX6 zk_st_X6_lightIn zk_ml_RX6_164 rfl rfl zd_X6_lightIn ⟨by decide, by decide⟩ rfl hl.1 rfl (Nat.le_of_ble_eq_true rfl) dX6_light_21 ⟨by decide, by decide⟩) ?_
  have hx_3 := lightZ_rg (h + k) q
  have hP : va_P D vwCl ((rooW ad 0 cy fm fr) ++ (airW ad 1 cy h su st sh fl cS cH dD dE dF)) s.heap := hP
  exact vx_ret (zw_i M hr hlk () hP hS (by exact ⟨by omega, congrArg iI (show ((lightZ (h + k) q) : Int) = lightZ (h + k) q by rfl)⟩) (by decide) (by decide) dX6_light_24)

set_option maxRecDepth 100000 in
set_option maxHeartbeats 4000000 in
theorem c_X6_density (l : Launch) (hst : l.stackTraces = false) (D : va_G) (cy : Nat → ClassId) (z0 : Nat) (ad : Nat → Nat) (fm fr h su st sh fl : Int) (cS cH dD dE dF : Int → Int) (q : Int) (y : Int) (r_q : r32 q) (r_y : r32 y) : vx_Met l yX6_density [.code yX6_density cX6_density 3 (some .int)] (zRm 7 2 12 112) (zPc [.ref (ad 0), .int (iI q), .int (iI y)] D cy z0 (zWl D z0 ((rooW ad 0 cy fm fr) ++ (airW ad 1 cy h su st sh fl cS cH dD dE dF)))) (zQ1 D ((rooW ad 0 cy fm fr) ++ (airW ad 1 cy h su st sh fl cS cH dD dE dF)) (fun (r : Int32) (_ : Unit) => ((0 ≤ q ∧ q < 48) ∧ (0 ≤ y ∧ y ≤ 2)) ∧ r = iI (tell3 dD dE dF y q)) (fun (_ : Unit) => ((rooW ad 0 cy fm fr) ++ (airW ad 1 cy h su st sh fl cS cH dD dE dF)))) (zXC (fun E => (E = eIB ∧ (¬ (0 ≤ q ∧ q < 48))) ∨ (E = eIA ∧ ((0 ≤ q ∧ q < 48) ∧ ¬ (0 ≤ y ∧ y ≤ 2))))) 2 12 (zIn ((rooW ad 0 cy fm fr) ++ (airW ad 1 cy h su st sh fl cS cH dD dE dF))) := by
  refine z_ofX (by decide) (Nat.le_of_ble_eq_true rfl) ?_
  intro p e s m args below meth c M hr hlk ht hargs hP0 hE ls hl
  have hP : va_P D vwCl ((rooW ad 0 cy fm fr) ++ (airW ad 1 cy h su st sh fl cS cH dD dE dF)) s.heap := hP0.1
  have hD : va_D (zIn ((rooW ad 0 cy fm fr) ++ (airW ad 1 cy h su st sh fl cS cH dD dE dF))) ((rooW ad 0 cy fm fr) ++ (airW ad 1 cy h su st sh fl cS cH dD dE dF)) := hP0.self
  have hAz := hP0.A
  have hS : va_S (zIn ((rooW ad 0 cy fm fr) ++ (airW ad 1 cy h su st sh fl cS cH dD dE dF))) s.heap s.heap [] := va_S.rf
  have hl : lv_has ls 3 [(0, .ref (ad 0)), (1, .int (iI q)), (2, .int (iI y))] := hl
  refine lv_iload_n M.1 M.2.1 dX6_density_0 rfl (lv_at hl 1 rfl) ?_
  refine zx_need (zx_runS (As := [.int (iI q)]) (rest := []) M (c_X6_needPlace l hst D cy z0 q (by omega)) hE hS hAz trivial zk_cd_X6_needPlace zk_in_RX6 zk_st_X6_needPlace zk_ml_RX6_80 rfl rfl zd_X6_needPlace ⟨by decide, by decide⟩ rfl hl.1 rfl (Nat.le_of_ble_eq_true rfl) dX6_density_1 ⟨by decide, by decide⟩) ht hlk (by decide) (by decide) (fun E t hA9 hC hz hq => ⟨by obtain ⟨rfl, h9⟩ := hC; exact Or.inl (⟨rfl, by omega⟩), hz, hq⟩) (fun hn_1 => ?_)
  refine lv_iload_n M.1 M.2.1 dX6_density_4 rfl (lv_at hl 2 rfl) ?_
  refine zi_push M dX6_density_5 ?_
  refine zi_push M dX6_density_6 ?_
  refine zx_need (zx_runS (As := [.int (iI y), .int (iI 0), .int (iI 2)]) (rest := []) M (c_X6_needRange l hst D cy z0 y 0 2 (by omega) (by omega) (by omega)) hE hS hAz trivial zk_cd_X6_needRange zk_in_RX6 zk_st_X6_needRange zk_ml_RX6_59 rfl rfl zd_X6_needRange ⟨by decide, by decide⟩ rfl hl.1 rfl (Nat.le_of_ble_eq_true rfl) dX6_density_7 ⟨by decide, by decide⟩) ht hlk (by decide) (by decide) (fun E t hA9 hC hz hq => ⟨by obtain ⟨rfl, h9⟩ := hC; exact Or.inr (⟨rfl, by omega⟩), hz, hq⟩) (fun hn_2 => ?_)
  rcases (by omega : y = 0 ∨ y = 1 ∨ y = 2) with rfl | rfl | rfl
  ·
    refine lv_aload_n M.1 M.2.1 dX6_density_10 rfl (lv_at hl 0 rfl) ?_
    refine zi_get (ci := 6) (v := .ref (ad 1)) M hE hP 0 rfl rfl zu_X6 0 (by decide) zk_fl_RX6_12 rfl rfl dX6_density_11 ?_
    refine zi_getN (ci := 0) (v := .ref (ad (1 + 3))) M hE hP 1 rfl rfl zu_X0 7 (by decide) zk_fn_RX6_168 rfl rfl dX6_density_14 ?_
    refine lv_iload_n M.1 M.2.1 dX6_density_17 rfl (lv_at hl 2 rfl) ?_
    refine zi_aald (n := 3) (f := fun i => ad (1 + (4 + i))) M hE hP 4 rfl (by decide) (by decide) (by decide) dX6_density_18 ?_
    refine z_re (v := .ref (ad (1 + 4))) rfl ?_
    refine lv_iload_n M.1 M.2.1 dX6_density_19 rfl (lv_at hl 1 rfl) ?_
    refine zi_iald M hE hP 5 (n := 48) (g := dD) rfl (Nat.le_of_ble_eq_true rfl) (by omega) (by omega) dX6_density_20 ?_
    have hP : va_P D vwCl ((rooW ad 0 cy fm fr) ++ (airW ad 1 cy h su st sh fl cS cH dD dE dF)) s.heap := hP
    exact vx_ret (zw_i M hr hlk () hP hS (by exact ⟨by omega, congrArg iI (show ((dD q) : Int) = tell3 dD dE dF 0 q by rfl)⟩) (by decide) (by decide) dX6_density_21)
  ·
    refine lv_aload_n M.1 M.2.1 dX6_density_10 rfl (lv_at hl 0 rfl) ?_
    refine zi_get (ci := 6) (v := .ref (ad 1)) M hE hP 0 rfl rfl zu_X6 0 (by decide) zk_fl_RX6_12 rfl rfl dX6_density_11 ?_
    refine zi_getN (ci := 0) (v := .ref (ad (1 + 3))) M hE hP 1 rfl rfl zu_X0 7 (by decide) zk_fn_RX6_168 rfl rfl dX6_density_14 ?_
    refine lv_iload_n M.1 M.2.1 dX6_density_17 rfl (lv_at hl 2 rfl) ?_
    refine zi_aald (n := 3) (f := fun i => ad (1 + (4 + i))) M hE hP 4 rfl (by decide) (by decide) (by decide) dX6_density_18 ?_
    refine z_re (v := .ref (ad (1 + 5))) rfl ?_
    refine lv_iload_n M.1 M.2.1 dX6_density_19 rfl (lv_at hl 1 rfl) ?_
    refine zi_iald M hE hP 6 (n := 48) (g := dE) rfl (Nat.le_of_ble_eq_true rfl) (by omega) (by omega) dX6_density_20 ?_
    have hP : va_P D vwCl ((rooW ad 0 cy fm fr) ++ (airW ad 1 cy h su st sh fl cS cH dD dE dF)) s.heap := hP
    exact vx_ret (zw_i M hr hlk () hP hS (by exact ⟨by omega, congrArg iI (show ((dE q) : Int) = tell3 dD dE dF 1 q by rfl)⟩) (by decide) (by decide) dX6_density_21)
  ·
    refine lv_aload_n M.1 M.2.1 dX6_density_10 rfl (lv_at hl 0 rfl) ?_
    refine zi_get (ci := 6) (v := .ref (ad 1)) M hE hP 0 rfl rfl zu_X6 0 (by decide) zk_fl_RX6_12 rfl rfl dX6_density_11 ?_
    refine zi_getN (ci := 0) (v := .ref (ad (1 + 3))) M hE hP 1 rfl rfl zu_X0 7 (by decide) zk_fn_RX6_168 rfl rfl dX6_density_14 ?_
    refine lv_iload_n M.1 M.2.1 dX6_density_17 rfl (lv_at hl 2 rfl) ?_
    refine zi_aald (n := 3) (f := fun i => ad (1 + (4 + i))) M hE hP 4 rfl (by decide) (by decide) (by decide) dX6_density_18 ?_
    refine z_re (v := .ref (ad (1 + 6))) rfl ?_
    refine lv_iload_n M.1 M.2.1 dX6_density_19 rfl (lv_at hl 1 rfl) ?_
    refine zi_iald M hE hP 7 (n := 48) (g := dF) rfl (Nat.le_of_ble_eq_true rfl) (by omega) (by omega) dX6_density_20 ?_
    have hP : va_P D vwCl ((rooW ad 0 cy fm fr) ++ (airW ad 1 cy h su st sh fl cS cH dD dE dF)) s.heap := hP
    exact vx_ret (zw_i M hr hlk () hP hS (by exact ⟨by omega, congrArg iI (show ((dF q) : Int) = tell3 dD dE dF 2 q by rfl)⟩) (by decide) (by decide) dX6_density_21)
