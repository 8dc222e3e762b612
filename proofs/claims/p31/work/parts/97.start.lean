/-! the law, from its entry -/
set_option maxRecDepth 100000 in
set_option maxHeartbeats 16000000 in
theorem whole_start {p : Program} {e : Env} {s : State} {m : MethodId} {below : List Frame} {meth : Method} {c : Code} (l : Launch) (hflags : l.flags = flags0) {b L : Nat} {xs : Nat → Int32} (hL : L ≤ 260) (C0 : lw_At p s m meth c b L xs) : W p l e room_1 s m #[Value.ref b] below meth c s.heap [] 0 0 (lw_Z below #[Value.ref b] s) (entryFrame m ([Value.ref b] : List Value).toArray 6) := by
  obtain ⟨hx, hcode, hret, hml, hown, hts, hX, hbl, hlk, hgv⟩ := C0
  obtain ⟨D, cy, hE, hN⟩ := z_start hts hgv
  have hst : l.stackTraces = false := by unfold Launch.stackTraces; rw [hflags]; decide +kernel
  have M : zM p s m #[Value.ref b] c cL_law RL 6 := ⟨hx, hcode, hml, hown, hE.2.1⟩
  rw [lg_entry_eq]
  have hl : lv_has _ 6 [(0, .ref b)] := lv_entry [Value.ref b] (n := 6) (Nat.le_of_ble_eq_true rfl)
  revert hl
  generalize ((lg_sl [Value.ref b] ++ List.replicate (6 - (lg_sl [Value.ref b]).length) Slot.unset).toArray) = ls
  intro hl
  have hP : va_P D vwCl [] s.heap := fun k q hq => (by cases hq)
  have hD : va_D (fun q => s.heap.size ≤ q) [] := ⟨fun i j x y hi _ _ => (by cases hi), fun k q hq => (by cases hq)⟩
  have hS : va_S (fun q => s.heap.size ≤ q) s.heap s.heap [] := va_S.rf
  have hA : ∀ q : Nat, s.heap.size ≤ q → (fun q => s.heap.size ≤ q) q := fun _ h => h
  have hAz : ∀ q : Nat, (fun q => s.heap.size ≤ q) q → s.heap.size ≤ q := fun _ h => h
  refine zi_new (ci := 6) (fs := [.null, .null, .null, .null, .null, .null, .null, .null, .int (iI 0), .int (iI 0)]) M hE hP hD hS hA rfl zu_X6 tyX6_ok zk_cl_RL_9 zk_is_RX6 zk_in_RX6 (fun j hj => by rcases (by omega : j = 0 ∨ j = 1 ∨ j = 2 ∨ j = 3 ∨ j = 4 ∨ j = 5 ∨ j = 6 ∨ j = 7 ∨ j = 8 ∨ j = 9) with rfl | rfl | rfl | rfl | rfl | rfl | rfl | rfl | rfl | rfl <;> rfl) (by decide) (by decide) dL_law_0 (fun q0 H hP hD hS => ?_)
  refine lv_dup M.1 M.2.1 dL_law_3 rfl ?_
  have hsz0 : s.heap.size ≤ q0 := hAz _ (hD.2 0 _ rfl)
  refine z_cI (z_runI (As := []) (rest := [.ref q0]) M (c_X6_init l D cy s.heap.size q0 H.size) hE hS hAz ⟨rfl, hsz0, zP_r hP⟩ zk_cd_X6_init zk_in_RX6 zk_im_X6_init zk_ml_RL_181 rfl rfl rfl zd_X6_init ⟨by decide, by decide⟩ rfl hl.1 rfl (Nat.le_of_ble_eq_true rfl) dL_law_4 ⟨by decide, by decide⟩) hP hD hS hA rfl (fun ad H locs hr0 hPn hDn hSn => ?_)
  subst hr0
  have hP := hPn
  have hD := hDn
  have hS := hSn
  refine lv_astore_n (lv' := [(1, .ref (ad 0)), (0, .ref b)]) M.1 M.2.1 dL_law_7 rfl hl (by decide) rfl (fun ls hl => ?_)
  refine zi_new (ci := 6) (fs := [.null, .null, .null, .null, .null, .null, .null, .null, .int (iI 0), .int (iI 0)]) M hE hP hD hS hA rfl zu_X6 tyX6_ok zk_cl_RL_9 zk_is_RX6 zk_in_RX6 (fun j hj => by rcases (by omega : j = 0 ∨ j = 1 ∨ j = 2 ∨ j = 3 ∨ j = 4 ∨ j = 5 ∨ j = 6 ∨ j = 7 ∨ j = 8 ∨ j = 9) with rfl | rfl | rfl | rfl | rfl | rfl | rfl | rfl | rfl | rfl <;> rfl) (by decide) (by decide) dL_law_8 (fun q8 H hP hD hS => ?_)
  refine lv_dup M.1 M.2.1 dL_law_11 rfl ?_
  have hsz8 : s.heap.size ≤ q8 := hAz _ (hD.2 43 _ rfl)
  refine z_cI (z_runI (As := []) (rest := [.ref q8]) M (c_X6_init l D cy s.heap.size q8 H.size) hE hS hAz ⟨rfl, hsz8, zP_r hP⟩ zk_cd_X6_init zk_in_RX6 zk_im_X6_init zk_ml_RL_181 rfl rfl rfl zd_X6_init ⟨by decide, by decide⟩ rfl hl.1 rfl (Nat.le_of_ble_eq_true rfl) dL_law_12 ⟨by decide, by decide⟩) hP hD hS hA rfl (fun bd H locs hr0 hPn hDn hSn => ?_)
  subst hr0
  have hP := hPn
  have hD := hDn
  have hS := hSn
  refine lv_astore_n (lv' := [(2, .ref (bd 0)), (1, .ref (ad 0)), (0, .ref b)]) M.1 M.2.1 dL_law_15 rfl hl (by decide) rfl (fun ls hl => ?_)
  refine zi_push M dL_law_16 ?_
  refine lv_istore_n (lv' := [(3, .int (iI 0)), (2, .ref (bd 0)), (1, .ref (ad 0)), (0, .ref b)]) M.1 M.2.1 dL_law_17 rfl hl (by decide) rfl (fun ls hl => ?_)
  have hPa : va_P D vwCl (wldW ad cy iniS (fun _ => 0)) H := zP_r (zP_l hP)
  have hPb : va_P D vwCl (wldW bd cy iniS (fun _ => 0)) H := zP_r hP
  have hD : va_D (fun q => s.heap.size ≤ q) (wldW ad cy iniS (fun _ => 0) ++ wldW bd cy iniS (fun _ => 0)) := hD
  have hend : ∀ (cells slots : Nat), cells ≤ 11300 → slots ≤ 70100 → ∀ (σ : zSt) (hI : zInv σ) (hfm : s_fm σ ≤ 600) (ur us : Nat → Int) (H : Heap) (locs : List Loc) (hP : va_P D vwCl (wldW ad cy σ ur) H) (hPm : va_P D vwCl (wldW bd cy σ us) H) (hD : va_D (fun q => s.heap.size ≤ q) ((wldW ad cy σ ur) ++ (wldW bd cy σ us))) (hS : va_S (fun q => s.heap.size ≤ q) s.heap H locs) (ls : Array Slot) (hl : lv_has ls 6 [(0, .ref b), (1, .ref (ad 0)), (2, .ref (bd 0))]), W p l e room_1 s m #[Value.ref b] below meth c H locs (cells) (slots) (lw_Z below #[Value.ref b] s) (F0 m 86 ls []) := fun cells slots h1 h2 σ hI hfm ur us H locs hP hPm hD hS ls hl => by
    refine lv_aload_n M.1 M.2.1 dL_law_86 rfl (lv_at hl 1 rfl) ?_
    refine lv_aload_n M.1 M.2.1 dL_law_87 rfl (lv_at hl 0 rfl) ?_
    refine zi_bipush M dL_law_88 ⟨by decide, by decide⟩ ?_
    refine z_cell (rest := [.ref (ad 0)]) M hE hX hbl (by omega) hS hL (k := 100) (by omega) hl.1 rfl (Nat.le_of_ble_eq_true rfl) ⟨by decide, by decide⟩ dL_law_90 ⟨by show _ ≤ 600074; omega, by show _ ≤ 7301550; omega⟩ ?_
    refine z_cW2a (z_runSH (As := [.ref (ad 0), .int (iI (ceZ L xs 100))]) (rest := []) M (c_L_isSo l hst D cy s.heap.size ad σ ur (ceZ L xs 100) hI (by omega)) hE hN hS hAz ⟨hP, zD_l hD⟩ zk_cd_L_isSo zk_in_RL zk_st_L_isSo zk_ml_RL_193 rfl rfl zd_L_isSo ⟨by decide, by decide⟩ rfl hl.1 rfl (Nat.le_of_ble_eq_true rfl) dL_law_93 ⟨by show _ ≤ 600074; omega, by show _ ≤ 7301550; omega⟩) hPm hD hS (fun _ => wldW_adr) (fun r u H locs hp hP hPm hD hS => ?_)
    have hp : r = iI 1 := hp
    subst hp
    exact W.widen (by omega) (by omega) (va_forget hS.2.2 (lw_ret hx hcode hret hlk dL_law_96))
  have hloop := lw_loop l hst D cy s.heap.size ad bd p e s m #[Value.ref b] below meth c b (lw_Z below #[Value.ref b] s) L xs M hE hN hL hX hbl (by omega) hend 101 0
  exact hloop _ _ (by omega) (by omega) (by omega) (by omega) iniS zInv_ini (by decide) (fun _ => 0) (fun _ => 0) H _ hPa hPb hD hS ls (lv_sub hl [3, 2, 1, 0] rfl)
