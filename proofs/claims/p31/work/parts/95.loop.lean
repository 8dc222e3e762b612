/-! the law: a round, the rounds -/
set_option maxRecDepth 100000 in
set_option maxHeartbeats 16000000 in
theorem lw_tail (l : Launch) (hst : l.stackTraces = false) (D : va_G) (cy : Nat → ClassId) (z0 : Nat) (ad bd : Nat → Nat) (p : Program) (e : Env) (s : State) (m : MethodId) (args : Array Value) (below : List Frame) (meth : Method) (c : Code) (b : Nat) (Q : State → Prop) (L : Nat) (xs : Nat → Int32) (M : zM p s m args c cL_law RL 6) (hE : zE D cy z0 s) (hN : zNc s) (hL : L ≤ 260) (hX : va_X b L xs s s.heap) (hbl : b < s.heap.size) (hbA : ¬ z0 ≤ b) (i : Int) (cells slots : Nat) (hi : 0 ≤ i ∧ i < 100) (hc : cells + 100 ≤ 600074) (hs : slots + 600 ≤ 7301550) (v : Int) (σ : zSt) (hI : zInv σ) (hfm : s_fm σ ≤ 6 * (i + 1)) (hback : ∀ (σ : zSt) (hI : zInv σ) (hfm : s_fm σ ≤ 6 * (i + 1)) (ur us : Nat → Int) (H : Heap) (locs : List Loc) (hP : va_P D vwCl (wldW ad cy σ ur) H) (hPm : va_P D vwCl (wldW bd cy σ us) H) (hD : va_D (fun q => z0 ≤ q) ((wldW ad cy σ ur) ++ (wldW bd cy σ us))) (hS : va_S (fun q => z0 ≤ q) s.heap H locs) (ls : Array Slot) (hl : lv_has ls 6 [(0, .ref b), (1, .ref (ad 0)), (2, .ref (bd 0)), (3, .int (iI (i + 1)))]), W p l e room_1 s m args below meth c H locs (cells + 100) (slots + 600) Q (F0 m 18 ls [])) (ur us : Nat → Int) (H : Heap) (locs : List Loc) (hP : va_P D vwCl (wldW ad cy σ ur) H) (hPm : va_P D vwCl (wldW bd cy σ us) H) (hD : va_D (fun q => z0 ≤ q) ((wldW ad cy σ ur) ++ (wldW bd cy σ us))) (hS : va_S (fun q => z0 ≤ q) s.heap H locs) (ls : Array Slot) (hl : lv_has ls 6 [(0, .ref b), (1, .ref (ad 0)), (2, .ref (bd 0)), (3, .int (iI i)), (4, .int (iI v))]) : W p l e room_1 s m args below meth c H locs (cells) (slots) Q (F0 m 57 ls []) := by
  have hAz : ∀ q : Nat, (fun q => z0 ≤ q) q → z0 ≤ q := fun _ h => h
  refine lv_iload_n M.1 M.2.1 dL_law_57 rfl (lv_at hl 3 rfl) ?_
  refine zi_bipush M dL_law_58 ⟨by decide, by decide⟩ ?_
  refine zi_irem M dL_law_60 (by omega) (by omega) (by omega) (by omega) ?_
  refine zi_bipush M dL_law_61 ⟨by decide, by decide⟩ ?_
  refine zi_icmp_ne (tgt := 80) M dL_law_63 (by decide) (by omega) ⟨by decide, by decide⟩ (fun _ => ?_) (fun _ => ?_)
  · refine zi_iinc (lv' := [(3, .int (iI (i + 1))), (0, .ref b), (1, .ref (ad 0)), (2, .ref (bd 0)), (4, .int (iI v))]) M dL_law_80 hl 3 rfl (by decide) rfl (fun ls hl => ?_)
    refine zi_goto (tgt := 18) M dL_law_83 (by decide) ?_
    refine W.widen (k := cells + 100) (n := slots + 600) (by omega) (by omega) ?_
    exact hback σ hI hfm ur us H locs hP hPm hD hS ls (lv_sub hl [1, 2, 3, 0] rfl)
  · refine lv_aload_n M.1 M.2.1 dL_law_66 rfl (lv_at hl 1 rfl) ?_
    refine lv_aload_n M.1 M.2.1 dL_law_67 rfl (lv_at hl 2 rfl) ?_
    refine lv_iload M.1 M.2.1 dL_law_68 (lv_at hl 4 rfl) ?_
    refine zi_push M dL_law_70 ?_
    refine zi_ishr M dL_law_71 ?_
    refine z_cWa (z_runSH (As := [.ref (ad 0), .ref (bd 0), .int (iI (shZ v 3))]) (rest := []) M (c_L_areAlike l hst D cy z0 ad bd σ ur us (shZ v 3) hI) hE hN hS hAz ⟨hP.app hPm, hD⟩ zk_cd_L_areAlike zk_in_RL zk_st_L_areAlike zk_ml_RL_189 rfl rfl zd_L_areAlike ⟨by decide, by decide⟩ rfl hl.1 rfl (Nat.le_of_ble_eq_true rfl) dL_law_72 ⟨by show _ ≤ 600074; omega, by show _ ≤ 7301550; omega⟩) hD hS (fun _ => by rw [List.map_append, List.map_append]; exact congr (congrArg (fun x y => x ++ y) wldW_adr) wldW_adr) (fun r u H locs hp hP2 hD hS => ?_)
    obtain ⟨ur1, us1⟩ := u
    have hp : r = iI 1 := hp
    subst hp
    refine zi_if_ne (a := 1) (tgt := 80) M dL_law_75 (by decide) ⟨by decide, by decide⟩ (fun _ => ?_) (fun z => absurd z (by decide))
    refine zi_iinc (lv' := [(3, .int (iI (i + 1))), (0, .ref b), (1, .ref (ad 0)), (2, .ref (bd 0)), (4, .int (iI v))]) M dL_law_80 hl 3 rfl (by decide) rfl (fun ls hl => ?_)
    refine zi_goto (tgt := 18) M dL_law_83 (by decide) ?_
    exact hback σ hI hfm ur1 us1 H locs (zP_l hP2) (zP_r hP2) hD hS ls (lv_sub hl [1, 2, 3, 0] rfl)
set_option maxRecDepth 100000 in
set_option maxHeartbeats 16000000 in
theorem lw_round (l : Launch) (hst : l.stackTraces = false) (D : va_G) (cy : Nat → ClassId) (z0 : Nat) (ad bd : Nat → Nat) (p : Program) (e : Env) (s : State) (m : MethodId) (args : Array Value) (below : List Frame) (meth : Method) (c : Code) (b : Nat) (Q : State → Prop) (L : Nat) (xs : Nat → Int32) (M : zM p s m args c cL_law RL 6) (hE : zE D cy z0 s) (hN : zNc s) (hL : L ≤ 260) (hX : va_X b L xs s s.heap) (hbl : b < s.heap.size) (hbA : ¬ z0 ≤ b) (i : Int) (cells slots : Nat) (hi : 0 ≤ i ∧ i < 100) (hc : cells + 112 ≤ 600074) (hs : slots + 672 ≤ 7301550) (σ : zSt) (hI : zInv σ) (hfm : s_fm σ ≤ 6 * i) (hback : ∀ (σ : zSt) (hI : zInv σ) (hfm : s_fm σ ≤ 6 * (i + 1)) (ur us : Nat → Int) (H : Heap) (locs : List Loc) (hP : va_P D vwCl (wldW ad cy σ ur) H) (hPm : va_P D vwCl (wldW bd cy σ us) H) (hD : va_D (fun q => z0 ≤ q) ((wldW ad cy σ ur) ++ (wldW bd cy σ us))) (hS : va_S (fun q => z0 ≤ q) s.heap H locs) (ls : Array Slot) (hl : lv_has ls 6 [(0, .ref b), (1, .ref (ad 0)), (2, .ref (bd 0)), (3, .int (iI (i + 1)))]), W p l e room_1 s m args below meth c H locs (cells + 112) (slots + 672) Q (F0 m 18 ls [])) (ur us : Nat → Int) (H : Heap) (locs : List Loc) (hP : va_P D vwCl (wldW ad cy σ ur) H) (hPm : va_P D vwCl (wldW bd cy σ us) H) (hD : va_D (fun q => z0 ≤ q) ((wldW ad cy σ ur) ++ (wldW bd cy σ us))) (hS : va_S (fun q => z0 ≤ q) s.heap H locs) (ls : Array Slot) (hl : lv_has ls 6 [(0, .ref b), (1, .ref (ad 0)), (2, .ref (bd 0)), (3, .int (iI i))]) : W p l e room_1 s m args below meth c H locs (cells) (slots) Q (F0 m 18 ls []) := by
  have hAz : ∀ q : Nat, (fun q => z0 ≤ q) q → z0 ≤ q := fun _ h => h
  refine lv_iload_n M.1 M.2.1 dL_law_18 rfl (lv_at hl 3 rfl) ?_
  refine zi_bipush M dL_law_19 ⟨by decide, by decide⟩ ?_
  refine zi_icmp_ge (tgt := 86) M dL_law_21 (by decide) (by omega) ⟨by decide, by decide⟩ (fun z => absurd z (by omega)) (fun _ => ?_)
  refine lv_aload_n M.1 M.2.1 dL_law_24 rfl (lv_at hl 0 rfl) ?_
  refine lv_iload_n M.1 M.2.1 dL_law_25 rfl (lv_at hl 3 rfl) ?_
  refine z_cell (rest := []) M hE hX hbl hbA hS hL (k := i) (by omega) hl.1 rfl (by decide) ⟨by decide, by decide⟩ dL_law_26 ⟨by show _ ≤ 600074; omega, by show _ ≤ 7301550; omega⟩ ?_
  have hv9 := ceZ_rg L xs i
  generalize ceZ L xs i = v at hv9 ⊢
  refine lv_istore (lv' := [(4, .int (iI v)), (0, .ref b), (1, .ref (ad 0)), (2, .ref (bd 0)), (3, .int (iI i))]) M.1 M.2.1 dL_law_29 hl (by decide) rfl (fun ls hl => ?_)
  refine lv_aload_n M.1 M.2.1 dL_law_31 rfl (lv_at hl 2 rfl) ?_
  refine lv_iload M.1 M.2.1 dL_law_32 (lv_at hl 0 rfl) ?_
  refine z_cW2a (z_runSH (As := [.ref (ad 0), .int (iI v)]) (rest := []) M (c_L_act l hst D cy z0 ad σ ur v hv9 hI) hE hN hS hAz ⟨hP, zD_l hD⟩ zk_cd_L_act zk_in_RL zk_st_L_act zk_ml_RL_186 rfl rfl zd_L_act ⟨by decide, by decide⟩ rfl hl.1 rfl (Nat.le_of_ble_eq_true rfl) dL_law_34 ⟨by show _ ≤ 600074; omega, by show _ ≤ 7301550; omega⟩) hPm hD hS (fun _ => wldW_adr) (fun r u H locs hp hP hPm hD hS => ?_)
  obtain ⟨rv, τ, ur1⟩ := u
  obtain ⟨hr, hs1⟩ := hp
  have hr : r = iI rv := hr
  subst hr
  have hs1 : stepR v σ rv τ := hs1
  have hP : va_P D vwCl (wldW ad cy τ ur1) H := hP
  have hD : va_D (fun q => z0 ≤ q) (wldW ad cy τ ur1 ++ wldW bd cy σ us) := hD
  refine lv_istore (lv' := [(5, .int (iI rv)), (4, .int (iI v)), (0, .ref b), (1, .ref (ad 0)), (2, .ref (bd 0)), (3, .int (iI i))]) M.1 M.2.1 dL_law_37 hl (by decide) rfl (fun ls hl => ?_)
  refine lv_iload M.1 M.2.1 dL_law_39 (lv_at hl 0 rfl) ?_
  refine zi_ldc M (z := -2000000000) (by decide) zk_ct_RL_16 dL_law_41 ?_
  refine lv_icmp_eq M.1 M.2.1 dL_law_43 (tgt := 57) (by decide) (fun hq => ?_) (fun hq => ?_)
  · have e9 := stepR_thr hI hs1 hq
    rw [e9] at hP hD
    exact lw_tail l hst D cy z0 ad bd p e s m args below meth c b Q L xs M hE hN hL hX hbl hbA i (cells + 6) (slots + 36) hi (by omega) (by omega) v σ hI (by omega) (fun σ hI hfm ur us H locs hP hPm hD hS ls hl => W.widen (k := cells + 112) (n := slots + 672) (by omega) (by omega) (hback σ hI hfm ur us H locs hP hPm hD hS ls hl)) ur1 us H locs hP hPm hD hS ls (lv_sub hl [2, 3, 4, 5, 1] rfl)
  · refine lv_aload_n M.1 M.2.1 dL_law_46 rfl (lv_at hl 4 rfl) ?_
    refine lv_iload M.1 M.2.1 dL_law_47 (lv_at hl 1 rfl) ?_
    have hD2 := zD_c hD
    refine z_cW2a (z_runSH (As := [.ref (bd 0), .int (iI v)]) (rest := []) M (c_L_act l hst D cy z0 bd σ us v hv9 hI) hE hN hS hAz ⟨hPm, zD_l hD2⟩ zk_cd_L_act zk_in_RL zk_st_L_act zk_ml_RL_186 rfl rfl zd_L_act ⟨by decide, by decide⟩ rfl hl.1 rfl (Nat.le_of_ble_eq_true rfl) dL_law_49 ⟨by show _ ≤ 600074; omega, by show _ ≤ 7301550; omega⟩) hP hD2 hS (fun _ => wldW_adr) (fun r u H locs hp hPm hP hD hS => ?_)
    obtain ⟨rv2, τ2, us1⟩ := u
    obtain ⟨hr, hs2⟩ := hp
    have hr : r = iI rv2 := hr
    subst hr
    have hs2 : stepR v σ rv2 τ2 := hs2
    obtain ⟨e1, e2⟩ := stepR_det hs2 hs1
    have hPm : va_P D vwCl (wldW bd cy τ2 us1) H := hPm
    have hD : va_D (fun q => z0 ≤ q) (wldW bd cy τ2 us1 ++ wldW ad cy τ ur1) := hD
    rw [e2] at hPm hD
    have hk := stepR_keep hI hs1
    refine lv_iload M.1 M.2.1 dL_law_52 (lv_at hl 0 rfl) ?_
    refine zi_eqN (tgt := 78) M e1 dL_law_54 (by decide) ?_
    exact lw_tail l hst D cy z0 ad bd p e s m args below meth c b Q L xs M hE hN hL hX hbl hbA i (cells + 6 + 6) (slots + 36 + 36) hi (by omega) (by omega) v τ hk.1 (by have := hk.2; omega) (fun σ hI hfm ur us H locs hP hPm hD hS ls hl => W.widen (k := cells + 112) (n := slots + 672) (by omega) (by omega) (hback σ hI hfm ur us H locs hP hPm hD hS ls hl)) ur1 us1 H locs hP hPm (zD_c hD) hS ls (lv_sub hl [2, 3, 4, 5, 1] rfl)
set_option maxRecDepth 100000 in
set_option maxHeartbeats 16000000 in
theorem lw_loop (l : Launch) (hst : l.stackTraces = false) (D : va_G) (cy : Nat → ClassId) (z0 : Nat) (ad bd : Nat → Nat) (p : Program) (e : Env) (s : State) (m : MethodId) (args : Array Value) (below : List Frame) (meth : Method) (c : Code) (b : Nat) (Q : State → Prop) (L : Nat) (xs : Nat → Int32) (M : zM p s m args c cL_law RL 6) (hE : zE D cy z0 s) (hN : zNc s) (hL : L ≤ 260) (hX : va_X b L xs s s.heap) (hbl : b < s.heap.size) (hbA : ¬ z0 ≤ b) (hend : ∀ (cells slots : Nat), cells ≤ 11300 → slots ≤ 70100 → ∀ (σ : zSt) (hI : zInv σ) (hfm : s_fm σ ≤ 600) (ur us : Nat → Int) (H : Heap) (locs : List Loc) (hP : va_P D vwCl (wldW ad cy σ ur) H) (hPm : va_P D vwCl (wldW bd cy σ us) H) (hD : va_D (fun q => z0 ≤ q) ((wldW ad cy σ ur) ++ (wldW bd cy σ us))) (hS : va_S (fun q => z0 ≤ q) s.heap H locs) (ls : Array Slot) (hl : lv_has ls 6 [(0, .ref b), (1, .ref (ad 0)), (2, .ref (bd 0))]), W p l e room_1 s m args below meth c H locs (cells) (slots) Q (F0 m 86 ls [])) : ∀ (n : Nat) (i : Int) (cells slots : Nat), (0 ≤ i ∧ i ≤ 100) → (100 - i < (n : Int)) → ((cells : Int) ≤ 86 + 112 * i) → ((slots : Int) ≤ 2866 + 672 * i) → ∀ (σ : zSt) (hI : zInv σ) (hfm : s_fm σ ≤ 6 * i) (ur us : Nat → Int) (H : Heap) (locs : List Loc) (hP : va_P D vwCl (wldW ad cy σ ur) H) (hPm : va_P D vwCl (wldW bd cy σ us) H) (hD : va_D (fun q => z0 ≤ q) ((wldW ad cy σ ur) ++ (wldW bd cy σ us))) (hS : va_S (fun q => z0 ≤ q) s.heap H locs) (ls : Array Slot) (hl : lv_has ls 6 [(0, .ref b), (1, .ref (ad 0)), (2, .ref (bd 0)), (3, .int (iI i))]), W p l e room_1 s m args below meth c H locs (cells) (slots) Q (F0 m 18 ls []) := by
  intro n
  induction n with
  | zero => intro i cells slots hi hm; exact absurd hm (by omega)
  | succ n ih =>
    intro i cells slots hi hm hc hs σ hI hfm ur us H locs hP hPm hD hS ls hl
    rcases Int.lt_or_le i 100 with q | q
    · exact lw_round l hst D cy z0 ad bd p e s m args below meth c b Q L xs M hE hN hL hX hbl hbA i cells slots (by omega) (by omega) (by omega) σ hI hfm (fun σ hI hfm ur us H locs hP hPm hD hS ls hl => ih (i + 1) (cells + 112) (slots + 672) (by omega) (by omega) (by omega) (by omega) σ hI hfm ur us H locs hP hPm hD hS ls hl) ur us H locs hP hPm hD hS ls hl
    · refine lv_iload_n M.1 M.2.1 dL_law_18 rfl (lv_at hl 3 rfl) ?_
      refine zi_bipush M dL_law_19 ⟨by decide, by decide⟩ ?_
      refine zi_icmp_ge (tgt := 86) M dL_law_21 (by decide) (by omega) ⟨by decide, by decide⟩ (fun _ => ?_) (fun z => absurd q z)
      exact hend cells slots (by omega) (by omega) σ hI (by omega) ur us H locs hP hPm hD hS ls (lv_sub hl [0, 1, 2] rfl)
theorem zrg_0 {n lo hi : Int} (h1 : lo ≤ 0) (h2 : 0 ≤ hi) : zrg n lo hi (fun _ => 0) := fun _ _ _ => ⟨h1, h2⟩
theorem zInv_ini : zInv iniS := by
  show (0 ≤ (0 : Int) ∧ (0 : Int) ≤ 5000) ∧ (0 ≤ (50 : Int) ∧ (50 : Int) ≤ 100) ∧ (0 ≤ (0 : Int) ∧ (0 : Int) ≤ 60) ∧ (0 ≤ (0 : Int) ∧ (0 : Int) ≤ 72) ∧ (0 ≤ (0 : Int) ∧ (0 : Int) ≤ 80) ∧ (0 ≤ (0 : Int) ∧ (0 : Int) ≤ 12) ∧ (0 ≤ (0 : Int) ∧ (0 : Int) ≤ 6) ∧ (0 ≤ (0 : Int) ∧ (0 : Int) ≤ 60) ∧ (0 ≤ (0 : Int) ∧ (0 : Int) ≤ 80) ∧ ((0 ≤ (0 : Int) ∧ (0 : Int) ≤ 2 * (0 : Int)) ∧ (0 : Int) % 2 = 0) ∧ (0 ≤ (0 : Int) ∧ (0 : Int) ≤ (0 : Int)) ∧ (zrg 48 0 100 (fun _ => 0)) ∧ (zrg 48 0 24 (fun _ => 0)) ∧ (zrg 48 0 1 (fun _ => 0)) ∧ (zrg 48 0 40 (fun _ => 0)) ∧ (zrg 12 0 47 (fun _ => 0)) ∧ (zrg 12 0 80 (fun _ => 0)) ∧ (zrg 12 0 2 (fun _ => 0)) ∧ (zrg 12 0 2 (fun _ => 0)) ∧ (zrg 6 0 47 (fun _ => 0)) ∧ (zrg 6 0 80 (fun _ => 0)) ∧ (zrg 6 0 2 (fun _ => 0)) ∧ (zrg 6 0 2 (fun _ => 0)) ∧ (zrg 60 0 11 (fun _ => 0)) ∧ (zrg 60 0 11 (fun _ => 0)) ∧ (zrg 60 0 300 (fun _ => 0)) ∧ (zrg 60 0 2 (fun _ => 0)) ∧ (zrg 60 0 5000 (fun _ => 0)) ∧ (zrg 80 0 11 (fun _ => 0)) ∧ (zrg 80 0 11 (fun _ => 0)) ∧ (zrg 80 0 300 (fun _ => 0)) ∧ (zrg 80 0 5000 (fun _ => 0)) ∧ (zrg 80 (-1) 79 (fun _ => 0)) ∧ (∀ n : Int, 0 ≤ n → n < (0 : Int) → 10 ≤ (fun _ => 0) n ∧ (fun _ => 0) n ≤ 300) ∧ (∀ n : Int, 0 ≤ n → n < (0 : Int) → parE (0 : Int) (fun _ => 0) (fun _ => 0) (fun _ => 0) (fun _ => 0) n)
  exact ⟨⟨by decide, by decide⟩, ⟨by decide, by decide⟩, ⟨by decide, by decide⟩, ⟨by decide, by decide⟩, ⟨by decide, by decide⟩, ⟨by decide, by decide⟩, ⟨by decide, by decide⟩, ⟨by decide, by decide⟩, ⟨by decide, by decide⟩, ⟨⟨by decide, by decide⟩, by decide⟩, ⟨by decide, by decide⟩, (zrg_0 (by decide) (by decide)), (zrg_0 (by decide) (by decide)), (zrg_0 (by decide) (by decide)), (zrg_0 (by decide) (by decide)), (zrg_0 (by decide) (by decide)), (zrg_0 (by decide) (by decide)), (zrg_0 (by decide) (by decide)), (zrg_0 (by decide) (by decide)), (zrg_0 (by decide) (by decide)), (zrg_0 (by decide) (by decide)), (zrg_0 (by decide) (by decide)), (zrg_0 (by decide) (by decide)), (zrg_0 (by decide) (by decide)), (zrg_0 (by decide) (by decide)), (zrg_0 (by decide) (by decide)), (zrg_0 (by decide) (by decide)), (zrg_0 (by decide) (by decide)), (zrg_0 (by decide) (by decide)), (zrg_0 (by decide) (by decide)), (zrg_0 (by decide) (by decide)), (zrg_0 (by decide) (by decide)), (zrg_0 (by decide) (by decide)), (fun n h0 h1 => absurd h1 (by omega)), (fun n h0 h1 => absurd h1 (by omega))⟩
