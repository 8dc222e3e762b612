/-! the law, from its entry -/
theorem zrg_0 {n lo hi : Int} (h1 : lo ≤ 0) (h2 : 0 ≤ hi) : zrg n lo hi (fun _ => 0) := fun _ _ _ => ⟨h1, h2⟩
theorem zP_l {D : va_G} {cl : List vw_C} {a b : va_W} {H : Heap} (h : va_P D cl (a ++ b) H) : va_P D cl a H := fun k q hk => h k q (by rw [List.getElem?_append_left (List.getElem?_eq_some_iff.mp hk).1]; exact hk)
theorem zP_r {D : va_G} {cl : List vw_C} {a b : va_W} {H : Heap} (h : va_P D cl (a ++ b) H) : va_P D cl b H := fun k q hk => h (a.length + k) q (by rw [List.getElem?_append_right (Nat.le_add_right _ _), Nat.add_sub_cancel_left]; exact hk)
theorem zi_newl {p : Program} {l : Launch} {e : Env} {R : Room} {s : State} {m : MethodId} {args : Array Value} {below : List Frame} {meth : Method} {c : Code} {H : Heap} {locs : List Loc} {cells slots : Nat} {Q : State → Prop} {cc : ByteArray} {pc : Nat} {ls : Array Slot} {rest : List Value} {own : String} {nL : Nat} {D : va_G} {cy : Nat → ClassId} {z0 : Nat} {A : Nat → Prop} {ws : va_W} (M : zM p s m args c cc own nL) (hE : zE D cy z0 s) (hP : va_P D vwCl ws H) (hD : va_D A ws) (hS : va_S A s.heap H locs) (hA : ∀ q, s.heap.size ≤ q → A q) (hcells : cells + 1 ≤ R.cells) (hslots : slots + 1 ≤ R.slots) (hdg : decode cc pc = .ok (.newarray .long, 2))
    (kk : ∀ (q : Nat) (H1 : Heap), va_P D vwCl (ws ++ [(q, zL (cy 3) 0)]) H1 → va_D A (ws ++ [(q, zL (cy 3) 0)]) → va_S A s.heap H1 locs → W p l e R s m args below meth c H1 locs (cells + 1) (slots + 1) Q (F0 m (pc + 2) ls (.ref q :: rest))) : W p l e R s m args below meth c H locs cells slots Q (F0 m pc ls (.int (iI 1) :: rest)) := by
  have e0 : (fun j : Nat => if j = 0 then iL 0 else 0) = fun _ => 0 := by
    funext j
    have e1 : iL 0 = 0 := by decide
    rw [e1]
    split <;> rfl
  refine va_newa (atype := .long) (ty := .long) M.1 M.2.1 (M.w zk_ac_long) rfl hE.1 hP hD hS hA (a0 := (1, .inr (.inl (fun j => if j = 0 then iL 0 else 0)))) (fun cA => by rw [e0, vp_cell_l]; rfl) (by decide) (by decide) (by decide) hcells hslots hdg (fun q cA H1 hK h1 h2 h3 => ?_)
  have e1 : s.vm.findClass ("[" ++ (FieldType.long).toString) = some cA := (hK.2 4 (cA, .long) rfl).2
  have e2 : s.vm.findClass ("[" ++ (FieldType.long).toString) = some (cy 3) := (hE.1.2 3 (cy 3, .long) rfl).2
  have e3 : cA = cy 3 := Option.some.inj (e1.symm.trans e2)
  subst e3
  exact kk q H1 h1 h2 h3
set_option maxRecDepth 100000 in
set_option maxHeartbeats 8000000 in
theorem whole_start {p : Program} {e : Env} {s : State} {m : MethodId} {below : List Frame} {meth : Method} {c : Code} (l : Launch) (hflags : l.flags = flags0) {b L : Nat} {xs : Nat → Int32} (hL : L ≤ 3584) (C0 : lw_At p s m meth c b L xs) : W p l e room_1 s m #[Value.ref b] below meth c s.heap [] 0 0 (lw_Z below #[Value.ref b] s) (entryFrame m ([Value.ref b] : List Value).toArray 7) := by
  obtain ⟨hx, hcode, hret, hml, hown, hts, hX, hbl, hlk, hgv⟩ := C0
  obtain ⟨D, cy, hE, hN⟩ := z_start hts hgv
  have hst : l.stackTraces = false := by unfold Launch.stackTraces; rw [hflags]; decide +kernel
  have M : zM p s m #[Value.ref b] c cL_law RL 7 := ⟨hx, hcode, hml, hown, hE.2.1⟩
  rw [lg_entry_eq]
  have hl : lv_has _ 7 [(0, .ref b)] := lv_entry [Value.ref b] (n := 7) (Nat.le_of_ble_eq_true rfl)
  revert hl
  generalize ((lg_sl [Value.ref b] ++ List.replicate (7 - (lg_sl [Value.ref b]).length) Slot.unset).toArray) = ls
  intro hl
  have hP : va_P D vwCl [] s.heap := fun k q hq => (by cases hq)
  have hD : va_D (fun q => s.heap.size ≤ q) [] := ⟨fun i j x y hi _ _ => (by cases hi), fun k q hq => (by cases hq)⟩
  have hS : va_S (fun q => s.heap.size ≤ q) s.heap s.heap [] := va_S.rf
  have hA : ∀ q : Nat, s.heap.size ≤ q → (fun q => s.heap.size ≤ q) q := fun _ h => h
  have hAz : ∀ q : Nat, (fun q => s.heap.size ≤ q) q → s.heap.size ≤ q := fun _ h => h
  refine zi_new (ci := 6) (fs := [.null, .null, .null, .null, .null, .null, .null, .null, .int (iI 0), .int (iI 0)]) M hE hP hD hS hA rfl zu_X6 tyX6_ok zk_cl_RL_8 zk_is_RX6 zk_in_RX6 (fun j hj => by rcases (by omega : j = 0 ∨ j = 1 ∨ j = 2 ∨ j = 3 ∨ j = 4 ∨ j = 5 ∨ j = 6 ∨ j = 7 ∨ j = 8 ∨ j = 9) with rfl | rfl | rfl | rfl | rfl | rfl | rfl | rfl | rfl | rfl <;> rfl) (by decide) (by decide) dL_law_0 (fun q0 H hP hD hS => ?_)
  refine lv_dup M.1 M.2.1 dL_law_3 rfl ?_
  have hsz0 : s.heap.size ≤ q0 := hAz _ (hD.2 0 _ rfl)
  refine z_cI (z_runI (As := []) (rest := [.ref q0]) M (c_X6_init l D cy s.heap.size q0 H.size) hE hS hAz ⟨rfl, hsz0, zP_r hP⟩ zk_cd_X6_init zk_in_RX6 zk_im_X6_init zk_ml_RL_106 rfl rfl rfl zd_X6_init ⟨by decide, by decide⟩ rfl hl.1 rfl (Nat.le_of_ble_eq_true rfl) dL_law_4 ⟨by decide, by decide⟩) hP hD hS hA rfl (fun ad H locs hr0 hPn hDn hSn => ?_)
  subst hr0
  have hP := hPn
  have hD := hDn
  have hS := hSn
  refine lv_astore_n (lv' := [(1, .ref (ad 0)), (0, .ref b)]) M.1 M.2.1 dL_law_7 rfl hl (by decide) rfl (fun ls hl => ?_)
  refine zi_new (ci := 7) (fs := [.int (iI 0), .int (iI 0), .int (iI 0), .int (iI 0), .int (iI 0), .int (iI 0), .null, .null, .null, .null, .int (iI 0), .int (iI 0), .null, .null, .null, .null, .int (iI 0), .null, .null, .null, .int (iI 0), .int (iI 0), .int (iI 0), .null, .null, .null, .null, .null, .int (iI 0), .null, .null, .null, .null, .null, .int (iI 0), .int (iI 0), .int (iI 0), .int (iI 0)]) M hE hP hD hS hA rfl zu_X7 tyX7_ok zk_cl_RL_107 zk_is_RX7 zk_in_RX7 (fun j hj => by rcases (by omega : j = 0 ∨ j = 1 ∨ j = 2 ∨ j = 3 ∨ j = 4 ∨ j = 5 ∨ j = 6 ∨ j = 7 ∨ j = 8 ∨ j = 9 ∨ j = 10 ∨ j = 11 ∨ j = 12 ∨ j = 13 ∨ j = 14 ∨ j = 15 ∨ j = 16 ∨ j = 17 ∨ j = 18 ∨ j = 19 ∨ j = 20 ∨ j = 21 ∨ j = 22 ∨ j = 23 ∨ j = 24 ∨ j = 25 ∨ j = 26 ∨ j = 27 ∨ j = 28 ∨ j = 29 ∨ j = 30 ∨ j = 31 ∨ j = 32 ∨ j = 33 ∨ j = 34 ∨ j = 35 ∨ j = 36 ∨ j = 37) with rfl | rfl | rfl | rfl | rfl | rfl | rfl | rfl | rfl | rfl | rfl | rfl | rfl | rfl | rfl | rfl | rfl | rfl | rfl | rfl | rfl | rfl | rfl | rfl | rfl | rfl | rfl | rfl | rfl | rfl | rfl | rfl | rfl | rfl | rfl | rfl | rfl | rfl <;> rfl) (by decide) (by decide) dL_law_8 (fun q8 H hP hD hS => ?_)
  refine lv_dup M.1 M.2.1 dL_law_11 rfl ?_
  have hsz8 : s.heap.size ≤ q8 := hAz _ (hD.2 43 _ rfl)
  refine z_cI (z_runI (As := []) (rest := [.ref q8]) M (c_X7_init l D cy s.heap.size q8 H.size) hE hS hAz ⟨rfl, hsz8, zP_r hP⟩ zk_cd_X7_init zk_in_RX7 zk_im_X7_init zk_ml_RL_109 rfl rfl rfl zd_X7_init ⟨by decide, by decide⟩ rfl hl.1 rfl (Nat.le_of_ble_eq_true rfl) dL_law_12 ⟨by decide, by decide⟩) hP hD hS hA rfl (fun bd H locs hr0 hPn hDn hSn => ?_)
  subst hr0
  have hP := hPn
  have hD := hDn
  have hS := hSn
  refine lv_astore_n (lv' := [(2, .ref (bd 0)), (1, .ref (ad 0)), (0, .ref b)]) M.1 M.2.1 dL_law_15 rfl hl (by decide) rfl (fun ls hl => ?_)
  refine zi_push M dL_law_16 ?_
  refine zi_newl M hE hP hD hS hA (by decide) (by decide) dL_law_17 (fun q17 H hP hD hS => ?_)
  refine lv_astore_n (lv' := [(3, .ref q17), (2, .ref (bd 0)), (1, .ref (ad 0)), (0, .ref b)]) M.1 M.2.1 dL_law_19 rfl hl (by decide) rfl (fun ls hl => ?_)
  refine zi_push M dL_law_20 ?_
  refine lv_istore (lv' := [(4, .int (iI 0)), (3, .ref q17), (2, .ref (bd 0)), (1, .ref (ad 0)), (0, .ref b)]) M.1 M.2.1 dL_law_21 hl (by decide) rfl (fun ls hl => ?_)
  have e1 : (([] ++ ((rooW ad 0 cy 0 0) ++ ((airW ad 1 cy 0 50 0 0 0 (fun _ => 0) (fun _ => 0) (dnD 0 0) (dnE 0 (fun _ => 0)) (dnF 0 50 0)) ++ ((airW ad 8 cy 0 50 0 0 0 (fun _ => 0) (fun _ => 0) (dnD 0 0) (dnE 0 (fun _ => 0)) (dnF 0 50 0)) ++ ((grdW ad 15 cy (fun _ => 0) (fun _ => 0)) ++ ((rayW ad 18 cy 0 0 0 0 0 0 0 0) ++ ((sndW ad 19 cy 12 0 (fun _ => 0) (fun _ => 0) (fun _ => 0) (fun _ => 0) (fun _ => 0)) ++ ((sndW ad 25 cy 6 0 (fun _ => 0) (fun _ => 0) (fun _ => 0) (fun _ => 0) (fun _ => 0)) ++ ((conW ad 31 cy 0 (fun _ => 0) (fun _ => 0) (fun _ => 0) (fun _ => 0) (fun _ => 0)) ++ (entW ad 37 cy 0 0 (fun _ => 0) (fun _ => 0) (fun _ => 0) (fun _ => 0) (fun _ => 0))))))))))) ++ [(q17, zL (cy 3) 0)] : va_W) = ((rooW ad 0 cy 0 0) ++ ((airW ad 1 cy 0 50 0 0 0 (fun _ => 0) (fun _ => 0) (dnD 0 0) (dnE 0 (fun _ => 0)) (dnF 0 50 0)) ++ ((airW ad 8 cy 0 50 0 0 0 (fun _ => 0) (fun _ => 0) (dnD 0 0) (dnE 0 (fun _ => 0)) (dnF 0 50 0)) ++ ((grdW ad 15 cy (fun _ => 0) (fun _ => 0)) ++ ((rayW ad 18 cy 0 0 0 0 0 0 0 0) ++ ((sndW ad 19 cy 12 0 (fun _ => 0) (fun _ => 0) (fun _ => 0) (fun _ => 0) (fun _ => 0)) ++ ((sndW ad 25 cy 6 0 (fun _ => 0) (fun _ => 0) (fun _ => 0) (fun _ => 0) (fun _ => 0)) ++ ((conW ad 31 cy 0 (fun _ => 0) (fun _ => 0) (fun _ => 0) (fun _ => 0) (fun _ => 0)) ++ ((entW ad 37 cy 0 0 (fun _ => 0) (fun _ => 0) (fun _ => 0) (fun _ => 0) (fun _ => 0)) ++ (outW (fun _ => q17) 0 cy 0)))))))))) := by simp only [List.nil_append, List.append_assoc]; rfl
  have hPc := (zP_l (zP_l hP)).app (zP_r hP)
  rw [e1] at hPc
  have hPm : va_P D vwCl (mdlW bd 0 cy 0 0 50 0 0 0 0 0 0 0 0 0 0 0 0 0 0 (fun _ => 0) (fun _ => 0) (fun _ => 0) (fun _ => 0) (fun _ => 0) (fun _ => 0) (fun _ => 0) (fun _ => 0) (fun _ => 0) (fun _ => 0) (fun _ => 0) (fun _ => 0) (fun _ => 0) (fun _ => 0) (fun _ => 0) (fun _ => 0) (fun _ => 0) (fun _ => 0) (fun _ => 0) (fun _ => 0) (fun _ => 0)) H := zP_r (zP_l hP)
  have hD := va_D.swap hD
  rw [e1] at hD
  have hend : ∀ (H : Heap) (locs : List Loc) (ls : Array Slot) (cells slots : Nat), cells ≤ 601024 → slots ≤ 7293034 → va_S (fun q => s.heap.size ≤ q) s.heap H locs → W p l e room_1 s m #[Value.ref b] below meth c H locs cells slots (lw_Z below #[Value.ref b] s) (F0 m 2292 ls []) := fun H locs ls cells slots h1 h2 hS => W.widen h1 h2 (va_forget hS.2.2 (zi_push M dL_law_2292 (lw_ret hx hcode hret hlk dL_law_2293)))
  have hloop := lw_loop l hst D cy s.heap.size ad bd (fun _ => q17) p e s m #[Value.ref b] below meth c b (lw_Z below #[Value.ref b] s) L xs M hE hN hL hX hbl (by omega) hend (L + 1) 0
  exact hloop _ _ (by omega) (by omega) (by omega) (by omega) 0 50 0 0 0 0 0 0 0 0 0 0 0 0 0 0 0 0 (fun _ => 0) (fun _ => 0) (fun _ => 0) (fun _ => 0) (fun _ => 0) (fun _ => 0) (fun _ => 0) (fun _ => 0) (fun _ => 0) (fun _ => 0) (fun _ => 0) (fun _ => 0) (fun _ => 0) (fun _ => 0) (fun _ => 0) (fun _ => 0) (fun _ => 0) (fun _ => 0) (fun _ => 0) (fun _ => 0) (fun _ => 0) (fun _ => 0) (fun _ => 0) (fun _ => 0) (fun _ => 0) (by decide) (by decide) (by decide) (by decide) (by decide) (by decide) (by decide) (by decide) (by decide) (zrg_0 (by decide) (by decide)) (zrg_0 (by decide) (by decide)) (zrg_0 (by decide) (by decide)) (zrg_0 (by decide) (by decide)) (zrg_0 (by decide) (by decide)) (zrg_0 (by decide) (by decide)) (zrg_0 (by decide) (by decide)) (zrg_0 (by decide) (by decide)) (zrg_0 (by decide) (by decide)) (zrg_0 (by decide) (by decide)) (zrg_0 (by decide) (by decide)) (zrg_0 (by decide) (by decide)) (zrg_0 (by decide) (by decide)) (zrg_0 (by decide) (by decide)) (zrg_0 (by decide) (by decide)) (zrg_0 (by decide) (by decide)) (zrg_0 (by decide) (by decide)) (zrg_0 (by decide) (by decide)) (zrg_0 (by decide) (by decide)) (zrg_0 (by decide) (by decide)) (zrg_0 (by decide) (by decide)) (zrg_0 (by decide) (by decide)) (fun n h0 h1 => absurd h1 (by omega)) rfl H _ hPc hPm hD hS ls (lv_sub hl [4, 3, 2, 1, 0] rfl)
