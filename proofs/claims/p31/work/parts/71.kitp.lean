/-! THE Z-KIT, 11: what this law adds: shifts, low bits, the script, calls that can't throw here -/
/-- a shifted right by k -/
def shZ (a k : Int) : Int := (iI a >>> (iI k &&& 31)).toInt
/-- the bits of a and b -/
def ndZ (a b : Int) : Int := (iI a &&& iI b).toInt
/-- the low 31 bits, modulo n -/
def loZ (a n : Int) : Int := ndZ a 2147483647 % n
theorem t32 (x : Int32) : r32 x.toInt := ⟨by have := Int32.le_toInt x; omega, by have := Int32.toInt_lt x; omega⟩
theorem shZ_rg (a k : Int) : r32 (shZ a k) := t32 _
theorem ndZ_rg (a b : Int) : r32 (ndZ a b) := t32 _
theorem iI_t (x : Int32) : iI x.toInt = x := Int32.ofInt_toInt _
theorem shZ_i (a k : Int) : iI a >>> (iI k &&& 31) = iI (shZ a k) := (iI_t _).symm
theorem ndZ_i (a b : Int) : iI a &&& iI b = iI (ndZ a b) := (iI_t _).symm
theorem ndZ_31 (a : Int) : 0 ≤ ndZ a 2147483647 ∧ ndZ a 2147483647 ≤ 2147483647 := by
  have key : ∀ x : Int32, 0 ≤ (x &&& iI 2147483647).toInt := fun x => by
    have h1 : (x &&& iI 2147483647).toBitVec = x.toBitVec &&& 2147483647#32 := rfl
    have h2 : (x.toBitVec &&& 2147483647#32).toNat = x.toBitVec.toNat % 2147483648 := by
      rw [BitVec.toNat_and]
      exact Nat.and_two_pow_sub_one_eq_mod _ 31
    show 0 ≤ (x &&& iI 2147483647).toBitVec.toInt
    rw [h1, BitVec.toInt_eq_toNat_cond, h2]
    split <;> omega
  have h1 := key (iI a)
  have h2 := ndZ_rg a 2147483647
  exact ⟨h1, h2.2⟩
theorem loZ_rg (a : Int) {n : Int} (hn : 0 < n) : 0 ≤ loZ a n ∧ loZ a n < n := ⟨Int.emod_nonneg _ (by omega), Int.emod_lt_of_pos _ hn⟩
theorem z_thr : iI (-2000000000) = (-2000000000 : Int32) := by decide
section ZKP
variable {p : Program} {l : Launch} {e : Env} {R : Room} {s : State} {m : MethodId} {args : Array Value} {below : List Frame} {meth : Method} {c : Code} {H : Heap} {locs : List Loc} {cells slots mc ms : Nat} {Q : State → Prop}
variable {cc : ByteArray} {pc : Nat} {ls : Array Slot} {rest st0 : List Value} {own : String} {nL : Nat} {D : va_G} {cy : Nat → ClassId} {z0 : Nat} {A : Nat → Prop}
theorem zi_ishr (M : zM p s m args c cc own nL) {a k : Int} (hdg : decode cc pc = .ok (.ishr, 1)) (kk : W p l e R s m args below meth c H locs cells slots Q (F0 m (pc + 1) ls (.int (iI (shZ a k)) :: rest))) : W p l e R s m args below meth c H locs cells slots Q (F0 m pc ls (.int (iI k) :: .int (iI a) :: rest)) := lv_ishr M.1 M.2.1 hdg (by rw [shZ_i]; exact kk)
theorem zi_iand (M : zM p s m args c cc own nL) {a k : Int} (hdg : decode cc pc = .ok (.iand, 1)) (kk : W p l e R s m args below meth c H locs cells slots Q (F0 m (pc + 1) ls (.int (iI (ndZ a k)) :: rest))) : W p l e R s m args below meth c H locs cells slots Q (F0 m pc ls (.int (iI k) :: .int (iI a) :: rest)) := lv_iand M.1 M.2.1 hdg (by rw [ndZ_i]; exact kk)
theorem zi_ldc (M : zM p s m args c cc own nL) {ix : Nat} {v : Int32} {z : Int} (hz : v = iI z) (hw : zin (.constant own ix v)) (hdg : decode cc pc = .ok (.ldc ix, 2)) (kk : W p l e R s m args below meth c H locs cells slots Q (F0 m (pc + 2) ls (.int (iI z) :: rest))) : W p l e R s m args below meth c H locs cells slots Q (F0 m pc ls rest) := lv_ldc M.1 M.2.1 M.2.2.2.1 (M.w hw) hdg (hz ▸ kk)
/-- an int against itself: 'not equal' isn't taken -/
theorem zi_sameN (M : zM p s m args c cc own nL) {v : Int32} {off : Int} {tgt : Nat} (hdg : decode cc pc = .ok (.if_icmp .ne off, 3)) (ht : (pc : Int) + off = (tgt : Int)) (kf : W p l e R s m args below meth c H locs cells slots Q (F0 m (pc + 3) ls rest)) : W p l e R s m args below meth c H locs cells slots Q (F0 m pc ls (.int v :: .int v :: rest)) := lv_icmp_ne M.1 M.2.1 hdg ht (fun h => absurd rfl h) (fun _ => kf)
theorem zi_eqN (M : zM p s m args c cc own nL) {v w off : Int} {tgt : Nat} (hvw : v = w) (hdg : decode cc pc = .ok (.if_icmp .ne off, 3)) (ht : (pc : Int) + off = (tgt : Int)) (kf : W p l e R s m args below meth c H locs cells slots Q (F0 m (pc + 3) ls rest)) : W p l e R s m args below meth c H locs cells slots Q (F0 m pc ls (.int (iI w) :: .int (iI v) :: rest)) := by
  subst hvw
  exact zi_sameN M hdg ht kf
theorem z_ofN {y : MethodName} {maxL : Nat} {ret : Option FieldType} {rm : Room} {As : List Value} {P : Heap → Prop} {Qc : Array Value → State → Outcome → State → Prop} {free : Addr → Prop} (hy : plainName y.cls = true) (hl : (lg_sl As).length ≤ maxL)
    (body : ∀ (p : Program) (e : Env) (s : State) (m : MethodId) (args : Array Value) (below : List Frame) (meth : Method) (c : Code), zM p s m args c cc y.cls maxL → meth.sig.returnType = ret → meth.locks = false → args = As.toArray → P s.heap → zE D cy z0 s → zNc s → ∀ ls : Array Slot, lv_has ls maxL (lv_args 0 As) →
      W p l e rm s m args below meth c s.heap [] 0 0 (MQ below Qc args s mc ms free) (F0 m 0 ls [])) : Met l y [.code y cc maxL ret] rm (zPcN As D cy z0 P) Qc mc ms free := by
  refine Met.ofW (cc := cc) (maxL := maxL) (ret := ret) hy rfl ?_
  intro p e s m args below meth c s₁ B hml hv
  obtain ⟨rfl, hP, hE, hN⟩ := hv
  rw [lg_entry_eq]
  exact body p e s m _ below meth c ⟨B.exec, B.bytes, hml, findClass_of_methodNamed B.named, hE.2.1⟩ B.returns B.notSynchronized rfl hP hE hN _ (lv_entry As hl)
theorem z_runSH {y : MethodName} {bytes : ByteArray} {maxL n index : Nat} {ret : Option FieldType} {rm : Room} {P : Heap → Prop} {Qc : Array Value → State → Outcome → State → Prop} {free : Addr → Prop} {As : List Value} (M : zM p s m args c cc own nL) (hM : Met l y [.code y bytes maxL ret] rm (zPcN As D cy z0 P) Qc mc ms free) (hE : zE D cy z0 s) (hN : zNc s) (hS : va_S A s.heap H locs) (hA : ∀ q, A q → z0 ≤ q) (hP : P H) (hc : zin (.code y bytes maxL ret)) (hi : zin (.initialized y.cls)) (hst : zin (.static y)) (hk : zin (.methodLink own index y)) (hrc : rm.cells = mc) (hrs : rm.slots = ms)
    (hd : y.cls ≠ "java/lang/invoke/MethodHandle" ∧ y.cls ≠ "java/lang/invoke/VarHandle" ∧ (parseMethodDescriptor y.desc).map (fun d => d.parameters.length) = some n) (hR : rm.frames + 1 ≤ R.frames ∧ 8 + (maxL + 11) + rm.locals ≤ R.locals) (hn : As.length = n) (hsize : ls.size = nL) (hstack : st0 = As.reverse ++ rest) (hW : (rest.map fun v => v.category).sum ≤ 8) (hdg : decode cc pc = .ok (.invokestatic index, 3)) (hf : cells + mc ≤ R.cells ∧ slots + ms ≤ R.slots) :
    va_Run p l e R s m args below meth c H locs cells slots mc ms (F0 m pc ls st0) rest (Qc As.toArray) free :=
  va_runS M.fix hM ⟨z_callB n M.2.2.2.2 hc hi hk hrc hrs hd hR, M.w hst⟩ ⟨zPcN.blind, fun U hU hW => ⟨rfl, by rw [hU]; exact hP, hE.moved hS hA hU hW, zNc.moved hW.alike hN⟩⟩ rfl hn hsize hstack (lv_room hW) hdg hf
/-- a call that could throw, where it can't -/
theorem zx_not {Qa : State → Outcome → State → Prop} {C : String → Prop} {free : Addr → Prop} (hr : vx_Run p l e R s m args below meth c H locs cells slots mc ms (F0 m pc ls st0) rest Qa (zXC C) free) (hC : ∀ E, ¬ C E) : va_Run p l e R s m args below meth c H locs cells slots mc ms (F0 m pc ls st0) rest Qa free := by
  intro T hT X
  rcases hr T hT X with h | ⟨q, st₀, t, T', L, E, ce, h0, X', hL, e1, e2, hf, -⟩
  · exact h
  · exact (hC _ hf.1).elim
theorem zx_notW {S : Type} {Qa : State → Outcome → State → Prop} {C : String → Prop} {w0 : va_W} {w1 : S → va_W} {free : Addr → Prop} (hr : vx_Run p l e R s m args below meth c H locs cells slots mc ms (F0 m pc ls st0) rest Qa (zXW C D w0 w1) free) (hC : ∀ E, ¬ C E) : va_Run p l e R s m args below meth c H locs cells slots mc ms (F0 m pc ls st0) rest Qa free := by
  intro T hT X
  rcases hr T hT X with h | ⟨q, st₀, t, T', L, E, ce, h0, X', hL, e1, e2, hf, -⟩
  · exact h
  · exact (hC _ hf.1).elim
end ZKP
/-! contracts: low, cell -/
set_option maxRecDepth 100000 in
theorem c_L_low (l : Launch) (D : va_G) (cy : Nat → ClassId) (z0 : Nat) (a n : Int) (hn : 1 ≤ n ∧ n ≤ 60) : Met l yL_low [.code yL_low cL_low 2 (some .int)] (zRm 0 0 0 0) (zPc [.int (iI a), .int (iI n)] D cy z0 (fun _ => True)) (QcRead (iI (loZ a n))) 0 0 (fun _ => False) := by
  refine z_of (by decide) (Nat.le_of_ble_eq_true rfl) ?_
  intro p e s m args below meth c M hr hlk _ hargs hP hE ls hl
  have hl : lv_has ls 2 [(0, .int (iI a)), (1, .int (iI n))] := hl
  have h1 := ndZ_31 a
  refine lv_iload_n M.1 M.2.1 dL_low_0 rfl (lv_at hl 0 rfl) ?_
  refine zi_ldc M (z := 2147483647) (by decide) zk_ct_RL_7 dL_low_1 ?_
  refine zi_iand M dL_low_3 ?_
  refine lv_iload_n M.1 M.2.1 dL_low_4 rfl (lv_at hl 1 rfl) ?_
  refine zi_irem M dL_low_5 (by omega) (by omega) (by omega) (by omega) ?_
  exact zr_i M hr hlk rfl dL_low_6
def ceZ (L : Nat) (xs : Nat → Int32) (k : Int) : Int := if k < L then xZ xs k else (iI (7919 * (k + 2819) * (k + 547))).toInt
theorem ceZ_rg (L : Nat) (xs : Nat → Int32) (k : Int) : r32 (ceZ L xs k) := by
  unfold ceZ
  split
  · exact xZ_rg xs k
  · exact t32 _
abbrev zPcS (As : List Value) (D : va_G) (cy : Nat → ClassId) (z0 b L : Nat) (xs : Nat → Int32) : Array Value → State → Prop := va_Pc As (fun U => (va_X b L xs U U.heap ∧ b < U.heap.size) ∧ zE D cy z0 U)
theorem zPcS.blind {As : List Value} {D : va_G} {cy : Nat → ClassId} {z0 b L : Nat} {xs : Nat → Int32} : FrameBlind (zPcS As D cy z0 b L xs) := fun a U g mk h => ⟨h.1, ⟨va_X.moved (u := U) (U := U.calling g mk a) (Vm.Alike.refl U.vm) h.2.1.1, h.2.1.2⟩, h.2.2.same⟩
set_option maxRecDepth 100000 in
theorem c_L_cell (l : Launch) (D : va_G) (cy : Nat → ClassId) (z0 b L : Nat) (xs : Nat → Int32) (hL : L ≤ 260) (k : Int) (hk : 0 ≤ k ∧ k ≤ 100) : Met l yL_cell [.code yL_cell cL_cell 2 (some .int)] (zRm 0 0 0 0) (zPcS [.ref b, .int (iI k)] D cy z0 b L xs) (QcRead (iI (ceZ L xs k))) 0 0 (fun _ => False) := by
  refine Met.ofW (cc := cL_cell) (maxL := 2) (ret := some .int) (by decide) rfl ?_
  intro p e s m args below meth c s₁ B hml hv
  obtain ⟨rfl, ⟨hX, hbl⟩, hE⟩ := hv
  rw [lg_entry_eq]
  have M : zM p s m #[Value.ref b, Value.int (iI k)] c cL_cell yL_cell.cls 2 := ⟨B.exec, B.bytes, hml, findClass_of_methodNamed B.named, hE.2.1⟩
  have hr := B.returns
  have hlk := B.notSynchronized
  have hl := lv_entry [.ref b, .int (iI k)] (n := 2) (Nat.le_of_ble_eq_true rfl)
  revert hl
  generalize ((lg_sl [.ref b, .int (iI k)] ++ List.replicate (2 - (lg_sl [.ref b, .int (iI k)]).length) Slot.unset).toArray) = ls
  intro hl
  have hl : lv_has ls 2 [(0, .ref b), (1, .int (iI k))] := hl
  have hS : va_S (fun q => s.heap.size ≤ q) s.heap s.heap [] := va_S.rf
  refine lv_iload_n M.1 M.2.1 dL_cell_0 rfl (lv_at hl 1 rfl) ?_
  refine lv_aload_n M.1 M.2.1 dL_cell_1 rfl (lv_at hl 0 rfl) ?_
  refine zi_slen M hX hbl (by omega) hS dL_cell_2 ?_
  refine zi_icmp_ge (tgt := 12) M dL_cell_3 (by decide) (by omega) (by omega) (fun c1 => ?_) (fun c1 => ?_)
  · refine zi_sipush M dL_cell_12 ⟨by decide, by decide⟩ ?_
    refine lv_iload_n M.1 M.2.1 dL_cell_15 rfl (lv_at hl 1 rfl) ?_
    refine zi_sipush M dL_cell_16 ⟨by decide, by decide⟩ ?_
    refine zi_iadd M dL_cell_19 ?_
    refine zi_imul M dL_cell_20 ?_
    refine lv_iload_n M.1 M.2.1 dL_cell_21 rfl (lv_at hl 1 rfl) ?_
    refine zi_sipush M dL_cell_22 ⟨by decide, by decide⟩ ?_
    refine zi_iadd M dL_cell_25 ?_
    refine zi_imul M dL_cell_26 ?_
    have e1 : iI (7919 * (k + 2819) * (k + 547)) = iI (ceZ L xs k) := by
      unfold ceZ
      rw [if_neg (by omega), iI_t]
    exact zr_i M hr hlk e1 dL_cell_27
  · refine lv_aload_n M.1 M.2.1 dL_cell_6 rfl (lv_at hl 0 rfl) ?_
    refine lv_iload_n M.1 M.2.1 dL_cell_7 rfl (lv_at hl 1 rfl) ?_
    refine zi_sld M hX hbl (by omega) hS (by omega) (by omega) (by omega) dL_cell_8 ?_
    refine zi_goto (tgt := 27) M dL_cell_9 (by decide) ?_
    have e1 : iI (xZ xs k) = iI (ceZ L xs k) := by
      unfold ceZ
      rw [if_pos (by omega)]
    exact zr_i M hr hlk e1 dL_cell_27
section ZCL
variable {p : Program} {l : Launch} {e : Env} {R : Room} {s : State} {m : MethodId} {args : Array Value} {below : List Frame} {meth : Method} {c : Code} {H : Heap} {locs : List Loc} {cells slots : Nat} {Q : State → Prop}
variable {cc : ByteArray} {pc : Nat} {ls : Array Slot} {rest st0 : List Value} {nL : Nat} {D : va_G} {cy : Nat → ClassId} {z0 : Nat} {b L : Nat} {xs : Nat → Int32}
/-- cell called by the law -/
theorem z_cell (M : zM p s m args c cc RL nL) (hE : zE D cy z0 s) (hX : va_X b L xs s s.heap) (hbl : b < s.heap.size) (hbA : ¬ z0 ≤ b) (hS : va_S (fun q => z0 ≤ q) s.heap H locs) (hL : L ≤ 260) {k : Int} (hk : 0 ≤ k ∧ k ≤ 100) (hsize : ls.size = nL) (hstack : st0 = .int (iI k) :: .ref b :: rest) (hW : (rest.map fun v => v.category).sum ≤ 8) (hR : 1 ≤ R.frames ∧ 21 ≤ R.locals) (hdg : decode cc pc = .ok (.invokestatic 182, 3)) (hf : cells + 0 ≤ R.cells ∧ slots + 0 ≤ R.slots)
    (kk : W p l e R s m args below meth c H locs cells slots Q (F0 m (pc + 3) ls (.int (iI (ceZ L xs k)) :: rest))) : W p l e R s m args below meth c H locs cells slots Q (F0 m pc ls st0) :=
  z_cR (va_runS M.fix (c_L_cell l D cy z0 b L xs hL k hk) ⟨z_callB 2 M.2.2.2.2 zk_cd_L_cell zk_in_RL zk_ml_RL_182 rfl rfl zd_L_cell ⟨hR.1, hR.2⟩, M.w zk_st_L_cell⟩ ⟨zPcS.blind, fun U hU hW => ⟨rfl, ⟨by rw [hU]; exact va_X.moved hW.alike (hX.kept (hS.2.1 b hbl hbA)), by rw [hU]; exact Nat.lt_of_lt_of_le hbl hS.1⟩, hE.moved hS (fun _ h => h) hU hW⟩⟩ rfl rfl hsize hstack (lv_room hW) hdg hf) kk
end ZCL
