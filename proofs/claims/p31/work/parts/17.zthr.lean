/-! THE Z-KIT, 6: methods that throw -/
theorem zat_278 : ∀ w ∈ vx_atS RX6 278 "java/lang/IllegalArgumentException" ["java/lang/RuntimeException", "java/lang/Exception"], w ∈ lw_tbl ∧ zgood w = true := by decide +kernel
theorem zat_207 : ∀ w ∈ vx_atS RX6 207 "java/lang/IndexOutOfBoundsException" ["java/lang/RuntimeException", "java/lang/Exception"], w ∈ lw_tbl ∧ zgood w = true := by decide +kernel
theorem zat_101 : ∀ w ∈ vx_atS RX6 101 "java/lang/IllegalStateException" ["java/lang/RuntimeException", "java/lang/Exception"], w ∈ lw_tbl ∧ zgood w = true := by decide +kernel
theorem zgd_278 : ∀ w ∈ Cond.classLink RX6 274 "java/lang/IllegalArgumentException" :: Cond.initialized "java/lang/IllegalArgumentException" :: vx_atS RX6 278 "java/lang/IllegalArgumentException" ["java/lang/RuntimeException", "java/lang/Exception"], vx_ot w = true := by decide +kernel
theorem zgd_207 : ∀ w ∈ Cond.classLink RX6 203 "java/lang/IndexOutOfBoundsException" :: Cond.initialized "java/lang/IndexOutOfBoundsException" :: vx_atS RX6 207 "java/lang/IndexOutOfBoundsException" ["java/lang/RuntimeException", "java/lang/Exception"], vx_ot w = true := by decide +kernel
theorem zgd_101 : ∀ w ∈ Cond.classLink RX6 97 "java/lang/IllegalStateException" :: Cond.initialized "java/lang/IllegalStateException" :: vx_atS RX6 101 "java/lang/IllegalStateException" ["java/lang/RuntimeException", "java/lang/Exception"], vx_ot w = true := by decide +kernel
abbrev eIA : String := "java/lang/IllegalArgumentException"
abbrev eIB : String := "java/lang/IndexOutOfBoundsException"
abbrev eIS : String := "java/lang/IllegalStateException"
/-- thrown before anything was written -/
def zXC (C : String → Prop) : String → State → State → Prop := fun E st t => C E ∧ st.heap.size ≤ t.heap.size ∧ ∀ q : Nat, q < st.heap.size → t.heap[q]? = st.heap[q]?
/-- thrown with the world in some state -/
def zXW {S : Type} (C : String → Prop) (D : va_G) (w0 : va_W) (w1 : S → va_W) : String → State → State → Prop := fun E st t => C E ∧ (∃ u : S, va_P D vwCl (w1 u) t.heap) ∧ va_F (zIn w0) st t
/-- nothing to answer, and it says N -/
def zQn (N : Prop) : Array Value → State → Outcome → State → Prop := fun _ st o t => o = .returned none ∧ t.heap = st.heap ∧ N
section ZX
variable {p : Program} {l : Launch} {e : Env} {R : Room} {s : State} {m : MethodId} {args : Array Value} {below : List Frame} {meth : Method} {c : Code} {H : Heap} {locs : List Loc} {cells slots mc ms mc1 ms1 : Nat} {Q : State → Prop}
variable {cc : ByteArray} {pc : Nat} {ls : Array Slot} {rest st0 : List Value} {own : String} {nL : Nat} {D : va_G} {cy : Nat → ClassId} {z0 : Nat} {A : Nat → Prop} {a : Array Value} {Qc : Array Value → State → Outcome → State → Prop} {XC : String → State → State → Prop} {free : Addr → Prop}
theorem zx_throw (M : zM p s m args c cc RX6 nL) (hl : l.stackTraces = false) (hE : zE D cy z0 s) (hS : va_S A s.heap H locs) (hA : ∀ q, A q → z0 ≤ q) {cls : String} {ik is ic : Nat} (hcls : Bundle.fit cls = true) (hk : zin (.classLink RX6 ik cls)) (hi : zin (.initialized cls)) (hti : zTi is) (hat : ∀ w ∈ vx_atS RX6 ic cls ["java/lang/RuntimeException", "java/lang/Exception"], w ∈ lw_tbl ∧ zgood w = true)
    (hgd : ∀ w ∈ Cond.classLink RX6 ik cls :: Cond.initialized cls :: vx_atS RX6 ic cls ["java/lang/RuntimeException", "java/lang/Exception"], vx_ot w = true) (hsize : ls.size = nL)
    (d0 : decode cc pc = .ok (.new ik, 3)) (d3 : decode cc (pc + 3) = .ok (.dup, 1)) (d4 : decode cc (pc + 4) = .ok (.ldc is, 2)) (d6 : decode cc (pc + 6) = .ok (.invokespecial ic, 3)) (d9 : decode cc (pc + 9) = .ok (.athrow, 1)) (ht : ∀ x ∈ c.exceptionTable.toList, False)
    (hRf : 5 < R.frames) (hRl : (rest.map fun v => v.category).sum + 82 ≤ R.locals) (hRc : cells + 1 ≤ R.cells) (hRs : slots + 6 ≤ R.slots) (hlk : meth.locks = false) (hx : ∀ t : State, s.vm.Alike t.vm → H.size ≤ t.heap.size → (∀ q : Nat, q < H.size → t.heap[q]? = H[q]?) → XC cls s t) (hf : ∀ z ∈ locs, free z.base) (hc : cells + 1 ≤ mc) (hs : slots + 6 ≤ ms) :
    W p l e R s m args below meth c H locs cells slots (vx_MQ below Qc XC args s mc ms free) (F0 m pc ls rest) := by
  obtain ⟨sa, hsa⟩ := hE.2.2.2.2.2 is hti
  exact vx_throwS (own := RX6) (cls := cls) (text := zTx is) (names := ["java/lang/RuntimeException", "java/lang/Exception"]) (A := A) M.1 M.2.1 hl M.2.2.2.1 hcls (by decide +kernel) (M.w hk) (M.w hi) hsa (fun w h => M.w (hat w h)) hgd (hE.2.2.2.1.narrow hA) (hE.2.2.2.2.1.narrow hA) hS (hsize.trans M.2.2.1.symm) d0 d3 d4 d6 d9 (fun x h => (ht x h).elim) hRf hRl hRc hRs hlk hx hf hc hs
theorem zx_throwW (M : zM p s m args c cc RX6 nL) (hl : l.stackTraces = false) (hE : zE D cy z0 s) (hS : va_S A s.heap H locs) (hA : ∀ q, A q → z0 ≤ q) {cls : String} {ik is ic : Nat} (hcls : Bundle.fit cls = true) (hk : zin (.classLink RX6 ik cls)) (hi : zin (.initialized cls)) (hti : zTi is) (hat : ∀ w ∈ vx_atS RX6 ic cls ["java/lang/RuntimeException", "java/lang/Exception"], w ∈ lw_tbl ∧ zgood w = true)
    (hgd : ∀ w ∈ Cond.classLink RX6 ik cls :: Cond.initialized cls :: vx_atS RX6 ic cls ["java/lang/RuntimeException", "java/lang/Exception"], vx_ot w = true) (hsize : ls.size = nL)
    (d0 : decode cc pc = .ok (.new ik, 3)) (d3 : decode cc (pc + 3) = .ok (.dup, 1)) (d4 : decode cc (pc + 4) = .ok (.ldc_w is, 3)) (d7 : decode cc (pc + 7) = .ok (.invokespecial ic, 3)) (d10 : decode cc (pc + 10) = .ok (.athrow, 1)) (ht : ∀ x ∈ c.exceptionTable.toList, False)
    (hRf : 5 < R.frames) (hRl : (rest.map fun v => v.category).sum + 82 ≤ R.locals) (hRc : cells + 1 ≤ R.cells) (hRs : slots + 6 ≤ R.slots) (hlk : meth.locks = false) (hx : ∀ t : State, s.vm.Alike t.vm → H.size ≤ t.heap.size → (∀ q : Nat, q < H.size → t.heap[q]? = H[q]?) → XC cls s t) (hf : ∀ z ∈ locs, free z.base) (hc : cells + 1 ≤ mc) (hs : slots + 6 ≤ ms) :
    W p l e R s m args below meth c H locs cells slots (vx_MQ below Qc XC args s mc ms free) (F0 m pc ls rest) := by
  obtain ⟨sa, hsa⟩ := hE.2.2.2.2.2 is hti
  exact vx_throwSW (own := RX6) (cls := cls) (text := zTx is) (names := ["java/lang/RuntimeException", "java/lang/Exception"]) (A := A) M.1 M.2.1 hl M.2.2.2.1 hcls (by decide +kernel) (M.w hk) (M.w hi) hsa (fun w h => M.w (hat w h)) hgd (hE.2.2.2.1.narrow hA) (hE.2.2.2.2.1.narrow hA) hS (hsize.trans M.2.2.1.symm) d0 d3 d4 d7 d10 (fun x h => (ht x h).elim) hRf hRl hRc hRs hlk hx hf hc hs
/-- the end of a method that has nothing to answer -/
theorem zx_n (M : zM p s m args c cc own nL) (hr : meth.sig.returnType = none) (hlk : meth.locks = false) {N : Prop} (hN : N) (hc : cells ≤ mc) (hs : slots ≤ ms) (hdg : decode cc pc = .ok (.return_, 1)) : W p l e R s m args below meth c s.heap [] cells slots (vx_MQ below (zQn N) XC args s mc ms (fun _ => False)) (F0 m pc ls []) :=
  vx_ret (W.widen hc hs (W.vret M.1 M.2.1 hr (fun t ht hW => ⟨rfl, ht, hN⟩) (fun _ h => nomatch h) hdg hlk))
/-- behind a call that may throw ahead of anything written here -/
theorem zx_need {N : Prop} {C1 : String → Prop} (hr : vx_Run p l e R s m args below meth c s.heap [] cells slots mc1 ms1 (F0 m pc ls st0) rest (zQn N a) (zXC C1) (fun _ => False)) (ht : ∀ x ∈ c.exceptionTable.toList, False) (hlk : meth.locks = false) (hc : cells + mc1 ≤ mc) (hs : slots + ms1 ≤ ms) (hx : ∀ (E : String) (t : State), s.vm.Alike t.vm → C1 E → s.heap.size ≤ t.heap.size → (∀ q : Nat, q < s.heap.size → t.heap[q]? = s.heap[q]?) → XC E s t)
    (kk : N → W p l e R s m args below meth c s.heap [] (cells + mc1) (slots + ms1) (vx_MQ below Qc XC args s mc ms free) (F0 m (pc + 3) ls rest)) : W p l e R s m args below meth c s.heap [] cells slots (vx_MQ below Qc XC args s mc ms free) (F0 m pc ls st0) := by
  intro T hT X
  rcases hr T hT X with ⟨v, st₀, t, T', L, h0, X', hL, e1, e2, ⟨hv, hh, hN⟩, st⟩ | ⟨q, st₀, t, T', L, E, ce, h0, X', hL, e1, e2, ⟨hC, hz, hq⟩, hce, hcv, hcl, st⟩
  · cases hv
    obtain ⟨t2, a1, b1⟩ := kk hN T' (by rw [e1, hh, h0]) (Stand.forget X' (fun q h => (hL q h).elim))
    exact ⟨t2, st t2 a1, b1⟩
  · rw [h0] at hz hq
    obtain ⟨t2, a1, b1⟩ := vx_out (Qc := Qc) (XC := XC) (free := free) (rest := rest) (ls := ls) (pc := pc) (E := E) (ce := ce) (q := q) (H := T'.heap) (locs := []) (fun x h => (ht x h).elim) hlk (by rw [e1]; exact hce) hcv hcl (fun t3 ht3 hA3 => hx E t3 hA3 hC (by rw [ht3, e1]; exact hz) (fun q h => by rw [ht3, e1]; exact hq q h)) (fun _ h => nomatch h) hc hs T' rfl (Stand.forget X' (fun q h => (hL q h).elim))
    exact ⟨t2, st.trans a1, b1⟩
end ZX
section ZXC
variable {p : Program} {l : Launch} {e : Env} {R : Room} {s : State} {m : MethodId} {args : Array Value} {below : List Frame} {meth : Method} {c : Code} {H : Heap} {locs : List Loc} {cells slots : Nat} {Q : State → Prop}
variable {y : MethodName} {bytes cc : ByteArray} {maxL nL mc ms n index : Nat} {ret : Option FieldType} {rm : Room} {D : va_G} {cy : Nat → ClassId} {z0 : Nat} {P : Heap → Prop} {Qc : Array Value → State → Outcome → State → Prop} {XC : String → State → State → Prop} {free : Addr → Prop} {own host : String} {b : Addr} {As rest st0 : List Value} {pc : Nat} {ls : Array Slot} {A : Nat → Prop}
theorem zx_runS (M : zM p s m args c cc own nL) (hM : vx_Met l y [.code y bytes maxL ret] rm (zPc As D cy z0 P) Qc XC mc ms free) (hE : zE D cy z0 s) (hS : va_S A s.heap H locs) (hA : ∀ q, A q → z0 ≤ q) (hP : P H) (hc : zin (.code y bytes maxL ret)) (hi : zin (.initialized y.cls)) (hst : zin (.static y)) (hk : zin (.methodLink own index y)) (hrc : rm.cells = mc) (hrs : rm.slots = ms)
    (hd : y.cls ≠ "java/lang/invoke/MethodHandle" ∧ y.cls ≠ "java/lang/invoke/VarHandle" ∧ (parseMethodDescriptor y.desc).map (fun d => d.parameters.length) = some n) (hR : rm.frames + 1 ≤ R.frames ∧ 8 + (maxL + 11) + rm.locals ≤ R.locals) (hn : As.length = n) (hsize : ls.size = nL) (hstack : st0 = As.reverse ++ rest) (hW : (rest.map fun v => v.category).sum ≤ 8) (hdg : decode cc pc = .ok (.invokestatic index, 3)) (hf : cells + mc ≤ R.cells ∧ slots + ms ≤ R.slots) :
    vx_Run p l e R s m args below meth c H locs cells slots mc ms (F0 m pc ls st0) rest (Qc As.toArray) XC free :=
  vx_runS M.fix hM ⟨z_callB n M.2.2.2.2 hc hi hk hrc hrs hd hR, M.w hst⟩ ⟨zPc.blind, z_pre hE hS hA hP As⟩ rfl hn hsize hstack (lv_room hW) hdg hf
theorem zx_runV (M : zM p s m args c cc own nL) (hM : vx_Met l y [.code y bytes maxL ret] rm (zPc (.ref b :: As) D cy z0 P) Qc XC mc ms free) (hE : zE D cy z0 s) (hS : va_S A s.heap H locs) (hA : ∀ q, A q → z0 ≤ q) (hP : P H) (hb : zRc s H y.cls b) (hc : zin (.code y bytes maxL ret)) (hi : zin (.initialized y.cls)) (hin : zin (.instanceMethod y)) (hse : zin (.selects y.cls y y)) (hk : zin (.methodLink own index y)) (hrc : rm.cells = mc) (hrs : rm.slots = ms)
    (hd : y.cls ≠ "java/lang/invoke/MethodHandle" ∧ y.cls ≠ "java/lang/invoke/VarHandle" ∧ (parseMethodDescriptor y.desc).map (fun d => d.parameters.length) = some n) (hR : rm.frames + 1 ≤ R.frames ∧ 8 + (maxL + 11) + rm.locals ≤ R.locals) (hn : As.length = n) (hsize : ls.size = nL) (hstack : st0 = As.reverse ++ .ref b :: rest) (hW : (rest.map fun v => v.category).sum ≤ 8) (hdg : decode cc pc = .ok (.invokevirtual index, 3)) (hf : cells + mc ≤ R.cells ∧ slots + ms ≤ R.slots) :
    vx_Run p l e R s m args below meth c H locs cells slots mc ms (F0 m pc ls st0) rest (Qc (Value.ref b :: As).toArray) XC free :=
  vx_runV M.fix hM ⟨z_callB n M.2.2.2.2 hc hi hk hrc hrs hd hR, M.w hin, M.w hse⟩ ⟨zPc.blind, hb, z_pre hE hS hA hP (.ref b :: As)⟩ rfl hn hsize hstack (lv_room hW) hdg hf
end ZXC
