/-! THE Z-KIT, 2: what every method may take as given: the tables' words, the classes, where the throws' statics and texts lie -/
def zgood : Cond → Bool
  | .arrayClass _ => true
  | .arrayOver _ => true
  | .fieldLinkNest .. => true
  | .methodLinkNest .. => true
  | w => w.onTables && (w.keeps || w.faceAtom)
theorem zwarm {w : Cond} (hg : zgood w = true) {A A' : Array Value} {s U : State} (hW : s.WarmedH U.vm) (h : w.before A s = true) : w.before A' U = true := by
  have key : w.onTables = true → w.before A (s.setVm U.vm) = true → w.before A' U = true := fun ho h1 => by
    rw [Cond.onTables_vm (A' := A') (U' := U) U.vm w ho, State.setVm_self] at h1
    exact h1
  have gen : (w.onTables && (w.keeps || w.faceAtom)) = true → w.before A' U = true := fun hg => by
    simp only [Bool.and_eq_true, Bool.or_eq_true] at hg
    rcases hg with ⟨h1, h2 | h2⟩
    · exact word_at hW (Or.inl (by simp [h1, h2])) h
    · exact key h1 (Cond.faceAtom_setVm hW.alike _ h2 h)
  cases w <;> first
    | exact gen hg
    | exact word_at hW (Or.inr ⟨_, rfl⟩) h
    | exact key rfl (Cond.fieldLinkNest_warmed hW h)
    | exact key rfl (Cond.methodLinkNest_warmed hW h)
    | (have h1 := Cond.overAtom_setVm hW.alike _ rfl h; exact h1)
def zin (w : Cond) : Prop := w ∈ lw_tbl ∧ zgood w = true
def zWd (U : State) : Prop := ∀ w : Cond, zin w → w.before #[] U = true
theorem zWd.warm {s U : State} (h : zWd s) (hW : s.WarmedH U.vm) : zWd U := fun w hw => zwarm hw.2 hW (h w hw)
theorem zWd.use {s : State} (h : zWd s) {A : Array Value} {w : Cond} (hw : zin w) : w.before A s = true := zwarm hw.2 (State.WarmedH.refl s) (h w hw)
/-- the texts of the throws, by their places in SkipRays' pool -/
def zTx : Nat → String := fun k => match k with
  | 276 => "out of its range"
  | 272 => "no such place"
  | 99 => "above the last hour"
  | 111 => "no more stations"
  | 120 => "no more beacons"
  | 282 => "no such station"
  | 279 => "both stations are the same"
  | 129 => "no more contacts"
  | 143 => "no more entries"
  | 205 => "no such path"
  | 233 => "no such contact"
  | _ => "no such entry"
def zTi (k : Nat) : Prop := k ∈ [276, 272, 99, 111, 120, 282, 279, 129, 143, 205, 233, 238]
def zTh (z0 : Nat) (U : State) : Prop := z0 ≤ U.heap.size ∧ vx_Zq Bundle.tN "UNASSIGNED_STACK" Bundle.steD (fun q => z0 ≤ q) U U.heap ∧ vx_Zq Bundle.tN "SUPPRESSED_SENTINEL" Bundle.listD (fun q => z0 ≤ q) U U.heap ∧ ∀ k, zTi k → ∃ sa : Nat, vk_R "SkipRays" k (zTx k) sa U
abbrev zT (cy : Nat → ClassId) : List (ClassId × FieldType) := [(cy 0, .int), (cy 1, .boolean), (cy 2, .array .int)]
/-- what every method may take as given -/
def zE (D : va_G) (cy : Nat → ClassId) (z0 : Nat) (U : State) : Prop := va_K D vwCl (zT cy) U ∧ zWd U ∧ zTh z0 U
theorem zE.moved {D : va_G} {cy : Nat → ClassId} {z0 : Nat} {s U : State} {H : Heap} {locs : List Loc} {A : Nat → Prop} (h : zE D cy z0 s) (hS : va_S A s.heap H locs) (hA : ∀ q, A q → z0 ≤ q) (hU : U.heap = H) (hW : s.WarmedH U.vm) : zE D cy z0 U := by
  obtain ⟨hK, hw, hz, h1, h2, h3⟩ := h
  have hk : ∀ a : Nat, a < s.heap.size → ¬ z0 ≤ a → H[a]? = s.heap[a]? := fun a ha hn => hS.2.1 a ha (fun q => hn (hA a q))
  refine ⟨va_K.moved hW.alike hK, hw.warm hW, ?_, ?_, ?_, fun k hk => ?_⟩
  · rw [hU]
    exact Nat.le_trans hz hS.1
  · rw [hU]
    exact vx_Zq.moved hW.alike (h1.kept hk)
  · rw [hU]
    exact vx_Zq.moved hW.alike (h2.kept hk)
  · obtain ⟨sa, hsa⟩ := h3 k hk
    exact ⟨sa, vk_R.warm hW hsa⟩
theorem zE.same {D : va_G} {cy : Nat → ClassId} {z0 : Nat} {U : State} {g : JFrame} {mk : MethodId} {a : Array Value} (h : zE D cy z0 U) : zE D cy z0 (U.calling g mk a) := by
  obtain ⟨hK, hw, hz, h1, h2, h3⟩ := h
  refine ⟨va_K.moved (u := U) (U := U.calling g mk a) (Vm.Alike.refl U.vm) hK, hw.warm (U := U.calling g mk a) (State.WarmedH.refl U), hz, vx_Zq.moved (U := U.calling g mk a) (Vm.Alike.refl U.vm) h1, vx_Zq.moved (U := U.calling g mk a) (Vm.Alike.refl U.vm) h2, fun k hk => ?_⟩
  obtain ⟨sa, hsa⟩ := h3 k hk
  exact ⟨sa, vk_R.same (u := U) rfl hsa⟩
abbrev zPc (As : List Value) (D : va_G) (cy : Nat → ClassId) (z0 : Nat) (P : Heap → Prop) : Array Value → State → Prop := va_Pc As (fun U => P U.heap ∧ zE D cy z0 U)
theorem zPc.blind {As : List Value} {D : va_G} {cy : Nat → ClassId} {z0 : Nat} {P : Heap → Prop} : FrameBlind (zPc As D cy z0 P) := fun a U g mk h => ⟨h.1, h.2.1, h.2.2.same⟩
abbrev zRm (f c s lo : Nat) : Room := { frames := f, cells := c, slots := s, locals := lo }
/-- what a method's body has at hand -/
def zM (p : Program) (s : State) (m : MethodId) (args : Array Value) (c : Code) (cc : ByteArray) (own : String) (nL : Nat) : Prop := p.tables.exec = Jvm.exec ∧ c.code = cc ∧ c.maxLocals = nL ∧ s.vm.findClass own = some m.cls ∧ zWd s
theorem zM.w {p : Program} {s : State} {m : MethodId} {args : Array Value} {c : Code} {cc : ByteArray} {own : String} {nL : Nat} (M : zM p s m args c cc own nL) {w : Cond} (h : zin w) : w.before args s = true := M.2.2.2.2.use h
theorem zM.fix {p : Program} {s : State} {m : MethodId} {args : Array Value} {c : Code} {cc : ByteArray} {own : String} {nL : Nat} (M : zM p s m args c cc own nL) : CallFix p m c cc nL s args [] own := ⟨M.1, M.2.1, M.2.2.1, M.2.2.2.1, fun _ h => nomatch h⟩
/-- the body of a method that returns -/
theorem z_of {l : Launch} {y : MethodName} {cc : ByteArray} {maxL : Nat} {ret : Option FieldType} {rm : Room} {As : List Value} {D : va_G} {cy : Nat → ClassId} {z0 : Nat} {P : Heap → Prop} {Qc : Array Value → State → Outcome → State → Prop} {mc ms : Nat} {free : Addr → Prop} (hy : plainName y.cls = true) (hl : (lg_sl As).length ≤ maxL)
    (body : ∀ (p : Program) (e : Env) (s : State) (m : MethodId) (args : Array Value) (below : List Frame) (meth : Method) (c : Code), zM p s m args c cc y.cls maxL → meth.sig.returnType = ret → meth.locks = false → (y.name = "<init>" → meth.name = "<init>") → args = As.toArray → P s.heap → zE D cy z0 s → ∀ ls : Array Slot, lv_has ls maxL (lv_args 0 As) →
      W p l e rm s m args below meth c s.heap [] 0 0 (MQ below Qc args s mc ms free) (F0 m 0 ls [])) : Met l y [.code y cc maxL ret] rm (zPc As D cy z0 P) Qc mc ms free := by
  refine Met.ofW (cc := cc) (maxL := maxL) (ret := ret) hy rfl ?_
  intro p e s m args below meth c s₁ B hml hv
  obtain ⟨rfl, hP, hE⟩ := hv
  rw [lg_entry_eq]
  exact body p e s m _ below meth c ⟨B.exec, B.bytes, hml, findClass_of_methodNamed B.named, hE.2.1⟩ B.returns B.notSynchronized (fun h => (name_of_methodNamed B.named B.method).1.trans h) rfl hP hE _ (lv_entry As hl)
/-- the same of one that may throw -/
theorem z_ofX {l : Launch} {y : MethodName} {cc : ByteArray} {maxL : Nat} {ret : Option FieldType} {rm : Room} {As : List Value} {D : va_G} {cy : Nat → ClassId} {z0 : Nat} {P : Heap → Prop} {Qc : Array Value → State → Outcome → State → Prop} {XC : String → State → State → Prop} {mc ms : Nat} {free : Addr → Prop} (hy : plainName y.cls = true) (hl : (lg_sl As).length ≤ maxL)
    (body : ∀ (p : Program) (e : Env) (s : State) (m : MethodId) (args : Array Value) (below : List Frame) (meth : Method) (c : Code), zM p s m args c cc y.cls maxL → meth.sig.returnType = ret → meth.locks = false → (∀ x ∈ c.exceptionTable.toList, False) → args = As.toArray → P s.heap → zE D cy z0 s → ∀ ls : Array Slot, lv_has ls maxL (lv_args 0 As) →
      W p l e rm s m args below meth c s.heap [] 0 0 (vx_MQ below Qc XC args s mc ms free) (F0 m 0 ls [])) : vx_Met l y [.code y cc maxL ret] rm (zPc As D cy z0 P) Qc XC mc ms free := by
  refine vx_ofW (cc := cc) (maxL := maxL) (ret := ret) hy rfl ?_
  intro p e s m args below meth c s₁ B hml ht hv
  obtain ⟨rfl, hP, hE⟩ := hv
  rw [lg_entry_eq]
  exact body p e s m _ below meth c ⟨B.exec, B.bytes, hml, findClass_of_methodNamed B.named, hE.2.1⟩ B.returns B.notSynchronized ht rfl hP hE _ (lv_entry As hl)
/-! calls -/
theorem z_callB {R : Room} {s : State} {args : Array Value} {own : String} {index maxL mc ms : Nat} {y : MethodName} {bytes : ByteArray} {ret : Option FieldType} {rm : Room} (n : Nat) (hw : zWd s) (hc : zin (.code y bytes maxL ret)) (hi : zin (.initialized y.cls)) (hl : zin (.methodLink own index y)) (hrc : rm.cells = mc) (hrs : rm.slots = ms)
    (hd : y.cls ≠ "java/lang/invoke/MethodHandle" ∧ y.cls ≠ "java/lang/invoke/VarHandle" ∧ (parseMethodDescriptor y.desc).map (fun d => d.parameters.length) = some n) (hR : rm.frames + 1 ≤ R.frames ∧ 8 + (maxL + 11) + rm.locals ≤ R.locals) : CallB R s args own index y bytes maxL ret [.code y bytes maxL ret] rm mc ms n := by
  refine ⟨hrc, hrs, hR.1, hR.2, fun w h a' U hW => ?_, List.mem_cons_self, hw.use hc, hw.use hi, ⟨hd.1, hd.2.1⟩, fun sig h => ?_, hw.use hl⟩
  · rw [List.mem_singleton.mp h]
    exact (hw.warm hW).use hc
  · have h2 := hd.2.2
    rw [h] at h2
    exact (Option.some.inj h2).symm
theorem z_callN {R : Room} {s : State} {args : Array Value} {own host : String} {index maxL mc ms : Nat} {y : MethodName} {bytes : ByteArray} {ret : Option FieldType} {rm : Room} (n : Nat) (hw : zWd s) (hc : zin (.code y bytes maxL ret)) (hi : zin (.initialized y.cls)) (hl : zin (.methodLinkNest own index y host)) (hrc : rm.cells = mc) (hrs : rm.slots = ms)
    (hd : y.cls ≠ "java/lang/invoke/MethodHandle" ∧ y.cls ≠ "java/lang/invoke/VarHandle" ∧ (parseMethodDescriptor y.desc).map (fun d => d.parameters.length) = some n) (hR : rm.frames + 1 ≤ R.frames ∧ 8 + (maxL + 11) + rm.locals ≤ R.locals) : va_CN R s args own index y host bytes maxL ret [.code y bytes maxL ret] rm mc ms n := by
  refine ⟨⟨hrc, hrs, hR.1, hR.2, fun w h a' U hW => ?_, List.mem_cons_self⟩, hw.use hc, hw.use hi, ⟨hd.1, hd.2.1⟩, fun sig h => ?_, hw.use hl⟩
  · rw [List.mem_singleton.mp h]
    exact (hw.warm hW).use hc
  · have h2 := hd.2.2
    rw [h] at h2
    exact (Option.some.inj h2).symm
section ZC
variable {p : Program} {l : Launch} {e : Env} {R : Room} {s : State} {m : MethodId} {args : Array Value} {below : List Frame} {meth : Method} {c : Code} {H : Heap} {locs : List Loc} {cells slots : Nat} {Q : State → Prop}
variable {y : MethodName} {bytes cc : ByteArray} {maxL nL mc ms n index : Nat} {ret : Option FieldType} {rm : Room} {D : va_G} {cy : Nat → ClassId} {z0 : Nat} {P : Heap → Prop} {Qc : Array Value → State → Outcome → State → Prop} {free : Addr → Prop} {own host : String} {b : Addr} {As rest st0 : List Value} {pc : Nat} {ls : Array Slot} {A : Nat → Prop}
theorem z_pre (hE : zE D cy z0 s) (hS : va_S A s.heap H locs) (hA : ∀ q, A q → z0 ≤ q) (hP : P H) (As : List Value) : ∀ U : State, U.heap = H → s.WarmedH U.vm → zPc As D cy z0 P As.toArray U := fun U hU hW => ⟨rfl, by rw [hU]; exact hP, hE.moved hS hA hU hW⟩
theorem z_runS (M : zM p s m args c cc own nL) (hM : Met l y [.code y bytes maxL ret] rm (zPc As D cy z0 P) Qc mc ms free) (hE : zE D cy z0 s) (hS : va_S A s.heap H locs) (hA : ∀ q, A q → z0 ≤ q) (hP : P H) (hc : zin (.code y bytes maxL ret)) (hi : zin (.initialized y.cls)) (hst : zin (.static y)) (hk : zin (.methodLink own index y)) (hrc : rm.cells = mc) (hrs : rm.slots = ms)
    (hd : y.cls ≠ "java/lang/invoke/MethodHandle" ∧ y.cls ≠ "java/lang/invoke/VarHandle" ∧ (parseMethodDescriptor y.desc).map (fun d => d.parameters.length) = some n) (hR : rm.frames + 1 ≤ R.frames ∧ 8 + (maxL + 11) + rm.locals ≤ R.locals) (hn : As.length = n) (hsize : ls.size = nL) (hstack : st0 = As.reverse ++ rest) (hW : (rest.map fun v => v.category).sum ≤ 8) (hdg : decode cc pc = .ok (.invokestatic index, 3)) (hf : cells + mc ≤ R.cells ∧ slots + ms ≤ R.slots) :
    va_Run p l e R s m args below meth c H locs cells slots mc ms (F0 m pc ls st0) rest (Qc As.toArray) free :=
  va_runS M.fix hM ⟨z_callB n M.2.2.2.2 hc hi hk hrc hrs hd hR, M.w hst⟩ ⟨zPc.blind, z_pre hE hS hA hP As⟩ rfl hn hsize hstack (lv_room hW) hdg hf
theorem z_runSN (M : zM p s m args c cc own nL) (hM : Met l y [.code y bytes maxL ret] rm (zPc As D cy z0 P) Qc mc ms free) (hE : zE D cy z0 s) (hS : va_S A s.heap H locs) (hA : ∀ q, A q → z0 ≤ q) (hP : P H) (hc : zin (.code y bytes maxL ret)) (hi : zin (.initialized y.cls)) (hst : zin (.static y)) (hk : zin (.methodLinkNest own index y host)) (hrc : rm.cells = mc) (hrs : rm.slots = ms)
    (hd : y.cls ≠ "java/lang/invoke/MethodHandle" ∧ y.cls ≠ "java/lang/invoke/VarHandle" ∧ (parseMethodDescriptor y.desc).map (fun d => d.parameters.length) = some n) (hR : rm.frames + 1 ≤ R.frames ∧ 8 + (maxL + 11) + rm.locals ≤ R.locals) (hn : As.length = n) (hsize : ls.size = nL) (hstack : st0 = As.reverse ++ rest) (hW : (rest.map fun v => v.category).sum ≤ 8) (hdg : decode cc pc = .ok (.invokestatic index, 3)) (hf : cells + mc ≤ R.cells ∧ slots + ms ≤ R.slots) :
    va_Run p l e R s m args below meth c H locs cells slots mc ms (F0 m pc ls st0) rest (Qc As.toArray) free :=
  va_runSN M.fix hM ⟨z_callN n M.2.2.2.2 hc hi hk hrc hrs hd hR, M.w hst, trivial⟩ ⟨zPc.blind, z_pre hE hS hA hP As⟩ rfl hn hsize hstack (lv_room hW) hdg hf
/-- the receiver's class -/
def zRc (s : State) (H : Heap) (C : String) (b : Addr) : Prop := ∃ cellB : Cell, H[b]? = some cellB ∧ cellB.vm.isStatics = false ∧ s.vm.findClass C = some cellB.cls
theorem zRc.of {ws : va_W} {ci q0 : Nat} {q : vw_C} {fs : List Value} (hE : zE D cy z0 s) (hP : va_P D vwCl ws H) (hc : vwCl[ci]? = some q) (he : ws[q0]? = some (b, .inr (ci, fs))) : zRc s H q.1 b := va_recv hE.1 hP hc he
theorem z_runV (M : zM p s m args c cc own nL) (hM : Met l y [.code y bytes maxL ret] rm (zPc (.ref b :: As) D cy z0 P) Qc mc ms free) (hE : zE D cy z0 s) (hS : va_S A s.heap H locs) (hA : ∀ q, A q → z0 ≤ q) (hP : P H) (hb : zRc s H y.cls b) (hc : zin (.code y bytes maxL ret)) (hi : zin (.initialized y.cls)) (hin : zin (.instanceMethod y)) (hse : zin (.selects y.cls y y)) (hk : zin (.methodLink own index y)) (hrc : rm.cells = mc) (hrs : rm.slots = ms)
    (hd : y.cls ≠ "java/lang/invoke/MethodHandle" ∧ y.cls ≠ "java/lang/invoke/VarHandle" ∧ (parseMethodDescriptor y.desc).map (fun d => d.parameters.length) = some n) (hR : rm.frames + 1 ≤ R.frames ∧ 8 + (maxL + 11) + rm.locals ≤ R.locals) (hn : As.length = n) (hsize : ls.size = nL) (hstack : st0 = As.reverse ++ .ref b :: rest) (hW : (rest.map fun v => v.category).sum ≤ 8) (hdg : decode cc pc = .ok (.invokevirtual index, 3)) (hf : cells + mc ≤ R.cells ∧ slots + ms ≤ R.slots) :
    va_Run p l e R s m args below meth c H locs cells slots mc ms (F0 m pc ls st0) rest (Qc (Value.ref b :: As).toArray) free :=
  va_runV M.fix hM ⟨z_callB n M.2.2.2.2 hc hi hk hrc hrs hd hR, M.w hin, M.w hse⟩ ⟨zPc.blind, hb, z_pre hE hS hA hP (.ref b :: As)⟩ rfl hn hsize hstack (lv_room hW) hdg hf
theorem z_runI (M : zM p s m args c cc own nL) (hM : Met l y [.code y bytes maxL none] rm (zPc (.ref b :: As) D cy z0 P) Qc mc ms free) (hE : zE D cy z0 s) (hS : va_S A s.heap H locs) (hA : ∀ q, A q → z0 ≤ q) (hP : P H) (hc : zin (.code y bytes maxL none)) (hi : zin (.initialized y.cls)) (hin : zin (.instanceMethod y)) (hk : zin (.methodLink own index y)) (hy1 : y.name = "<init>") (hrc : rm.cells = mc) (hrs : rm.slots = ms)
    (hd : y.cls ≠ "java/lang/invoke/MethodHandle" ∧ y.cls ≠ "java/lang/invoke/VarHandle" ∧ (parseMethodDescriptor y.desc).map (fun d => d.parameters.length) = some n) (hR : rm.frames + 1 ≤ R.frames ∧ 8 + (maxL + 11) + rm.locals ≤ R.locals) (hn : As.length = n) (hsize : ls.size = nL) (hstack : st0 = As.reverse ++ .ref b :: rest) (hW : (rest.map fun v => v.category).sum ≤ 8) (hdg : decode cc pc = .ok (.invokespecial index, 3)) (hf : cells + mc ≤ R.cells ∧ slots + ms ≤ R.slots) :
    va_Run p l e R s m args below meth c H locs cells slots mc ms (F0 m pc ls st0) rest (Qc (Value.ref b :: As).toArray) free :=
  va_runI M.fix hM ⟨z_callB n M.2.2.2.2 hc hi hk hrc hrs hd hR, hy1, M.w hin⟩ ⟨zPc.blind, z_pre hE hS hA hP (.ref b :: As)⟩ rfl hn hsize hstack (lv_room hW) hdg hf
theorem z_runIN (M : zM p s m args c cc own nL) (hM : Met l y [.code y bytes maxL none] rm (zPc (.ref b :: As) D cy z0 P) Qc mc ms free) (hE : zE D cy z0 s) (hS : va_S A s.heap H locs) (hA : ∀ q, A q → z0 ≤ q) (hP : P H) (hc : zin (.code y bytes maxL none)) (hi : zin (.initialized y.cls)) (hin : zin (.instanceMethod y)) (hk : zin (.methodLinkNest own index y host)) (hy1 : y.name = "<init>") (hrc : rm.cells = mc) (hrs : rm.slots = ms)
    (hd : y.cls ≠ "java/lang/invoke/MethodHandle" ∧ y.cls ≠ "java/lang/invoke/VarHandle" ∧ (parseMethodDescriptor y.desc).map (fun d => d.parameters.length) = some n) (hR : rm.frames + 1 ≤ R.frames ∧ 8 + (maxL + 11) + rm.locals ≤ R.locals) (hn : As.length = n) (hsize : ls.size = nL) (hstack : st0 = As.reverse ++ .ref b :: rest) (hW : (rest.map fun v => v.category).sum ≤ 8) (hdg : decode cc pc = .ok (.invokespecial index, 3)) (hf : cells + mc ≤ R.cells ∧ slots + ms ≤ R.slots) :
    va_Run p l e R s m args below meth c H locs cells slots mc ms (F0 m pc ls st0) rest (Qc (Value.ref b :: As).toArray) free :=
  va_runIN M.fix hM ⟨z_callN n M.2.2.2.2 hc hi hk hrc hrs hd hR, hy1, M.w hin⟩ ⟨zPc.blind, z_pre hE hS hA hP (.ref b :: As)⟩ rfl hn hsize hstack (lv_room hW) hdg hf
/-- behind a call that only reads and answers an int -/
theorem z_cR {r : Int32} {a : Array Value} (hr : va_Run p l e R s m args below meth c H locs cells slots 0 0 (F0 m pc ls st0) rest (QcRead r a) (fun _ => False)) (kk : W p l e R s m args below meth c H locs cells slots Q (F0 m (pc + 3) ls (.int r :: rest))) : W p l e R s m args below meth c H locs cells slots Q (F0 m pc ls st0) := by
  intro T hT X
  obtain ⟨v, st₀, t, T', L, h0, X', hL, e1, e2, ⟨hv, hh⟩, st⟩ := hr T hT X
  cases hv
  obtain ⟨t2, a1, b1⟩ := kk T' (by rw [e1, hh, h0]) (Stand.forget X' (fun q h => (hL q h).elim))
  exact ⟨t2, st t2 a1, b1⟩
end ZC
