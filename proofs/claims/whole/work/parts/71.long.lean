/-! THE Z-KIT, 9: longs -/
def iL (v : Int) : Int64 := (iI v).toInt64
abbrev zL (c : ClassId) (v : Int) : va_E := .inl (c, 1, .inr (.inl (fun j => if j = 0 then iL v else 0)))
/-- the law's place for an answer -/
def outW (ad : Nat → Nat) (b : Nat) (cy : Nat → ClassId) (o : Int) : va_W := [(ad b, zL (cy 3) o)]
theorem zL_up (v x : Int) : vp_updL (fun j => if j = 0 then iL v else 0) (iI 0).toNatClampNeg (iL x) = fun j => if j = 0 then iL x else 0 := by
  funext j
  have e : (iI 0).toNatClampNeg = 0 := by decide
  rw [e]
  unfold vp_updL
  by_cases h : j = 0
  · rw [if_pos h, if_pos h]
  · rw [if_neg h, if_neg h]
    exact if_neg h
section ZLG
variable {p : Program} {l : Launch} {e : Env} {R : Room} {s : State} {m : MethodId} {args : Array Value} {below : List Frame} {meth : Method} {c : Code} {H H0 : Heap} {locs : List Loc} {cells slots : Nat} {Q : State → Prop}
variable {cc : ByteArray} {pc : Nat} {ls : Array Slot} {rest : List Value} {own : String} {nL : Nat} {D : va_G} {cy : Nat → ClassId} {z0 : Nat} {A : Nat → Prop} {a : Nat} {ws ws' : va_W}
theorem zi_i2l (M : zM p s m args c cc own nL) {v : Int} (hdg : decode cc pc = .ok (.i2l, 1)) (kk : W p l e R s m args below meth c H locs cells slots Q (F0 m (pc + 1) ls (.long (iL v) :: rest))) : W p l e R s m args below meth c H locs cells slots Q (F0 m pc ls (.int (iI v) :: rest)) := lv_i2l M.1 M.2.1 hdg rfl kk
theorem zi_lpush (M : zM p s m args c cc own nL) {n : Int} {v : Int64} (hv : v = iL n) (k : W p l e R s m args below meth c H locs cells slots Q (F0 m (pc + 1) ls (.long (iL n) :: rest))) : W p l e R s m args below meth c H locs cells slots Q (F0 m (pc + 1) ls (.long v :: rest)) := hv ▸ k
theorem zi_last (M : zM p s m args c cc own nL) (hE : zE D cy z0 s) (hP : va_P D vwCl ws H) (hD : va_D A ws) (hS : va_S A H0 H locs) (q0 : Nat) {v x : Int} (ha : ws[q0]? = some (a, zL (cy 3) v)) (hw : ws.set q0 (a, zL (cy 3) x) = ws') (hdg : decode cc pc = .ok (.lastore, 1))
    (kk : ∀ (H1 : Heap) (locs1 : List Loc), va_P D vwCl ws' H1 → va_D A ws' → va_S A H0 H1 locs1 → W p l e R s m args below meth c H1 locs1 cells slots Q (F0 m (pc + 1) ls rest)) : W p l e R s m args below meth c H locs cells slots Q (F0 m pc ls (.long (iL x) :: .int (iI 0) :: .ref a :: rest)) := by
  subst hw
  exact va_last M.1 M.2.1 hE.1 hP hD hS q0 3 ha rfl (iI_in (n := 1) (by decide) (by decide) (by decide)) hdg (by rw [zL_up]; exact kk)
theorem zi_lald (M : zM p s m args c cc own nL) (hE : zE D cy z0 s) (hP : va_P D vwCl ws H) (q0 : Nat) {v : Int} (ha : ws[q0]? = some (a, zL (cy 3) v)) (hdg : decode cc pc = .ok (.laload, 1))
    (kk : W p l e R s m args below meth c H locs cells slots Q (F0 m (pc + 1) ls (.long (iL v) :: rest))) : W p l e R s m args below meth c H locs cells slots Q (F0 m pc ls (.int (iI 0) :: .ref a :: rest)) :=
  va_lald M.1 M.2.1 hE.1 hP q0 3 ha rfl (iI_in (n := 1) (by decide) (by decide) (by decide)) hdg (by
    have e : (iI 0).toNatClampNeg = 0 := by decide
    rw [e]
    exact kk)
end ZLG
