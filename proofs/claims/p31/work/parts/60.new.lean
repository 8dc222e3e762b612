/-! THE Z-KIT, 7: what is new -/
def zA0 (a sz : Nat) : Nat → Prop := fun q => q = a ∨ sz ≤ q
abbrev zNew (D : va_G) (z0 a sz : Nat) (e : va_E) : Heap → Prop := fun H => H.size = sz ∧ z0 ≤ a ∧ va_P D vwCl [(a, e)] H
def zQI (D : va_G) (a sz : Nat) (w1 : (Nat → Nat) → va_W) : Array Value → State → Outcome → State → Prop := fun _ st o t => (∃ r : Nat → Nat, o = .returned none ∧ r 0 = a ∧ va_P D vwCl (w1 r) t.heap ∧ va_D (zA0 a sz) (w1 r)) ∧ va_F (zA0 a sz) st t
theorem zD_app {A : Nat → Prop} {w w' : va_W} (h1 : va_D A w) (h2 : va_D A w') (hx : ∀ (i j : Nat) (p q : Nat × va_E), w[i]? = some p → w'[j]? = some q → p.1 ≠ q.1) : va_D A (w ++ w') := by
  have key : ∀ (i : Nat) (p : Nat × va_E), (w ++ w')[i]? = some p → (i < w.length ∧ w[i]? = some p) ∨ (w.length ≤ i ∧ w'[i - w.length]? = some p) := fun i p hi => by
    rcases Nat.lt_or_ge i w.length with h | h
    · rw [List.getElem?_append_left h] at hi
      exact Or.inl ⟨h, hi⟩
    · rw [List.getElem?_append_right h] at hi
      exact Or.inr ⟨h, hi⟩
  refine ⟨fun i j p q hi hj hpq => ?_, fun k q hk => ?_⟩
  · rcases key i p hi with ⟨a1, a2⟩ | ⟨a1, a2⟩ <;> rcases key j q hj with ⟨b1, b2⟩ | ⟨b1, b2⟩
    · exact h1.1 i j p q a2 b2 hpq
    · exact absurd hpq (hx _ _ _ _ a2 b2)
    · exact absurd hpq.symm (hx _ _ _ _ b2 a2)
    · have := h2.1 _ _ p q a2 b2 hpq
      omega
  · rcases key k q hk with ⟨a1, a2⟩ | ⟨a1, a2⟩
    · exact h1.2 k q a2
    · exact h2.2 _ q a2
theorem zD_one {A : Nat → Prop} {a : Nat} {e : va_E} (h : A a) : va_D A [(a, e)] := by
  have key : ∀ (i : Nat) (p : Nat × va_E), ([(a, e)] : va_W)[i]? = some p → i = 0 ∧ p = (a, e) := fun i p hi => by
    match i, hi with
    | 0, hi => exact ⟨rfl, (Option.some.inj hi).symm⟩
  exact ⟨fun i j p q hi hj _ => by rw [(key i p hi).1, (key j q hj).1], fun k q hk => by rw [(key k q hk).2]; exact h⟩
section ZNW
variable {p : Program} {l : Launch} {e : Env} {R : Room} {s : State} {m : MethodId} {args : Array Value} {below : List Frame} {meth : Method} {c : Code} {H H0 : Heap} {locs : List Loc} {cells slots mc ms : Nat} {Q : State → Prop}
variable {cc : ByteArray} {pc : Nat} {ls : Array Slot} {rest st0 : List Value} {own : String} {nL : Nat} {D : va_G} {cy : Nat → ClassId} {z0 : Nat} {A : Nat → Prop} {a sz : Nat} {ws ws' : va_W}
theorem zi_obj (M : zM p s m args c cc own nL) (hls : ls.size = nL) {index : Nat} (hk : zin (.methodLink own index objectInit)) (hf : 1 ≤ R.frames) (hlo : 2 * (F0 m pc ls (.ref a :: rest)).monitorRoom + (rest.map fun v => v.category).sum + 12 ≤ R.locals) (hdg : decode cc pc = .ok (.invokespecial index, 3)) (kk : W p l e R s m args below meth c H locs cells slots Q (F0 m (pc + 3) ls rest)) : W p l e R s m args below meth c H locs cells slots Q (F0 m pc ls (.ref a :: rest)) :=
  W.objInit M.1 M.2.1 M.2.2.2.1 (M.w hk) (M.w zk_im_objectInit) (M.w zk_cd_objectInit) rfl (hls.trans M.2.2.1.symm) rfl hdg hf hlo kk
theorem zi_newa (M : zM p s m args c cc own nL) (hE : zE D cy z0 s) (hP : va_P D vwCl ws H) (hD : va_D A ws) (hS : va_S A s.heap H locs) (hA : ∀ q, s.heap.size ≤ q → A q) {atype : ArrayType} (t0 : Nat) {ty : FieldType} (hty : newarray.typeOf atype = ty) (ht : (zT cy)[t0]? = some (cy t0, ty)) (hRA : ∀ k, va_RA s k ty → s.vm.findClass ("[" ++ ty.toString) = some k) (harr : zin (.arrayClass ty)) (hdv : defaultValue ty = .int 0) {n : Int} {N : Nat} (hn : n = (N : Int)) (hN : N ≤ 1000) (hcb : componentBytes ty ≤ 8) (hcells : cells + 1 ≤ R.cells) (hslots : slots + N ≤ R.slots) (hdg : decode cc pc = .ok (.newarray atype, 2))
    (kk : ∀ (q : Nat) (H1 : Heap), va_P D vwCl (ws ++ [(q, zA (cy t0) N (fun _ => 0))]) H1 → va_D A (ws ++ [(q, zA (cy t0) N (fun _ => 0))]) → va_S A s.heap H1 locs → W p l e R s m args below meth c H1 locs (cells + 1) (slots + N) Q (F0 m (pc + 2) ls (.ref q :: rest))) : W p l e R s m args below meth c H locs cells slots Q (F0 m pc ls (.int (iI n) :: rest)) := by
  subst hn
  have h32 : r32 (N : Int) := ⟨by omega, by omega⟩
  refine va_newa M.1 M.2.1 (by rw [hty]; exact M.w harr) hty hE.1 hP hD hS hA (a0 := (N, .inl (zf fun _ => 0))) (fun cA => by rw [vp_cell_i, hdv]; rfl) ?_ ?_ (Nat.le_trans (Nat.mul_le_mul hN hcb) (by decide)) hcells hslots hdg (fun q cA H1 hK h1 h2 h3 => ?_)
  · intro h
    have h := (iI_lt (b := 0) h32 ⟨by decide, by decide⟩).mp h
    omega
  · show (iI (N : Int)).toInt.toNat = N
    rw [iI_toInt h32]
    omega
  · have e1 := hRA cA (hK.2 3 (cA, ty) rfl).2
    have e2 := hRA (cy t0) (hE.1.2 t0 _ ht).2
    have e3 : cA = cy t0 := Option.some.inj (e1.symm.trans e2)
    subst e3
    exact kk q H1 h1 h2 h3
theorem zi_putF (M : zM p s m args c cc own nL) (hin2 : meth.name = "<init>") (hE : zE D cy z0 s) (hP : va_P D vwCl ws H) (hD : va_D A ws) (hS : va_S A H0 H locs) (q0 : Nat) {fs : List Value} {ci : Nat} (he : ws[q0]? = some (a, .inr (ci, fs))) {C ref : String} {T : u_T} {N index : Nat} (hc : vwCl[ci]? = some (C, T, N)) (hu : ∀ w ∈ u_ws C T N, zin w) (k : Nat) (hk : k < N) (hl : zin (.fieldLink own index ref (T k).2.1 (T k).2.2.1)) (hr : (T k).1 = ref) (hfin : (T k).2.2.2 = true) (hdecl : (T k).1 = own) {ty0 : Nat → FieldType} (hty : ∀ k, k < N → parseFieldDescriptor (T k).2.2.1 = some (ty0 k)) (hnm : ∀ a, a < N → ∀ b, b < N → a ≠ b → (T a).2.1 ≠ (T b).2.1) {v : Value} (hn : narrow (ty0 k) v = v) (hfit : fits (ty0 k) v = true) (hlen : k < fs.length) (hw : ws.set q0 (a, .inr (ci, fs.set k v)) = ws') (hdg : decode cc pc = .ok (.putfield index, 3))
    (kk : ∀ (H1 : Heap) (locs1 : List Loc), va_P D vwCl ws' H1 → va_D A ws' → va_S A H0 H1 locs1 → W p l e R s m args below meth c H1 locs1 cells slots Q (F0 m (pc + 3) ls rest)) : W p l e R s m args below meth c H locs cells slots Q (F0 m pc ls (v :: .ref a :: rest)) := by
  subst hw
  exact va_putF M.1 M.2.1 (Ts := u_ws C T N) (fun w h => M.w (hu w h)) (fun _ h => h) ty0 hty hnm M.2.2.2.1 hE.1 hP hD hS q0 he hc k hk (M.w hl) (fun x h => by rw [← hr]; exact h) hfin hin2 hdecl (hty k hk) hn hfit hlen hdg kk
theorem zi_new (M : zM p s m args c cc own nL) (hE : zE D cy z0 s) (hP : va_P D vwCl ws H) (hD : va_D A ws) (hS : va_S A s.heap H locs) (hA : ∀ q, s.heap.size ≤ q → A q) {C : String} {T : u_T} {N ci index : Nat} (hc : vwCl[ci]? = some (C, T, N)) (hu : ∀ w ∈ u_ws C T N, zin w) {ty0 : Nat → FieldType} (hty : ∀ k, k < N → parseFieldDescriptor (T k).2.2.1 = some (ty0 k)) (hcl : zin (.classLink own index C)) (hinst : zin (.instantiable C N)) (hini : zin (.initialized C)) {fs : List Value} (hfs : ∀ j, j < N → defaultValue (ty0 j) = vp_V fs j) (hcells : cells + 1 ≤ R.cells) (hslots : slots + N ≤ R.slots) (hdg : decode cc pc = .ok (.new index, 3))
    (kk : ∀ (q : Nat) (H1 : Heap), va_P D vwCl (ws ++ [(q, .inr (ci, fs))]) H1 → va_D A (ws ++ [(q, .inr (ci, fs))]) → va_S A s.heap H1 locs → W p l e R s m args below meth c H1 locs (cells + 1) (slots + N) Q (F0 m (pc + 3) ls (.ref q :: rest))) : W p l e R s m args below meth c H locs cells slots Q (F0 m pc ls rest) :=
  va_new M.1 M.2.1 (Ts := u_ws C T N) (fun w h => M.w (hu w h)) (fun _ h => h) ty0 hty M.2.2.2.1 (M.w hcl) (M.w hinst) (M.w hini) hE.1 hP hD hS hA hc hfs hcells hslots hdg kk
theorem zi_mna (M : zM p s m args c cc own nL) (hE : zE D cy z0 s) (hP : va_P D vwCl ws H) (hD : va_D A ws) (hS : va_S A s.heap H locs) (hA : ∀ q, s.heap.size ≤ q → A q) {index : Nat} (hk : zin (.classLink own index "[[I")) (hcells : cells + 4 ≤ R.cells) (hslots : slots + 147 ≤ R.slots) (hdg : decode cc pc = .ok (.multianewarray index 2, 4))
    (kk : ∀ (q : Nat) (r : Nat → Nat) (H1 : Heap), va_P D vwCl (ws ++ [(q, zQ (cy 2) 3 r), (r 0, zA (cy 0) 48 (fun _ => 0)), (r 1, zA (cy 0) 48 (fun _ => 0)), (r 2, zA (cy 0) 48 (fun _ => 0))]) H1 → va_D A (ws ++ [(q, zQ (cy 2) 3 r), (r 0, zA (cy 0) 48 (fun _ => 0)), (r 1, zA (cy 0) 48 (fun _ => 0)), (r 2, zA (cy 0) 48 (fun _ => 0))]) → va_S A s.heap H1 locs → W p l e R s m args below meth c H1 locs (cells + 1 + 3) (slots + 3 + 3 * 48) Q (F0 m (pc + 4) ls (.ref q :: rest))) : W p l e R s m args below meth c H locs cells slots Q (F0 m pc ls (.int (iI 48) :: .int (iI 3) :: rest)) := by
  have hfc : s.vm.findClass (FieldType.array .int).toString = some (cy 0) := (hE.1.2 0 (cy 0, .int) rfl).2
  refine va_mna (X := ws) (L := []) (f := fun _ => .inr (0, [])) (ty := .int) (N' := 3) (K' := 48) (z := (48, .inl (zf fun _ => 0))) M.1 M.2.1 M.2.2.2.1 (M.w hk) (M.w zk_ao_arrayint) (M.w zk_ac_int) hfc hE.1 (by rw [show va_pl [] (fun _ => .inr (0, [])) = ([] : va_W) from rfl, List.append_nil]; exact hP) (by rw [show va_pl [] (fun _ => .inr (0, [])) = ([] : va_W) from rfl, List.append_nil]; exact hD) hS hA (by decide) (by decide) (by decide) (by decide) (by decide) (by decide) (by decide) rfl rfl hcells hslots (fun k => by rw [vp_cell_i]; rfl) hdg (fun q r cA H1 hinj hfr hK h1 h2 h3 => ?_)
  have e1 : s.vm.findClass ("[" ++ (FieldType.array .int).toString) = some cA := (hK.2 3 (cA, .array .int) rfl).2
  have e2 : s.vm.findClass ("[" ++ (FieldType.array .int).toString) = some (cy 2) := (hE.1.2 2 (cy 2, .array .int) rfl).2
  have e3 : cA = cy 2 := Option.some.inj (e1.symm.trans e2)
  subst e3
  have e4 : va_pl ([] ++ (List.range 3).map r) (vr_up (fun _ => .inr (0, [])) ((List.range 3).map r) (.inl (cy 0, (48, .inl (zf fun _ => 0))))) = [(r 0, zA (cy 0) 48 (fun _ => 0)), (r 1, zA (cy 0) 48 (fun _ => 0)), (r 2, zA (cy 0) 48 (fun _ => 0))] := by
    have hL : (List.range 3).map r = [r 0, r 1, r 2] := rfl
    rw [hL, List.nil_append]
    show [(r 0, vr_up _ _ _ (r 0)), (r 1, vr_up _ _ _ (r 1)), (r 2, vr_up _ _ _ (r 2))] = _
    rw [vr_up_in (by simp), vr_up_in (by simp), vr_up_in (by simp)]
  rw [e4, List.append_assoc] at h1 h2
  exact kk q r H1 h1 h2 h3
theorem zw_I (M : zM p s m args c cc own nL) (hr : meth.sig.returnType = none) (hlk : meth.locks = false) {w1 : (Nat → Nat) → va_W} (r : Nat → Nat) (h0 : r 0 = a) (hP : va_P D vwCl (w1 r) H) (hD : va_D (zA0 a sz) (w1 r)) (hS : va_S (zA0 a sz) s.heap H locs) (hc : cells ≤ mc) (hs : slots ≤ ms) (hdg : decode cc pc = .ok (.return_, 1)) : W p l e R s m args below meth c H locs cells slots (MQ below (zQI D a sz w1) args s mc ms (zA0 a sz)) (F0 m pc ls []) :=
  W.widen hc hs (W.vret M.1 M.2.1 hr (fun t ht hW => ⟨⟨r, rfl, h0, by rw [ht]; exact hP, hD⟩, hS.F ht⟩) hS.2.2 hdg hlk)
theorem z_cI {e0 : va_E} {w1 : (Nat → Nat) → va_W} {aa : Array Value} (hr : va_Run p l e R s m args below meth c H locs cells slots mc ms (F0 m pc ls st0) rest (zQI D a sz w1 aa) (zA0 a sz)) (hP : va_P D vwCl (ws ++ [(a, e0)]) H) (hD : va_D A (ws ++ [(a, e0)])) (hS : va_S A s.heap H locs) (hA : ∀ q, s.heap.size ≤ q → A q) (hsz : H.size = sz)
    (kk : ∀ (r : Nat → Nat) (H1 : Heap) (locs1 : List Loc), r 0 = a → va_P D vwCl (ws ++ w1 r) H1 → va_D A (ws ++ w1 r) → va_S A s.heap H1 locs1 → W p l e R s m args below meth c H1 locs1 (cells + mc) (slots + ms) Q (F0 m (pc + 3) ls rest)) : W p l e R s m args below meth c H locs cells slots Q (F0 m pc ls st0) := by
  intro T hT X
  obtain ⟨v, st₀, t, T', L, h0, X', hL, e1, e2, ⟨⟨r, hv, hr0, hP1, hD1⟩, hz, hk⟩, st⟩ := hr T hT X
  cases hv
  rw [h0] at hz hk
  have hlast : (ws ++ [(a, e0)])[ws.length]? = some (a, e0) := by rw [List.getElem?_append_right (Nat.le_refl _), Nat.sub_self]; rfl
  have haA : A a := hD.2 ws.length (a, e0) hlast
  have hwk : ∀ (k : Nat) (q : Nat × va_E), ws[k]? = some q → (ws ++ [(a, e0)])[k]? = some q := fun k q hq => by rw [List.getElem?_append_left (List.getElem?_eq_some_iff.mp hq).1]; exact hq
  have hw : ∀ (k : Nat) (q : Nat × va_E), ws[k]? = some q → q.1 < sz ∧ q.1 ≠ a := fun k q hq => by
    refine ⟨by rw [← hsz]; exact (hP k q (hwk k q hq)).lt, fun z => ?_⟩
    have h1 := hD.1 k ws.length q (a, e0) (hwk k q hq) hlast z
    have h2 := (List.getElem?_eq_some_iff.mp hq).1
    omega
  have hin : ∀ q, zA0 a sz q → A q := fun q h => by
    rcases h with rfl | h
    · exact haA
    · exact hA q (Nat.le_trans hS.1 (by rw [hsz]; exact h))
  have hPw : va_P D vwCl ws t.heap := fun k q hq => (hP k q (hwk k q hq)).kept (hk q.1 (hP k q (hwk k q hq)).lt (fun z => by
    have h1 := hw k q hq
    rcases z with z | z
    · exact h1.2 z
    · omega))
  have hDw : va_D A ws := ⟨fun i j x y hi hj hxy => hD.1 i j x y (hwk i x hi) (hwk j y hj) hxy, fun k q hq => hD.2 k q (hwk k q hq)⟩
  have hD2 : va_D A (ws ++ w1 r) := zD_app hDw (hD1.weaken (fun _ _ _ h => hin _ h)) (fun i j x y hi hj hxy => by
    have h1 := hw i x hi
    rcases hD1.2 j y hj with z | z
    · exact h1.2 (hxy.trans z)
    · omega)
  obtain ⟨t2, a1, b1⟩ := kk r t.heap (locs ++ L) hr0 (hPw.app hP1) hD2 ⟨Nat.le_trans hS.1 hz, fun q h1 h2 => (hk q (Nat.lt_of_lt_of_le h1 hS.1) (fun z => h2 (hin q z))).trans (hS.2.1 q h1 h2), fun q hq => by
      rcases List.mem_append.mp hq with h | h
      · exact hS.2.2 q h
      · exact hin _ (hL q h)⟩ T' e1 X'
  exact ⟨t2, st t2 a1, b1⟩
end ZNW
theorem zQ_congr {c : ClassId} {n : Nat} {f g : Nat → Nat} (h : ∀ i, i < n → f i = g i) : zQ c n f = zQ c n g := by
  have e : (fun i => if i < n then some (f i) else none) = (fun i => if i < n then some (g i) else none) := by
    funext i
    by_cases q : i < n
    · rw [if_pos q, if_pos q, h i q]
    · rw [if_neg q, if_neg q]
  show (Sum.inl (c, n, .inr (.inr (.inr (.inr (fun i => if i < n then some (f i) else none))))) : va_E) = _
  rw [e]
theorem airW_re {r r' : Nat → Nat} {b b' : Nat} {cy : Nat → ClassId} {h su st sh fl : Int} {cS cH dD dE dF : Int → Int} (hh : ∀ k, k < 7 → r (b + k) = r' (b' + k)) : airW r b cy h su st sh fl cS cH dD dE dF = airW r' b' cy h su st sh fl cS cH dD dE dF := by
  unfold airW
  have h0 : r b = r' b' := hh 0 (by decide)
  rw [h0, hh 1 (by decide), hh 2 (by decide), hh 3 (by decide), hh 4 (by decide), hh 5 (by decide), hh 6 (by decide), zQ_congr (fun i hi => hh (4 + i) (by omega))]
def zr4 (a b c d : Nat) (r : Nat → Nat) : Nat → Nat := fun k => if k = 0 then a else if k = 1 then b else if k = 2 then c else if k = 3 then d else r (k - 4)
theorem zr4_4 (a b c d : Nat) (r : Nat → Nat) (i : Nat) : zr4 a b c d r (0 + (4 + i)) = r i := by
  unfold zr4
  rw [if_neg (by omega), if_neg (by omega), if_neg (by omega), if_neg (by omega), show 0 + (4 + i) - 4 = i from by omega]
