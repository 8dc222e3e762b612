/-! THE Z-KIT, 5: methods that change the cells of their world, none else -/
def zIn (w : va_W) : Nat → Prop := fun q => ∃ (k : Nat) (e : va_E), w[k]? = some (q, e)
def zlk (k : Nat) : List Nat → va_W → Nat × va_E → Nat × va_E
  | i :: is, c :: cs, d => match Nat.beq k i with
    | true => c
    | false => zlk k is cs d
  | [], _, d => d
  | _, [], d => d
def zmg (is : List Nat) (w1 : va_W) : Nat → va_W → va_W
  | _, [] => []
  | k, c :: cs => zlk k is w1 c :: zmg is w1 (k + 1) cs
def zput (ws : va_W) (is : List Nat) (w1 : va_W) : va_W := zmg is w1 0 ws
theorem zlk_or (k : Nat) : ∀ (is : List Nat) (w1 : va_W) (d : Nat × va_E), (zlk k is w1 d = d ∧ (is.length = w1.length → k ∉ is)) ∨ ∃ j : Nat, w1[j]? = some (zlk k is w1 d) ∧ is[j]? = some k
  | [], w1, d => Or.inl ⟨by cases w1 <;> rfl, fun _ h => nomatch h⟩
  | i :: is, [], d => Or.inl ⟨rfl, fun h => nomatch h⟩
  | i :: is, c :: cs, d => by
    cases hb : Nat.beq k i with
    | true =>
      refine Or.inr ⟨0, ?_, ?_⟩
      · show some c = some (zlk k (i :: is) (c :: cs) d)
        unfold zlk
        rw [hb]
      · show some i = some k
        rw [Nat.eq_of_beq_eq_true hb]
    | false =>
      have e : zlk k (i :: is) (c :: cs) d = zlk k is cs d := by
        show (match Nat.beq k i with
          | true => c
          | false => zlk k is cs d) = _
        rw [hb]
      rw [e]
      rcases zlk_or k is cs d with ⟨h1, h2⟩ | ⟨j, h1, h2⟩
      · refine Or.inl ⟨h1, fun hl hm => ?_⟩
        rcases List.mem_cons.mp hm with q | q
        · exact Nat.ne_of_beq_eq_false hb q
        · exact h2 (by simpa using hl) q
      · exact Or.inr ⟨j + 1, h1, h2⟩
theorem zmg_at (is : List Nat) (w1 : va_W) : ∀ (ws : va_W) (k0 k : Nat), (zmg is w1 k0 ws)[k]? = (ws[k]?).map (zlk (k0 + k) is w1)
  | [], k0, k => rfl
  | c :: cs, k0, 0 => rfl
  | c :: cs, k0, k + 1 => by
    show (zmg is w1 (k0 + 1) cs)[k]? = (cs[k]?).map _
    rw [zmg_at is w1 cs (k0 + 1) k, show k0 + 1 + k = k0 + (k + 1) from by omega]
theorem zput_P {D : va_G} {cl : List vw_C} {H1 : Heap} (is : List Nat) (w1 ws : va_W) (hl : is.length = w1.length) (h : ∀ (k : Nat) (q : Nat × va_E), ws[k]? = some q → k ∈ is ∨ va_at D cl q H1) (hw : va_P D cl w1 H1) : va_P D cl (zput ws is w1) H1 := fun k q hk => by
  rw [zput, zmg_at, Nat.zero_add] at hk
  cases hd : ws[k]? with
  | none => rw [hd] at hk; cases hk
  | some d =>
    rw [hd] at hk
    have hq : zlk k is w1 d = q := Option.some.inj hk
    rcases zlk_or k is w1 d with ⟨h1, h2⟩ | ⟨j, h1, h2⟩
    · rw [← hq, h1]
      rcases h k d hd with h3 | h3
      · exact absurd h3 (h2 hl)
      · exact h3
    · rw [hq] at h1
      exact hw j q h1
theorem zput_adr (is : List Nat) (w1 ws : va_W) (h : ∀ (j i : Nat) (c : Nat × va_E), is[j]? = some i → w1[j]? = some c → ∃ q, ws[i]? = some q ∧ q.1 = c.1) : (zput ws is w1).map (fun q => q.1) = ws.map (fun q => q.1) := by
  apply List.ext_getElem?
  intro n
  rw [List.getElem?_map, List.getElem?_map, zput, zmg_at, Nat.zero_add]
  cases hd : ws[n]? with
  | none => rfl
  | some d =>
    show some (zlk n is w1 d).1 = some d.1
    rcases zlk_or n is w1 d with ⟨h1, h2⟩ | ⟨j, h1, h2⟩
    · rw [h1]
    · obtain ⟨q, h3, h4⟩ := h j n _ h2 h1
      rw [hd] at h3
      cases h3
      rw [← h4]
theorem va_D.adr {A : Nat → Prop} {ws ws' : va_W} (h : ws'.map (fun q => q.1) = ws.map (fun q => q.1)) (hD : va_D A ws) : va_D A ws' := by
  have key : ∀ (k : Nat) (q : Nat × va_E), ws'[k]? = some q → ∃ q0, ws[k]? = some q0 ∧ q0.1 = q.1 := by
    intro k q hk
    have h1 : (ws'.map (fun q => q.1))[k]? = some q.1 := by rw [List.getElem?_map, hk]; rfl
    rw [h, List.getElem?_map] at h1
    cases hq : ws[k]? with
    | none => rw [hq] at h1; cases h1
    | some q0 => rw [hq] at h1; exact ⟨q0, rfl, Option.some.inj h1⟩
  refine ⟨fun i j x y hi hj hxy => ?_, fun k q hk => ?_⟩
  · obtain ⟨x0, h1, h2⟩ := key i x hi
    obtain ⟨y0, h3, h4⟩ := key j y hj
    exact hD.1 i j x0 y0 h1 h3 (h2.trans (hxy.trans h4.symm))
  · obtain ⟨q0, h1, h2⟩ := key k q hk
    rw [← h2]
    exact hD.2 k q0 h1
theorem va_D.to {A : Nat → Prop} {ws ws' : va_W} (hD : va_D A ws) (h : ws'.map (fun q => q.1) = ws.map (fun q => q.1)) : va_D A ws' := va_D.adr h hD
theorem z_at {ws w : va_W} {is : List Nat} (hs : is.map (fun i => ws[i]?) = w.map some) (k : Nat) (q : Nat × va_E) (hq : w[k]? = some q) : ∃ i, is[k]? = some i ∧ ws[i]? = some q := by
  have h1 : (is.map (fun i => ws[i]?))[k]? = some (some q) := by rw [hs, List.getElem?_map, hq]; rfl
  rw [List.getElem?_map] at h1
  cases hi : is[k]? with
  | none => rw [hi] at h1; cases h1
  | some i => rw [hi] at h1; exact ⟨i, rfl, Option.some.inj h1⟩
theorem z_join {A0 : Nat → Prop} {D : va_G} {cl : List vw_C} {ws wc w1 : va_W} {H H1 : Heap} (hP : va_P D cl ws H) (hD : va_D A0 ws) (is : List Nat) (hC : is.map (fun i => ws[i]?) = wc.map some) (hk : ∀ q : Nat, q < H.size → ¬ zIn wc q → H1[q]? = H[q]?) (hP1 : va_P D cl w1 H1) (ha : w1.map (fun q => q.1) = wc.map (fun q => q.1)) : va_P D cl (zput ws is w1) H1 ∧ va_D A0 (zput ws is w1) := by
  have hl : is.length = w1.length := by
    have h1 := congrArg List.length hC
    have h2 := congrArg List.length ha
    simp only [List.length_map] at h1 h2
    omega
  refine ⟨zput_P is w1 ws hl (fun k q hkq => ?_) hP1, va_D.adr (zput_adr is w1 ws (fun j i c hj hc => ?_)) hD⟩
  · by_cases hm : k ∈ is
    · exact Or.inl hm
    · refine Or.inr ((hP k q hkq).kept (hk q.1 ((hP k q hkq).lt) (fun hz => hm ?_)))
      obtain ⟨k2, e2, h2⟩ := hz
      obtain ⟨i, h3, h4⟩ := z_at hC k2 (q.1, e2) h2
      rw [hD.1 k i q (q.1, e2) hkq h4 rfl]
      exact List.mem_of_getElem? h3
  · have h1 : (w1.map (fun q => q.1))[j]? = some c.1 := by rw [List.getElem?_map, hc]; rfl
    rw [ha, List.getElem?_map] at h1
    cases hq : wc[j]? with
    | none => rw [hq] at h1; cases h1
    | some q0 =>
      rw [hq] at h1
      obtain ⟨i', h3, h4⟩ := z_at hC j q0 hq
      rw [hj] at h3
      cases h3
      exact ⟨q0, h4, Option.some.inj h1⟩
def zQ1 {S : Type} (D : va_G) (w0 : va_W) (post : Int32 → S → Prop) (w1 : S → va_W) : Array Value → State → Outcome → State → Prop := fun _ st o t => (∃ (r : Int32) (u : S), o = .returned (some (.int r)) ∧ post r u ∧ va_P D vwCl (w1 u) t.heap) ∧ va_F (zIn w0) st t
def zQ0 {S : Type} (D : va_G) (w0 : va_W) (post : S → Prop) (w1 : S → va_W) : Array Value → State → Outcome → State → Prop := fun _ st o t => (∃ (u : S), o = .returned none ∧ post u ∧ va_P D vwCl (w1 u) t.heap) ∧ va_F (zIn w0) st t
/-- a world at hand, all its cells behind z0 -/
abbrev zWl (D : va_G) (z0 : Nat) (w : va_W) : Heap → Prop := fun H => va_P D vwCl w H ∧ va_D (fun q => z0 ≤ q) w
theorem z_cut {D : va_G} {z0 : Nat} {A : Nat → Prop} {ws wc : va_W} {H : Heap} (hP : va_P D vwCl ws H) (hD : va_D A ws) (hA : ∀ q, A q → z0 ≤ q) (is : List Nat) (hC : is.map (fun i => ws[i]?) = wc.map some) (hn : va_nd is = true) : zWl D z0 wc H :=
  ⟨fun k q hk => by obtain ⟨i, -, h⟩ := z_at hC k q hk; exact hP i q h, (hD.sub is hn hC).weaken (fun _ _ _ h => hA _ h)⟩
theorem zWl.self {D : va_G} {z0 : Nat} {w : va_W} {H : Heap} (h : zWl D z0 w H) : va_D (zIn w) w := ⟨h.2.1, fun k q hk => ⟨k, q.2, hk⟩⟩
theorem zWl.A {D : va_G} {z0 : Nat} {w : va_W} {H : Heap} (h : zWl D z0 w H) : ∀ q, zIn w q → z0 ≤ q := fun q ⟨k, e, hk⟩ => h.2.2 k (q, e) hk
/-- one or the other, by a proposition -/
noncomputable def zif (P : Prop) (a b : Int) : Int := @ite Int P (Classical.propDecidable P) a b
theorem zif_t {P : Prop} {a b : Int} (h : P) : zif P a b = a := if_pos h
theorem zif_f {P : Prop} {a b : Int} (h : ¬ P) : zif P a b = b := if_neg h
/-- the same of arrays -/
noncomputable def zifF (P : Prop) (f g : Int → Int) : Int → Int := @ite (Int → Int) P (Classical.propDecidable P) f g
theorem zifF_t {P : Prop} {a b : Int → Int} (h : P) : zifF P a b = a := if_pos h
theorem zifF_f {P : Prop} {a b : Int → Int} (h : ¬ P) : zifF P a b = b := if_neg h
section ZW
variable {p : Program} {l : Launch} {e : Env} {R : Room} {s : State} {m : MethodId} {args : Array Value} {below : List Frame} {meth : Method} {c : Code} {H : Heap} {locs : List Loc} {cells slots mc ms : Nat} {Q : State → Prop}
variable {cc : ByteArray} {pc : Nat} {ls : Array Slot} {rest st0 : List Value} {own : String} {nL : Nat} {D : va_G} {z0 : Nat} {A : Nat → Prop} {ws wc w0 : va_W} {a : Array Value}
theorem zi_bz {P : Prop} {g : Int32 → JFrame} (kt : P → W p l e R s m args below meth c H locs cells slots Q (g (iI 1))) (kf : ¬ P → W p l e R s m args below meth c H locs cells slots Q (g (iI 0))) : W p l e R s m args below meth c H locs cells slots Q (g (iI (zif P 1 0))) := by
  rcases Classical.em P with h | h
  · rw [zif_t h]
    exact kt h
  · rw [zif_f h]
    exact kf h
theorem zi_alen (M : zM p s m args c cc own nL) {cy : Nat → ClassId} (hE : zE D cy z0 s) (hP : va_P D vwCl ws H) (q0 t0 : Nat) {b : Nat} {ty : FieldType} {n : Nat} {g : Int → Int} (ha : ws[q0]? = some (b, zA (cy t0) n g)) (ht : (zT cy)[t0]? = some (cy t0, ty)) (hdg : decode cc pc = .ok (.arraylength, 1)) (kk : W p l e R s m args below meth c H locs cells slots Q (F0 m (pc + 1) ls (.int (iI n) :: rest))) : W p l e R s m args below meth c H locs cells slots Q (F0 m pc ls (.ref b :: rest)) :=
  va_alen M.1 M.2.1 hE.1 hP q0 t0 ha ht (show Int32.ofNat n = iI n from Int32.ofInt_eq_ofNat.symm) hdg kk
theorem z_inA (hD : va_D A ws) (is : List Nat) (hC : is.map (fun i => ws[i]?) = wc.map some) : ∀ q, zIn wc q → A q := fun q ⟨k, e, h⟩ => by
  obtain ⟨i, -, h2⟩ := z_at hC k (q, e) h
  exact hD.2 i (q, e) h2
theorem z_cW {S : Type} {post : Int32 → S → Prop} {w1 : S → va_W} (hr : va_Run p l e R s m args below meth c H locs cells slots mc ms (F0 m pc ls st0) rest (zQ1 D wc post w1 a) (zIn wc)) (hP : va_P D vwCl ws H) (hD : va_D A ws) (hS : va_S A s.heap H locs) (is : List Nat) (hC : is.map (fun i => ws[i]?) = wc.map some) (ha : ∀ u, (w1 u).map (fun q => q.1) = wc.map (fun q => q.1))
    (kk : ∀ (r : Int32) (u : S) (H1 : Heap) (locs1 : List Loc), post r u → va_P D vwCl (zput ws is (w1 u)) H1 → va_D A (zput ws is (w1 u)) → va_S A s.heap H1 locs1 → W p l e R s m args below meth c H1 locs1 (cells + mc) (slots + ms) Q (F0 m (pc + 3) ls (.int r :: rest))) : W p l e R s m args below meth c H locs cells slots Q (F0 m pc ls st0) := by
  have hin := z_inA hD is hC
  intro T hT X
  obtain ⟨v, st₀, t, T', L, h0, X', hL, e1, e2, ⟨⟨r, u, hv, hp, hP1⟩, hz, hk⟩, st⟩ := hr T hT X
  cases hv
  rw [h0] at hz hk
  obtain ⟨j1, j2⟩ := z_join hP hD is hC (H1 := t.heap) hk hP1 (ha u)
  obtain ⟨t2, a1, b1⟩ := kk r u t.heap (locs ++ L) hp j1 j2 ⟨Nat.le_trans hS.1 hz, fun q h1 h2 => (hk q (Nat.lt_of_lt_of_le h1 hS.1) (fun z => h2 (hin q z))).trans (hS.2.1 q h1 h2), fun q hq => by
      rcases List.mem_append.mp hq with h | h
      · exact hS.2.2 q h
      · exact hin _ (hL q h)⟩ T' e1 X'
  exact ⟨t2, st t2 a1, b1⟩
theorem z_cV {S : Type} {post : S → Prop} {w1 : S → va_W} (hr : va_Run p l e R s m args below meth c H locs cells slots mc ms (F0 m pc ls st0) rest (zQ0 D wc post w1 a) (zIn wc)) (hP : va_P D vwCl ws H) (hD : va_D A ws) (hS : va_S A s.heap H locs) (is : List Nat) (hC : is.map (fun i => ws[i]?) = wc.map some) (ha : ∀ u, (w1 u).map (fun q => q.1) = wc.map (fun q => q.1))
    (kk : ∀ (u : S) (H1 : Heap) (locs1 : List Loc), post u → va_P D vwCl (zput ws is (w1 u)) H1 → va_D A (zput ws is (w1 u)) → va_S A s.heap H1 locs1 → W p l e R s m args below meth c H1 locs1 (cells + mc) (slots + ms) Q (F0 m (pc + 3) ls rest)) : W p l e R s m args below meth c H locs cells slots Q (F0 m pc ls st0) := by
  have hin := z_inA hD is hC
  intro T hT X
  obtain ⟨v, st₀, t, T', L, h0, X', hL, e1, e2, ⟨⟨u, hv, hp, hP1⟩, hz, hk⟩, st⟩ := hr T hT X
  cases hv
  rw [h0] at hz hk
  obtain ⟨j1, j2⟩ := z_join hP hD is hC (H1 := t.heap) hk hP1 (ha u)
  obtain ⟨t2, a1, b1⟩ := kk u t.heap (locs ++ L) hp j1 j2 ⟨Nat.le_trans hS.1 hz, fun q h1 h2 => (hk q (Nat.lt_of_lt_of_le h1 hS.1) (fun z => h2 (hin q z))).trans (hS.2.1 q h1 h2), fun q hq => by
      rcases List.mem_append.mp hq with h | h
      · exact hS.2.2 q h
      · exact hin _ (hL q h)⟩ T' e1 X'
  exact ⟨t2, st t2 a1, b1⟩
theorem zw_i (M : zM p s m args c cc own nL) (hr : meth.sig.returnType = some .int) (hlk : meth.locks = false) {S : Type} {post : Int32 → S → Prop} {w1 : S → va_W} {v : Int32} (u : S) (hP : va_P D vwCl (w1 u) H) (hS : va_S (zIn w0) s.heap H locs) (hp : post v u) (hc : cells ≤ mc) (hs : slots ≤ ms) (hdg : decode cc pc = .ok (.ireturn, 1)) : W p l e R s m args below meth c H locs cells slots (MQ below (zQ1 D w0 post w1) args s mc ms (zIn w0)) (F0 m pc ls [.int v]) :=
  W.widen hc hs (W.iret M.1 M.2.1 hr (fun t ht hW => ⟨⟨v, u, rfl, hp, by rw [ht]; exact hP⟩, hS.F ht⟩) hS.2.2 hdg hlk)
theorem zw_z (M : zM p s m args c cc own nL) (hr : meth.sig.returnType = some .boolean) (hlk : meth.locks = false) {S : Type} {post : Int32 → S → Prop} {w1 : S → va_W} {v : Int} (h01 : v = 0 ∨ v = 1) (u : S) (hP : va_P D vwCl (w1 u) H) (hS : va_S (zIn w0) s.heap H locs) (hp : post (iI v) u) (hc : cells ≤ mc) (hs : slots ≤ ms) (hdg : decode cc pc = .ok (.ireturn, 1)) : W p l e R s m args below meth c H locs cells slots (MQ below (zQ1 D w0 post w1) args s mc ms (zIn w0)) (F0 m pc ls [.int (iI v)]) :=
  W.widen hc hs (W.zret M.1 M.2.1 hr (by rcases h01 with rfl | rfl <;> rfl) (fun t ht hW => ⟨⟨iI v, u, rfl, hp, by rw [ht]; exact hP⟩, hS.F ht⟩) hS.2.2 hdg hlk)
theorem zw_v (M : zM p s m args c cc own nL) (hr : meth.sig.returnType = none) (hlk : meth.locks = false) {S : Type} {post : S → Prop} {w1 : S → va_W} (u : S) (hP : va_P D vwCl (w1 u) H) (hS : va_S (zIn w0) s.heap H locs) (hp : post u) (hc : cells ≤ mc) (hs : slots ≤ ms) (hdg : decode cc pc = .ok (.return_, 1)) : W p l e R s m args below meth c H locs cells slots (MQ below (zQ0 D w0 post w1) args s mc ms (zIn w0)) (F0 m pc ls []) :=
  W.widen hc hs (W.vret M.1 M.2.1 hr (fun t ht hW => ⟨⟨u, rfl, hp, by rw [ht]; exact hP⟩, hS.F ht⟩) hS.2.2 hdg hlk)
end ZW
/-- an array's contents count only where it has places -/
theorem zP_arr {D : va_G} {cl : List vw_C} {ws : va_W} {H : Heap} (hP : va_P D cl ws H) (q0 : Nat) {a : Nat} {c : ClassId} {n : Nat} {g g' : Int → Int} (ha : ws[q0]? = some (a, zA c n g)) (h : ∀ j : Int, 0 ≤ j → j < n → g j = g' j) : va_P D cl (ws.set q0 (a, zA c n g')) H := by
  have hl := (List.getElem?_eq_some_iff.mp ha).1
  intro k q hk
  by_cases e : k = q0
  · subst e
    rw [List.getElem?_set_self hl] at hk
    cases hk
    have h1 := hP k _ ha
    show H[a]? = some (vp_cell c (n, .inl (zf g')))
    rw [← zA_congr h]
    exact h1
  · rw [List.getElem?_set_ne (Ne.symm e)] at hk
    exact hP k q hk
theorem zD_arr {A : Nat → Prop} {ws : va_W} (hD : va_D A ws) (q0 : Nat) {a : Nat} {c : ClassId} {n : Nat} {g g' : Int → Int} (ha : ws[q0]? = some (a, zA c n g)) : va_D A (ws.set q0 (a, zA c n g')) := hD.set ha
