/-! THE Z-KIT, 10: a call beside a world that it leaves alone -/
section ZTW
variable {p : Program} {l : Launch} {e : Env} {R : Room} {s : State} {m : MethodId} {args : Array Value} {below : List Frame} {meth : Method} {c : Code} {H : Heap} {locs : List Loc} {cells slots mc ms : Nat} {Q : State → Prop}
variable {pc : Nat} {ls : Array Slot} {rest st0 : List Value} {D : va_G} {A : Nat → Prop} {ws wc wm : va_W} {a : Array Value}
theorem zD_l (hD : va_D A (ws ++ wm)) : va_D A ws := ⟨fun i j x y hi hj hxy => hD.1 i j x y (by rw [List.getElem?_append_left (List.getElem?_eq_some_iff.mp hi).1]; exact hi) (by rw [List.getElem?_append_left (List.getElem?_eq_some_iff.mp hj).1]; exact hj) hxy, fun k q hk => hD.2 k q (by rw [List.getElem?_append_left (List.getElem?_eq_some_iff.mp hk).1]; exact hk)⟩
theorem zD_x (hD : va_D A (ws ++ wm)) {i j : Nat} {x y : Nat × va_E} (hi : ws[i]? = some x) (hj : wm[j]? = some y) : x.1 ≠ y.1 := fun hxy => by
  have h1 := (List.getElem?_eq_some_iff.mp hi).1
  have h2 := hD.1 i (ws.length + j) x y (by rw [List.getElem?_append_left h1]; exact hi) (by rw [List.getElem?_append_right (Nat.le_add_right _ _), Nat.add_sub_cancel_left]; exact hj) hxy
  omega
theorem zD_c (hD : va_D A (ws ++ wm)) : va_D A (wm ++ ws) := by
  have hm : ∀ (k : Nat) (q : Nat × va_E), wm[k]? = some q → (ws ++ wm)[ws.length + k]? = some q := fun k q hk => by rw [List.getElem?_append_right (Nat.le_add_right _ _), Nat.add_sub_cancel_left]; exact hk
  refine zD_app ⟨fun i j x y hi hj hxy => ?_, fun k q hk => hD.2 _ q (hm k q hk)⟩ (zD_l hD) (fun i j x y hi hj h => zD_x hD hj hi h.symm)
  have := hD.1 _ _ x y (hm i x hi) (hm j y hj) hxy
  omega
theorem zD_to (hD : va_D A (ws ++ wm)) {ws' : va_W} (h : ws'.map (fun q => q.1) = ws.map (fun q => q.1)) : va_D A (ws' ++ wm) := va_D.adr (by rw [List.map_append, List.map_append, h]) hD
theorem z_cW2 {S : Type} {post : Int32 → S → Prop} {w1 : S → va_W} (hr : va_Run p l e R s m args below meth c H locs cells slots mc ms (F0 m pc ls st0) rest (zQ1 D wc post w1 a) (zIn wc)) (hP : va_P D vwCl ws H) (hPm : va_P D vwCl wm H) (hD : va_D A (ws ++ wm)) (hS : va_S A s.heap H locs) (is : List Nat) (hC : is.map (fun i => ws[i]?) = wc.map some) (ha : ∀ u, (w1 u).map (fun q => q.1) = wc.map (fun q => q.1))
    (kk : ∀ (r : Int32) (u : S) (H1 : Heap) (locs1 : List Loc), post r u → va_P D vwCl (zput ws is (w1 u)) H1 → va_P D vwCl wm H1 → va_D A (zput ws is (w1 u) ++ wm) → va_S A s.heap H1 locs1 → W p l e R s m args below meth c H1 locs1 (cells + mc) (slots + ms) Q (F0 m (pc + 3) ls (.int r :: rest))) : W p l e R s m args below meth c H locs cells slots Q (F0 m pc ls st0) := by
  have hDw := zD_l hD
  have hin := z_inA hDw is hC
  intro T hT X
  obtain ⟨v, st₀, t, T', L, h0, X', hL, e1, e2, ⟨⟨r, u, hv, hp, hP1⟩, hz, hk⟩, st⟩ := hr T hT X
  cases hv
  rw [h0] at hz hk
  obtain ⟨j1, -⟩ := z_join hP hDw is hC (H1 := t.heap) hk hP1 (ha u)
  have j3 : va_P D vwCl wm t.heap := fun k q hq => (hPm k q hq).kept (hk q.1 (hPm k q hq).lt (fun ⟨k2, e2, h2⟩ => by
    obtain ⟨i, -, h3⟩ := z_at hC k2 (q.1, e2) h2
    exact zD_x hD h3 hq rfl))
  have j4 : (zput ws is (w1 u)).map (fun q => q.1) = ws.map (fun q => q.1) := by
    refine zput_adr is (w1 u) ws (fun j i c hj hc => ?_)
    have h1 : ((w1 u).map (fun q => q.1))[j]? = some c.1 := by rw [List.getElem?_map, hc]; rfl
    rw [ha, List.getElem?_map] at h1
    cases hq : wc[j]? with
    | none => rw [hq] at h1; cases h1
    | some q0 =>
      rw [hq] at h1
      obtain ⟨i', h3, h4⟩ := z_at hC j q0 hq
      rw [hj] at h3
      cases h3
      exact ⟨q0, h4, Option.some.inj h1⟩
  obtain ⟨t2, a1, b1⟩ := kk r u t.heap (locs ++ L) hp j1 j3 (zD_to hD j4) ⟨Nat.le_trans hS.1 hz, fun q h1 h2 => (hk q (Nat.lt_of_lt_of_le h1 hS.1) (fun z => h2 (hin q z))).trans (hS.2.1 q h1 h2), fun q hq => by
      rcases List.mem_append.mp hq with h | h
      · exact hS.2.2 q h
      · exact hin _ (hL q h)⟩ T' e1 X'
  exact ⟨t2, st t2 a1, b1⟩
theorem z_cV2 {S : Type} {post : S → Prop} {w1 : S → va_W} (hr : va_Run p l e R s m args below meth c H locs cells slots mc ms (F0 m pc ls st0) rest (zQ0 D wc post w1 a) (zIn wc)) (hP : va_P D vwCl ws H) (hPm : va_P D vwCl wm H) (hD : va_D A (ws ++ wm)) (hS : va_S A s.heap H locs) (is : List Nat) (hC : is.map (fun i => ws[i]?) = wc.map some) (ha : ∀ u, (w1 u).map (fun q => q.1) = wc.map (fun q => q.1))
    (kk : ∀ (u : S) (H1 : Heap) (locs1 : List Loc), post u → va_P D vwCl (zput ws is (w1 u)) H1 → va_P D vwCl wm H1 → va_D A (zput ws is (w1 u) ++ wm) → va_S A s.heap H1 locs1 → W p l e R s m args below meth c H1 locs1 (cells + mc) (slots + ms) Q (F0 m (pc + 3) ls rest)) : W p l e R s m args below meth c H locs cells slots Q (F0 m pc ls st0) := by
  have hDw := zD_l hD
  have hin := z_inA hDw is hC
  intro T hT X
  obtain ⟨v, st₀, t, T', L, h0, X', hL, e1, e2, ⟨⟨u, hv, hp, hP1⟩, hz, hk⟩, st⟩ := hr T hT X
  cases hv
  rw [h0] at hz hk
  obtain ⟨j1, -⟩ := z_join hP hDw is hC (H1 := t.heap) hk hP1 (ha u)
  have j3 : va_P D vwCl wm t.heap := fun k q hq => (hPm k q hq).kept (hk q.1 (hPm k q hq).lt (fun ⟨k2, e2, h2⟩ => by
    obtain ⟨i, -, h3⟩ := z_at hC k2 (q.1, e2) h2
    exact zD_x hD h3 hq rfl))
  have j4 : (zput ws is (w1 u)).map (fun q => q.1) = ws.map (fun q => q.1) := by
    refine zput_adr is (w1 u) ws (fun j i c hj hc => ?_)
    have h1 : ((w1 u).map (fun q => q.1))[j]? = some c.1 := by rw [List.getElem?_map, hc]; rfl
    rw [ha, List.getElem?_map] at h1
    cases hq : wc[j]? with
    | none => rw [hq] at h1; cases h1
    | some q0 =>
      rw [hq] at h1
      obtain ⟨i', h3, h4⟩ := z_at hC j q0 hq
      rw [hj] at h3
      cases h3
      exact ⟨q0, h4, Option.some.inj h1⟩
  obtain ⟨t2, a1, b1⟩ := kk u t.heap (locs ++ L) hp j1 j3 (zD_to hD j4) ⟨Nat.le_trans hS.1 hz, fun q h1 h2 => (hk q (Nat.lt_of_lt_of_le h1 hS.1) (fun z => h2 (hin q z))).trans (hS.2.1 q h1 h2), fun q hq => by
      rcases List.mem_append.mp hq with h | h
      · exact hS.2.2 q h
      · exact hin _ (hL q h)⟩ T' e1 X'
  exact ⟨t2, st t2 a1, b1⟩
end ZTW
