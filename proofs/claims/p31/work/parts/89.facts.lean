/-! what the law says of a state at its end -/
theorem zP_l {D : va_G} {cl : List vw_C} {a b : va_W} {H : Heap} (h : va_P D cl (a ++ b) H) : va_P D cl a H := fun k q hk => h k q (by rw [List.getElem?_append_left (List.getElem?_eq_some_iff.mp hk).1]; exact hk)
theorem zP_r {D : va_G} {cl : List vw_C} {a b : va_W} {H : Heap} (h : va_P D cl (a ++ b) H) : va_P D cl b H := fun k q hk => h (a.length + k) q (by rw [List.getElem?_append_right (Nat.le_add_right _ _), Nat.add_sub_cancel_left]; exact hk)
theorem en_0 {a x0 x1 x2 x3 x4 : Int} : (if (0 : Int) = 5 then a else tell5 x0 x1 x2 x3 x4 0) = x0 := rfl
theorem en_1 {a x0 x1 x2 x3 x4 : Int} : (if (1 : Int) = 5 then a else tell5 x0 x1 x2 x3 x4 1) = x1 := rfl
theorem en_2 {a x0 x1 x2 x3 x4 : Int} : (if (2 : Int) = 5 then a else tell5 x0 x1 x2 x3 x4 2) = x2 := rfl
theorem en_4 {a x0 x1 x2 x3 x4 : Int} : (if (4 : Int) = 5 then a else tell5 x0 x1 x2 x3 x4 4) = x4 := rfl
theorem en_5 {a x0 x1 x2 x3 x4 : Int} : (if (5 : Int) = 5 then a else tell5 x0 x1 x2 x3 x4 5) = a := rfl
theorem te_0 {x0 x1 x2 x3 x4 x5 : Int} : tell6 x0 x1 x2 x3 x4 x5 0 = x0 := rfl
theorem te_1 {x0 x1 x2 x3 x4 x5 : Int} : tell6 x0 x1 x2 x3 x4 x5 1 = x1 := rfl
theorem te_2 {x0 x1 x2 x3 x4 x5 : Int} : tell6 x0 x1 x2 x3 x4 x5 2 = x2 := rfl
theorem te_3 {x0 x1 x2 x3 x4 x5 : Int} : tell6 x0 x1 x2 x3 x4 x5 3 = x3 := rfl
theorem te_4 {x0 x1 x2 x3 x4 x5 : Int} : tell6 x0 x1 x2 x3 x4 x5 4 = x4 := rfl
theorem tc_4 {x0 x1 x2 x3 x4 : Int} : tell5 x0 x1 x2 x3 x4 4 = x4 := rfl
/-- paired entries count together -/
theorem cntZ_pair {cm : Int} {c1 c2 c3 c5 e1 e2 e3 e4 e5 : Int → Int} {n : Int} (hn : 0 ≤ n) (h0 : 0 ≤ e5 n) (h1 : e5 (e5 n) = n) (h2 : e1 (e5 n) = e2 n) (h3 : e2 (e5 n) = e1 n) (h4 : e3 (e5 n) = e3 n) : zif (cntZ cm c1 c2 c3 c5 e1 e2 e3 e4 e5 (e5 n)) 1 0 = zif (cntZ cm c1 c2 c3 c5 e1 e2 e3 e4 e5 n) 1 0 := by
  have key : cntZ cm c1 c2 c3 c5 e1 e2 e3 e4 e5 (e5 n) ↔ cntZ cm c1 c2 c3 c5 e1 e2 e3 e4 e5 n := by
    unfold cntZ cntQ
    rw [h1, h2, h3, h4]
    constructor
    · rintro ⟨-, j, a, b, hc, hf, hs⟩
      exact ⟨by omega, j, a, b, hc.symm, hf, hs.symm⟩
    · rintro ⟨-, j, a, b, hc, hf, hs⟩
      exact ⟨by omega, j, a, b, hc.symm, hf, hs.symm⟩
  rw [propext key]
theorem cntZ_none {cm : Int} {c1 c2 c3 c5 e1 e2 e3 e4 e5 : Int → Int} {n : Int} (h : e5 n = -1) : zif (cntZ cm c1 c2 c3 c5 e1 e2 e3 e4 e5 n) 1 0 = 0 := zif_f (fun z => z.1 h)
/-- a leg of a ray, as a landing has it -/
theorem stepZ_leg {dE dF dD sea : Int → Int} {ea a f p w lg le dl q w2 lg2 le2 dl2 : Int} (hD : zrg 48 0 1000 dD) (hp : 0 ≤ p ∧ p < 48) (ha : 1 ≤ a ∧ a ≤ 9) (hf : 10 ≤ f ∧ f ≤ 300) (h : stepZ dE dF dD sea ea a f p w lg le dl = some (q, w2, lg2, le2, dl2)) : ¬ legZ dE dF ea p a f = -1 ∧ q = mvZ ea p (legZ dE dF ea p a f) := by
  unfold stepZ at h
  unfold legZ
  have h3 := lenZ_rg (bndZ dE dF ea p a f) a ha
  generalize bndZ dE dF ea p a f = y at h h3 ⊢
  split at h
  · cases h
  · rename_i h1
    split at h
    · cases h
    · simp only [Option.some.injEq, Prod.mk.injEq] at h
      rw [if_neg h1]
      exact ⟨by omega, h.1.symm⟩
theorem goZ_land {dE dF dD sea : Int → Int} {ea a f t : Int} (hD : zrg 48 0 1000 dD) (ha : 1 ≤ a ∧ a ≤ 9) (hf : 10 ≤ f ∧ f ≤ 300) : ∀ (n : Nat) (p w lg le dl w2 lg2 le2 dl2 : Int), (0 ≤ p ∧ p < 48) → goZ dE dF dD sea ea a f t n p w lg le dl = some (w2, lg2, le2, dl2) → landZ dE dF ea a f (lg2 - lg).toNat p = t ∧ w2 + 2 * (lg2 - lg) ≤ w ∧ le2 - le ≤ lg2 - lg ∧ lg < lg2
  | 0, p, w, lg, le, dl, w2, lg2, le2, dl2, _, h => by cases h
  | n + 1, p, w, lg, le, dl, w2, lg2, le2, dl2, hp, h => by
    unfold goZ at h
    split at h
    · cases h
    · rename_i q w3 lg3 le3 dl3 hs
      have h1 := stepZ_rg hD hp ha hf hs
      obtain ⟨h2, h3⟩ := stepZ_leg hD hp ha hf hs
      split at h
      · rename_i hq
        simp only [Option.some.injEq, Prod.mk.injEq] at h
        obtain ⟨rfl, rfl, rfl, rfl⟩ := h
        refine ⟨?_, by omega, by omega, by omega⟩
        rw [show (lg3 - lg).toNat = 0 + 1 from by omega, landZ_s rfl h2, ← h3]
        exact hq
      · have h4 := goZ_land hD ha hf n q w3 lg3 le3 dl3 w2 lg2 le2 dl2 h1.1 h
        refine ⟨?_, by omega, by omega, by omega⟩
        rw [show (lg2 - lg).toNat = (lg2 - lg3).toNat + 1 from by omega, landZ_s rfl h2, ← h3]
        exact h4.1
theorem rayZ_land {dE dF dD sea : Int → Int} {fr t f w n w2 lg2 le2 dl2 : Int} (hD : zrg 48 0 1000 dD) (hf : 10 ≤ f ∧ f ≤ 300) (hp : 0 ≤ fr ∧ fr < 48) (h : rayZ dE dF dD sea fr t f w n = some (w2, lg2, le2, dl2)) : landZ dE dF (eaZ n) (n % 9 + 1) f lg2.toNat fr = t ∧ w2 + 2 * lg2 ≤ w ∧ le2 ≤ lg2 := by
  have h1 := goZ_land hD (by omega) hf 10 fr w 0 0 0 w2 lg2 le2 dl2 hp h
  rw [show lg2 - 0 = lg2 from by omega] at h1
  exact ⟨h1.1, by omega, by omega⟩
theorem exF_rg {dE dF dD sea : Int → Int} {q t f w m : Int} : ∀ n : Nat, (exF dE dF dD sea q t f w m n).1 = cntR dE dF dD sea q t f w n ∧ 0 ≤ cntR dE dF dD sea q t f w n ∧ ((cntR dE dF dD sea q t f w n = 0 ∧ (exF dE dF dD sea q t f w m n).2.1 = -1) ∨ (0 ≤ (exF dE dF dD sea q t f w m n).2.1 ∧ (exF dE dF dD sea q t f w m n).2.1 < cntR dE dF dD sea q t f w n))
  | 0 => ⟨rfl, Int.le_refl 0, Or.inl ⟨rfl, rfl⟩⟩
  | n + 1 => by
    obtain ⟨h1, h2, h3⟩ := exF_rg (dE := dE) (dF := dF) (dD := dD) (sea := sea) (q := q) (t := t) (f := f) (w := w) (m := m) n
    have e1 : ((n : Int) + 1).toNat = n + 1 := by omega
    have e2 : (n : Int).toNat = n := by omega
    cases h : rayZ dE dF dD sea q t f w (n : Int) with
    | none =>
      have k1 := cntR_n (by omega) h
      have k2 := exF_n (m := m) (x := exF dE dF dD sea q t f w m n) (i := (n : Int)) (by omega) (by rw [e2]) h
      rw [e1, e2] at k1
      rw [e1] at k2
      rw [k1, ← k2]
      exact ⟨h1, h2, h3⟩
    | some v =>
      obtain ⟨w2, lg, le, dl⟩ := v
      have k1 := cntR_s (by omega) h
      rw [e1, e2] at k1
      generalize hx : exF dE dF dD sea q t f w m n = x at h1 h3
      obtain ⟨x1, x2, x3⟩ := x
      dsimp only at h1 h3
      rcases Classical.em (x2 = -1 ∨ max (dl - m) (-(dl - m)) < x3) with z | z
      · have k2 := exF_a (m := m) (i := (n : Int)) (by omega) (by rw [e2]; exact hx.symm) h rfl z
        rw [e1] at k2
        rw [k1, ← k2]
        exact ⟨by show x1 + 1 = _; omega, by omega, Or.inr ⟨by show 0 ≤ x1; omega, by show x1 < _; omega⟩⟩
      · have k2 := exF_b (m := m) (i := (n : Int)) (by omega) (by rw [e2]; exact hx.symm) h rfl z
        rw [e1] at k2
        rw [k1, ← k2]
        have hz : ¬ x2 = -1 := fun y => z (Or.inl y)
        exact ⟨by show x1 + 1 = _; omega, by omega, Or.inr ⟨by show 0 ≤ x2; omega, by show x2 < _; omega⟩⟩
/-! calls that take a whole world -/
section ZCA
variable {p : Program} {l : Launch} {e : Env} {R : Room} {s : State} {m : MethodId} {args : Array Value} {below : List Frame} {meth : Method} {c : Code} {H : Heap} {locs : List Loc} {cells slots mc ms : Nat} {Q : State → Prop}
variable {pc : Nat} {ls : Array Slot} {rest st0 : List Value} {D : va_G} {A : Nat → Prop} {ws wm : va_W} {a : Array Value}
theorem z_cW2a {S : Type} {post : Int32 → S → Prop} {w1 : S → va_W} (hr : va_Run p l e R s m args below meth c H locs cells slots mc ms (F0 m pc ls st0) rest (zQ1 D ws post w1 a) (zIn ws)) (hPm : va_P D vwCl wm H) (hD : va_D A (ws ++ wm)) (hS : va_S A s.heap H locs) (ha : ∀ u, (w1 u).map (fun q => q.1) = ws.map (fun q => q.1))
    (kk : ∀ (r : Int32) (u : S) (H1 : Heap) (locs1 : List Loc), post r u → va_P D vwCl (w1 u) H1 → va_P D vwCl wm H1 → va_D A (w1 u ++ wm) → va_S A s.heap H1 locs1 → W p l e R s m args below meth c H1 locs1 (cells + mc) (slots + ms) Q (F0 m (pc + 3) ls (.int r :: rest))) : W p l e R s m args below meth c H locs cells slots Q (F0 m pc ls st0) := by
  have hDw := zD_l hD
  have hin : ∀ q, zIn ws q → A q := fun q ⟨k, e, h⟩ => hDw.2 k (q, e) h
  intro T hT X
  obtain ⟨v, st₀, t, T', L, h0, X', hL, e1, e2, ⟨⟨r, u, hv, hp, hP1⟩, hz, hk⟩, st⟩ := hr T hT X
  cases hv
  rw [h0] at hz hk
  have j3 : va_P D vwCl wm t.heap := fun k q hq => (hPm k q hq).kept (hk q.1 (hPm k q hq).lt (fun ⟨k2, e2, h2⟩ => zD_x hD h2 hq rfl))
  obtain ⟨t2, a1, b1⟩ := kk r u t.heap (locs ++ L) hp hP1 j3 (zD_to hD (ha u)) ⟨Nat.le_trans hS.1 hz, fun q h1 h2 => (hk q (Nat.lt_of_lt_of_le h1 hS.1) (fun z => h2 (hin q z))).trans (hS.2.1 q h1 h2), fun q hq => by
      rcases List.mem_append.mp hq with h | h
      · exact hS.2.2 q h
      · exact hin _ (hL q h)⟩ T' e1 X'
  exact ⟨t2, st t2 a1, b1⟩
theorem z_cWa {S : Type} {post : Int32 → S → Prop} {w1 : S → va_W} (hr : va_Run p l e R s m args below meth c H locs cells slots mc ms (F0 m pc ls st0) rest (zQ1 D ws post w1 a) (zIn ws)) (hD : va_D A ws) (hS : va_S A s.heap H locs) (ha : ∀ u, (w1 u).map (fun q => q.1) = ws.map (fun q => q.1))
    (kk : ∀ (r : Int32) (u : S) (H1 : Heap) (locs1 : List Loc), post r u → va_P D vwCl (w1 u) H1 → va_D A (w1 u) → va_S A s.heap H1 locs1 → W p l e R s m args below meth c H1 locs1 (cells + mc) (slots + ms) Q (F0 m (pc + 3) ls (.int r :: rest))) : W p l e R s m args below meth c H locs cells slots Q (F0 m pc ls st0) := by
  have hin : ∀ q, zIn ws q → A q := fun q ⟨k, e, h⟩ => hD.2 k (q, e) h
  intro T hT X
  obtain ⟨v, st₀, t, T', L, h0, X', hL, e1, e2, ⟨⟨r, u, hv, hp, hP1⟩, hz, hk⟩, st⟩ := hr T hT X
  cases hv
  rw [h0] at hz hk
  obtain ⟨t2, a1, b1⟩ := kk r u t.heap (locs ++ L) hp hP1 (va_D.adr (ha u) hD) ⟨Nat.le_trans hS.1 hz, fun q h1 h2 => (hk q (Nat.lt_of_lt_of_le h1 hS.1) (fun z => h2 (hin q z))).trans (hS.2.1 q h1 h2), fun q hq => by
      rcases List.mem_append.mp hq with h | h
      · exact hS.2.2 q h
      · exact hin _ (hL q h)⟩ T' e1 X'
  exact ⟨t2, st t2 a1, b1⟩
end ZCA
theorem wldW_adr {ad : Nat → Nat} {cy : Nat → ClassId} {σ τ : zSt} {ur us : Nat → Int} : (wldW ad cy σ ur).map (fun q => q.1) = (wldW ad cy τ us).map (fun q => q.1) := by
  unfold wldW
  simp only [List.map_append, rooW_adr, airW_adr, grdW_adr, rayW_adr, sndW_adr, conW_adr, entW_adr]
