/-! THE WORDS, 6: landings -/
def legZ (dE dF : Int → Int) (ea p a f : Int) : Int := if bndZ dE dF ea p a f = -1 then -1 else lenZ (bndZ dE dF ea p a f) a
theorem legZ_c {dE dF : Int → Int} {ea p a f : Int} (ha : 1 ≤ a ∧ a ≤ 9) : (bndZ dE dF ea p a f = -1 ∧ legZ dE dF ea p a f = -1) ∨ (¬ bndZ dE dF ea p a f = -1 ∧ legZ dE dF ea p a f = lenZ (bndZ dE dF ea p a f) a ∧ 0 ≤ legZ dE dF ea p a f ∧ legZ dE dF ea p a f ≤ 5) := by
  have := lenZ_rg (bndZ dE dF ea p a f) a ha
  unfold legZ
  split <;> omega
def landZ (dE dF : Int → Int) (ea a f : Int) : Nat → Int → Int
  | 0, p => p
  | n + 1, p => if legZ dE dF ea p a f = -1 then -1 else landZ dE dF ea a f n (mvZ ea p (legZ dE dF ea p a f))
theorem landZ_n {dE dF : Int → Int} {ea a f : Int} {k : Nat} {p : Int} (h : legZ dE dF ea p a f = -1) : landZ dE dF ea a f (k + 1) p = -1 := if_pos h
theorem landZ_s {dE dF : Int → Int} {ea a f : Int} {k : Nat} {p y : Int} (h : legZ dE dF ea p a f = y) (hy : ¬ y = -1) : landZ dE dF ea a f (k + 1) p = landZ dE dF ea a f k (mvZ ea p y) := by
  show (if legZ dE dF ea p a f = -1 then -1 else landZ dE dF ea a f k (mvZ ea p (legZ dE dF ea p a f))) = _
  rw [h, if_neg hy]
theorem landZ_rg {dE dF : Int → Int} {ea a f : Int} : ∀ (k : Nat) (p : Int), (0 ≤ p ∧ p < 48) → -1 ≤ landZ dE dF ea a f k p ∧ landZ dE dF ea a f k p < 48
  | 0, p, h => by unfold landZ; omega
  | k + 1, p, h => by
    unfold landZ
    split
    · omega
    · exact landZ_rg k _ (mvZ_rg _ _ _)
/-- behind i of n legs -/
theorem landZ_i {dE dF : Int → Int} {ea a f i n at_ x y : Int} (hi : 0 ≤ i) (hn : i < n) (hx : x = landZ dE dF ea a f (n - i).toNat at_) (h : legZ dE dF ea at_ a f = y) (hy : ¬ y = -1) : x = landZ dE dF ea a f (n - (i + 1)).toNat (mvZ ea at_ y) := by
  rw [hx, show (n - i).toNat = (n - (i + 1)).toNat + 1 from by omega, landZ_s h hy]
theorem landZ_x {dE dF : Int → Int} {ea a f i n at_ x : Int} (hi : 0 ≤ i) (hn : i < n) (hx : x = landZ dE dF ea a f (n - i).toNat at_) (h : legZ dE dF ea at_ a f = -1) : x = -1 := by
  rw [hx, show (n - i).toNat = (n - (i + 1)).toNat + 1 from by omega, landZ_n h]
theorem landZ_e {dE dF : Int → Int} {ea a f i n at_ x : Int} (hn : i = n) (hx : x = landZ dE dF ea a f (n - i).toNat at_) : x = at_ := by
  rw [hx, show (n - i).toNat = 0 from by omega]
  rfl
/-! THE WORDS, 7: paths in their order -/
def cntR (dE dF dD sea : Int → Int) (q t f w : Int) : Nat → Int
  | 0 => 0
  | n + 1 => match rayZ dE dF dD sea q t f w n with
    | none => cntR dE dF dD sea q t f w n
    | some _ => cntR dE dF dD sea q t f w n + 1
section ZN
variable {dE dF dD sea : Int → Int} {q t f w : Int}
theorem cntR_n {i : Int} (hi : 0 ≤ i) (h : rayZ dE dF dD sea q t f w i = none) : cntR dE dF dD sea q t f w (i + 1).toNat = cntR dE dF dD sea q t f w i.toNat := by
  rw [show (i + 1).toNat = i.toNat + 1 from by omega]
  show (match rayZ dE dF dD sea q t f w (i.toNat : Int) with
    | none => _
    | some _ => _) = _
  rw [show ((i.toNat : Nat) : Int) = i from by omega, h]
theorem cntR_s {i : Int} {v : Int × Int × Int × Int} (hi : 0 ≤ i) (h : rayZ dE dF dD sea q t f w i = some v) : cntR dE dF dD sea q t f w (i + 1).toNat = cntR dE dF dD sea q t f w i.toNat + 1 := by
  rw [show (i + 1).toNat = i.toNat + 1 from by omega]
  show (match rayZ dE dF dD sea q t f w (i.toNat : Int) with
    | none => _
    | some _ => _) = _
  rw [show ((i.toNat : Nat) : Int) = i from by omega, h]
theorem cntR_st (n : Nat) : cntR dE dF dD sea q t f w n ≤ cntR dE dF dD sea q t f w (n + 1) ∧ cntR dE dF dD sea q t f w (n + 1) ≤ cntR dE dF dD sea q t f w n + 1 := by
  have e1 : ((n : Int) + 1).toNat = n + 1 := by omega
  have e2 : (n : Int).toNat = n := by omega
  cases h : rayZ dE dF dD sea q t f w (n : Int) with
  | none =>
    have h1 := cntR_n (by omega) h
    rw [e1, e2] at h1
    omega
  | some v =>
    have h1 := cntR_s (by omega) h
    rw [e1, e2] at h1
    omega
theorem cntR_rg : ∀ n : Nat, 0 ≤ cntR dE dF dD sea q t f w n ∧ cntR dE dF dD sea q t f w n ≤ n
  | 0 => by unfold cntR; omega
  | n + 1 => by
    have := cntR_rg n
    have := cntR_st (dE := dE) (dF := dF) (dD := dD) (sea := sea) (q := q) (t := t) (f := f) (w := w) n
    omega
theorem cntR_le (n : Nat) : ∀ k : Nat, cntR dE dF dD sea q t f w n ≤ cntR dE dF dD sea q t f w (n + k)
  | 0 => by simp
  | k + 1 => by
    have h1 := cntR_le n k
    have h2 := cntR_st (dE := dE) (dF := dF) (dD := dD) (sea := sea) (q := q) (t := t) (f := f) (w := w) (n + k)
    rw [show n + (k + 1) = n + k + 1 from by omega]
    omega
theorem cntR_mono {i j : Int} (hi : 0 ≤ i) (h : i ≤ j) : cntR dE dF dD sea q t f w i.toNat ≤ cntR dE dF dD sea q t f w j.toNat := by
  have := cntR_le (dE := dE) (dF := dF) (dD := dD) (sea := sea) (q := q) (t := t) (f := f) (w := w) i.toNat (j.toNat - i.toNat)
  rw [show i.toNat + (j.toNat - i.toNat) = j.toNat from by omega] at this
  exact this
end ZN
/-- the path of number k goes by the ray of number n -/
def pthP (dE dF dD sea : Int → Int) (q t f w k n w2 lg le dl : Int) : Prop := (0 ≤ n ∧ n < 18) ∧ rayZ dE dF dD sea q t f w n = some (w2, lg, le, dl) ∧ cntR dE dF dD sea q t f w n.toNat = k
theorem pthP_rg {dE dF dD sea : Int → Int} {q t f w k n w2 lg le dl : Int} (h : pthP dE dF dD sea q t f w k n w2 lg le dl) : 0 ≤ k ∧ k < cntR dE dF dD sea q t f w 18 := by
  have h1 := cntR_s h.1.1 h.2.1
  have h2 := cntR_mono (dE := dE) (dF := dF) (dD := dD) (sea := sea) (q := q) (t := t) (f := f) (w := w) (i := n + 1) (j := 18) (by have := h.1; omega) (by have := h.1; omega)
  have h3 := cntR_rg (dE := dE) (dF := dF) (dD := dD) (sea := sea) (q := q) (t := t) (f := f) (w := w) n.toNat
  have h4 := h.2.2
  have h5 : (18 : Int).toNat = 18 := rfl
  rw [h5] at h2
  omega
theorem pthP_uniq {dE dF dD sea : Int → Int} {q t f w k n w2 lg le dl n' w2' lg' le' dl' : Int} (h : pthP dE dF dD sea q t f w k n w2 lg le dl) (h' : pthP dE dF dD sea q t f w k n' w2' lg' le' dl') : n = n' ∧ w2 = w2' ∧ lg = lg' ∧ le = le' ∧ dl = dl' := by
  have key : ∀ {a b : Int} {u v : Int × Int × Int × Int}, (0 ≤ a ∧ a < 18) → rayZ dE dF dD sea q t f w a = some u → cntR dE dF dD sea q t f w a.toNat = k → cntR dE dF dD sea q t f w b.toNat = k → a < b → False := fun {a b u v} ha hu h1 h2 hab => by
    have e1 := cntR_s ha.1 hu
    have e2 := cntR_mono (dE := dE) (dF := dF) (dD := dD) (sea := sea) (q := q) (t := t) (f := f) (w := w) (i := a + 1) (j := b) (by omega) (by omega)
    omega
  have hn : n = n' := by
    rcases Int.lt_trichotomy n n' with e | e | e
    · exact (key (v := (0, 0, 0, 0)) h.1 h.2.1 h.2.2 h'.2.2 e).elim
    · exact e
    · exact (key (v := (0, 0, 0, 0)) h'.1 h'.2.1 h'.2.2 h.2.2 e).elim
  subst hn
  have h1 := h.2.1.symm.trans h'.2.1
  simp only [Option.some.injEq, Prod.mk.injEq] at h1
  exact ⟨rfl, h1.1, h1.2.1, h1.2.2.1, h1.2.2.2⟩
/-- found, the nearest, how far off that is, among the rays below n -/
def exF (dE dF dD sea : Int → Int) (q t f w m : Int) : Nat → Int × Int × Int
  | 0 => (0, -1, 0)
  | n + 1 => match rayZ dE dF dD sea q t f w n with
    | none => exF dE dF dD sea q t f w m n
    | some (_, _, _, dl) => if (exF dE dF dD sea q t f w m n).2.1 = -1 ∨ max (dl - m) (-(dl - m)) < (exF dE dF dD sea q t f w m n).2.2 then ((exF dE dF dD sea q t f w m n).1 + 1, (exF dE dF dD sea q t f w m n).1, max (dl - m) (-(dl - m))) else ((exF dE dF dD sea q t f w m n).1 + 1, (exF dE dF dD sea q t f w m n).2)
section ZX2
variable {dE dF dD sea : Int → Int} {q t f w m : Int}
theorem exF_n {i : Int} {x : Int × Int × Int} (hi : 0 ≤ i) (hx : x = exF dE dF dD sea q t f w m i.toNat) (h : rayZ dE dF dD sea q t f w i = none) : x = exF dE dF dD sea q t f w m (i + 1).toNat := by
  rw [show (i + 1).toNat = i.toNat + 1 from by omega, hx]
  unfold exF
  rw [show ((i.toNat : Nat) : Int) = i from by omega, h]
  cases i.toNat <;> rfl
theorem exF_a {i x y z w2 lg le dl o : Int} (hi : 0 ≤ i) (hx : (x, y, z) = exF dE dF dD sea q t f w m i.toNat) (h : rayZ dE dF dD sea q t f w i = some (w2, lg, le, dl)) (ho : o = max (dl - m) (-(dl - m))) (hc : y = -1 ∨ o < z) : (x + 1, x, o) = exF dE dF dD sea q t f w m (i + 1).toNat := by
  rw [show (i + 1).toNat = i.toNat + 1 from by omega]
  show _ = (match rayZ dE dF dD sea q t f w (i.toNat : Int) with
    | none => _
    | some (_, _, _, dl) => _)
  rw [show ((i.toNat : Nat) : Int) = i from by omega, h, ← hx]
  show _ = (if y = -1 ∨ max (dl - m) (-(dl - m)) < z then (x + 1, x, max (dl - m) (-(dl - m))) else (x + 1, y, z))
  rw [← ho, if_pos hc]
theorem exF_b {i x y z w2 lg le dl o : Int} (hi : 0 ≤ i) (hx : (x, y, z) = exF dE dF dD sea q t f w m i.toNat) (h : rayZ dE dF dD sea q t f w i = some (w2, lg, le, dl)) (ho : o = max (dl - m) (-(dl - m))) (hc : ¬ (y = -1 ∨ o < z)) : (x + 1, y, z) = exF dE dF dD sea q t f w m (i + 1).toNat := by
  rw [show (i + 1).toNat = i.toNat + 1 from by omega]
  show _ = (match rayZ dE dF dD sea q t f w (i.toNat : Int) with
    | none => _
    | some (_, _, _, dl) => _)
  rw [show ((i.toNat : Nat) : Int) = i from by omega, h, ← hx]
  show _ = (if y = -1 ∨ max (dl - m) (-(dl - m)) < z then (x + 1, x, max (dl - m) (-(dl - m))) else (x + 1, y, z))
  rw [← ho, if_neg hc]
end ZX2
/-- r is the greatest (g not 0) or the least frequency that has a path -/
def isUse (dE dF dD sea : Int → Int) (q t w g r : Int) : Prop := (r = -1 ∧ ∀ k : Int, 1 ≤ k → k ≤ 30 → ¬ hasZ dE dF dD sea q t (10 * k) w) ∨ ∃ k : Int, (1 ≤ k ∧ k ≤ 30) ∧ r = 10 * k ∧ hasZ dE dF dD sea q t (10 * k) w ∧ ∀ j : Int, 1 ≤ j → j ≤ 30 → hasZ dE dF dD sea q t (10 * j) w → if g = 0 then k ≤ j else j ≤ k
theorem isUse_uniq {dE dF dD sea : Int → Int} {q t w g r r' : Int} (h : isUse dE dF dD sea q t w g r) (h' : isUse dE dF dD sea q t w g r') : r = r' := by
  rcases h with ⟨h1, h2⟩ | ⟨k, h1, h2, h3, h4⟩ <;> rcases h' with ⟨a1, a2⟩ | ⟨j, a1, a2, a3, a4⟩
  · omega
  · exact absurd a3 (h2 j a1.1 a1.2)
  · exact absurd h3 (a2 k h1.1 h1.2)
  · have e1 := h4 j a1.1 a1.2 a3
    have e2 := a4 k h1.1 h1.2 h3
    by_cases hg : g = 0
    · rw [if_pos hg] at e1 e2
      omega
    · rw [if_neg hg] at e1 e2
      omega
/-- the least length at the angles 1 to n -/
def skF (dE dF : Int → Int) (ea q f : Int) : Nat → Int
  | 0 => -1
  | n + 1 => if legZ dE dF ea q (n + 1) f = -1 then skF dE dF ea q f n else if skF dE dF ea q f n = -1 then legZ dE dF ea q (n + 1) f else min (skF dE dF ea q f n) (legZ dE dF ea q (n + 1) f)
theorem skF_rg {dE dF : Int → Int} {ea q f : Int} : ∀ n : Nat, n ≤ 9 → -1 ≤ skF dE dF ea q f n ∧ skF dE dF ea q f n ≤ 5
  | 0, _ => by unfold skF; omega
  | n + 1, h => by
    have h1 := skF_rg (dE := dE) (dF := dF) (ea := ea) (q := q) (f := f) n (by omega)
    have h2 := legZ_c (dE := dE) (dF := dF) (ea := ea) (p := q) (f := f) (a := (n : Int) + 1) (by omega)
    unfold skF
    split <;> (try split) <;> omega
theorem skF_n {dE dF : Int → Int} {ea q f i x : Int} (hi : 1 ≤ i) (hx : x = skF dE dF ea q f (i - 1).toNat) (h : legZ dE dF ea q i f = -1) : x = skF dE dF ea q f (i + 1 - 1).toNat := by
  rw [show (i + 1 - 1).toNat = (i - 1).toNat + 1 from by omega]
  unfold skF
  rw [show (((i - 1).toNat : Nat) : Int) + 1 = i from by omega, if_pos h, hx]
theorem skF_s {dE dF : Int → Int} {ea q f i x v : Int} (hi : 1 ≤ i) (hx : x = skF dE dF ea q f (i - 1).toNat) (h : ¬ legZ dE dF ea q i f = -1) (hv : v = if x = -1 then legZ dE dF ea q i f else min x (legZ dE dF ea q i f)) : v = skF dE dF ea q f (i + 1 - 1).toNat := by
  rw [show (i + 1 - 1).toNat = (i - 1).toNat + 1 from by omega]
  show _ = (if legZ dE dF ea q (((i - 1).toNat : Nat) + 1) f = -1 then skF dE dF ea q f (i - 1).toNat else if skF dE dF ea q f (i - 1).toNat = -1 then legZ dE dF ea q (((i - 1).toNat : Nat) + 1) f else min (skF dE dF ea q f (i - 1).toNat) (legZ dE dF ea q (((i - 1).toNat : Nat) + 1) f))
  rw [show (((i - 1).toNat : Nat) : Int) + 1 = i from by omega, if_neg h, ← hx, hv]
def skpZ (v : Int) : Int := if v = -1 then -1 else max 0 (v - 1)
