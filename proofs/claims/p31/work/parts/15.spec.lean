/-! THE WORDS, 1: light, lengths, moves, bends -/
def lightZ (h p : Int) : Int := max 0 (6 - max ((h + p / 2) % 24 - 12) (-((h + p / 2) % 24 - 12)))
theorem lightZ_rg (h p : Int) : 0 ≤ lightZ h p ∧ lightZ h p ≤ 6 := by unfold lightZ; omega
def lenZ (y a : Int) : Int := if y = 1 then (10 - a) / 4 else (11 - a) / 2
theorem lenZ_rg (y a : Int) (h : 1 ≤ a ∧ a ≤ 9) : 0 ≤ lenZ y a ∧ lenZ y a ≤ 5 := by unfold lenZ; split <;> omega
/-- k places on from p, to the EAST where e isn't 0 -/
def mvZ (e p k : Int) : Int := if e = 0 then (p - k) % 48 else (p + k) % 48
theorem mvZ_rg (e p k : Int) : 0 ≤ mvZ e p k ∧ mvZ e p k < 48 := by unfold mvZ; split <;> omega
def distZ (p q : Int) : Int := min (max (p - q) (-(p - q))) (48 - max (p - q) (-(p - q)))
/-- the layer that bends: 1, 2, or -1 -/
def bndZ (dE dF : Int → Int) (e p a f : Int) : Int := if 10 * f ≤ dE (mvZ e p (lenZ 1 a / 2)) * (46 - 4 * a) then 1 else if 10 * f ≤ dF (mvZ e p (lenZ 2 a / 2)) * (46 - 4 * a) then 2 else -1
theorem bndZ_c (dE dF : Int → Int) (e p a f : Int) : bndZ dE dF e p a f = 1 ∨ bndZ dE dF e p a f = 2 ∨ bndZ dE dF e p a f = -1 := by unfold bndZ; split <;> (try split) <;> simp
def neZ (m : Int) : Int := if m = 0 then 10 else if m = 1 then 4 else -2
def gainZ (t a : Int) : Int := if t = 0 then 10 - 2 * a else if t = 1 then 2 * a - 10 else 0
theorem gainZ_rg (t a : Int) (h : 1 ≤ a ∧ a ≤ 9) : -8 ≤ gainZ t a ∧ gainZ t a ≤ 8 := by unfold gainZ; split <;> (try split) <;> omega
def asideZ (h r : Int) : Int := if h = 2 then 3 else if h = r then 0 else 20
theorem asideZ_rg (h r : Int) : 0 ≤ asideZ h r ∧ asideZ h r ≤ 20 := by unfold asideZ; split <;> (try split) <;> omega
/-! THE WORDS, 2: densities, and what hours do -/
def dnD (h fl : Int) : Int → Int := fun p => 2 * lightZ h p + (if 0 < lightZ h p then fl else 0)
def dnE (h : Int) (cS : Int → Int) : Int → Int := fun p => 10 + 6 * lightZ h p + cS p
def dnF (h su st : Int) : Int → Int := fun p => max 5 (30 + 5 * lightZ h p + (if 0 < lightZ h p then su / 2 else su / 4) - st)
theorem dnD_rg {h fl : Int} (hf : 0 ≤ fl ∧ fl ≤ 80) : zrg 48 0 1000 (dnD h fl) := fun j _ _ => by
  have := lightZ_rg h j
  unfold dnD
  split <;> omega
theorem dnE_rg {h : Int} {cS : Int → Int} (hc : zrg 48 0 100 cS) : zrg 48 0 1000 (dnE h cS) := fun j h0 h1 => by
  have := lightZ_rg h j
  have := hc j h0 h1
  unfold dnE
  omega
theorem dnF_rg {h su st : Int} (hs : 0 ≤ su ∧ su ≤ 100) (ht : 0 ≤ st ∧ st ≤ 60) : zrg 48 0 1000 (dnF h su st) := fun j h0 h1 => by
  have := lightZ_rg h j
  unfold dnF
  split <;> omega
def flK : Nat → Int → Int
  | 0, x => x
  | k + 1, x => flK k x / 2
theorem flK_rg {x : Int} (h : 0 ≤ x ∧ x ≤ 80) : ∀ k : Nat, 0 ≤ flK k x ∧ flK k x ≤ 80
  | 0 => h
  | k + 1 => by have := flK_rg h k; unfold flK; omega
theorem flK_0 : ∀ k : Nat, flK k 0 = 0
  | 0 => rfl
  | k + 1 => by unfold flK; rw [flK_0 k]; rfl
def stK (k st sh : Int) : Int := if k = 0 then st else if sh - k ≤ 0 then 0 else st
def cSK (k : Int) (cS cH : Int → Int) : Int → Int := fun p => if k = 0 then cS p else if cH p - k ≤ 0 then 0 else cS p
def cHK (k : Int) (cH : Int → Int) : Int → Int := fun p => max 0 (cH p - k)
theorem zu_step {g spec : Int → Int} {i v : Int} (h : ∀ j : Int, 0 ≤ j → j < i → g j = spec j) (hv : v = spec i) : ∀ j : Int, 0 ≤ j → j < i + 1 → zu g i v j = spec j := fun j h0 h1 => by
  by_cases hj : j = i
  · rw [hj, zu_s, hv]
  · rw [zu_n _ _ hj]
    exact h j h0 (by omega)
theorem zk_step {g spec : Int → Int} {i : Int} (h : ∀ j : Int, 0 ≤ j → j < i → g j = spec j) (hv : g i = spec i) : ∀ j : Int, 0 ≤ j → j < i + 1 → g j = spec j := fun j h0 h1 => by
  by_cases hj : j = i
  · rw [hj, hv]
  · exact h j h0 (by omega)
theorem stK_rg {k st sh : Int} (h : 0 ≤ st ∧ st ≤ 60) : 0 ≤ stK k st sh ∧ stK k st sh ≤ 60 := by unfold stK; split <;> (try split) <;> omega
theorem stK_step {i st sh sv hv : Int} (hi : 0 ≤ i) (hs : 0 ≤ sh) (e1 : sv = stK i st sh) (e2 : hv = max 0 (sh - i)) : stK 1 sv hv = stK (i + 1) st sh := by
  unfold stK at e1 ⊢
  rw [if_neg (by decide)]
  by_cases h0 : i = 0
  · rw [if_pos h0] at e1
    (repeat' split) <;> omega
  · rw [if_neg h0] at e1
    split at e1 <;> (repeat' split) <;> omega
theorem cSK_step {cS cH xS xH : Int → Int} {i j : Int} (hi : 0 ≤ i) (hc : 0 ≤ cH j) (e1 : xS j = cSK i cS cH j) (e2 : xH j = cHK i cH j) : cSK 1 xS xH j = cSK (i + 1) cS cH j := by
  unfold cSK at e1 ⊢
  unfold cHK at e2
  rw [if_neg (by decide)]
  by_cases h0 : i = 0
  · rw [if_pos h0] at e1
    (repeat' split) <;> omega
  · rw [if_neg h0] at e1
    split at e1 <;> (repeat' split) <;> omega
theorem cHK_step {cH xH : Int → Int} {i j : Int} (hi : 0 ≤ i) (e2 : xH j = cHK i cH j) : cHK 1 xH j = cHK (i + 1) cH j := by
  unfold cHK at e2 ⊢
  omega
theorem cSK_rg {k : Int} {cS cH : Int → Int} (h : zrg 48 0 100 cS) : zrg 48 0 100 (cSK k cS cH) := fun j h0 h1 => by
  have := h j h0 h1
  unfold cSK
  split <;> (try split) <;> omega
theorem cHK_rg {k : Int} {cH : Int → Int} (hk : 0 ≤ k) (h : zrg 48 0 24 cH) : zrg 48 0 24 (cHK k cH) := fun j h0 h1 => by
  have := h j h0 h1
  unfold cHK
  omega
theorem zrg_eq {n lo hi : Int} {f g : Int → Int} (h : zrg n lo hi g) (e : ∀ j : Int, 0 ≤ j → j < n → f j = g j) : zrg n lo hi f := fun j h0 h1 => by rw [e j h0 h1]; exact h j h0 h1
theorem zu_rest {g g0 : Int → Int} {i v n : Int} (h : ∀ j : Int, i ≤ j → j < n → g j = g0 j) : ∀ j : Int, i + 1 ≤ j → j < n → zu g i v j = g0 j := fun j h0 h1 => by
  rw [zu_n _ _ (by omega)]
  exact h j (by omega) h1
/-! THE WORDS, 3: rows -/
def tell5 (a b c d e : Int) (w : Int) : Int := if w = 0 then a else if w = 1 then b else if w = 2 then c else if w = 3 then d else e
def tell6 (a b c d e f : Int) (w : Int) : Int := if w = 0 then a else if w = 1 then b else if w = 2 then c else if w = 3 then d else if w = 4 then e else f
/-- the lowest place below n that holds P, or -1 -/
def isLow (P : Int → Prop) (n r : Int) : Prop := (0 ≤ r ∧ r < n ∧ P r ∧ ∀ j : Int, 0 ≤ j → j < r → ¬ P j) ∨ (r = -1 ∧ ∀ j : Int, 0 ≤ j → j < n → ¬ P j)
theorem isLow_uniq {P : Int → Prop} {n r t : Int} (h1 : isLow P n r) (h2 : isLow P n t) : r = t := by
  rcases h1 with ⟨a1, a2, a3, a4⟩ | ⟨a1, a2⟩ <;> rcases h2 with ⟨b1, b2, b3, b4⟩ | ⟨b1, b2⟩
  · rcases Int.lt_trichotomy r t with h | h | h
    · exact absurd a3 (b4 r a1 h)
    · exact h
    · exact absurd b3 (a4 t b1 h)
  · exact absurd a3 (b2 r a1 a2)
  · exact absurd b3 (a2 t b1 b2)
  · omega
theorem isLow_ex (P : Int → Prop) (n : Nat) : ∃ r : Int, isLow P n r := by
  induction n with
  | zero => exact ⟨-1, Or.inr ⟨rfl, fun j h0 h1 => absurd h1 (by omega)⟩⟩
  | succ n ih =>
    obtain ⟨r, h | ⟨h1, h2⟩⟩ := ih
    · exact ⟨r, Or.inl ⟨h.1, by have := h.2.1; omega, h.2.2⟩⟩
    · rcases Classical.em (P n) with hp | hp
      · exact ⟨n, Or.inl ⟨by omega, by omega, hp, fun j a b => h2 j a b⟩⟩
      · refine ⟨-1, Or.inr ⟨rfl, fun j a b => ?_⟩⟩
        rcases Int.lt_or_le j n with q | q
        · exact h2 j a q
        · rw [show j = n from by omega]; exact hp
theorem isLow_exI (P : Int → Prop) {n : Int} (hn : 0 ≤ n) : ∃ r : Int, isLow P n r := by
  obtain ⟨r, h⟩ := isLow_ex P n.toNat
  exact ⟨r, by rw [show n = (n.toNat : Int) from by omega]; exact h⟩
noncomputable def lowZ (P : Int → Prop) (n : Int) : Int := @dite Int (∃ r : Int, isLow P n r) (Classical.propDecidable _) (fun h => Classical.choose h) (fun _ => -1)
theorem lowZ_is {P : Int → Prop} {n r : Int} (h : isLow P n r) : lowZ P n = r := by
  unfold lowZ
  rw [dif_pos ⟨r, h⟩]
  exact isLow_uniq (Classical.choose_spec (p := fun r => isLow P n r) ⟨r, h⟩) h
theorem lowZ_rg {P : Int → Prop} {n : Int} (hn : 0 ≤ n) : -1 ≤ lowZ P n ∧ lowZ P n < max n 1 ∧ (lowZ P n = -1 ∨ (0 ≤ lowZ P n ∧ lowZ P n < n)) := by
  obtain ⟨r, h⟩ := isLow_exI P hn
  rw [lowZ_is h]
  rcases h with h | h
  · have := h.1; have := h.2.1; omega
  · have := h.1; omega
def zpair (g : Int → Int) (n r : Int) : Int → Int := if r = -1 then g else zu g r n
def parP (e1 e2 e3 e4 e5 : Int → Int) (x y f t : Int) (j : Int) : Prop := e5 j = -1 ∧ e1 j = y ∧ e2 j = x ∧ e3 j = f ∧ t - e4 j ≤ 1
def cntQ (c1 c2 c3 c5 e1 e2 e3 e4 e5 : Int → Int) (k n : Int) : Prop := (c5 n = e4 k ∨ c5 n = e4 (e5 k)) ∧ c3 n = e3 k ∧ ((c1 n = e1 k ∧ c2 n = e2 k) ∨ (c1 n = e2 k ∧ c2 n = e1 k))
def cntZ (cm : Int) (c1 c2 c3 c5 e1 e2 e3 e4 e5 : Int → Int) (k : Int) : Prop := e5 k ≠ -1 ∧ ∃ n : Int, 0 ≤ n ∧ n < cm ∧ cntQ c1 c2 c3 c5 e1 e2 e3 e4 e5 k n
/-! THE WORDS, 4: rays -/
def gndZ (sea : Int → Int) (lg p : Int) : Int := if lg = 0 then 0 else if sea p = 0 then 6 else 3
def takZ (dD sea : Int → Int) (lg p q n f : Int) : Int := gndZ sea lg p + 2 + n + (dD p + dD q) * 40 / f
theorem takZ_rg {dD sea : Int → Int} {lg p q n f : Int} (hD : zrg 48 0 1000 dD) (hp : 0 ≤ p ∧ p < 48) (hq : 0 ≤ q ∧ q < 48) (hn : 0 ≤ n ∧ n ≤ 5) (hf : 10 ≤ f ∧ f ≤ 300) : 2 ≤ takZ dD sea lg p q n f ∧ takZ dD sea lg p q n f ≤ 90000 := by
  have h1 := hD p hp.1 hp.2
  have h2 := hD q hq.1 hq.2
  have h3 := divr (a := (dD p + dD q) * 40) (b := f) (A := 80000) (by omega) (by omega) (by omega)
  unfold takZ gndZ
  split <;> (try split) <;> omega
/-- a leg: where it ends, the strength, the legs, those by E, the delay -/
def stepZ (dE dF dD sea : Int → Int) (ea a f p w lg le dl : Int) : Option (Int × Int × Int × Int × Int) :=
  if bndZ dE dF ea p a f = -1 then none else if w - takZ dD sea lg p (mvZ ea p (lenZ (bndZ dE dF ea p a f) a)) (lenZ (bndZ dE dF ea p a f) a) f < 0 then none else
  some (mvZ ea p (lenZ (bndZ dE dF ea p a f) a), w - takZ dD sea lg p (mvZ ea p (lenZ (bndZ dE dF ea p a f) a)) (lenZ (bndZ dE dF ea p a f) a) f, lg + 1, le + (if bndZ dE dF ea p a f = 1 then 1 else 0), dl + (10 * lenZ (bndZ dE dF ea p a f) a + (if bndZ dE dF ea p a f = 1 then 2 else 5)))
/-- up to n legs more: the strength, the legs, those by E, the delay at the first end of a leg at t -/
def goZ (dE dF dD sea : Int → Int) (ea a f t : Int) : Nat → Int → Int → Int → Int → Int → Option (Int × Int × Int × Int)
  | 0, _, _, _, _, _ => none
  | n + 1, p, w, lg, le, dl => match stepZ dE dF dD sea ea a f p w lg le dl with
    | none => none
    | some (q, w2, lg2, le2, dl2) => if q = t then some (w2, lg2, le2, dl2) else goZ dE dF dD sea ea a f t n q w2 lg2 le2 dl2
def u8 (a b c d e f g h : Int) : Nat → Int
  | 0 => a
  | 1 => b
  | 2 => c
  | 3 => d
  | 4 => e
  | 5 => f
  | 6 => g
  | _ => h
theorem stepZ_rg {dE dF dD sea : Int → Int} {ea a f p w lg le dl q w2 lg2 le2 dl2 : Int} (hD : zrg 48 0 1000 dD) (hp : 0 ≤ p ∧ p < 48) (ha : 1 ≤ a ∧ a ≤ 9) (hf : 10 ≤ f ∧ f ≤ 300) (h : stepZ dE dF dD sea ea a f p w lg le dl = some (q, w2, lg2, le2, dl2)) : (0 ≤ q ∧ q < 48) ∧ (0 ≤ w2 ∧ w2 ≤ w - 2) ∧ lg2 = lg + 1 ∧ (le ≤ le2 ∧ le2 ≤ le + 1) ∧ (dl ≤ dl2 ∧ dl2 ≤ dl + 55) := by
  unfold stepZ at h
  have hc := bndZ_c dE dF ea p a f
  generalize bndZ dE dF ea p a f = y at h hc
  split at h
  · cases h
  · split at h
    · cases h
    · rename_i h1 h2
      have h3 := lenZ_rg y a ha
      have h4 := takZ_rg (sea := sea) (lg := lg) hD hp (mvZ_rg ea p (lenZ y a)) h3 hf
      have h5 := mvZ_rg ea p (lenZ y a)
      simp only [Option.some.injEq, Prod.mk.injEq] at h
      obtain ⟨rfl, rfl, rfl, rfl, rfl⟩ := h
      refine ⟨h5, ⟨by omega, by omega⟩, rfl, ?_, ?_⟩
      · split <;> omega
      · split <;> omega
theorem goZ_rg {dE dF dD sea : Int → Int} {ea a f t : Int} (hD : zrg 48 0 1000 dD) (ha : 1 ≤ a ∧ a ≤ 9) (hf : 10 ≤ f ∧ f ≤ 300) : ∀ (n : Nat) (p w lg le dl w2 lg2 le2 dl2 : Int), (0 ≤ p ∧ p < 48) → goZ dE dF dD sea ea a f t n p w lg le dl = some (w2, lg2, le2, dl2) → (0 ≤ w2 ∧ w2 ≤ w - 2) ∧ (lg < lg2 ∧ lg2 ≤ lg + n) ∧ (le ≤ le2 ∧ le2 ≤ le + n) ∧ (dl ≤ dl2 ∧ dl2 ≤ dl + 55 * n)
  | 0, p, w, lg, le, dl, w2, lg2, le2, dl2, _, h => by cases h
  | n + 1, p, w, lg, le, dl, w2, lg2, le2, dl2, hp, h => by
    unfold goZ at h
    split at h
    · cases h
    · rename_i q w3 lg3 le3 dl3 hs
      have h1 := stepZ_rg hD hp ha hf hs
      split at h
      · simp only [Option.some.injEq, Prod.mk.injEq] at h
        obtain ⟨rfl, rfl, rfl, rfl⟩ := h
        omega
      · have h2 := goZ_rg hD ha hf n q w3 lg3 le3 dl3 w2 lg2 le2 dl2 h1.1 h
        omega
def drZ (n : Int) : Int := if n < 9 then 0 else 1
def eaZ (n : Int) : Int := if n < 9 then 1 else 0
theorem drZ_c (n : Int) : (drZ n = 0 ∧ eaZ n = 1) ∨ (drZ n = 1 ∧ eaZ n = 0) := by unfold drZ eaZ; split <;> simp
/-- the ray of number n from fr, as a path to t -/
def rayZ (dE dF dD sea : Int → Int) (fr t f w n : Int) : Option (Int × Int × Int × Int) := goZ dE dF dD sea (eaZ n) (n % 9 + 1) f t 10 fr w 0 0 0
theorem rayZ_rg {dE dF dD sea : Int → Int} {fr t f w n w2 lg2 le2 dl2 : Int} (hD : zrg 48 0 1000 dD) (hf : 10 ≤ f ∧ f ≤ 300) (hp : 0 ≤ fr ∧ fr < 48) (h : rayZ dE dF dD sea fr t f w n = some (w2, lg2, le2, dl2)) : (0 ≤ w2 ∧ w2 ≤ w - 2) ∧ (1 ≤ lg2 ∧ lg2 ≤ 10) ∧ (0 ≤ le2 ∧ le2 ≤ 10) ∧ (0 ≤ dl2 ∧ dl2 ≤ 550) := by
  have := goZ_rg hD (by omega) hf 10 fr w 0 0 0 w2 lg2 le2 dl2 hp h
  omega
theorem goZ_s {dE dF dD sea : Int → Int} {ea a f t : Int} {k : Nat} {p w lg le dl q w2 lg2 le2 dl2 : Int} (h : stepZ dE dF dD sea ea a f p w lg le dl = some (q, w2, lg2, le2, dl2)) : goZ dE dF dD sea ea a f t (k + 1) p w lg le dl = if q = t then some (w2, lg2, le2, dl2) else goZ dE dF dD sea ea a f t k q w2 lg2 le2 dl2 := by
  show (match stepZ dE dF dD sea ea a f p w lg le dl with
    | none => none
    | some (q, w2, lg2, le2, dl2) => if q = t then some (w2, lg2, le2, dl2) else goZ dE dF dD sea ea a f t k q w2 lg2 le2 dl2) = _
  rw [h]
theorem goZ_n {dE dF dD sea : Int → Int} {ea a f t : Int} {k : Nat} {p w lg le dl : Int} (h : stepZ dE dF dD sea ea a f p w lg le dl = none) : goZ dE dF dD sea ea a f t (k + 1) p w lg le dl = none := by
  show (match stepZ dE dF dD sea ea a f p w lg le dl with
    | none => none
    | some (q, w2, lg2, le2, dl2) => if q = t then some (w2, lg2, le2, dl2) else goZ dE dF dD sea ea a f t k q w2 lg2 le2 dl2) = _
  rw [h]
/-! THE WORDS, 5: paths, signals -/
def hasZ (dE dF dD sea : Int → Int) (fr t f w : Int) : Prop := ∃ n : Int, 0 ≤ n ∧ n < 18 ∧ rayZ dE dF dD sea fr t f w n ≠ none
def begZ (pw an hd n : Int) : Int := pw + gainZ an (n % 9 + 1) - asideZ hd (drZ n)
theorem begZ_rg {pw an hd n : Int} (hp : 0 ≤ pw ∧ pw ≤ 80) : -28 ≤ begZ pw an hd n ∧ begZ pw an hd n ≤ 88 := by
  have := gainZ_rg an (n % 9 + 1) (by omega)
  have := asideZ_rg hd (drZ n)
  unfold begZ
  omega
/-- the strength at the end of the path by the ray of number n, or -1 -/
def sgZ (dE dF dD sea : Int → Int) (fr t f pw an hd n : Int) : Int := if begZ pw an hd n < 0 then -1 else match rayZ dE dF dD sea fr t f (begZ pw an hd n) n with
  | none => -1
  | some x => x.1
theorem sgZ_b {dE dF dD sea : Int → Int} {fr t f pw an hd n : Int} (h : begZ pw an hd n < 0) : sgZ dE dF dD sea fr t f pw an hd n = -1 := if_pos h
theorem sgZ_n {dE dF dD sea : Int → Int} {fr t f pw an hd n : Int} (h : rayZ dE dF dD sea fr t f (begZ pw an hd n) n = none) : sgZ dE dF dD sea fr t f pw an hd n = -1 := by unfold sgZ; rw [h]; split <;> rfl
theorem sgZ_s {dE dF dD sea : Int → Int} {fr t f pw an hd n w a b c : Int} (h0 : ¬ begZ pw an hd n < 0) (h : rayZ dE dF dD sea fr t f (begZ pw an hd n) n = some (w, a, b, c)) : sgZ dE dF dD sea fr t f pw an hd n = w := by unfold sgZ; rw [h, if_neg h0]
theorem sgZ_rg {dE dF dD sea : Int → Int} {fr t f pw an hd n : Int} (hD : zrg 48 0 1000 dD) (hf : 10 ≤ f ∧ f ≤ 300) (hq : 0 ≤ fr ∧ fr < 48) (hp : 0 ≤ pw ∧ pw ≤ 80) : -1 ≤ sgZ dE dF dD sea fr t f pw an hd n ∧ sgZ dE dF dD sea fr t f pw an hd n ≤ 88 := by
  have h1 := begZ_rg (an := an) (hd := hd) (n := n) hp
  rcases Int.lt_or_le (begZ pw an hd n) 0 with h | h
  · rw [sgZ_b h]; omega
  · cases hr : rayZ dE dF dD sea fr t f (begZ pw an hd n) n with
    | none => rw [sgZ_n hr]; omega
    | some x =>
      obtain ⟨w, a, b, c⟩ := x
      rw [sgZ_s (by omega) hr]
      have := rayZ_rg hD hf hq hr
      omega
def bestZ (dE dF dD sea : Int → Int) (fr t f pw an hd : Int) : Nat → Int
  | 0 => -1
  | n + 1 => max (bestZ dE dF dD sea fr t f pw an hd n) (sgZ dE dF dD sea fr t f pw an hd n)
theorem bestZ_rg {dE dF dD sea : Int → Int} {fr t f pw an hd : Int} (hD : zrg 48 0 1000 dD) (hf : 10 ≤ f ∧ f ≤ 300) (hq : 0 ≤ fr ∧ fr < 48) (hp : 0 ≤ pw ∧ pw ≤ 80) : ∀ n : Nat, -1 ≤ bestZ dE dF dD sea fr t f pw an hd n ∧ bestZ dE dF dD sea fr t f pw an hd n ≤ 88
  | 0 => by unfold bestZ; omega
  | n + 1 => by
    have h1 := bestZ_rg (t := t) (an := an) (hd := hd) (dE := dE) (dF := dF) (sea := sea) hD hf hq hp n
    have h2 := sgZ_rg (t := t) (an := an) (hd := hd) (n := n) (dE := dE) (dF := dF) (sea := sea) hD hf hq hp
    unfold bestZ
    omega
theorem bestZ_i {dE dF dD sea : Int → Int} {fr t f pw an hd i b v : Int} (hi : 0 ≤ i) (hb : b = bestZ dE dF dD sea fr t f pw an hd i.toNat) (hv : v = max b (sgZ dE dF dD sea fr t f pw an hd i)) : v = bestZ dE dF dD sea fr t f pw an hd (i + 1).toNat := by
  rw [show (i + 1).toNat = i.toNat + 1 from by omega]
  unfold bestZ
  rw [← hb, hv, show ((i.toNat : Nat) : Int) = i from by omega]
def sigZ (dE dF dD sea noi : Int → Int) (h fr t f pw an hd : Int) : Int := if bestZ dE dF dD sea fr t f pw an hd 18 = -1 then -1000 else bestZ dE dF dD sea fr t f pw an hd 18 - (noi t + (if lightZ h t = 0 then 3 else 0))
theorem sigZ_rg {dE dF dD sea noi : Int → Int} {h fr t f pw an hd : Int} (hD : zrg 48 0 1000 dD) (hn : zrg 48 0 40 noi) (hf : 10 ≤ f ∧ f ≤ 300) (hq : 0 ≤ fr ∧ fr < 48) (ht : 0 ≤ t ∧ t < 48) (hp : 0 ≤ pw ∧ pw ≤ 80) : -1000 ≤ sigZ dE dF dD sea noi h fr t f pw an hd ∧ sigZ dE dF dD sea noi h fr t f pw an hd ≤ 88 := by
  have h1 := bestZ_rg (t := t) (an := an) (hd := hd) (dE := dE) (dF := dF) (sea := sea) hD hf hq hp 18
  have h2 := hn t ht.1 ht.2
  unfold sigZ
  split <;> (try split) <;> omega
def callP (dE dF dD sea noi : Int → Int) (h : Int) (pl pw an hd : Int → Int) (x y f md : Int) : Prop := neZ md ≤ sigZ dE dF dD sea noi h (pl x) (pl y) f (pw x) (an x) (hd x) ∧ neZ md ≤ sigZ dE dF dD sea noi h (pl y) (pl x) f (pw y) (an y) (hd y)
theorem neZ_rg (m : Int) : -2 ≤ neZ m ∧ neZ m ≤ 10 := by unfold neZ; split <;> (try split) <;> omega
def tell3 (a b c : Int → Int) (y : Int) : Int → Int := if y = 0 then a else if y = 1 then b else c
