/-! THE WORDS, 9: the model's densities, and the rest of its own words -/
def mdD (ic h fl : Int) : Int → Int := dnD h (if ic = 0 then fl else 0)
def mdE (ic h : Int) (cS : Int → Int) : Int → Int := dnE h (fun p => if ic = 0 then cS p else 0)
def mdF (ic h su st : Int) : Int → Int := dnF h su (if ic = 0 then st else 0)
theorem mdD_rg {ic h fl : Int} (hf : 0 ≤ fl ∧ fl ≤ 80) : zrg 48 0 1000 (mdD ic h fl) := dnD_rg (by split <;> omega)
theorem mdE_rg {ic h : Int} {cS : Int → Int} (hc : zrg 48 0 100 cS) : zrg 48 0 1000 (mdE ic h cS) := dnE_rg (fun j h0 h1 => by
  have := hc j h0 h1
  show 0 ≤ (if ic = 0 then cS j else 0) ∧ (if ic = 0 then cS j else 0) ≤ 100
  split <;> omega)
theorem mdF_rg {ic h su st : Int} (hs : 0 ≤ su ∧ su ≤ 100) (ht : 0 ≤ st ∧ st ≤ 60) : zrg 48 0 1000 (mdF ic h su st) := dnF_rg hs (by split <;> omega)
theorem dens_rg {ic h su st fl y q : Int} {cS : Int → Int} (hf : 0 ≤ fl ∧ fl ≤ 80) (hc : zrg 48 0 100 cS) (hs : 0 ≤ su ∧ su ≤ 100) (ht : 0 ≤ st ∧ st ≤ 60) (hq : 0 ≤ q ∧ q < 48) : 0 ≤ tell3 (mdD ic h fl) (mdE ic h cS) (mdF ic h su st) y q ∧ tell3 (mdD ic h fl) (mdE ic h cS) (mdF ic h su st) y q ≤ 1000 := by
  have h1 := mdD_rg (ic := ic) (h := h) hf q hq.1 hq.2
  have h2 := mdE_rg (ic := ic) (h := h) hc q hq.1 hq.2
  have h3 := mdF_rg (ic := ic) (h := h) hs ht q hq.1 hq.2
  unfold tell3
  split
  · exact h1
  · split
    · exact h2
    · exact h3
def lyZ (dE dF : Int → Int) (ea p a f : Int) : Int := if bndZ dE dF ea p a f = -1 then 0 else bndZ dE dF ea p a f
theorem lyZ_c {dE dF : Int → Int} {ea p a f : Int} : (bndZ dE dF ea p a f = -1 ∧ lyZ dE dF ea p a f = 0) ∨ (bndZ dE dF ea p a f = 1 ∧ lyZ dE dF ea p a f = 1) ∨ (bndZ dE dF ea p a f = 2 ∧ lyZ dE dF ea p a f = 2) := by
  have := bndZ_c dE dF ea p a f
  unfold lyZ
  split <;> omega
theorem takZ_ge {dD sea : Int → Int} {lg p q n f : Int} (hD : zrg 48 0 1000 dD) (hp : 0 ≤ p ∧ p < 48) (hq : 0 ≤ q ∧ q < 48) (hn : 0 ≤ n ∧ n ≤ 5) (hf : 10 ≤ f ∧ f ≤ 300) : gndZ sea lg p + 2 ≤ takZ dD sea lg p q n f := by
  have h1 := hD p hp.1 hp.2
  have h2 := hD q hq.1 hq.2
  have h3 := divr (a := (dD p + dD q) * 40) (b := f) (A := 80000) (by omega) (by omega) (by omega)
  unfold takZ
  omega
def bsE (b : Int) : Int := if b = -1 then -1000 else b
theorem bestM {dE dF dD sea : Int → Int} {fr t f pw an hd i bs v s : Int} (hi : 0 ≤ i) (hr : -1 ≤ bestZ dE dF dD sea fr t f pw an hd i.toNat) (hb : bs = bsE (bestZ dE dF dD sea fr t f pw an hd i.toNat)) (hs : sgZ dE dF dD sea fr t f pw an hd i = s) (h0 : -1 ≤ s) (hv : v = if s = -1 then bs else if bs < s then s else bs) : v = bsE (bestZ dE dF dD sea fr t f pw an hd (i + 1).toNat) := by
  have h1 := bestZ_i (dE := dE) (dF := dF) (dD := dD) (sea := sea) (fr := fr) (t := t) (f := f) (pw := pw) (an := an) (hd := hd) (v := max (bestZ dE dF dD sea fr t f pw an hd i.toNat) (sgZ dE dF dD sea fr t f pw an hd i)) hi rfl rfl
  rw [← h1, hs]
  generalize bestZ dE dF dD sea fr t f pw an hd i.toNat = b at hr hb
  unfold bsE at hb ⊢
  rw [hv, hb]
  (repeat' split) <;> omega
theorem sigM {dE dF dD sea noi : Int → Int} {h fr t f pw an hd bs d : Int} (hr : -1 ≤ bestZ dE dF dD sea fr t f pw an hd 18) (hb : bs = bsE (bestZ dE dF dD sea fr t f pw an hd 18)) (hd1 : d = if lightZ h t = 0 then 3 else 0) : sigZ dE dF dD sea noi h fr t f pw an hd = if bs = -1000 then -1000 else bs - noi t - d := by
  unfold sigZ
  rw [hb, hd1]
  generalize bestZ dE dF dD sea fr t f pw an hd 18 = b at hr
  unfold bsE
  (repeat' split) <;> omega
theorem cntR_has {dE dF dD sea : Int → Int} {q t f w : Int} : 0 < cntR dE dF dD sea q t f w 18 ↔ hasZ dE dF dD sea q t f w := by
  constructor
  · intro h
    refine Classical.byContradiction fun hn => ?_
    have key : ∀ n : Nat, n ≤ 18 → cntR dE dF dD sea q t f w n = 0 := fun n => by
      induction n with
      | zero => intro _; rfl
      | succ n ih =>
        intro hl
        cases hr : rayZ dE dF dD sea q t f w (n : Int) with
        | none =>
          have h1 := cntR_n (i := (n : Int)) (by omega) hr
          rw [show ((n : Int) + 1).toNat = n + 1 from by omega, show ((n : Int)).toNat = n from by omega] at h1
          rw [h1]
          exact ih (by omega)
        | some v => exact absurd ⟨(n : Int), by omega, by omega, by rw [hr]; exact fun z => nomatch z⟩ hn
    have := key 18 (by omega)
    omega
  · intro ⟨n, h0, h1, h2⟩
    cases hr : rayZ dE dF dD sea q t f w n with
    | none => exact absurd hr h2
    | some v =>
      have e1 := cntR_s h0 hr
      have e2 := cntR_mono (dE := dE) (dF := dF) (dD := dD) (sea := sea) (q := q) (t := t) (f := f) (w := w) (i := n + 1) (j := 18) (by omega) (by omega)
      have e3 := cntR_rg (dE := dE) (dF := dF) (dD := dD) (sea := sea) (q := q) (t := t) (f := f) (w := w) n.toNat
      have h5 : (18 : Int).toNat = 18 := rfl
      rw [h5] at e2
      omega
/-- how many below n are paired -/
def prF (e5 : Int → Int) : Nat → Int
  | 0 => 0
  | n + 1 => prF e5 n + (if e5 n = -1 then 0 else 1)
theorem prF_s {e5 : Int → Int} {i : Int} (hi : 0 ≤ i) : prF e5 (i + 1).toNat = prF e5 i.toNat + (if e5 i = -1 then 0 else 1) := by
  rw [show (i + 1).toNat = i.toNat + 1 from by omega]
  show prF e5 i.toNat + (if e5 (i.toNat : Nat) = -1 then 0 else 1) = _
  rw [show ((i.toNat : Nat) : Int) = i from by omega]
theorem prF_congr {e e' : Int → Int} : ∀ n : Nat, (∀ j : Int, 0 ≤ j → j < n → e j = e' j) → prF e n = prF e' n
  | 0, _ => rfl
  | n + 1, h => by
    unfold prF
    rw [prF_congr n (fun j a b => h j a (by omega)), h n (by omega) (by omega)]
theorem prF_zu {e5 : Int → Int} {r v : Int} (hr : 0 ≤ r) (h1 : e5 r = -1) (hv : ¬ v = -1) : ∀ n : Nat, r < n → prF (zu e5 r v) n = prF e5 n + 1
  | 0, h => absurd h (by omega)
  | n + 1, h => by
    unfold prF
    by_cases e : (n : Int) = r
    · rw [prF_congr (e := zu e5 r v) (e' := e5) n (fun j a b => zu_n _ _ (by omega)), e, zu_s, if_neg hv, if_pos h1]
      omega
    · rw [prF_zu hr h1 hv n (by omega), zu_n _ _ e]
      omega
theorem bit_all : ∀ b : Fin 256, ∀ k : Fin 8, (iI ((b.val : Nat) : Int) >>> (iI ((k.val : Nat) : Int) &&& 31)) &&& iI 1 = iI (((b.val : Nat) : Int) / ((2 ^ k.val : Nat) : Int) % 2) := by decide +kernel
theorem or0_all : ∀ b : Fin 256, iI ((b.val : Nat) : Int) ||| iI 0 = iI ((b.val : Nat) : Int) := by decide +kernel
section ZB2
variable {p : Program} {l : Launch} {e : Env} {R : Room} {s : State} {m : MethodId} {args : Array Value} {below : List Frame} {meth : Method} {c : Code} {H : Heap} {locs : List Loc} {cells slots : Nat} {Q : State → Prop}
variable {cc : ByteArray} {pc : Nat} {ls : Array Slot} {rest : List Value} {own : String} {nL : Nat}
theorem zi_bit (M : zM p s m args c cc own nL) {b : Int} (hb : 0 ≤ b ∧ b < 256) (k : Nat) (hk : k < 8) {c2 k2 : Int} (hc : c2 = ((2 ^ k : Nat) : Int)) (hk2 : k2 = (k : Int)) (d0 : decode cc pc = .ok (.ishr, 1)) (d1 : decode cc (pc + 1) = .ok (.iconst 1, 1)) (d2 : decode cc (pc + 1 + 1) = .ok (.iand, 1)) (kk : W p l e R s m args below meth c H locs cells slots Q (F0 m (pc + 1 + 1 + 1) ls (.int (iI (b / c2 % 2)) :: rest))) : W p l e R s m args below meth c H locs cells slots Q (F0 m pc ls (.int (iI k2) :: .int (iI b) :: rest)) := by
  refine lv_ishr M.1 M.2.1 d0 (zi_push M d1 (lv_iand M.1 M.2.1 d2 ?_))
  have h := bit_all ⟨b.toNat, by omega⟩ ⟨k, hk⟩
  rw [show ((b.toNat : Nat) : Int) = b from by omega] at h
  rw [hk2, h, ← hc]
  exact kk
theorem zi_or0 (M : zM p s m args c cc own nL) {b : Int} (hb : 0 ≤ b ∧ b < 256) (d0 : decode cc pc = .ok (.ior, 1)) (kk : W p l e R s m args below meth c H locs cells slots Q (F0 m (pc + 1) ls (.int (iI b) :: rest))) : W p l e R s m args below meth c H locs cells slots Q (F0 m pc ls (.int (iI 0) :: .int (iI b) :: rest)) := by
  refine lv_ior M.1 M.2.1 d0 ?_
  have h := or0_all ⟨b.toNat, by omega⟩
  rw [show ((b.toNat : Nat) : Int) = b from by omega] at h
  rw [h]
  exact kk
theorem zi_orshlG (M : zM p s m args c cc own nL) {b k off : Int} {tgt : Nat} (hb : 0 ≤ b ∧ b < 256) (hk : 0 ≤ k ∧ k < 8) (d0 : decode cc pc = .ok (.ishl, 1)) (d1 : decode cc (pc + 1) = .ok (.goto off, 3)) (ht : ((pc + 1 : Nat) : Int) + off = (tgt : Int)) (d2 : decode cc tgt = .ok (.ior, 1)) (kk : W p l e R s m args below meth c H locs cells slots Q (F0 m (tgt + 1) ls (.int (iI (orZ b k)) :: rest))) : W p l e R s m args below meth c H locs cells slots Q (F0 m pc ls (.int (iI k) :: .int (iI 1) :: .int (iI b) :: rest)) := by
  refine lv_ishl M.1 M.2.1 d0 (zi_goto (tgt := tgt) M d1 ht (lv_ior M.1 M.2.1 d2 ?_))
  rw [(orZ_i hb hk).1]
  exact kk
end ZB2
def usB (dE dF dD sea : Int → Int) (q t w g i fd : Int) : Prop := (fd = -1 ∧ ∀ j : Int, 1 ≤ j → j < i → ¬ hasZ dE dF dD sea q t (10 * j) w) ∨ ∃ m : Int, (1 ≤ m ∧ m < i) ∧ fd = 10 * m ∧ hasZ dE dF dD sea q t (10 * m) w ∧ ∀ j : Int, 1 ≤ j → j < i → hasZ dE dF dD sea q t (10 * j) w → if g = 0 then m ≤ j else j ≤ m
theorem usB_rg {dE dF dD sea : Int → Int} {q t w g i fd : Int} (hi : i ≤ 31) (h : usB dE dF dD sea q t w g i fd) : -1 ≤ fd ∧ fd ≤ 300 := by
  rcases h with ⟨h, _⟩ | ⟨m, h1, h2, _⟩ <;> omega
theorem usB_h {dE dF dD sea : Int → Int} {q t w g i fd : Int} (hi : 1 ≤ i) (h : usB dE dF dD sea q t w g i fd) (h0 : g = 0 → fd = -1) (hh : hasZ dE dF dD sea q t (10 * i) w) : usB dE dF dD sea q t w g (i + 1) (10 * i) := by
  refine Or.inr ⟨i, by omega, rfl, hh, fun j h1 h2 h3 => ?_⟩
  by_cases hg : g = 0
  · rw [if_pos hg]
    rcases h with ⟨_, e2⟩ | ⟨m, e1, e2, _⟩
    · rcases Int.lt_or_le j i with q1 | q1
      · exact absurd h3 (e2 j h1 q1)
      · exact q1
    · have := h0 hg
      omega
  · rw [if_neg hg]
    omega
theorem usB_n {dE dF dD sea : Int → Int} {q t w g i fd : Int} (h : usB dE dF dD sea q t w g i fd) (hh : ¬ hasZ dE dF dD sea q t (10 * i) w) : usB dE dF dD sea q t w g (i + 1) fd := by
  rcases h with ⟨e1, e2⟩ | ⟨m, e1, e2, e3, e4⟩
  · refine Or.inl ⟨e1, fun j h1 h2 => ?_⟩
    rcases Int.lt_or_le j i with q1 | q1
    · exact e2 j h1 q1
    · rw [show j = i from by omega]; exact hh
  · refine Or.inr ⟨m, by omega, e2, e3, fun j h1 h2 h3 => ?_⟩
    rcases Int.lt_or_le j i with q1 | q1
    · exact e4 j h1 q1 h3
    · exact absurd (by rw [show i = j from by omega]; exact h3) hh
theorem usB_e {dE dF dD sea : Int → Int} {q t w g i fd : Int} (h : usB dE dF dD sea q t w g i fd) (hi : i ≤ 31) (he : i = 31 ∨ (g = 0 ∧ ¬ fd = -1)) : isUse dE dF dD sea q t w g fd := by
  rcases h with ⟨e1, e2⟩ | ⟨m, e1, e2, e3, e4⟩
  · exact Or.inl ⟨e1, fun k h1 h2 => e2 k h1 (by omega)⟩
  · refine Or.inr ⟨m, by omega, e2, e3, fun j h1 h2 h3 => ?_⟩
    rcases Int.lt_or_le j i with q1 | q1
    · exact e4 j h1 q1 h3
    · rw [if_pos (by omega)]
      omega
/-- the lowest above i that holds P, or -1 -/
def dnL (P : Int → Prop) (n i fd : Int) : Prop := (fd = -1 ∧ ∀ j : Int, i < j → j < n → ¬ P j) ∨ ((i < fd ∧ fd < n) ∧ P fd ∧ ∀ j : Int, i < j → j < fd → ¬ P j)
theorem dnL_h {P : Int → Prop} {n i fd : Int} (h : dnL P n i fd) (hi : i < n) (hp : P i) : dnL P n (i - 1) i := Or.inr ⟨by omega, hp, fun j h1 h2 => absurd h2 (by omega)⟩
theorem dnL_n {P : Int → Prop} {n i fd : Int} (h : dnL P n i fd) (hp : ¬ P i) : dnL P n (i - 1) fd := by
  rcases h with ⟨e1, e2⟩ | ⟨e1, e2, e3⟩
  · refine Or.inl ⟨e1, fun j h1 h2 => ?_⟩
    rcases Int.lt_or_le i j with q | q
    · exact e2 j q h2
    · rw [show j = i from by omega]; exact hp
  · refine Or.inr ⟨by omega, e2, fun j h1 h2 => ?_⟩
    rcases Int.lt_or_le i j with q | q
    · exact e3 j q h2
    · rw [show j = i from by omega]; exact hp
theorem dnL_e {P : Int → Prop} {n i fd : Int} (hi : i = -1) (h : dnL P n i fd) : lowZ P n = fd := by
  subst hi
  refine lowZ_is ?_
  rcases h with ⟨e1, e2⟩ | ⟨e1, e2, e3⟩
  · exact Or.inr ⟨e1, fun j h1 h2 => e2 j (by omega) h2⟩
  · exact Or.inl ⟨by omega, e1.2, e2, fun j h1 h2 => e3 j (by omega) h2⟩
theorem dnL_rg {P : Int → Prop} {n i fd : Int} (hi : -1 ≤ i) (h : dnL P n i fd) : -1 ≤ fd ∧ (fd = -1 ∨ fd < n) := by
  rcases h with ⟨e1, _⟩ | ⟨e1, _⟩ <;> omega
