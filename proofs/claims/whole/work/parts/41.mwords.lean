/-! THE WORDS, 9: the model's densities, and the rest of its own words -/
def mdD (ic h fl : Int) : Int → Int := dnD h (if ic = 0 then fl else 0)
def mdE (ic h : Int) (cS : Int → Int) : Int → Int := dnE h (fun p => if ic = 0 then cS p else 0)
def mdF (ic h su st : Int) : Int → Int := dnF h su (if ic = 0 then st else 0)
theorem mdD_rg {ic h fl : Int} (hf : 0 ≤ fl ∧ fl ≤ 80) : zrg 48 0 1000 (mdD ic h fl) := dnD_rg (by split <;> omega)
theorem mdE_rg {ic h : Int} {cS : Int → Int} (hc : zrg 48 0 100 cS) : zrg 48 0 1000 (mdE ic h cS) := dnE_rg (fun j h0 h1 => by
  have := hc j h0 h1
  show 0 ≤ (if ic = 0 then cS j else 0) ∧ (if ic = 0 then cS j else 0) ≤ 100
  split <;> omega)
theorem mdF_rg {ic h su st : Int} (hs : 0 ≤ su ∧ su ≤ 100) (ht : 0 ≤ st ∧ st ≤ 60) : zrg 48 0 1000 (mdF ic h su st) := dnF_rg hs (by split <;> omega)
theorem dens_rg {ic h su st fl y q : Int} {cS : Int → Int} (hf : 0 ≤ fl ∧ fl ≤ 80) (hc : zrg 48 0 100 cS) (hs : 0 ≤ su ∧ su ≤ 100) (ht : 0 ≤ st ∧ st ≤ 60) (hq : 0 ≤ q ∧ q < 48) : 0 ≤ tell3 (mdD ic h fl) (mdE ic h cS) (mdF ic h su st) y q ∧ tell3 (mdD ic h fl) (mdE ic h cS) (mdF ic h su st) y q ≤ 1000 := by
  have h1 := mdD_rg (ic := ic) (h := h) hf q hq.1 hq.2
  have h2 := mdE_rg (ic := ic) (h := h) hc q hq.1 hq.2
  have h3 := mdF_rg (ic := ic) (h := h) hs ht q hq.1 hq.2
  unfold tell3
  split
  · exact h1
  · split
    · exact h2
    · exact h3
def lyZ (dE dF : Int → Int) (ea p a f : Int) : Int := if bndZ dE dF ea p a f = -1 then 0 else bndZ dE dF ea p a f
theorem lyZ_c {dE dF : Int → Int} {ea p a f : Int} : (bndZ dE dF ea p a f = -1 ∧ lyZ dE dF ea p a f = 0) ∨ (bndZ dE dF ea p a f = 1 ∧ lyZ dE dF ea p a f = 1) ∨ (bndZ dE dF ea p a f = 2 ∧ lyZ dE dF ea p a f = 2) := by
  have := bndZ_c dE dF ea p a f
  unfold lyZ
  split <;> omega
theorem takZ_ge {dD sea : Int → Int} {lg p q n f : Int} (hD : zrg 48 0 1000 dD) (hp : 0 ≤ p ∧ p < 48) (hq : 0 ≤ q ∧ q < 48) (hn : 0 ≤ n ∧ n ≤ 5) (hf : 10 ≤ f ∧ f ≤ 300) : gndZ sea lg p + 2 ≤ takZ dD sea lg p q n f := by
  have h1 := hD p hp.1 hp.2
  have h2 := hD q hq.1 hq.2
  have h3 := divr (a := (dD p + dD q) * 40) (b := f) (A := 80000) (by omega) (by omega) (by omega)
  unfold takZ
  omega
def bsE (b : Int) : Int := if b = -1 then -1000 else b
theorem bestM {dE dF dD sea : Int → Int} {fr t f pw an hd i bs v s : Int} (hi : 0 ≤ i) (hr : -1 ≤ bestZ dE dF dD sea fr t f pw an hd i.toNat) (hb : bs = bsE (bestZ dE dF dD sea fr t f pw an hd i.toNat)) (hs : sgZ dE dF dD sea fr t f pw an hd i = s) (h0 : -1 ≤ s) (hv : v = if s = -1 then bs else if bs < s then s else bs) : v = bsE (bestZ dE dF dD sea fr t f pw an hd (i + 1).toNat) := by
  have h1 := bestZ_i (dE := dE) (dF := dF) (dD := dD) (sea := sea) (fr := fr) (t := t) (f := f) (pw := pw) (an := an) (hd := hd) (v := max (bestZ dE dF dD sea fr t f pw an hd i.toNat) (sgZ dE dF dD sea fr t f pw an hd i)) hi rfl rfl
  rw [← h1, hs]
  generalize bestZ dE dF dD sea fr t f pw an hd i.toNat = b at hr hb
  unfold bsE at hb ⊢
  rw [hv, hb]
  (repeat' split) <;> omega
theorem sigM {dE dF dD sea noi : Int → Int} {h fr t f pw an hd bs d : Int} (hr : -1 ≤ bestZ dE dF dD sea fr t f pw an hd 18) (hb : bs = bsE (bestZ dE dF dD sea fr t f pw an hd 18)) (hd1 : d = if lightZ h t = 0 then 3 else 0) : sigZ dE dF dD sea noi h fr t f pw an hd = if bs = -1000 then -1000 else bs - noi t - d := by
  unfold sigZ
  rw [hb, hd1]
  generalize bestZ dE dF dD sea fr t f pw an hd 18 = b at hr
  unfold bsE
  (repeat' split) <;> omega
