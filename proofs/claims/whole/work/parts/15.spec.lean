/-! THE WORDS, 1: light, lengths, moves, bends -/
def lightZ (h p : Int) : Int := max 0 (6 - max ((h + p / 2) % 24 - 12) (-((h + p / 2) % 24 - 12)))
theorem lightZ_rg (h p : Int) : 0 ≤ lightZ h p ∧ lightZ h p ≤ 6 := by unfold lightZ; omega
def lenZ (y a : Int) : Int := if y = 1 then (10 - a) / 4 else (11 - a) / 2
theorem lenZ_rg (y a : Int) (h : 1 ≤ a ∧ a ≤ 9) : 0 ≤ lenZ y a ∧ lenZ y a ≤ 5 := by unfold lenZ; split <;> omega
/-- k places on from p, to the EAST where e isn't 0 -/
def mvZ (e p k : Int) : Int := if e = 0 then (p - k) % 48 else (p + k) % 48
theorem mvZ_rg (e p k : Int) : 0 ≤ mvZ e p k ∧ mvZ e p k < 48 := by unfold mvZ; split <;> omega
def distZ (p q : Int) : Int := min (max (p - q) (-(p - q))) (48 - max (p - q) (-(p - q)))
/-- the layer that bends: 1, 2, or -1 -/
def bndZ (dE dF : Int → Int) (e p a f : Int) : Int := if 10 * f ≤ dE (mvZ e p (lenZ 1 a / 2)) * (46 - 4 * a) then 1 else if 10 * f ≤ dF (mvZ e p (lenZ 2 a / 2)) * (46 - 4 * a) then 2 else -1
theorem bndZ_c (dE dF : Int → Int) (e p a f : Int) : bndZ dE dF e p a f = 1 ∨ bndZ dE dF e p a f = 2 ∨ bndZ dE dF e p a f = -1 := by unfold bndZ; split <;> (try split) <;> simp
def neZ (m : Int) : Int := if m = 0 then 10 else if m = 1 then 4 else -2
def gainZ (t a : Int) : Int := if t = 0 then 10 - 2 * a else if t = 1 then 2 * a - 10 else 0
theorem gainZ_rg (t a : Int) (h : 1 ≤ a ∧ a ≤ 9) : -8 ≤ gainZ t a ∧ gainZ t a ≤ 8 := by unfold gainZ; split <;> (try split) <;> omega
def asideZ (h r : Int) : Int := if h = 2 then 3 else if h = r then 0 else 20
theorem asideZ_rg (h r : Int) : 0 ≤ asideZ h r ∧ asideZ h r ≤ 20 := by unfold asideZ; split <;> (try split) <;> omega
