/-! the law's own rows: the script, answers compared -/
/-- the script's ints as whole numbers -/
def xZ (xs : Nat → Int32) (k : Int) : Int := (xs k.toNat).toInt
theorem xZ_rg (xs : Nat → Int32) (k : Int) : r32 (xZ xs k) := ⟨by have := Int32.le_toInt (xs k.toNat); unfold xZ; omega, by have := Int32.toInt_lt (xs k.toNat); unfold xZ; omega⟩
theorem xZ_i (xs : Nat → Int32) (k : Int) : iI (xZ xs k) = xs k.toNat := Int32.ofInt_toInt _
section ZLW
variable {p : Program} {l : Launch} {e : Env} {R : Room} {s : State} {m : MethodId} {args : Array Value} {below : List Frame} {meth : Method} {c : Code} {H H0 : Heap} {locs : List Loc} {cells slots : Nat} {Q : State → Prop}
variable {cc : ByteArray} {pc : Nat} {ls : Array Slot} {rest : List Value} {own : String} {nL : Nat} {D : va_G} {cy : Nat → ClassId} {z0 : Nat} {A : Nat → Prop} {b L : Nat} {xs : Nat → Int32}
theorem zi_sld (M : zM p s m args c cc own nL) (hX : va_X b L xs s H0) (hbl : b < H0.size) (hbA : ¬ A b) (hS : va_S A H0 H locs) (hL : L ≤ 3584) {i : Int} (h0 : 0 ≤ i) (h1 : i < L) (hdg : decode cc pc = .ok (.iaload, 1)) (kk : W p l e R s m args below meth c H locs cells slots Q (F0 m (pc + 1) ls (.int (iI (xZ xs i)) :: rest))) : W p l e R s m args below meth c H locs cells slots Q (F0 m pc ls (.int (iI i) :: .ref b :: rest)) :=
  va_sld M.1 M.2.1 hX hbl hbA hS (iI_in h0 h1 (by omega)) hdg (by
    have e1 : (iI i).toNatClampNeg = i.toNat := by
      show (iI i).toInt.toNat = i.toNat
      rw [iI_toInt ⟨by omega, by omega⟩]
    rw [e1, ← xZ_i xs i]
    exact kk)
theorem zi_slen (M : zM p s m args c cc own nL) (hX : va_X b L xs s H0) (hbl : b < H0.size) (hbA : ¬ A b) (hS : va_S A H0 H locs) (hdg : decode cc pc = .ok (.arraylength, 1)) (kk : W p l e R s m args below meth c H locs cells slots Q (F0 m (pc + 1) ls (.int (iI (L : Int)) :: rest))) : W p l e R s m args below meth c H locs cells slots Q (F0 m pc ls (.ref b :: rest)) :=
  va_slen M.1 M.2.1 hX hbl hbA hS hdg kk
/-- the low five bits -/
theorem zi_and31 (M : zM p s m args c cc own nL) {v : Int} (hdg : decode cc pc = .ok (.iand, 1)) (kk : ∀ k : Int, (0 ≤ k ∧ k ≤ 31) → W p l e R s m args below meth c H locs cells slots Q (F0 m (pc + 1) ls (.int (iI k) :: rest))) : W p l e R s m args below meth c H locs cells slots Q (F0 m pc ls (.int (iI 31) :: .int (iI v) :: rest)) := by
  refine lv_iand M.1 M.2.1 hdg ?_
  have key : ∀ x : Int32, ∃ k : Int, (0 ≤ k ∧ k ≤ 31) ∧ x &&& iI 31 = iI k := fun x => by
    have h1 : (x &&& iI 31).toBitVec = x.toBitVec &&& 31#32 := rfl
    refine ⟨(((x.toBitVec &&& 31#32).toNat : Nat) : Int), ?_, ?_⟩
    · have h2 : (x.toBitVec &&& 31#32).toNat = x.toBitVec.toNat % 32 := by
        rw [BitVec.toNat_and]
        exact Nat.and_two_pow_sub_one_eq_mod _ 5
      rw [h2]
      omega
    · have h2 : (x.toBitVec &&& 31#32).toNat = x.toBitVec.toNat % 32 := by
        rw [BitVec.toNat_and]
        exact Nat.and_two_pow_sub_one_eq_mod _ 5
      apply Int32.toBitVec_inj.mp
      rw [h1]
      apply BitVec.eq_of_toNat_eq
      show _ = (BitVec.ofInt 32 _).toNat
      rw [BitVec.toNat_ofInt, h2]
      omega
  obtain ⟨k, hk, e1⟩ := key (iI v)
  rw [e1]
  exact kk k hk
end ZLW
section ZLS
variable {p : Program} {l : Launch} {e : Env} {R : Room} {s : State} {m : MethodId} {args : Array Value} {below : List Frame} {meth : Method} {c : Code} {H : Heap} {locs : List Loc} {cells slots : Nat} {Q : State → Prop}
variable {cc : ByteArray} {pc : Nat} {ls : Array Slot} {rest : List Value} {own : String} {nL : Nat}
/-- an int against itself -/
theorem zi_same (M : zM p s m args c cc own nL) {v off : Int} {tgt : Nat} (hdg : decode cc pc = .ok (.if_icmp .eq off, 3)) (ht : (pc : Int) + off = (tgt : Int)) (kt : W p l e R s m args below meth c H locs cells slots Q (F0 m tgt ls rest)) : W p l e R s m args below meth c H locs cells slots Q (F0 m pc ls (.int (iI v) :: .int (iI v) :: rest)) := lv_icmp_eq M.1 M.2.1 hdg ht (fun _ => kt) (fun h => absurd rfl h)
end ZLS
theorem stK_0 (k sh : Int) : stK k 0 sh = 0 := by unfold stK; split <;> (try split) <;> rfl
theorem cSK_0 (k : Int) (cH : Int → Int) : cSK k (fun _ => 0) cH = fun _ => 0 := by funext j; unfold cSK; split <;> (try split) <;> rfl
theorem cHK_0 {k : Int} (hk : 0 ≤ k) : cHK k (fun _ => 0) = fun _ => 0 := by funext j; show max 0 ((0 : Int) - k) = 0; omega
section ZLC
variable {dE dF dD kE kF kD sea noi : Int → Int} {h : Int} {bpl bpw ban bhd ban' bhd' bfq : Int → Int} {q : Int}
theorem hrP_congr {n : Int} (e1 : ban n = ban' n) (e2 : bhd n = bhd' n) : hrP sea noi h bpl bpw ban bhd bfq q dE dF dD n = hrP sea noi h bpl bpw ban' bhd' bfq q dE dF dD n := by unfold hrP; rw [e1, e2]
theorem liF_congr : ∀ n : Nat, (∀ j : Int, 0 ≤ j → j < n → ban j = ban' j ∧ bhd j = bhd' j) → liF dE dF dD sea noi h bpl bpw ban bhd bfq q n = liF dE dF dD sea noi h bpl bpw ban' bhd' bfq q n
  | 0, _ => rfl
  | n + 1, hh => by
    have h1 := hh n (by omega) (by omega)
    unfold liF
    rw [liF_congr n (fun j a b => hh j a (by omega)), hrP_congr h1.1 h1.2]
theorem lrF_congr : ∀ n : Nat, (∀ j : Int, 0 ≤ j → j < n → ban j = ban' j ∧ bhd j = bhd' j) → lrF dE dF dD kE kF kD sea noi h bpl bpw ban bhd bfq q n = lrF dE dF dD kE kF kD sea noi h bpl bpw ban' bhd' bfq q n
  | 0, _ => rfl
  | n + 1, hh => by
    have h1 := hh n (by omega) (by omega)
    unfold lrF
    rw [lrF_congr n (fun j a b => hh j a (by omega)), hrP_congr h1.1 h1.2, hrP_congr (dE := kE) (dF := kF) (dD := kD) h1.1 h1.2]
end ZLC
