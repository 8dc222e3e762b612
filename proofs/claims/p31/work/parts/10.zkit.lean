/-! THE Z-KIT, 1: ints as Int32.ofInt of whole numbers; arithmetic without bounds, comparisons, divisions and places within bounds -/
def iI (z : Int) : Int32 := Int32.ofInt z
theorem iI_add (a b : Int) : iI a + iI b = iI (a + b) := (Int32.ofInt_add a b).symm
theorem iI_sub (a b : Int) : iI a - iI b = iI (a - b) := (Int32.ofInt_sub a b).symm
theorem iI_mul (a b : Int) : iI a * iI b = iI (a * b) := (Int32.ofInt_mul a b).symm
theorem iI_neg (a : Int) : -iI a = iI (-a) := (Int32.ofInt_neg a).symm
abbrev r32 (a : Int) : Prop := -2147483648 ≤ a ∧ a ≤ 2147483647
theorem iI_toInt {a : Int} (h : r32 a) : (iI a).toInt = a := Int32.toInt_ofInt_of_le (by have := h.1; omega) (by have := h.2; omega)
theorem iI_lt {a b : Int} (ha : r32 a) (hb : r32 b) : iI a < iI b ↔ a < b := by rw [Int32.lt_iff_toInt_lt, iI_toInt ha, iI_toInt hb]
theorem iI_le {a b : Int} (ha : r32 a) (hb : r32 b) : iI a ≤ iI b ↔ a ≤ b := by rw [Int32.le_iff_toInt_le, iI_toInt ha, iI_toInt hb]
theorem iI_eq {a b : Int} (ha : r32 a) (hb : r32 b) : iI a = iI b ↔ a = b := by rw [← Int32.toInt_inj, iI_toInt ha, iI_toInt hb]
theorem iI_0 : iI 0 = 0 := rfl
theorem iI_cln {a : Int} (h0 : 0 ≤ a) (h1 : a ≤ 2147483647) : (iI a).toNatClampNeg = a.toNat := Int32.toNatClampNeg_ofInt_of_le (by omega) (by omega)
theorem iI_cl {a : Int} (h0 : 0 ≤ a) (h1 : a ≤ 2147483647) : (((iI a).toNatClampNeg : Nat) : Int) = a := by rw [iI_cln h0 h1]; omega
theorem iI_in {a : Int} {n : Nat} (h0 : 0 ≤ a) (h1 : a < n) (hn : n ≤ 2147483647) : vp_in (iI a) n := by
  intro h
  rcases h with h | h
  · have := (iI_lt (a := a) (b := 0) ⟨by omega, by omega⟩ ⟨by omega, by omega⟩).mp h
    omega
  · rw [iI_cln h0 (by omega)] at h
    omega
theorem iI_ne0 {b : Int} (h0 : 0 < b) (h1 : b ≤ 2147483647) : ¬ iI b = 0 := by
  intro h
  have := (iI_eq (a := b) (b := 0) ⟨by omega, by omega⟩ ⟨by omega, by omega⟩).mp h
  omega
theorem iI_div {a b : Int} (ha : 0 ≤ a) (ha2 : a ≤ 2147483647) (hb : 0 < b) (hb2 : b ≤ 2147483647) : iI a / iI b = iI (a / b) := by
  have h1 : (iI a / iI b).toInt = a.tdiv b := by
    rw [Int32.toInt_div_of_ne_right _ _ (fun h => by
      have := (iI_eq (a := b) (b := -1) ⟨by omega, by omega⟩ ⟨by omega, by omega⟩).mp (h.trans (show (-1 : Int32) = iI (-1) from rfl))
      omega), iI_toInt ⟨by omega, by omega⟩, iI_toInt ⟨by omega, by omega⟩]
  have h2 : a.tdiv b = a / b := Int.tdiv_eq_ediv_of_nonneg ha
  have h3 : 0 ≤ a / b := Int.ediv_nonneg ha (by omega)
  have h4 : a / b ≤ a := Int.ediv_le_self b ha
  rw [← Int32.toInt_inj, h1, h2, iI_toInt ⟨by omega, by omega⟩]
theorem iI_rem {a b : Int} (ha : 0 ≤ a) (ha2 : a ≤ 2147483647) (hb : 0 < b) (hb2 : b ≤ 2147483647) : iI a - iI a / iI b * iI b = iI (a % b) := by
  rw [iI_div ha ha2 hb hb2, iI_mul, iI_sub]
  congr 1
  rw [Int.emod_def, Int.mul_comm]
theorem iI_tmod {a b : Int} (ha : -2147483647 ≤ a) (ha2 : a ≤ 2147483647) (hb : 0 < b) (hb2 : b ≤ 2147483647) : iI a - iI a / iI b * iI b = iI (a.tmod b) := by
  rcases Int.lt_or_le a 0 with h | h
  · have e1 : iI a / iI b = -(iI (-a) / iI b) := by
      rw [← Int32.toInt_inj]
      have hb1 : iI b ≠ -1 := fun h => by
        have := (iI_eq (a := b) (b := -1) ⟨by omega, by omega⟩ ⟨by omega, by omega⟩).mp (h.trans (show (-1 : Int32) = iI (-1) from rfl))
        omega
      have h3 : 0 ≤ (-a) / b := Int.ediv_nonneg (by omega) (by omega)
      have h4 : (-a) / b ≤ -a := Int.ediv_le_self b (by omega)
      rw [iI_div (a := -a) (by omega) (by omega) hb hb2, iI_neg, iI_toInt ⟨by omega, by omega⟩, Int32.toInt_div_of_ne_right _ _ hb1, iI_toInt ⟨by omega, by omega⟩, iI_toInt ⟨by omega, by omega⟩]
      have h5 : (-a).tdiv b = (-a) / b := Int.tdiv_eq_ediv_of_nonneg (by omega)
      rw [← h5, Int.neg_tdiv, Int.neg_neg]
    rw [e1, iI_div (a := -a) (by omega) (by omega) hb hb2, iI_neg, iI_mul, iI_sub]
    congr 1
    have h5 : (-a).tdiv b = (-a) / b := Int.tdiv_eq_ediv_of_nonneg (by omega)
    rw [← h5, Int.neg_tdiv, Int.neg_neg, Int.tmod_def, Int.mul_comm]
  · rw [iI_rem h ha2 hb hb2]
    congr 1
    exact (Int.tmod_eq_emod_of_nonneg h).symm
/-- an array of ints, by whole places -/
def zf (g : Int → Int) : Nat → Int32 := fun j => iI (g (j : Int))
def zu (g : Int → Int) (i v : Int) : Int → Int := fun j => if j = i then v else g j
theorem zu_s (g : Int → Int) (i v : Int) : zu g i v i = v := if_pos rfl
theorem zu_n (g : Int → Int) {i j : Int} (v : Int) (h : j ≠ i) : zu g i v j = g j := if_neg h
theorem zf_at {g : Int → Int} {a : Int} (h0 : 0 ≤ a) (h1 : a ≤ 2147483647) : zf g (iI a).toNatClampNeg = iI (g a) := by
  unfold zf
  rw [iI_cl h0 h1]
theorem zf_upd {g : Int → Int} {a v : Int} (h0 : 0 ≤ a) (h1 : a ≤ 2147483647) : upd (zf g) (iI a).toNatClampNeg (iI v) = zf (zu g a v) := by
  funext j
  unfold upd zf zu
  rw [iI_cln h0 h1]
  by_cases h : j = a.toNat
  · rw [if_pos h, if_pos (by omega)]
  · rw [if_neg h, if_neg (by omega)]
/-- an int array's cell, by its length and contents -/
abbrev zA (c : ClassId) (n : Nat) (g : Int → Int) : va_E := .inl (c, n, .inl (zf g))
theorem zA_congr {c : ClassId} {n : Nat} {g g' : Int → Int} (h : ∀ j : Int, 0 ≤ j → j < n → g j = g' j) : vp_cell c (n, .inl (zf g)) = vp_cell c (n, .inl (zf g')) := by
  rw [vp_cell_i, vp_cell_i]
  unfold arrV
  congr 1
  apply Array.ext
  · simp
  · intro i h1 h2
    simp only [Array.size_ofFn] at h1
    simp only [Array.getElem_ofFn]
    unfold zf
    rw [h (i : Int) (by omega) (by omega)]
