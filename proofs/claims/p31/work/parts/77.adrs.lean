/-! the addresses of the pictures -/
theorem airW_adr {ad : Nat → Nat} {b : Nat} {cy : Nat → ClassId} {h su st sh fl : Int} {cS cH dD dE dF : Int → Int} : (airW ad b cy h su st sh fl cS cH dD dE dF).map (fun q => q.1) = [ad b, ad (b + 1), ad (b + 2), ad (b + 3), ad (b + 4), ad (b + 5), ad (b + 6)] := rfl
theorem grdW_adr {ad : Nat → Nat} {b : Nat} {cy : Nat → ClassId} {sea noi : Int → Int} : (grdW ad b cy sea noi).map (fun q => q.1) = [ad b, ad (b + 1), ad (b + 2)] := rfl
theorem rayW_adr {ad : Nat → Nat} {b : Nat} {cy : Nat → ClassId} {ypl ydr yan yfr yst ylg yle ydl : Int} : (rayW ad b cy ypl ydr yan yfr yst ylg yle ydl).map (fun q => q.1) = [ad b] := rfl
theorem sndW_adr {ad : Nat → Nat} {b : Nat} {cy : Nat → ClassId} {n : Nat} {sm : Int} {pl pw an hd fq : Int → Int} : (sndW ad b cy n sm pl pw an hd fq).map (fun q => q.1) = [ad b, ad (b + 1), ad (b + 2), ad (b + 3), ad (b + 4), ad (b + 5)] := rfl
theorem conW_adr {ad : Nat → Nat} {b : Nat} {cy : Nat → ClassId} {cm : Int} {c1 c2 c3 c4 c5 : Int → Int} : (conW ad b cy cm c1 c2 c3 c4 c5).map (fun q => q.1) = [ad b, ad (b + 1), ad (b + 2), ad (b + 3), ad (b + 4), ad (b + 5)] := rfl
theorem entW_adr {ad : Nat → Nat} {b : Nat} {cy : Nat → ClassId} {em ep : Int} {e1 e2 e3 e4 e5 : Int → Int} : (entW ad b cy em ep e1 e2 e3 e4 e5).map (fun q => q.1) = [ad b, ad (b + 1), ad (b + 2), ad (b + 3), ad (b + 4), ad (b + 5)] := rfl
theorem rooW_adr {ad : Nat → Nat} {b : Nat} {cy : Nat → ClassId} {fm fr : Int} : (rooW ad b cy fm fr).map (fun q => q.1) = [ad b] := rfl
theorem loZ_rg2 (a n : Int) (hn : 0 < n) : 0 ≤ loZ a n ∧ loZ a n < n := loZ_rg a hn
theorem zZ_rg (n hi : Int) (h : 0 ≤ hi) : zrg n 0 hi (fun _ => 0) := fun j _ _ => ⟨Int.le_refl 0, h⟩
