theorem airW_adr {ad : Nat → Nat} {b : Nat} {cy : Nat → ClassId} {h su st sh fl : Int} {cS cH dD dE dF : Int → Int} : (airW ad b cy h su st sh fl cS cH dD dE dF).map (fun q => q.1) = [ad b, ad (b + 1), ad (b + 2), ad (b + 3), ad (b + 4), ad (b + 5), ad (b + 6)] := rfl
theorem grdW_adr {ad : Nat → Nat} {b : Nat} {cy : Nat → ClassId} {sea noi : Int → Int} : (grdW ad b cy sea noi).map (fun q => q.1) = [ad b, ad (b + 1), ad (b + 2)] := rfl
theorem rayW_adr {ad : Nat → Nat} {b : Nat} {cy : Nat → ClassId} {ypl ydr yan yfr yst ylg yle ydl : Int} : (rayW ad b cy ypl ydr yan yfr yst ylg yle ydl).map (fun q => q.1) = [ad b] := rfl
theorem sndW_adr {ad : Nat → Nat} {b : Nat} {cy : Nat → ClassId} {n : Nat} {sm : Int} {pl pw an hd fq : Int → Int} : (sndW ad b cy n sm pl pw an hd fq).map (fun q => q.1) = [ad b, ad (b + 1), ad (b + 2), ad (b + 3), ad (b + 4), ad (b + 5)] := rfl
theorem conW_adr {ad : Nat → Nat} {b : Nat} {cy : Nat → ClassId} {cm : Int} {c1 c2 c3 c4 c5 : Int → Int} : (conW ad b cy cm c1 c2 c3 c4 c5).map (fun q => q.1) = [ad b, ad (b + 1), ad (b + 2), ad (b + 3), ad (b + 4), ad (b + 5)] := rfl
theorem entW_adr {ad : Nat → Nat} {b : Nat} {cy : Nat → ClassId} {em ep : Int} {e1 e2 e3 e4 e5 : Int → Int} : (entW ad b cy em ep e1 e2 e3 e4 e5).map (fun q => q.1) = [ad b, ad (b + 1), ad (b + 2), ad (b + 3), ad (b + 4), ad (b + 5)] := rfl
theorem rooW_adr {ad : Nat → Nat} {b : Nat} {cy : Nat → ClassId} {fm fr : Int} : (rooW ad b cy fm fr).map (fun q => q.1) = [ad b] := rfl
theorem mdlW_adr {ad : Nat → Nat} {b : Nat} {cy : Nat → ClassId} {th h su st sh fl ic sn bn fm fr cm em lg le lf dl : Int} {cS cH sea noi pl pw an hd bp bo bw c1 c2 c3 c4 c5 e1 e2 e3 e4 e5 : Int → Int} : (mdlW ad b cy th h su st sh fl ic sn bn fm fr cm em lg le lf dl cS cH sea noi pl pw an hd bp bo bw c1 c2 c3 c4 c5 e1 e2 e3 e4 e5).map (fun q => q.1) = [ad b, ad (b + 1), ad (b + 2), ad (b + 3), ad (b + 4), ad (b + 5), ad (b + 6), ad (b + 7), ad (b + 8), ad (b + 9), ad (b + 10), ad (b + 11), ad (b + 12), ad (b + 13), ad (b + 14), ad (b + 15), ad (b + 16), ad (b + 17), ad (b + 18), ad (b + 19), ad (b + 20), ad (b + 21)] := rfl
theorem outW_adr {ad : Nat → Nat} {b : Nat} {cy : Nat → ClassId} {o : Int} : (outW ad b cy o).map (fun q => q.1) = [ad b] := rfl
theorem zZ_rg (n hi : Int) (h : 0 ≤ hi) : zrg n 0 hi (fun _ => 0) := fun j _ _ => ⟨Int.le_refl 0, h⟩
theorem zrg_zu {n lo hi i v : Int} {g : Int → Int} (h : zrg n lo hi g) (hv : lo ≤ v ∧ v ≤ hi) : zrg n lo hi (zu g i v) := fun j h0 h1 => by
  show lo ≤ (if j = i then v else g j) ∧ (if j = i then v else g j) ≤ hi
  split
  · exact hv
  · exact h j h0 h1
theorem zrg_zif {P : Prop} {n lo hi : Int} {f g : Int → Int} (hf : zrg n lo hi f) (hg : zrg n lo hi g) : zrg n lo hi (zifF P f g) := by
  rcases Classical.em P with h | h
  · rw [zifF_t h]; exact hf
  · rw [zifF_f h]; exact hg
theorem zif_rg {P : Prop} {a b lo hi : Int} (ha : lo ≤ a ∧ a ≤ hi) (hb : lo ≤ b ∧ b ≤ hi) : lo ≤ zif P a b ∧ zif P a b ≤ hi := by
  rcases Classical.em P with h | h
  · rw [zif_t h]; exact ha
  · rw [zif_f h]; exact hb
theorem zif_01 (P : Prop) : zif P 1 0 = 0 ∨ zif P 1 0 = 1 := by
  rcases Classical.em P with h | h
  · exact Or.inr (zif_t h)
  · exact Or.inl (zif_f h)
theorem zrg_pair {n lo hi em r : Int} {g : Int → Int} (h : zrg n lo hi g) (h1 : lo ≤ r ∧ r ≤ hi) (h2 : lo ≤ em ∧ em ≤ hi) : zrg n lo hi (zpair (zu g em r) em r) := by
  unfold zpair
  split
  · exact zrg_zu h h1
  · exact zrg_zu (zrg_zu h h1) h2
theorem hbo_add {bn f : Int} {bo ban bhd : Int → Int} (h : ∀ n : Int, 0 ≤ n → n < bn → (10 ≤ bo n ∧ bo n ≤ 300) ∧ ban n = 2 ∧ bhd n = 2) (hf : 10 ≤ f ∧ f ≤ 300) : ∀ n : Int, 0 ≤ n → n < bn + 1 → (10 ≤ zu bo bn f n ∧ zu bo bn f n ≤ 300) ∧ zu ban bn 2 n = 2 ∧ zu bhd bn 2 n = 2 := fun n h0 h1 => by
  rcases Int.lt_or_le n bn with q | q
  · rw [zu_n _ _ (by omega), zu_n _ _ (by omega), zu_n _ _ (by omega)]; exact h n h0 q
  · rw [show n = bn from by omega, zu_s, zu_s, zu_s]; exact ⟨hf, rfl, rfl⟩
theorem lowZ_p {e1 e2 e3 e4 e5 : Int → Int} {x y f t n : Int} (hn : 0 ≤ n) : lowZ (parP e1 e2 e3 e4 e5 x y f t) n = -1 ∨ (0 ≤ lowZ (parP e1 e2 e3 e4 e5 x y f t) n ∧ lowZ (parP e1 e2 e3 e4 e5 x y f t) n < n ∧ e5 (lowZ (parP e1 e2 e3 e4 e5 x y f t) n) = -1) := by
  obtain ⟨r, h⟩ := isLow_exI (parP e1 e2 e3 e4 e5 x y f t) hn
  rw [lowZ_is h]
  rcases h with h | h
  · exact Or.inr ⟨h.1, h.2.1, h.2.2.1.1⟩
  · exact Or.inl h.1
/-! the law, a round: every later state that keeps the invariant goes on from the end of the switch -/
def lwB (l : Launch) (D : va_G) (cy : Nat → ClassId) (z0 : Nat) (ad bd od : Nat → Nat) (p : Program) (e : Env) (s : State) (m : MethodId) (args : Array Value) (below : List Frame) (meth : Method) (c : Code) (b : Nat) (i : Int) (Q : State → Prop) (cells slots : Nat) : Prop := ∀ (h su st sh fl sn bn cm em ep fm fr th o lg le lf dl : Int) (cS cH sea noi pl pw an hd fq bp bw ban bhd bo c1 c2 c3 c4 c5 e1 e2 e3 e4 e5 : Int → Int) (ur : Nat → Int) (h_h : 0 ≤ h ∧ h ≤ 5000) (h_su : 0 ≤ su ∧ su ≤ 100) (h_st : 0 ≤ st ∧ st ≤ 60) (h_sh : 0 ≤ sh ∧ sh ≤ 72) (h_fl : 0 ≤ fl ∧ fl ≤ 80) (h_sn : 0 ≤ sn ∧ sn ≤ 12) (h_bn : 0 ≤ bn ∧ bn ≤ 6) (h_cm : 0 ≤ cm ∧ cm ≤ 60) (h_em : 0 ≤ em ∧ em ≤ 80) (g_cS : zrg 48 0 100 cS) (g_cH : zrg 48 0 24 cH) (g_sea : zrg 48 0 1 sea) (g_noi : zrg 48 0 40 noi) (g_pl : zrg 12 0 47 pl) (g_pw : zrg 12 0 80 pw) (g_an : zrg 12 0 2 an) (g_hd : zrg 12 0 2 hd) (g_bp : zrg 6 0 47 bp) (g_bw : zrg 6 0 80 bw) (g_ban : zrg 6 0 2 ban) (g_bhd : zrg 6 0 2 bhd) (g_c1 : zrg 60 0 11 c1) (g_c2 : zrg 60 0 11 c2) (g_c3 : zrg 60 0 300 c3) (g_c4 : zrg 60 0 2 c4) (g_c5 : zrg 60 0 5000 c5) (g_e1 : zrg 80 0 11 e1) (g_e2 : zrg 80 0 11 e2) (g_e3 : zrg 80 0 300 e3) (g_e4 : zrg 80 0 5000 e4) (g_e5 : zrg 80 (-1) 79 e5) (hbo : ∀ n : Int, 0 ≤ n → n < bn → (10 ≤ bo n ∧ bo n ≤ 300) ∧ ban n = 2 ∧ bhd n = 2) (hep : ep = prF e5 em.toNat) (H : Heap) (locs : List Loc) (hP : va_P D vwCl ((rooW ad 0 cy fm fr) ++ ((airW ad 1 cy h su st sh fl cS cH (dnD h fl) (dnE h cS) (dnF h su st)) ++ ((airW ad 8 cy h su 0 0 0 (fun _ => 0) (fun _ => 0) (dnD h 0) (dnE h (fun _ => 0)) (dnF h su 0)) ++ ((grdW ad 15 cy sea noi) ++ ((rayW ad 18 cy (ur 0) (ur 1) (ur 2) (ur 3) (ur 4) (ur 5) (ur 6) (ur 7)) ++ ((sndW ad 19 cy 12 sn pl pw an hd fq) ++ ((sndW ad 25 cy 6 bn bp bw ban bhd bo) ++ ((conW ad 31 cy cm c1 c2 c3 c4 c5) ++ ((entW ad 37 cy em ep e1 e2 e3 e4 e5) ++ (outW od 0 cy o)))))))))) H) (hPm : va_P D vwCl (mdlW bd 0 cy th h su st sh fl 0 sn bn fm fr cm em lg le lf dl cS cH sea noi pl pw an hd bp bo bw c1 c2 c3 c4 c5 e1 e2 e3 e4 e5) H) (hD : va_D (fun q => z0 ≤ q) (((rooW ad 0 cy fm fr) ++ ((airW ad 1 cy h su st sh fl cS cH (dnD h fl) (dnE h cS) (dnF h su st)) ++ ((airW ad 8 cy h su 0 0 0 (fun _ => 0) (fun _ => 0) (dnD h 0) (dnE h (fun _ => 0)) (dnF h su 0)) ++ ((grdW ad 15 cy sea noi) ++ ((rayW ad 18 cy (ur 0) (ur 1) (ur 2) (ur 3) (ur 4) (ur 5) (ur 6) (ur 7)) ++ ((sndW ad 19 cy 12 sn pl pw an hd fq) ++ ((sndW ad 25 cy 6 bn bp bw ban bhd bo) ++ ((conW ad 31 cy cm c1 c2 c3 c4 c5) ++ ((entW ad 37 cy em ep e1 e2 e3 e4 e5) ++ (outW od 0 cy o)))))))))) ++ (mdlW bd 0 cy th h su st sh fl 0 sn bn fm fr cm em lg le lf dl cS cH sea noi pl pw an hd bp bo bw c1 c2 c3 c4 c5 e1 e2 e3 e4 e5))) (hS : va_S (fun q => z0 ≤ q) s.heap H locs) (ls : Array Slot) (hl : lv_has ls 7 [(0, .ref b), (1, .ref (ad 0)), (2, .ref (bd 0)), (3, .ref (od 0)), (4, .int (iI i))]), W p l e room_1 s m args below meth c H locs (cells + 6) (slots + 36) Q (F0 m 2286 ls [])
