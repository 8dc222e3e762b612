/-! what the calls keep -/
theorem zrg_zu {n lo hi i v : Int} {g : Int → Int} (h : zrg n lo hi g) (hv : lo ≤ v ∧ v ≤ hi) : zrg n lo hi (zu g i v) := fun j h0 h1 => by
  show lo ≤ (if j = i then v else g j) ∧ (if j = i then v else g j) ≤ hi
  split
  · exact hv
  · exact h j h0 h1
theorem zrg_zif {P : Prop} {n lo hi : Int} {f g : Int → Int} (hf : zrg n lo hi f) (hg : zrg n lo hi g) : zrg n lo hi (zifF P f g) := by
  rcases Classical.em P with h | h
  · rw [zifF_t h]; exact hf
  · rw [zifF_f h]; exact hg
theorem zif_rg {P : Prop} {a b lo hi : Int} (ha : lo ≤ a ∧ a ≤ hi) (hb : lo ≤ b ∧ b ≤ hi) : lo ≤ zif P a b ∧ zif P a b ≤ hi := by
  rcases Classical.em P with h | h
  · rw [zif_t h]; exact ha
  · rw [zif_f h]; exact hb
theorem zif_01 (P : Prop) : zif P 1 0 = 0 ∨ zif P 1 0 = 1 := by
  rcases Classical.em P with h | h
  · exact Or.inr (zif_t h)
  · exact Or.inl (zif_f h)
theorem zrg_pair {n lo hi em r : Int} {g : Int → Int} (h : zrg n lo hi g) (h1 : lo ≤ r ∧ r ≤ hi) (h2 : lo ≤ em ∧ em ≤ hi) : zrg n lo hi (zpair (zu g em r) em r) := by
  unfold zpair
  split
  · exact zrg_zu h h1
  · exact zrg_zu (zrg_zu h h1) h2
theorem hbo_add {bn f : Int} {bo : Int → Int} (h : ∀ n : Int, 0 ≤ n → n < bn → 10 ≤ bo n ∧ bo n ≤ 300) (hf : 10 ≤ f ∧ f ≤ 300) : ∀ n : Int, 0 ≤ n → n < bn + 1 → 10 ≤ zu bo bn f n ∧ zu bo bn f n ≤ 300 := fun n h0 h1 => by
  rcases Int.lt_or_le n bn with q | q
  · rw [zu_n _ _ (by omega)]; exact h n h0 q
  · rw [show n = bn from by omega, zu_s]; exact hf
theorem lowZ_p {e1 e2 e3 e4 e5 : Int → Int} {x y f t n : Int} (hn : 0 ≤ n) : lowZ (parP e1 e2 e3 e4 e5 x y f t) n = -1 ∨ (0 ≤ lowZ (parP e1 e2 e3 e4 e5 x y f t) n ∧ lowZ (parP e1 e2 e3 e4 e5 x y f t) n < n ∧ parP e1 e2 e3 e4 e5 x y f t (lowZ (parP e1 e2 e3 e4 e5 x y f t) n)) := by
  obtain ⟨r, h⟩ := isLow_exI (parP e1 e2 e3 e4 e5 x y f t) hn
  rw [lowZ_is h]
  rcases h with h | h
  · exact Or.inr ⟨h.1, h.2.1, h.2.2.1⟩
  · exact Or.inl h.1
/-- a new entry keeps the pairs both ways -/
theorem hpr_add {em x y f t : Int} {e1 e2 e3 e4 e5 : Int → Int} (hem : 0 ≤ em ∧ em ≤ 80) (h : ∀ n : Int, 0 ≤ n → n < em → parE em e1 e2 e3 e5 n) : ∀ n : Int, 0 ≤ n → n < em + 1 → parE (em + 1) (zu e1 em x) (zu e2 em y) (zu e3 em f) (zpair (zu e5 em (lowZ (parP e1 e2 e3 e4 e5 x y f t) em)) em (lowZ (parP e1 e2 e3 e4 e5 x y f t) em)) n := by
  have hw := lowZ_p (e1 := e1) (e2 := e2) (e3 := e3) (e4 := e4) (e5 := e5) (x := x) (y := y) (f := f) (t := t) hem.1
  revert hw
  generalize lowZ (parP e1 e2 e3 e4 e5 x y f t) em = r
  intro hw n h0 h1
  rcases hw with rfl | ⟨r0, r1, p5, p1, p2, p3, -⟩
  · rw [show zpair (zu e5 em (-1)) em (-1) = zu e5 em (-1) from if_pos rfl]
    unfold parE
    rcases Int.lt_or_le n em with q | q
    · rw [zu_n _ _ (show n ≠ em by omega), zu_n _ _ (show n ≠ em by omega), zu_n _ _ (show n ≠ em by omega), zu_n _ _ (show n ≠ em by omega)]
      rcases h n h0 q with a | ⟨⟨a0, a1⟩, a2, a3, a4, a5⟩
      · exact Or.inl a
      · refine Or.inr ⟨⟨a0, by omega⟩, ?_, ?_, ?_, ?_⟩
        · rw [zu_n _ _ (by omega)]; exact a2
        · rw [zu_n _ _ (by omega)]; exact a3
        · rw [zu_n _ _ (by omega)]; exact a4
        · rw [zu_n _ _ (by omega)]; exact a5
    · rw [show n = em from by omega, zu_s]
      exact Or.inl rfl
  · have hn : ¬ r = -1 := by omega
    rw [show zpair (zu e5 em r) em r = zu (zu e5 em r) r em from if_neg hn]
    unfold parE
    have k1 : zu (zu e5 em r) r em em = r := by rw [zu_n _ _ (by omega), zu_s]
    rcases Int.lt_or_le n em with q | q
    · by_cases hnr : n = r
      · subst hnr
        rw [zu_s (zu e5 em n) n em, k1]
        refine Or.inr ⟨⟨by omega, by omega⟩, rfl, ?_, ?_, ?_⟩
        · rw [zu_s, zu_n _ _ (by omega)]; exact p2.symm
        · rw [zu_s, zu_n _ _ (by omega)]; exact p1.symm
        · rw [zu_s, zu_n _ _ (by omega)]; exact p3.symm
      · have e1' : zu (zu e5 em r) r em n = e5 n := by rw [zu_n _ _ hnr, zu_n _ _ (by omega)]
        rw [e1', zu_n _ _ (show n ≠ em by omega), zu_n _ _ (show n ≠ em by omega), zu_n _ _ (show n ≠ em by omega)]
        rcases h n h0 q with a | ⟨⟨a0, a1⟩, a2, a3, a4, a5⟩
        · exact Or.inl a
        · have hne : e5 n ≠ r := fun z => by rw [z, p5] at a2; omega
          refine Or.inr ⟨⟨a0, by omega⟩, ?_, ?_, ?_, ?_⟩
          · rw [zu_n _ _ hne, zu_n _ _ (by omega)]; exact a2
          · rw [zu_n _ _ (by omega)]; exact a3
          · rw [zu_n _ _ (by omega)]; exact a4
          · rw [zu_n _ _ (by omega)]; exact a5
    · have hne : n = em := by omega
      rw [hne, k1]
      refine Or.inr ⟨⟨by omega, by omega⟩, zu_s _ _ _, ?_, ?_, ?_⟩
      · rw [zu_n _ _ (by omega), zu_s]; exact p1
      · rw [zu_n _ _ (by omega), zu_s]; exact p2
      · rw [zu_n _ _ (by omega), zu_s]; exact p3
theorem lrF_rg9 {dE dF dD kE kF kD sea noi : Int → Int} {h : Int} {bpl bpw ban bhd bfq : Int → Int} {q : Int} : ∀ n : Nat, 0 ≤ lrF dE dF dD kE kF kD sea noi h bpl bpw ban bhd bfq q n ∧ lrF dE dF dD kE kF kD sea noi h bpl bpw ban bhd bfq q n ≤ n
  | 0 => by unfold lrF; omega
  | n + 1 => by
    have ih := lrF_rg9 (dE := dE) (dF := dF) (dD := dD) (kE := kE) (kF := kF) (kD := kD) (sea := sea) (noi := noi) (h := h) (bpl := bpl) (bpw := bpw) (ban := ban) (bhd := bhd) (bfq := bfq) (q := q) n
    unfold lrF
    have h2 := zif_rg (P := (hrP sea noi h bpl bpw ban bhd bfq q dE dF dD n ↔ hrP sea noi h bpl bpw ban bhd bfq q kE kF kD n)) (a := lrF dE dF dD kE kF kD sea noi h bpl bpw ban bhd bfq q n + 1) (b := lrF dE dF dD kE kF kD sea noi h bpl bpw ban bhd bfq q n) (lo := 0) (hi := n + 1) (by omega) (by omega)
    omega
theorem R_sun_det {σ τ τ' : zSt} {v r r' : Int} (h : R_sun σ v r τ) (h' : R_sun σ v r' τ') : r = r' ∧ τ = τ' := by
  unfold R_sun at h h'
  have ex : ∀ (hN : ((0 ≤ v ∧ v ≤ 100))) (hB : (¬ (0 ≤ v ∧ v ≤ 100))), False := fun hN hB => absurd hN hB
  rcases h with ⟨hN, hV, hT⟩ | ⟨hB, hV, hT⟩ <;> rcases h' with ⟨hN', hV', hT'⟩ | ⟨hB', hV', hT'⟩
  · exact ⟨hV.trans hV'.symm, hT.trans hT'.symm⟩
  · exact (ex hN hB').elim
  · exact (ex hN' hB).elim
  · exact ⟨hV.trans hV'.symm, hT.trans hT'.symm⟩
theorem R_sun_inv {σ τ : zSt} {v r : Int} (hI : zInv σ) (h : R_sun σ v r τ) : zInv τ := by
  unfold R_sun at h
  rcases h with ⟨hN, hV, rfl⟩ | ⟨hB, hV, rfl⟩
  · obtain ⟨h_h, h_su, h_st, h_sh, h_fl, h_sn, h_bn, h_cm, h_em, h_ep, h_fr, g_cS, g_cH, g_sea, g_noi, g_pl, g_pw, g_an, g_hd, g_bp, g_bw, g_ban, g_bhd, g_c1, g_c2, g_c3, g_c4, g_c5, g_e1, g_e2, g_e3, g_e4, g_e5, hbo, hpr⟩ := hI
    skip
    show (0 ≤ (s_h σ) ∧ (s_h σ) ≤ 5000) ∧ (0 ≤ v ∧ v ≤ 100) ∧ (0 ≤ (s_st σ) ∧ (s_st σ) ≤ 60) ∧ (0 ≤ (s_sh σ) ∧ (s_sh σ) ≤ 72) ∧ (0 ≤ (s_fl σ) ∧ (s_fl σ) ≤ 80) ∧ (0 ≤ (s_sn σ) ∧ (s_sn σ) ≤ 12) ∧ (0 ≤ (s_bn σ) ∧ (s_bn σ) ≤ 6) ∧ (0 ≤ (s_cm σ) ∧ (s_cm σ) ≤ 60) ∧ (0 ≤ (s_em σ) ∧ (s_em σ) ≤ 80) ∧ ((0 ≤ (s_ep σ) ∧ (s_ep σ) ≤ 2 * (s_em σ)) ∧ (s_ep σ) % 2 = 0) ∧ (0 ≤ (s_fr σ) ∧ (s_fr σ) ≤ (s_fm σ)) ∧ (zrg 48 0 100 (s_cS σ)) ∧ (zrg 48 0 24 (s_cH σ)) ∧ (zrg 48 0 1 (s_sea σ)) ∧ (zrg 48 0 40 (s_noi σ)) ∧ (zrg 12 0 47 (s_pl σ)) ∧ (zrg 12 0 80 (s_pw σ)) ∧ (zrg 12 0 2 (s_an σ)) ∧ (zrg 12 0 2 (s_hd σ)) ∧ (zrg 6 0 47 (s_bp σ)) ∧ (zrg 6 0 80 (s_bw σ)) ∧ (zrg 6 0 2 (s_ban σ)) ∧ (zrg 6 0 2 (s_bhd σ)) ∧ (zrg 60 0 11 (s_c1 σ)) ∧ (zrg 60 0 11 (s_c2 σ)) ∧ (zrg 60 0 300 (s_c3 σ)) ∧ (zrg 60 0 2 (s_c4 σ)) ∧ (zrg 60 0 5000 (s_c5 σ)) ∧ (zrg 80 0 11 (s_e1 σ)) ∧ (zrg 80 0 11 (s_e2 σ)) ∧ (zrg 80 0 300 (s_e3 σ)) ∧ (zrg 80 0 5000 (s_e4 σ)) ∧ (zrg 80 (-1) 79 (s_e5 σ)) ∧ (∀ n : Int, 0 ≤ n → n < (s_bn σ) → 10 ≤ (s_bo σ) n ∧ (s_bo σ) n ≤ 300) ∧ (∀ n : Int, 0 ≤ n → n < (s_em σ) → parE (s_em σ) (s_e1 σ) (s_e2 σ) (s_e3 σ) (s_e5 σ) n)
    exact ⟨h_h, (by omega), h_st, h_sh, h_fl, h_sn, h_bn, h_cm, h_em, h_ep, h_fr, g_cS, g_cH, g_sea, g_noi, g_pl, g_pw, g_an, g_hd, g_bp, g_bw, g_ban, g_bhd, g_c1, g_c2, g_c3, g_c4, g_c5, g_e1, g_e2, g_e3, g_e4, g_e5, hbo, hpr⟩
  · exact hI
theorem R_sun_thr {σ τ : zSt} {v r : Int} (hI : zInv σ) (h : R_sun σ v r τ) (hr : iI r = iI (-2000000000)) : τ = σ := by
  unfold R_sun at h
  rcases h with ⟨hN, hV, hT⟩ | ⟨hB, hV, hT⟩
  · obtain ⟨h_h, h_su, h_st, h_sh, h_fl, h_sn, h_bn, h_cm, h_em, h_ep, h_fr, g_cS, g_cH, g_sea, g_noi, g_pl, g_pw, g_an, g_hd, g_bp, g_bw, g_ban, g_bhd, g_c1, g_c2, g_c3, g_c4, g_c5, g_e1, g_e2, g_e3, g_e4, g_e5, hbo, hpr⟩ := hI
    exfalso
    have h9 := h_su
    have h8 := (iI_eq (a := r) (b := (-2000000000)) (by omega) ⟨by decide, by decide⟩).mp hr
    omega
  · exact hT
theorem R_sun_fm {σ τ : zSt} {v r : Int} (hI : zInv σ) (h : R_sun σ v r τ) : s_fm τ ≤ s_fm σ + 6 := by
  unfold R_sun at h
  rcases h with ⟨hN, hV, rfl⟩ | ⟨hB, hV, rfl⟩
  · obtain ⟨h_h, h_su, h_st, h_sh, h_fl, h_sn, h_bn, h_cm, h_em, h_ep, h_fr, g_cS, g_cH, g_sea, g_noi, g_pl, g_pw, g_an, g_hd, g_bp, g_bw, g_ban, g_bhd, g_c1, g_c2, g_c3, g_c4, g_c5, g_e1, g_e2, g_e3, g_e4, g_e5, hbo, hpr⟩ := hI
    show s_fm σ ≤ s_fm σ + 6
    omega
  · omega
theorem R_storm_det {σ τ τ' : zSt} {v k r r' : Int} (h : R_storm σ v k r τ) (h' : R_storm σ v k r' τ') : r = r' ∧ τ = τ' := by
  unfold R_storm at h h'
  have ex : ∀ (hN : (((1 ≤ v ∧ v ≤ 60) ∧ (1 ≤ k ∧ k ≤ 72)))) (hB : (¬ ((1 ≤ v ∧ v ≤ 60) ∧ (1 ≤ k ∧ k ≤ 72)))), False := fun hN hB => absurd hN hB
  rcases h with ⟨hN, hV, hT⟩ | ⟨hB, hV, hT⟩ <;> rcases h' with ⟨hN', hV', hT'⟩ | ⟨hB', hV', hT'⟩
  · exact ⟨hV.trans hV'.symm, hT.trans hT'.symm⟩
  · exact (ex hN hB').elim
  · exact (ex hN' hB).elim
  · exact ⟨hV.trans hV'.symm, hT.trans hT'.symm⟩
theorem R_storm_inv {σ τ : zSt} {v k r : Int} (hI : zInv σ) (h : R_storm σ v k r τ) : zInv τ := by
  unfold R_storm at h
  rcases h with ⟨hN, hV, rfl⟩ | ⟨hB, hV, rfl⟩
  · obtain ⟨h_h, h_su, h_st, h_sh, h_fl, h_sn, h_bn, h_cm, h_em, h_ep, h_fr, g_cS, g_cH, g_sea, g_noi, g_pl, g_pw, g_an, g_hd, g_bp, g_bw, g_ban, g_bhd, g_c1, g_c2, g_c3, g_c4, g_c5, g_e1, g_e2, g_e3, g_e4, g_e5, hbo, hpr⟩ := hI
    skip
    show (0 ≤ (s_h σ) ∧ (s_h σ) ≤ 5000) ∧ (0 ≤ (s_su σ) ∧ (s_su σ) ≤ 100) ∧ (0 ≤ v ∧ v ≤ 60) ∧ (0 ≤ k ∧ k ≤ 72) ∧ (0 ≤ (s_fl σ) ∧ (s_fl σ) ≤ 80) ∧ (0 ≤ (s_sn σ) ∧ (s_sn σ) ≤ 12) ∧ (0 ≤ (s_bn σ) ∧ (s_bn σ) ≤ 6) ∧ (0 ≤ (s_cm σ) ∧ (s_cm σ) ≤ 60) ∧ (0 ≤ (s_em σ) ∧ (s_em σ) ≤ 80) ∧ ((0 ≤ (s_ep σ) ∧ (s_ep σ) ≤ 2 * (s_em σ)) ∧ (s_ep σ) % 2 = 0) ∧ (0 ≤ (s_fr σ) ∧ (s_fr σ) ≤ (s_fm σ)) ∧ (zrg 48 0 100 (s_cS σ)) ∧ (zrg 48 0 24 (s_cH σ)) ∧ (zrg 48 0 1 (s_sea σ)) ∧ (zrg 48 0 40 (s_noi σ)) ∧ (zrg 12 0 47 (s_pl σ)) ∧ (zrg 12 0 80 (s_pw σ)) ∧ (zrg 12 0 2 (s_an σ)) ∧ (zrg 12 0 2 (s_hd σ)) ∧ (zrg 6 0 47 (s_bp σ)) ∧ (zrg 6 0 80 (s_bw σ)) ∧ (zrg 6 0 2 (s_ban σ)) ∧ (zrg 6 0 2 (s_bhd σ)) ∧ (zrg 60 0 11 (s_c1 σ)) ∧ (zrg 60 0 11 (s_c2 σ)) ∧ (zrg 60 0 300 (s_c3 σ)) ∧ (zrg 60 0 2 (s_c4 σ)) ∧ (zrg 60 0 5000 (s_c5 σ)) ∧ (zrg 80 0 11 (s_e1 σ)) ∧ (zrg 80 0 11 (s_e2 σ)) ∧ (zrg 80 0 300 (s_e3 σ)) ∧ (zrg 80 0 5000 (s_e4 σ)) ∧ (zrg 80 (-1) 79 (s_e5 σ)) ∧ (∀ n : Int, 0 ≤ n → n < (s_bn σ) → 10 ≤ (s_bo σ) n ∧ (s_bo σ) n ≤ 300) ∧ (∀ n : Int, 0 ≤ n → n < (s_em σ) → parE (s_em σ) (s_e1 σ) (s_e2 σ) (s_e3 σ) (s_e5 σ) n)
    exact ⟨h_h, h_su, (by omega), (by omega), h_fl, h_sn, h_bn, h_cm, h_em, h_ep, h_fr, g_cS, g_cH, g_sea, g_noi, g_pl, g_pw, g_an, g_hd, g_bp, g_bw, g_ban, g_bhd, g_c1, g_c2, g_c3, g_c4, g_c5, g_e1, g_e2, g_e3, g_e4, g_e5, hbo, hpr⟩
  · exact hI
theorem R_storm_thr {σ τ : zSt} {v k r : Int} (hI : zInv σ) (h : R_storm σ v k r τ) (hr : iI r = iI (-2000000000)) : τ = σ := by
  unfold R_storm at h
  rcases h with ⟨hN, hV, hT⟩ | ⟨hB, hV, hT⟩
  · obtain ⟨h_h, h_su, h_st, h_sh, h_fl, h_sn, h_bn, h_cm, h_em, h_ep, h_fr, g_cS, g_cH, g_sea, g_noi, g_pl, g_pw, g_an, g_hd, g_bp, g_bw, g_ban, g_bhd, g_c1, g_c2, g_c3, g_c4, g_c5, g_e1, g_e2, g_e3, g_e4, g_e5, hbo, hpr⟩ := hI
    exfalso
    skip
    have h8 := (iI_eq (a := r) (b := (-2000000000)) (by omega) ⟨by decide, by decide⟩).mp hr
    omega
  · exact hT
theorem R_storm_fm {σ τ : zSt} {v k r : Int} (hI : zInv σ) (h : R_storm σ v k r τ) : s_fm τ ≤ s_fm σ + 6 := by
  unfold R_storm at h
  rcases h with ⟨hN, hV, rfl⟩ | ⟨hB, hV, rfl⟩
  · obtain ⟨h_h, h_su, h_st, h_sh, h_fl, h_sn, h_bn, h_cm, h_em, h_ep, h_fr, g_cS, g_cH, g_sea, g_noi, g_pl, g_pw, g_an, g_hd, g_bp, g_bw, g_ban, g_bhd, g_c1, g_c2, g_c3, g_c4, g_c5, g_e1, g_e2, g_e3, g_e4, g_e5, hbo, hpr⟩ := hI
    show s_fm σ ≤ s_fm σ + 6
    omega
  · omega
theorem R_flare_det {σ τ τ' : zSt} {v r r' : Int} (h : R_flare σ v r τ) (h' : R_flare σ v r' τ') : r = r' ∧ τ = τ' := by
  unfold R_flare at h h'
  have ex : ∀ (hN : ((1 ≤ v ∧ v ≤ 80))) (hB : (¬ (1 ≤ v ∧ v ≤ 80))), False := fun hN hB => absurd hN hB
  rcases h with ⟨hN, hV, hT⟩ | ⟨hB, hV, hT⟩ <;> rcases h' with ⟨hN', hV', hT'⟩ | ⟨hB', hV', hT'⟩
  · exact ⟨hV.trans hV'.symm, hT.trans hT'.symm⟩
  · exact (ex hN hB').elim
  · exact (ex hN' hB).elim
  · exact ⟨hV.trans hV'.symm, hT.trans hT'.symm⟩
theorem R_flare_inv {σ τ : zSt} {v r : Int} (hI : zInv σ) (h : R_flare σ v r τ) : zInv τ := by
  unfold R_flare at h
  rcases h with ⟨hN, hV, rfl⟩ | ⟨hB, hV, rfl⟩
  · obtain ⟨h_h, h_su, h_st, h_sh, h_fl, h_sn, h_bn, h_cm, h_em, h_ep, h_fr, g_cS, g_cH, g_sea, g_noi, g_pl, g_pw, g_an, g_hd, g_bp, g_bw, g_ban, g_bhd, g_c1, g_c2, g_c3, g_c4, g_c5, g_e1, g_e2, g_e3, g_e4, g_e5, hbo, hpr⟩ := hI
    skip
    show (0 ≤ (s_h σ) ∧ (s_h σ) ≤ 5000) ∧ (0 ≤ (s_su σ) ∧ (s_su σ) ≤ 100) ∧ (0 ≤ (s_st σ) ∧ (s_st σ) ≤ 60) ∧ (0 ≤ (s_sh σ) ∧ (s_sh σ) ≤ 72) ∧ (0 ≤ v ∧ v ≤ 80) ∧ (0 ≤ (s_sn σ) ∧ (s_sn σ) ≤ 12) ∧ (0 ≤ (s_bn σ) ∧ (s_bn σ) ≤ 6) ∧ (0 ≤ (s_cm σ) ∧ (s_cm σ) ≤ 60) ∧ (0 ≤ (s_em σ) ∧ (s_em σ) ≤ 80) ∧ ((0 ≤ (s_ep σ) ∧ (s_ep σ) ≤ 2 * (s_em σ)) ∧ (s_ep σ) % 2 = 0) ∧ (0 ≤ (s_fr σ) ∧ (s_fr σ) ≤ (s_fm σ)) ∧ (zrg 48 0 100 (s_cS σ)) ∧ (zrg 48 0 24 (s_cH σ)) ∧ (zrg 48 0 1 (s_sea σ)) ∧ (zrg 48 0 40 (s_noi σ)) ∧ (zrg 12 0 47 (s_pl σ)) ∧ (zrg 12 0 80 (s_pw σ)) ∧ (zrg 12 0 2 (s_an σ)) ∧ (zrg 12 0 2 (s_hd σ)) ∧ (zrg 6 0 47 (s_bp σ)) ∧ (zrg 6 0 80 (s_bw σ)) ∧ (zrg 6 0 2 (s_ban σ)) ∧ (zrg 6 0 2 (s_bhd σ)) ∧ (zrg 60 0 11 (s_c1 σ)) ∧ (zrg 60 0 11 (s_c2 σ)) ∧ (zrg 60 0 300 (s_c3 σ)) ∧ (zrg 60 0 2 (s_c4 σ)) ∧ (zrg 60 0 5000 (s_c5 σ)) ∧ (zrg 80 0 11 (s_e1 σ)) ∧ (zrg 80 0 11 (s_e2 σ)) ∧ (zrg 80 0 300 (s_e3 σ)) ∧ (zrg 80 0 5000 (s_e4 σ)) ∧ (zrg 80 (-1) 79 (s_e5 σ)) ∧ (∀ n : Int, 0 ≤ n → n < (s_bn σ) → 10 ≤ (s_bo σ) n ∧ (s_bo σ) n ≤ 300) ∧ (∀ n : Int, 0 ≤ n → n < (s_em σ) → parE (s_em σ) (s_e1 σ) (s_e2 σ) (s_e3 σ) (s_e5 σ) n)
    exact ⟨h_h, h_su, h_st, h_sh, (by omega), h_sn, h_bn, h_cm, h_em, h_ep, h_fr, g_cS, g_cH, g_sea, g_noi, g_pl, g_pw, g_an, g_hd, g_bp, g_bw, g_ban, g_bhd, g_c1, g_c2, g_c3, g_c4, g_c5, g_e1, g_e2, g_e3, g_e4, g_e5, hbo, hpr⟩
  · exact hI
theorem R_flare_thr {σ τ : zSt} {v r : Int} (hI : zInv σ) (h : R_flare σ v r τ) (hr : iI r = iI (-2000000000)) : τ = σ := by
  unfold R_flare at h
  rcases h with ⟨hN, hV, hT⟩ | ⟨hB, hV, hT⟩
  · obtain ⟨h_h, h_su, h_st, h_sh, h_fl, h_sn, h_bn, h_cm, h_em, h_ep, h_fr, g_cS, g_cH, g_sea, g_noi, g_pl, g_pw, g_an, g_hd, g_bp, g_bw, g_ban, g_bhd, g_c1, g_c2, g_c3, g_c4, g_c5, g_e1, g_e2, g_e3, g_e4, g_e5, hbo, hpr⟩ := hI
    exfalso
    have h9 := h_fl
    have h8 := (iI_eq (a := r) (b := (-2000000000)) (by omega) ⟨by decide, by decide⟩).mp hr
    omega
  · exact hT
theorem R_flare_fm {σ τ : zSt} {v r : Int} (hI : zInv σ) (h : R_flare σ v r τ) : s_fm τ ≤ s_fm σ + 6 := by
  unfold R_flare at h
  rcases h with ⟨hN, hV, rfl⟩ | ⟨hB, hV, rfl⟩
  · obtain ⟨h_h, h_su, h_st, h_sh, h_fl, h_sn, h_bn, h_cm, h_em, h_ep, h_fr, g_cS, g_cH, g_sea, g_noi, g_pl, g_pw, g_an, g_hd, g_bp, g_bw, g_ban, g_bhd, g_c1, g_c2, g_c3, g_c4, g_c5, g_e1, g_e2, g_e3, g_e4, g_e5, hbo, hpr⟩ := hI
    show s_fm σ ≤ s_fm σ + 6
    omega
  · omega
theorem R_cloud_det {σ τ τ' : zSt} {q v k r r' : Int} (h : R_cloud σ q v k r τ) (h' : R_cloud σ q v k r' τ') : r = r' ∧ τ = τ' := by
  unfold R_cloud at h h'
  have ex : ∀ (hN : ((0 ≤ q ∧ q < 48) ∧ ((1 ≤ v ∧ v ≤ 100) ∧ (1 ≤ k ∧ k ≤ 24)))) (hB : (¬ (0 ≤ q ∧ q < 48)) ∨ ((0 ≤ q ∧ q < 48) ∧ ¬ ((1 ≤ v ∧ v ≤ 100) ∧ (1 ≤ k ∧ k ≤ 24)))), False := fun hN hB => (by rcases hB with hB | hB; exact absurd hN.1 hB; exact absurd hN.2 hB.2)
  rcases h with ⟨hN, hV, hT⟩ | ⟨hB, hV, hT⟩ <;> rcases h' with ⟨hN', hV', hT'⟩ | ⟨hB', hV', hT'⟩
  · exact ⟨hV.trans hV'.symm, hT.trans hT'.symm⟩
  · exact (ex hN hB').elim
  · exact (ex hN' hB).elim
  · exact ⟨hV.trans hV'.symm, hT.trans hT'.symm⟩
theorem R_cloud_inv {σ τ : zSt} {q v k r : Int} (hI : zInv σ) (h : R_cloud σ q v k r τ) : zInv τ := by
  unfold R_cloud at h
  rcases h with ⟨hN, hV, rfl⟩ | ⟨hB, hV, rfl⟩
  · obtain ⟨h_h, h_su, h_st, h_sh, h_fl, h_sn, h_bn, h_cm, h_em, h_ep, h_fr, g_cS, g_cH, g_sea, g_noi, g_pl, g_pw, g_an, g_hd, g_bp, g_bw, g_ban, g_bhd, g_c1, g_c2, g_c3, g_c4, g_c5, g_e1, g_e2, g_e3, g_e4, g_e5, hbo, hpr⟩ := hI
    skip
    show (0 ≤ (s_h σ) ∧ (s_h σ) ≤ 5000) ∧ (0 ≤ (s_su σ) ∧ (s_su σ) ≤ 100) ∧ (0 ≤ (s_st σ) ∧ (s_st σ) ≤ 60) ∧ (0 ≤ (s_sh σ) ∧ (s_sh σ) ≤ 72) ∧ (0 ≤ (s_fl σ) ∧ (s_fl σ) ≤ 80) ∧ (0 ≤ (s_sn σ) ∧ (s_sn σ) ≤ 12) ∧ (0 ≤ (s_bn σ) ∧ (s_bn σ) ≤ 6) ∧ (0 ≤ (s_cm σ) ∧ (s_cm σ) ≤ 60) ∧ (0 ≤ (s_em σ) ∧ (s_em σ) ≤ 80) ∧ ((0 ≤ (s_ep σ) ∧ (s_ep σ) ≤ 2 * (s_em σ)) ∧ (s_ep σ) % 2 = 0) ∧ (0 ≤ (s_fr σ) ∧ (s_fr σ) ≤ (s_fm σ)) ∧ (zrg 48 0 100 (zu (s_cS σ) q v)) ∧ (zrg 48 0 24 (zu (s_cH σ) q k)) ∧ (zrg 48 0 1 (s_sea σ)) ∧ (zrg 48 0 40 (s_noi σ)) ∧ (zrg 12 0 47 (s_pl σ)) ∧ (zrg 12 0 80 (s_pw σ)) ∧ (zrg 12 0 2 (s_an σ)) ∧ (zrg 12 0 2 (s_hd σ)) ∧ (zrg 6 0 47 (s_bp σ)) ∧ (zrg 6 0 80 (s_bw σ)) ∧ (zrg 6 0 2 (s_ban σ)) ∧ (zrg 6 0 2 (s_bhd σ)) ∧ (zrg 60 0 11 (s_c1 σ)) ∧ (zrg 60 0 11 (s_c2 σ)) ∧ (zrg 60 0 300 (s_c3 σ)) ∧ (zrg 60 0 2 (s_c4 σ)) ∧ (zrg 60 0 5000 (s_c5 σ)) ∧ (zrg 80 0 11 (s_e1 σ)) ∧ (zrg 80 0 11 (s_e2 σ)) ∧ (zrg 80 0 300 (s_e3 σ)) ∧ (zrg 80 0 5000 (s_e4 σ)) ∧ (zrg 80 (-1) 79 (s_e5 σ)) ∧ (∀ n : Int, 0 ≤ n → n < (s_bn σ) → 10 ≤ (s_bo σ) n ∧ (s_bo σ) n ≤ 300) ∧ (∀ n : Int, 0 ≤ n → n < (s_em σ) → parE (s_em σ) (s_e1 σ) (s_e2 σ) (s_e3 σ) (s_e5 σ) n)
    exact ⟨h_h, h_su, h_st, h_sh, h_fl, h_sn, h_bn, h_cm, h_em, h_ep, h_fr, (zrg_zu g_cS (by omega)), (zrg_zu g_cH (by omega)), g_sea, g_noi, g_pl, g_pw, g_an, g_hd, g_bp, g_bw, g_ban, g_bhd, g_c1, g_c2, g_c3, g_c4, g_c5, g_e1, g_e2, g_e3, g_e4, g_e5, hbo, hpr⟩
  · exact hI
theorem R_cloud_thr {σ τ : zSt} {q v k r : Int} (hI : zInv σ) (h : R_cloud σ q v k r τ) (hr : iI r = iI (-2000000000)) : τ = σ := by
  unfold R_cloud at h
  rcases h with ⟨hN, hV, hT⟩ | ⟨hB, hV, hT⟩
  · obtain ⟨h_h, h_su, h_st, h_sh, h_fl, h_sn, h_bn, h_cm, h_em, h_ep, h_fr, g_cS, g_cH, g_sea, g_noi, g_pl, g_pw, g_an, g_hd, g_bp, g_bw, g_ban, g_bhd, g_c1, g_c2, g_c3, g_c4, g_c5, g_e1, g_e2, g_e3, g_e4, g_e5, hbo, hpr⟩ := hI
    exfalso
    skip
    have h8 := (iI_eq (a := r) (b := (-2000000000)) (by omega) ⟨by decide, by decide⟩).mp hr
    omega
  · exact hT
theorem R_cloud_fm {σ τ : zSt} {q v k r : Int} (hI : zInv σ) (h : R_cloud σ q v k r τ) : s_fm τ ≤ s_fm σ + 6 := by
  unfold R_cloud at h
  rcases h with ⟨hN, hV, rfl⟩ | ⟨hB, hV, rfl⟩
  · obtain ⟨h_h, h_su, h_st, h_sh, h_fl, h_sn, h_bn, h_cm, h_em, h_ep, h_fr, g_cS, g_cH, g_sea, g_noi, g_pl, g_pw, g_an, g_hd, g_bp, g_bw, g_ban, g_bhd, g_c1, g_c2, g_c3, g_c4, g_c5, g_e1, g_e2, g_e3, g_e4, g_e5, hbo, hpr⟩ := hI
    show s_fm σ ≤ s_fm σ + 6
    omega
  · omega
theorem R_sea_det {σ τ τ' : zSt} {q z r r' : Int} (h : R_sea σ q z r τ) (h' : R_sea σ q z r' τ') : r = r' ∧ τ = τ' := by
  unfold R_sea at h h'
  have ex : ∀ (hN : ((0 ≤ q ∧ q < 48))) (hB : (¬ (0 ≤ q ∧ q < 48))), False := fun hN hB => absurd hN hB
  rcases h with ⟨hN, hV, hT⟩ | ⟨hB, hV, hT⟩ <;> rcases h' with ⟨hN', hV', hT'⟩ | ⟨hB', hV', hT'⟩
  · exact ⟨hV.trans hV'.symm, hT.trans hT'.symm⟩
  · exact (ex hN hB').elim
  · exact (ex hN' hB).elim
  · exact ⟨hV.trans hV'.symm, hT.trans hT'.symm⟩
theorem R_sea_inv {σ τ : zSt} {q z r : Int} (hz : 0 ≤ z ∧ z ≤ 1) (hI : zInv σ) (h : R_sea σ q z r τ) : zInv τ := by
  unfold R_sea at h
  rcases h with ⟨hN, hV, rfl⟩ | ⟨hB, hV, rfl⟩
  · obtain ⟨h_h, h_su, h_st, h_sh, h_fl, h_sn, h_bn, h_cm, h_em, h_ep, h_fr, g_cS, g_cH, g_sea, g_noi, g_pl, g_pw, g_an, g_hd, g_bp, g_bw, g_ban, g_bhd, g_c1, g_c2, g_c3, g_c4, g_c5, g_e1, g_e2, g_e3, g_e4, g_e5, hbo, hpr⟩ := hI
    skip
    show (0 ≤ (s_h σ) ∧ (s_h σ) ≤ 5000) ∧ (0 ≤ (s_su σ) ∧ (s_su σ) ≤ 100) ∧ (0 ≤ (s_st σ) ∧ (s_st σ) ≤ 60) ∧ (0 ≤ (s_sh σ) ∧ (s_sh σ) ≤ 72) ∧ (0 ≤ (s_fl σ) ∧ (s_fl σ) ≤ 80) ∧ (0 ≤ (s_sn σ) ∧ (s_sn σ) ≤ 12) ∧ (0 ≤ (s_bn σ) ∧ (s_bn σ) ≤ 6) ∧ (0 ≤ (s_cm σ) ∧ (s_cm σ) ≤ 60) ∧ (0 ≤ (s_em σ) ∧ (s_em σ) ≤ 80) ∧ ((0 ≤ (s_ep σ) ∧ (s_ep σ) ≤ 2 * (s_em σ)) ∧ (s_ep σ) % 2 = 0) ∧ (0 ≤ (s_fr σ) ∧ (s_fr σ) ≤ (s_fm σ)) ∧ (zrg 48 0 100 (s_cS σ)) ∧ (zrg 48 0 24 (s_cH σ)) ∧ (zrg 48 0 1 (zu (s_sea σ) q z)) ∧ (zrg 48 0 40 (s_noi σ)) ∧ (zrg 12 0 47 (s_pl σ)) ∧ (zrg 12 0 80 (s_pw σ)) ∧ (zrg 12 0 2 (s_an σ)) ∧ (zrg 12 0 2 (s_hd σ)) ∧ (zrg 6 0 47 (s_bp σ)) ∧ (zrg 6 0 80 (s_bw σ)) ∧ (zrg 6 0 2 (s_ban σ)) ∧ (zrg 6 0 2 (s_bhd σ)) ∧ (zrg 60 0 11 (s_c1 σ)) ∧ (zrg 60 0 11 (s_c2 σ)) ∧ (zrg 60 0 300 (s_c3 σ)) ∧ (zrg 60 0 2 (s_c4 σ)) ∧ (zrg 60 0 5000 (s_c5 σ)) ∧ (zrg 80 0 11 (s_e1 σ)) ∧ (zrg 80 0 11 (s_e2 σ)) ∧ (zrg 80 0 300 (s_e3 σ)) ∧ (zrg 80 0 5000 (s_e4 σ)) ∧ (zrg 80 (-1) 79 (s_e5 σ)) ∧ (∀ n : Int, 0 ≤ n → n < (s_bn σ) → 10 ≤ (s_bo σ) n ∧ (s_bo σ) n ≤ 300) ∧ (∀ n : Int, 0 ≤ n → n < (s_em σ) → parE (s_em σ) (s_e1 σ) (s_e2 σ) (s_e3 σ) (s_e5 σ) n)
    exact ⟨h_h, h_su, h_st, h_sh, h_fl, h_sn, h_bn, h_cm, h_em, h_ep, h_fr, g_cS, g_cH, (zrg_zu g_sea (by omega)), g_noi, g_pl, g_pw, g_an, g_hd, g_bp, g_bw, g_ban, g_bhd, g_c1, g_c2, g_c3, g_c4, g_c5, g_e1, g_e2, g_e3, g_e4, g_e5, hbo, hpr⟩
  · exact hI
theorem R_sea_thr {σ τ : zSt} {q z r : Int} (hI : zInv σ) (h : R_sea σ q z r τ) (hr : iI r = iI (-2000000000)) : τ = σ := by
  unfold R_sea at h
  rcases h with ⟨hN, hV, hT⟩ | ⟨hB, hV, hT⟩
  · obtain ⟨h_h, h_su, h_st, h_sh, h_fl, h_sn, h_bn, h_cm, h_em, h_ep, h_fr, g_cS, g_cH, g_sea, g_noi, g_pl, g_pw, g_an, g_hd, g_bp, g_bw, g_ban, g_bhd, g_c1, g_c2, g_c3, g_c4, g_c5, g_e1, g_e2, g_e3, g_e4, g_e5, hbo, hpr⟩ := hI
    exfalso
    have h9 := g_sea q (by omega) (by omega)
    have h8 := (iI_eq (a := r) (b := (-2000000000)) (by omega) ⟨by decide, by decide⟩).mp hr
    omega
  · exact hT
theorem R_sea_fm {σ τ : zSt} {q z r : Int} (hI : zInv σ) (h : R_sea σ q z r τ) : s_fm τ ≤ s_fm σ + 6 := by
  unfold R_sea at h
  rcases h with ⟨hN, hV, rfl⟩ | ⟨hB, hV, rfl⟩
  · obtain ⟨h_h, h_su, h_st, h_sh, h_fl, h_sn, h_bn, h_cm, h_em, h_ep, h_fr, g_cS, g_cH, g_sea, g_noi, g_pl, g_pw, g_an, g_hd, g_bp, g_bw, g_ban, g_bhd, g_c1, g_c2, g_c3, g_c4, g_c5, g_e1, g_e2, g_e3, g_e4, g_e5, hbo, hpr⟩ := hI
    show s_fm σ ≤ s_fm σ + 6
    omega
  · omega
theorem R_noise_det {σ τ τ' : zSt} {q v r r' : Int} (h : R_noise σ q v r τ) (h' : R_noise σ q v r' τ') : r = r' ∧ τ = τ' := by
  unfold R_noise at h h'
  have ex : ∀ (hN : ((0 ≤ q ∧ q < 48) ∧ (0 ≤ v ∧ v ≤ 40))) (hB : (¬ (0 ≤ q ∧ q < 48)) ∨ ((0 ≤ q ∧ q < 48) ∧ ¬ (0 ≤ v ∧ v ≤ 40))), False := fun hN hB => (by rcases hB with hB | hB; exact absurd hN.1 hB; exact absurd hN.2 hB.2)
  rcases h with ⟨hN, hV, hT⟩ | ⟨hB, hV, hT⟩ <;> rcases h' with ⟨hN', hV', hT'⟩ | ⟨hB', hV', hT'⟩
  · exact ⟨hV.trans hV'.symm, hT.trans hT'.symm⟩
  · exact (ex hN hB').elim
  · exact (ex hN' hB).elim
  · exact ⟨hV.trans hV'.symm, hT.trans hT'.symm⟩
theorem R_noise_inv {σ τ : zSt} {q v r : Int} (hI : zInv σ) (h : R_noise σ q v r τ) : zInv τ := by
  unfold R_noise at h
  rcases h with ⟨hN, hV, rfl⟩ | ⟨hB, hV, rfl⟩
  · obtain ⟨h_h, h_su, h_st, h_sh, h_fl, h_sn, h_bn, h_cm, h_em, h_ep, h_fr, g_cS, g_cH, g_sea, g_noi, g_pl, g_pw, g_an, g_hd, g_bp, g_bw, g_ban, g_bhd, g_c1, g_c2, g_c3, g_c4, g_c5, g_e1, g_e2, g_e3, g_e4, g_e5, hbo, hpr⟩ := hI
    skip
    show (0 ≤ (s_h σ) ∧ (s_h σ) ≤ 5000) ∧ (0 ≤ (s_su σ) ∧ (s_su σ) ≤ 100) ∧ (0 ≤ (s_st σ) ∧ (s_st σ) ≤ 60) ∧ (0 ≤ (s_sh σ) ∧ (s_sh σ) ≤ 72) ∧ (0 ≤ (s_fl σ) ∧ (s_fl σ) ≤ 80) ∧ (0 ≤ (s_sn σ) ∧ (s_sn σ) ≤ 12) ∧ (0 ≤ (s_bn σ) ∧ (s_bn σ) ≤ 6) ∧ (0 ≤ (s_cm σ) ∧ (s_cm σ) ≤ 60) ∧ (0 ≤ (s_em σ) ∧ (s_em σ) ≤ 80) ∧ ((0 ≤ (s_ep σ) ∧ (s_ep σ) ≤ 2 * (s_em σ)) ∧ (s_ep σ) % 2 = 0) ∧ (0 ≤ (s_fr σ) ∧ (s_fr σ) ≤ (s_fm σ)) ∧ (zrg 48 0 100 (s_cS σ)) ∧ (zrg 48 0 24 (s_cH σ)) ∧ (zrg 48 0 1 (s_sea σ)) ∧ (zrg 48 0 40 (zu (s_noi σ) q v)) ∧ (zrg 12 0 47 (s_pl σ)) ∧ (zrg 12 0 80 (s_pw σ)) ∧ (zrg 12 0 2 (s_an σ)) ∧ (zrg 12 0 2 (s_hd σ)) ∧ (zrg 6 0 47 (s_bp σ)) ∧ (zrg 6 0 80 (s_bw σ)) ∧ (zrg 6 0 2 (s_ban σ)) ∧ (zrg 6 0 2 (s_bhd σ)) ∧ (zrg 60 0 11 (s_c1 σ)) ∧ (zrg 60 0 11 (s_c2 σ)) ∧ (zrg 60 0 300 (s_c3 σ)) ∧ (zrg 60 0 2 (s_c4 σ)) ∧ (zrg 60 0 5000 (s_c5 σ)) ∧ (zrg 80 0 11 (s_e1 σ)) ∧ (zrg 80 0 11 (s_e2 σ)) ∧ (zrg 80 0 300 (s_e3 σ)) ∧ (zrg 80 0 5000 (s_e4 σ)) ∧ (zrg 80 (-1) 79 (s_e5 σ)) ∧ (∀ n : Int, 0 ≤ n → n < (s_bn σ) → 10 ≤ (s_bo σ) n ∧ (s_bo σ) n ≤ 300) ∧ (∀ n : Int, 0 ≤ n → n < (s_em σ) → parE (s_em σ) (s_e1 σ) (s_e2 σ) (s_e3 σ) (s_e5 σ) n)
    exact ⟨h_h, h_su, h_st, h_sh, h_fl, h_sn, h_bn, h_cm, h_em, h_ep, h_fr, g_cS, g_cH, g_sea, (zrg_zu g_noi (by omega)), g_pl, g_pw, g_an, g_hd, g_bp, g_bw, g_ban, g_bhd, g_c1, g_c2, g_c3, g_c4, g_c5, g_e1, g_e2, g_e3, g_e4, g_e5, hbo, hpr⟩
  · exact hI
theorem R_noise_thr {σ τ : zSt} {q v r : Int} (hI : zInv σ) (h : R_noise σ q v r τ) (hr : iI r = iI (-2000000000)) : τ = σ := by
  unfold R_noise at h
  rcases h with ⟨hN, hV, hT⟩ | ⟨hB, hV, hT⟩
  · obtain ⟨h_h, h_su, h_st, h_sh, h_fl, h_sn, h_bn, h_cm, h_em, h_ep, h_fr, g_cS, g_cH, g_sea, g_noi, g_pl, g_pw, g_an, g_hd, g_bp, g_bw, g_ban, g_bhd, g_c1, g_c2, g_c3, g_c4, g_c5, g_e1, g_e2, g_e3, g_e4, g_e5, hbo, hpr⟩ := hI
    exfalso
    have h9 := g_noi q (by omega) (by omega)
    have h8 := (iI_eq (a := r) (b := (-2000000000)) (by omega) ⟨by decide, by decide⟩).mp hr
    omega
  · exact hT
theorem R_noise_fm {σ τ : zSt} {q v r : Int} (hI : zInv σ) (h : R_noise σ q v r τ) : s_fm τ ≤ s_fm σ + 6 := by
  unfold R_noise at h
  rcases h with ⟨hN, hV, rfl⟩ | ⟨hB, hV, rfl⟩
  · obtain ⟨h_h, h_su, h_st, h_sh, h_fl, h_sn, h_bn, h_cm, h_em, h_ep, h_fr, g_cS, g_cH, g_sea, g_noi, g_pl, g_pw, g_an, g_hd, g_bp, g_bw, g_ban, g_bhd, g_c1, g_c2, g_c3, g_c4, g_c5, g_e1, g_e2, g_e3, g_e4, g_e5, hbo, hpr⟩ := hI
    show s_fm σ ≤ s_fm σ + 6
    omega
  · omega
theorem R_pass_det {σ τ τ' : zSt} {k r r' : Int} (h : R_pass σ k r τ) (h' : R_pass σ k r' τ') : r = r' ∧ τ = τ' := by
  unfold R_pass at h h'
  have ex : ∀ (hN : ((1 ≤ k ∧ k ≤ 48) ∧ ((s_h σ) + k ≤ 5000))) (hB : (¬ (1 ≤ k ∧ k ≤ 48)) ∨ ((1 ≤ k ∧ k ≤ 48) ∧ ¬ ((s_h σ) + k ≤ 5000))), False := fun hN hB => (by rcases hB with hB | hB; exact absurd hN.1 hB; exact absurd hN.2 hB.2)
  rcases h with ⟨hN, hV, hT⟩ | ⟨hB, hV, hT⟩ <;> rcases h' with ⟨hN', hV', hT'⟩ | ⟨hB', hV', hT'⟩
  · exact ⟨hV.trans hV'.symm, hT.trans hT'.symm⟩
  · exact (ex hN hB').elim
  · exact (ex hN' hB).elim
  · exact ⟨hV.trans hV'.symm, hT.trans hT'.symm⟩
theorem R_pass_inv {σ τ : zSt} {k r : Int} (hI : zInv σ) (h : R_pass σ k r τ) : zInv τ := by
  unfold R_pass at h
  rcases h with ⟨hN, hV, rfl⟩ | ⟨hB, hV, rfl⟩
  · obtain ⟨h_h, h_su, h_st, h_sh, h_fl, h_sn, h_bn, h_cm, h_em, h_ep, h_fr, g_cS, g_cH, g_sea, g_noi, g_pl, g_pw, g_an, g_hd, g_bp, g_bw, g_ban, g_bhd, g_c1, g_c2, g_c3, g_c4, g_c5, g_e1, g_e2, g_e3, g_e4, g_e5, hbo, hpr⟩ := hI
    skip
    show (0 ≤ ((s_h σ) + k) ∧ ((s_h σ) + k) ≤ 5000) ∧ (0 ≤ (s_su σ) ∧ (s_su σ) ≤ 100) ∧ (0 ≤ (stK k (s_st σ) (s_sh σ)) ∧ (stK k (s_st σ) (s_sh σ)) ≤ 60) ∧ (0 ≤ (max 0 ((s_sh σ) - k)) ∧ (max 0 ((s_sh σ) - k)) ≤ 72) ∧ (0 ≤ (flK k.toNat (s_fl σ)) ∧ (flK k.toNat (s_fl σ)) ≤ 80) ∧ (0 ≤ (s_sn σ) ∧ (s_sn σ) ≤ 12) ∧ (0 ≤ (s_bn σ) ∧ (s_bn σ) ≤ 6) ∧ (0 ≤ (s_cm σ) ∧ (s_cm σ) ≤ 60) ∧ (0 ≤ (s_em σ) ∧ (s_em σ) ≤ 80) ∧ ((0 ≤ (s_ep σ) ∧ (s_ep σ) ≤ 2 * (s_em σ)) ∧ (s_ep σ) % 2 = 0) ∧ (0 ≤ (s_fr σ) ∧ (s_fr σ) ≤ (s_fm σ)) ∧ (zrg 48 0 100 (cSK k (s_cS σ) (s_cH σ))) ∧ (zrg 48 0 24 (cHK k (s_cH σ))) ∧ (zrg 48 0 1 (s_sea σ)) ∧ (zrg 48 0 40 (s_noi σ)) ∧ (zrg 12 0 47 (s_pl σ)) ∧ (zrg 12 0 80 (s_pw σ)) ∧ (zrg 12 0 2 (s_an σ)) ∧ (zrg 12 0 2 (s_hd σ)) ∧ (zrg 6 0 47 (s_bp σ)) ∧ (zrg 6 0 80 (s_bw σ)) ∧ (zrg 6 0 2 (s_ban σ)) ∧ (zrg 6 0 2 (s_bhd σ)) ∧ (zrg 60 0 11 (s_c1 σ)) ∧ (zrg 60 0 11 (s_c2 σ)) ∧ (zrg 60 0 300 (s_c3 σ)) ∧ (zrg 60 0 2 (s_c4 σ)) ∧ (zrg 60 0 5000 (s_c5 σ)) ∧ (zrg 80 0 11 (s_e1 σ)) ∧ (zrg 80 0 11 (s_e2 σ)) ∧ (zrg 80 0 300 (s_e3 σ)) ∧ (zrg 80 0 5000 (s_e4 σ)) ∧ (zrg 80 (-1) 79 (s_e5 σ)) ∧ (∀ n : Int, 0 ≤ n → n < (s_bn σ) → 10 ≤ (s_bo σ) n ∧ (s_bo σ) n ≤ 300) ∧ (∀ n : Int, 0 ≤ n → n < (s_em σ) → parE (s_em σ) (s_e1 σ) (s_e2 σ) (s_e3 σ) (s_e5 σ) n)
    exact ⟨(by omega), h_su, (stK_rg h_st), (by omega), (flK_rg h_fl _), h_sn, h_bn, h_cm, h_em, h_ep, h_fr, (cSK_rg g_cS), (cHK_rg (by omega) g_cH), g_sea, g_noi, g_pl, g_pw, g_an, g_hd, g_bp, g_bw, g_ban, g_bhd, g_c1, g_c2, g_c3, g_c4, g_c5, g_e1, g_e2, g_e3, g_e4, g_e5, hbo, hpr⟩
  · exact hI
theorem R_pass_thr {σ τ : zSt} {k r : Int} (hI : zInv σ) (h : R_pass σ k r τ) (hr : iI r = iI (-2000000000)) : τ = σ := by
  unfold R_pass at h
  rcases h with ⟨hN, hV, hT⟩ | ⟨hB, hV, hT⟩
  · obtain ⟨h_h, h_su, h_st, h_sh, h_fl, h_sn, h_bn, h_cm, h_em, h_ep, h_fr, g_cS, g_cH, g_sea, g_noi, g_pl, g_pw, g_an, g_hd, g_bp, g_bw, g_ban, g_bhd, g_c1, g_c2, g_c3, g_c4, g_c5, g_e1, g_e2, g_e3, g_e4, g_e5, hbo, hpr⟩ := hI
    exfalso
    skip
    have h8 := (iI_eq (a := r) (b := (-2000000000)) (by omega) ⟨by decide, by decide⟩).mp hr
    omega
  · exact hT
theorem R_pass_fm {σ τ : zSt} {k r : Int} (hI : zInv σ) (h : R_pass σ k r τ) : s_fm τ ≤ s_fm σ + 6 := by
  unfold R_pass at h
  rcases h with ⟨hN, hV, rfl⟩ | ⟨hB, hV, rfl⟩
  · obtain ⟨h_h, h_su, h_st, h_sh, h_fl, h_sn, h_bn, h_cm, h_em, h_ep, h_fr, g_cS, g_cH, g_sea, g_noi, g_pl, g_pw, g_an, g_hd, g_bp, g_bw, g_ban, g_bhd, g_c1, g_c2, g_c3, g_c4, g_c5, g_e1, g_e2, g_e3, g_e4, g_e5, hbo, hpr⟩ := hI
    show s_fm σ ≤ s_fm σ + 6
    omega
  · omega
theorem R_station_det {σ τ τ' : zSt} {q v a d r r' : Int} (h : R_station σ q v a d r τ) (h' : R_station σ q v a d r' τ') : r = r' ∧ τ = τ' := by
  unfold R_station at h h'
  have ex : ∀ (hN : ((0 ≤ q ∧ q < 48) ∧ ((1 ≤ v ∧ v ≤ 80) ∧ (0 ≤ a ∧ a ≤ 2) ∧ (0 ≤ d ∧ d ≤ 2)) ∧ ((s_sn σ) < 12))) (hB : (¬ (0 ≤ q ∧ q < 48)) ∨ ((0 ≤ q ∧ q < 48) ∧ ¬ ((1 ≤ v ∧ v ≤ 80) ∧ (0 ≤ a ∧ a ≤ 2) ∧ (0 ≤ d ∧ d ≤ 2))) ∨ ((0 ≤ q ∧ q < 48) ∧ ((1 ≤ v ∧ v ≤ 80) ∧ (0 ≤ a ∧ a ≤ 2) ∧ (0 ≤ d ∧ d ≤ 2)) ∧ ¬ ((s_sn σ) < 12))), False := fun hN hB => (by rcases hB with hB | hB | hB; exact absurd hN.1 hB; exact absurd hN.2.1 hB.2; exact absurd hN.2.2 hB.2.2)
  rcases h with ⟨hN, hV, hT⟩ | ⟨hB, hV, hT⟩ <;> rcases h' with ⟨hN', hV', hT'⟩ | ⟨hB', hV', hT'⟩
  · exact ⟨hV.trans hV'.symm, hT.trans hT'.symm⟩
  · exact (ex hN hB').elim
  · exact (ex hN' hB).elim
  · exact ⟨hV.trans hV'.symm, hT.trans hT'.symm⟩
theorem R_station_inv {σ τ : zSt} {q v a d r : Int} (hI : zInv σ) (h : R_station σ q v a d r τ) : zInv τ := by
  unfold R_station at h
  rcases h with ⟨hN, hV, rfl⟩ | ⟨hB, hV, rfl⟩
  · obtain ⟨h_h, h_su, h_st, h_sh, h_fl, h_sn, h_bn, h_cm, h_em, h_ep, h_fr, g_cS, g_cH, g_sea, g_noi, g_pl, g_pw, g_an, g_hd, g_bp, g_bw, g_ban, g_bhd, g_c1, g_c2, g_c3, g_c4, g_c5, g_e1, g_e2, g_e3, g_e4, g_e5, hbo, hpr⟩ := hI
    skip
    show (0 ≤ (s_h σ) ∧ (s_h σ) ≤ 5000) ∧ (0 ≤ (s_su σ) ∧ (s_su σ) ≤ 100) ∧ (0 ≤ (s_st σ) ∧ (s_st σ) ≤ 60) ∧ (0 ≤ (s_sh σ) ∧ (s_sh σ) ≤ 72) ∧ (0 ≤ (s_fl σ) ∧ (s_fl σ) ≤ 80) ∧ (0 ≤ ((s_sn σ) + 1) ∧ ((s_sn σ) + 1) ≤ 12) ∧ (0 ≤ (s_bn σ) ∧ (s_bn σ) ≤ 6) ∧ (0 ≤ (s_cm σ) ∧ (s_cm σ) ≤ 60) ∧ (0 ≤ (s_em σ) ∧ (s_em σ) ≤ 80) ∧ ((0 ≤ (s_ep σ) ∧ (s_ep σ) ≤ 2 * (s_em σ)) ∧ (s_ep σ) % 2 = 0) ∧ (0 ≤ (s_fr σ) ∧ (s_fr σ) ≤ (s_fm σ)) ∧ (zrg 48 0 100 (s_cS σ)) ∧ (zrg 48 0 24 (s_cH σ)) ∧ (zrg 48 0 1 (s_sea σ)) ∧ (zrg 48 0 40 (s_noi σ)) ∧ (zrg 12 0 47 (zu (s_pl σ) (s_sn σ) q)) ∧ (zrg 12 0 80 (zu (s_pw σ) (s_sn σ) v)) ∧ (zrg 12 0 2 (zu (s_an σ) (s_sn σ) a)) ∧ (zrg 12 0 2 (zu (s_hd σ) (s_sn σ) d)) ∧ (zrg 6 0 47 (s_bp σ)) ∧ (zrg 6 0 80 (s_bw σ)) ∧ (zrg 6 0 2 (s_ban σ)) ∧ (zrg 6 0 2 (s_bhd σ)) ∧ (zrg 60 0 11 (s_c1 σ)) ∧ (zrg 60 0 11 (s_c2 σ)) ∧ (zrg 60 0 300 (s_c3 σ)) ∧ (zrg 60 0 2 (s_c4 σ)) ∧ (zrg 60 0 5000 (s_c5 σ)) ∧ (zrg 80 0 11 (s_e1 σ)) ∧ (zrg 80 0 11 (s_e2 σ)) ∧ (zrg 80 0 300 (s_e3 σ)) ∧ (zrg 80 0 5000 (s_e4 σ)) ∧ (zrg 80 (-1) 79 (s_e5 σ)) ∧ (∀ n : Int, 0 ≤ n → n < (s_bn σ) → 10 ≤ (s_bo σ) n ∧ (s_bo σ) n ≤ 300) ∧ (∀ n : Int, 0 ≤ n → n < (s_em σ) → parE (s_em σ) (s_e1 σ) (s_e2 σ) (s_e3 σ) (s_e5 σ) n)
    exact ⟨h_h, h_su, h_st, h_sh, h_fl, (by omega), h_bn, h_cm, h_em, h_ep, h_fr, g_cS, g_cH, g_sea, g_noi, (zrg_zu g_pl (by omega)), (zrg_zu g_pw (by omega)), (zrg_zu g_an (by omega)), (zrg_zu g_hd (by omega)), g_bp, g_bw, g_ban, g_bhd, g_c1, g_c2, g_c3, g_c4, g_c5, g_e1, g_e2, g_e3, g_e4, g_e5, hbo, hpr⟩
  · exact hI
theorem R_station_thr {σ τ : zSt} {q v a d r : Int} (hI : zInv σ) (h : R_station σ q v a d r τ) (hr : iI r = iI (-2000000000)) : τ = σ := by
  unfold R_station at h
  rcases h with ⟨hN, hV, hT⟩ | ⟨hB, hV, hT⟩
  · obtain ⟨h_h, h_su, h_st, h_sh, h_fl, h_sn, h_bn, h_cm, h_em, h_ep, h_fr, g_cS, g_cH, g_sea, g_noi, g_pl, g_pw, g_an, g_hd, g_bp, g_bw, g_ban, g_bhd, g_c1, g_c2, g_c3, g_c4, g_c5, g_e1, g_e2, g_e3, g_e4, g_e5, hbo, hpr⟩ := hI
    exfalso
    skip
    have h8 := (iI_eq (a := r) (b := (-2000000000)) (by omega) ⟨by decide, by decide⟩).mp hr
    omega
  · exact hT
theorem R_station_fm {σ τ : zSt} {q v a d r : Int} (hI : zInv σ) (h : R_station σ q v a d r τ) : s_fm τ ≤ s_fm σ + 6 := by
  unfold R_station at h
  rcases h with ⟨hN, hV, rfl⟩ | ⟨hB, hV, rfl⟩
  · obtain ⟨h_h, h_su, h_st, h_sh, h_fl, h_sn, h_bn, h_cm, h_em, h_ep, h_fr, g_cS, g_cH, g_sea, g_noi, g_pl, g_pw, g_an, g_hd, g_bp, g_bw, g_ban, g_bhd, g_c1, g_c2, g_c3, g_c4, g_c5, g_e1, g_e2, g_e3, g_e4, g_e5, hbo, hpr⟩ := hI
    show s_fm σ ≤ s_fm σ + 6
    omega
  · omega
theorem R_beacon_det {σ τ τ' : zSt} {q f v r r' : Int} (h : R_beacon σ q f v r τ) (h' : R_beacon σ q f v r' τ') : r = r' ∧ τ = τ' := by
  unfold R_beacon at h h'
  have ex : ∀ (hN : ((0 ≤ q ∧ q < 48) ∧ ((10 ≤ f ∧ f ≤ 300) ∧ (1 ≤ v ∧ v ≤ 80)) ∧ ((s_bn σ) < 6))) (hB : (¬ (0 ≤ q ∧ q < 48)) ∨ ((0 ≤ q ∧ q < 48) ∧ ¬ ((10 ≤ f ∧ f ≤ 300) ∧ (1 ≤ v ∧ v ≤ 80))) ∨ ((0 ≤ q ∧ q < 48) ∧ ((10 ≤ f ∧ f ≤ 300) ∧ (1 ≤ v ∧ v ≤ 80)) ∧ ¬ ((s_bn σ) < 6))), False := fun hN hB => (by rcases hB with hB | hB | hB; exact absurd hN.1 hB; exact absurd hN.2.1 hB.2; exact absurd hN.2.2 hB.2.2)
  rcases h with ⟨hN, hV, hT⟩ | ⟨hB, hV, hT⟩ <;> rcases h' with ⟨hN', hV', hT'⟩ | ⟨hB', hV', hT'⟩
  · exact ⟨hV.trans hV'.symm, hT.trans hT'.symm⟩
  · exact (ex hN hB').elim
  · exact (ex hN' hB).elim
  · exact ⟨hV.trans hV'.symm, hT.trans hT'.symm⟩
theorem R_beacon_inv {σ τ : zSt} {q f v r : Int} (hI : zInv σ) (h : R_beacon σ q f v r τ) : zInv τ := by
  unfold R_beacon at h
  rcases h with ⟨hN, hV, rfl⟩ | ⟨hB, hV, rfl⟩
  · obtain ⟨h_h, h_su, h_st, h_sh, h_fl, h_sn, h_bn, h_cm, h_em, h_ep, h_fr, g_cS, g_cH, g_sea, g_noi, g_pl, g_pw, g_an, g_hd, g_bp, g_bw, g_ban, g_bhd, g_c1, g_c2, g_c3, g_c4, g_c5, g_e1, g_e2, g_e3, g_e4, g_e5, hbo, hpr⟩ := hI
    skip
    show (0 ≤ (s_h σ) ∧ (s_h σ) ≤ 5000) ∧ (0 ≤ (s_su σ) ∧ (s_su σ) ≤ 100) ∧ (0 ≤ (s_st σ) ∧ (s_st σ) ≤ 60) ∧ (0 ≤ (s_sh σ) ∧ (s_sh σ) ≤ 72) ∧ (0 ≤ (s_fl σ) ∧ (s_fl σ) ≤ 80) ∧ (0 ≤ (s_sn σ) ∧ (s_sn σ) ≤ 12) ∧ (0 ≤ ((s_bn σ) + 1) ∧ ((s_bn σ) + 1) ≤ 6) ∧ (0 ≤ (s_cm σ) ∧ (s_cm σ) ≤ 60) ∧ (0 ≤ (s_em σ) ∧ (s_em σ) ≤ 80) ∧ ((0 ≤ (s_ep σ) ∧ (s_ep σ) ≤ 2 * (s_em σ)) ∧ (s_ep σ) % 2 = 0) ∧ (0 ≤ (s_fr σ) ∧ (s_fr σ) ≤ (s_fm σ)) ∧ (zrg 48 0 100 (s_cS σ)) ∧ (zrg 48 0 24 (s_cH σ)) ∧ (zrg 48 0 1 (s_sea σ)) ∧ (zrg 48 0 40 (s_noi σ)) ∧ (zrg 12 0 47 (s_pl σ)) ∧ (zrg 12 0 80 (s_pw σ)) ∧ (zrg 12 0 2 (s_an σ)) ∧ (zrg 12 0 2 (s_hd σ)) ∧ (zrg 6 0 47 (zu (s_bp σ) (s_bn σ) q)) ∧ (zrg 6 0 80 (zu (s_bw σ) (s_bn σ) v)) ∧ (zrg 6 0 2 (zu (s_ban σ) (s_bn σ) 2)) ∧ (zrg 6 0 2 (zu (s_bhd σ) (s_bn σ) 2)) ∧ (zrg 60 0 11 (s_c1 σ)) ∧ (zrg 60 0 11 (s_c2 σ)) ∧ (zrg 60 0 300 (s_c3 σ)) ∧ (zrg 60 0 2 (s_c4 σ)) ∧ (zrg 60 0 5000 (s_c5 σ)) ∧ (zrg 80 0 11 (s_e1 σ)) ∧ (zrg 80 0 11 (s_e2 σ)) ∧ (zrg 80 0 300 (s_e3 σ)) ∧ (zrg 80 0 5000 (s_e4 σ)) ∧ (zrg 80 (-1) 79 (s_e5 σ)) ∧ (∀ n : Int, 0 ≤ n → n < ((s_bn σ) + 1) → 10 ≤ (zu (s_bo σ) (s_bn σ) f) n ∧ (zu (s_bo σ) (s_bn σ) f) n ≤ 300) ∧ (∀ n : Int, 0 ≤ n → n < (s_em σ) → parE (s_em σ) (s_e1 σ) (s_e2 σ) (s_e3 σ) (s_e5 σ) n)
    exact ⟨h_h, h_su, h_st, h_sh, h_fl, h_sn, (by omega), h_cm, h_em, h_ep, h_fr, g_cS, g_cH, g_sea, g_noi, g_pl, g_pw, g_an, g_hd, (zrg_zu g_bp (by omega)), (zrg_zu g_bw (by omega)), (zrg_zu g_ban (by omega)), (zrg_zu g_bhd (by omega)), g_c1, g_c2, g_c3, g_c4, g_c5, g_e1, g_e2, g_e3, g_e4, g_e5, (hbo_add hbo (by omega)), hpr⟩
  · exact hI
theorem R_beacon_thr {σ τ : zSt} {q f v r : Int} (hI : zInv σ) (h : R_beacon σ q f v r τ) (hr : iI r = iI (-2000000000)) : τ = σ := by
  unfold R_beacon at h
  rcases h with ⟨hN, hV, hT⟩ | ⟨hB, hV, hT⟩
  · obtain ⟨h_h, h_su, h_st, h_sh, h_fl, h_sn, h_bn, h_cm, h_em, h_ep, h_fr, g_cS, g_cH, g_sea, g_noi, g_pl, g_pw, g_an, g_hd, g_bp, g_bw, g_ban, g_bhd, g_c1, g_c2, g_c3, g_c4, g_c5, g_e1, g_e2, g_e3, g_e4, g_e5, hbo, hpr⟩ := hI
    exfalso
    skip
    have h8 := (iI_eq (a := r) (b := (-2000000000)) (by omega) ⟨by decide, by decide⟩).mp hr
    omega
  · exact hT
theorem R_beacon_fm {σ τ : zSt} {q f v r : Int} (hI : zInv σ) (h : R_beacon σ q f v r τ) : s_fm τ ≤ s_fm σ + 6 := by
  unfold R_beacon at h
  rcases h with ⟨hN, hV, rfl⟩ | ⟨hB, hV, rfl⟩
  · obtain ⟨h_h, h_su, h_st, h_sh, h_fl, h_sn, h_bn, h_cm, h_em, h_ep, h_fr, g_cS, g_cH, g_sea, g_noi, g_pl, g_pw, g_an, g_hd, g_bp, g_bw, g_ban, g_bhd, g_c1, g_c2, g_c3, g_c4, g_c5, g_e1, g_e2, g_e3, g_e4, g_e5, hbo, hpr⟩ := hI
    show s_fm σ ≤ s_fm σ + 6
    omega
  · omega
theorem R_call_det {σ τ τ' : zSt} {x y f md r r' : Int} (h : R_call σ x y f md r τ) (h' : R_call σ x y f md r' τ') : r = r' ∧ τ = τ' := by
  unfold R_call at h h'
  have ex : ∀ (hN : (((0 ≤ x ∧ x < (s_sn σ)) ∧ (0 ≤ y ∧ y < (s_sn σ))) ∧ ((10 ≤ f ∧ f ≤ 300) ∧ (0 ≤ md ∧ md ≤ 2) ∧ (¬ x = y)) ∧ ((s_cm σ) < 60))) (hB : (¬ ((0 ≤ x ∧ x < (s_sn σ)) ∧ (0 ≤ y ∧ y < (s_sn σ)))) ∨ (((0 ≤ x ∧ x < (s_sn σ)) ∧ (0 ≤ y ∧ y < (s_sn σ))) ∧ ¬ ((10 ≤ f ∧ f ≤ 300) ∧ (0 ≤ md ∧ md ≤ 2) ∧ (¬ x = y))) ∨ (((0 ≤ x ∧ x < (s_sn σ)) ∧ (0 ≤ y ∧ y < (s_sn σ))) ∧ ((10 ≤ f ∧ f ≤ 300) ∧ (0 ≤ md ∧ md ≤ 2) ∧ (¬ x = y)) ∧ ¬ ((s_cm σ) < 60))), False := fun hN hB => (by rcases hB with hB | hB | hB; exact absurd hN.1 hB; exact absurd hN.2.1 hB.2; exact absurd hN.2.2 hB.2.2)
  rcases h with ⟨hN, hV, hT⟩ | ⟨hB, hV, hT⟩ <;> rcases h' with ⟨hN', hV', hT'⟩ | ⟨hB', hV', hT'⟩
  · exact ⟨hV.trans hV'.symm, hT.trans hT'.symm⟩
  · exact (ex hN hB').elim
  · exact (ex hN' hB).elim
  · exact ⟨hV.trans hV'.symm, hT.trans hT'.symm⟩
theorem R_call_inv {σ τ : zSt} {x y f md r : Int} (hI : zInv σ) (h : R_call σ x y f md r τ) : zInv τ := by
  unfold R_call at h
  rcases h with ⟨hN, hV, rfl⟩ | ⟨hB, hV, rfl⟩
  · obtain ⟨h_h, h_su, h_st, h_sh, h_fl, h_sn, h_bn, h_cm, h_em, h_ep, h_fr, g_cS, g_cH, g_sea, g_noi, g_pl, g_pw, g_an, g_hd, g_bp, g_bw, g_ban, g_bhd, g_c1, g_c2, g_c3, g_c4, g_c5, g_e1, g_e2, g_e3, g_e4, g_e5, hbo, hpr⟩ := hI
    skip
    show (0 ≤ (s_h σ) ∧ (s_h σ) ≤ 5000) ∧ (0 ≤ (s_su σ) ∧ (s_su σ) ≤ 100) ∧ (0 ≤ (s_st σ) ∧ (s_st σ) ≤ 60) ∧ (0 ≤ (s_sh σ) ∧ (s_sh σ) ≤ 72) ∧ (0 ≤ (s_fl σ) ∧ (s_fl σ) ≤ 80) ∧ (0 ≤ (s_sn σ) ∧ (s_sn σ) ≤ 12) ∧ (0 ≤ (s_bn σ) ∧ (s_bn σ) ≤ 6) ∧ (0 ≤ (zif (callP (dnE (s_h σ) (s_cS σ)) (dnF (s_h σ) (s_su σ) (s_st σ)) (dnD (s_h σ) (s_fl σ)) (s_sea σ) (s_noi σ) (s_h σ) (s_pl σ) (s_pw σ) (s_an σ) (s_hd σ) x y f md) ((s_cm σ) + 1) (s_cm σ)) ∧ (zif (callP (dnE (s_h σ) (s_cS σ)) (dnF (s_h σ) (s_su σ) (s_st σ)) (dnD (s_h σ) (s_fl σ)) (s_sea σ) (s_noi σ) (s_h σ) (s_pl σ) (s_pw σ) (s_an σ) (s_hd σ) x y f md) ((s_cm σ) + 1) (s_cm σ)) ≤ 60) ∧ (0 ≤ (s_em σ) ∧ (s_em σ) ≤ 80) ∧ ((0 ≤ (s_ep σ) ∧ (s_ep σ) ≤ 2 * (s_em σ)) ∧ (s_ep σ) % 2 = 0) ∧ (0 ≤ (s_fr σ) ∧ (s_fr σ) ≤ (s_fm σ)) ∧ (zrg 48 0 100 (s_cS σ)) ∧ (zrg 48 0 24 (s_cH σ)) ∧ (zrg 48 0 1 (s_sea σ)) ∧ (zrg 48 0 40 (s_noi σ)) ∧ (zrg 12 0 47 (s_pl σ)) ∧ (zrg 12 0 80 (s_pw σ)) ∧ (zrg 12 0 2 (s_an σ)) ∧ (zrg 12 0 2 (s_hd σ)) ∧ (zrg 6 0 47 (s_bp σ)) ∧ (zrg 6 0 80 (s_bw σ)) ∧ (zrg 6 0 2 (s_ban σ)) ∧ (zrg 6 0 2 (s_bhd σ)) ∧ (zrg 60 0 11 (zifF (callP (dnE (s_h σ) (s_cS σ)) (dnF (s_h σ) (s_su σ) (s_st σ)) (dnD (s_h σ) (s_fl σ)) (s_sea σ) (s_noi σ) (s_h σ) (s_pl σ) (s_pw σ) (s_an σ) (s_hd σ) x y f md) (zu (s_c1 σ) (s_cm σ) x) (s_c1 σ))) ∧ (zrg 60 0 11 (zifF (callP (dnE (s_h σ) (s_cS σ)) (dnF (s_h σ) (s_su σ) (s_st σ)) (dnD (s_h σ) (s_fl σ)) (s_sea σ) (s_noi σ) (s_h σ) (s_pl σ) (s_pw σ) (s_an σ) (s_hd σ) x y f md) (zu (s_c2 σ) (s_cm σ) y) (s_c2 σ))) ∧ (zrg 60 0 300 (zifF (callP (dnE (s_h σ) (s_cS σ)) (dnF (s_h σ) (s_su σ) (s_st σ)) (dnD (s_h σ) (s_fl σ)) (s_sea σ) (s_noi σ) (s_h σ) (s_pl σ) (s_pw σ) (s_an σ) (s_hd σ) x y f md) (zu (s_c3 σ) (s_cm σ) f) (s_c3 σ))) ∧ (zrg 60 0 2 (zifF (callP (dnE (s_h σ) (s_cS σ)) (dnF (s_h σ) (s_su σ) (s_st σ)) (dnD (s_h σ) (s_fl σ)) (s_sea σ) (s_noi σ) (s_h σ) (s_pl σ) (s_pw σ) (s_an σ) (s_hd σ) x y f md) (zu (s_c4 σ) (s_cm σ) md) (s_c4 σ))) ∧ (zrg 60 0 5000 (zifF (callP (dnE (s_h σ) (s_cS σ)) (dnF (s_h σ) (s_su σ) (s_st σ)) (dnD (s_h σ) (s_fl σ)) (s_sea σ) (s_noi σ) (s_h σ) (s_pl σ) (s_pw σ) (s_an σ) (s_hd σ) x y f md) (zu (s_c5 σ) (s_cm σ) (s_h σ)) (s_c5 σ))) ∧ (zrg 80 0 11 (s_e1 σ)) ∧ (zrg 80 0 11 (s_e2 σ)) ∧ (zrg 80 0 300 (s_e3 σ)) ∧ (zrg 80 0 5000 (s_e4 σ)) ∧ (zrg 80 (-1) 79 (s_e5 σ)) ∧ (∀ n : Int, 0 ≤ n → n < (s_bn σ) → 10 ≤ (s_bo σ) n ∧ (s_bo σ) n ≤ 300) ∧ (∀ n : Int, 0 ≤ n → n < (s_em σ) → parE (s_em σ) (s_e1 σ) (s_e2 σ) (s_e3 σ) (s_e5 σ) n)
    exact ⟨h_h, h_su, h_st, h_sh, h_fl, h_sn, h_bn, (zif_rg (by omega) (by omega)), h_em, h_ep, h_fr, g_cS, g_cH, g_sea, g_noi, g_pl, g_pw, g_an, g_hd, g_bp, g_bw, g_ban, g_bhd, (zrg_zif (zrg_zu g_c1 (by omega)) g_c1), (zrg_zif (zrg_zu g_c2 (by omega)) g_c2), (zrg_zif (zrg_zu g_c3 (by omega)) g_c3), (zrg_zif (zrg_zu g_c4 (by omega)) g_c4), (zrg_zif (zrg_zu g_c5 (by omega)) g_c5), g_e1, g_e2, g_e3, g_e4, g_e5, hbo, hpr⟩
  · exact hI
theorem R_call_thr {σ τ : zSt} {x y f md r : Int} (hI : zInv σ) (h : R_call σ x y f md r τ) (hr : iI r = iI (-2000000000)) : τ = σ := by
  unfold R_call at h
  rcases h with ⟨hN, hV, hT⟩ | ⟨hB, hV, hT⟩
  · obtain ⟨h_h, h_su, h_st, h_sh, h_fl, h_sn, h_bn, h_cm, h_em, h_ep, h_fr, g_cS, g_cH, g_sea, g_noi, g_pl, g_pw, g_an, g_hd, g_bp, g_bw, g_ban, g_bhd, g_c1, g_c2, g_c3, g_c4, g_c5, g_e1, g_e2, g_e3, g_e4, g_e5, hbo, hpr⟩ := hI
    exfalso
    have h9 := zif_01 (callP (dnE (s_h σ) (s_cS σ)) (dnF (s_h σ) (s_su σ) (s_st σ)) (dnD (s_h σ) (s_fl σ)) (s_sea σ) (s_noi σ) (s_h σ) (s_pl σ) (s_pw σ) (s_an σ) (s_hd σ) x y f md)
    have h8 := (iI_eq (a := r) (b := (-2000000000)) (by omega) ⟨by decide, by decide⟩).mp hr
    omega
  · exact hT
theorem R_call_fm {σ τ : zSt} {x y f md r : Int} (hI : zInv σ) (h : R_call σ x y f md r τ) : s_fm τ ≤ s_fm σ + 6 := by
  unfold R_call at h
  rcases h with ⟨hN, hV, rfl⟩ | ⟨hB, hV, rfl⟩
  · obtain ⟨h_h, h_su, h_st, h_sh, h_fl, h_sn, h_bn, h_cm, h_em, h_ep, h_fr, g_cS, g_cH, g_sea, g_noi, g_pl, g_pw, g_an, g_hd, g_bp, g_bw, g_ban, g_bhd, g_c1, g_c2, g_c3, g_c4, g_c5, g_e1, g_e2, g_e3, g_e4, g_e5, hbo, hpr⟩ := hI
    show s_fm σ ≤ s_fm σ + 6
    omega
  · omega
theorem R_log_det {σ τ τ' : zSt} {x y f r r' : Int} (h : R_log σ x y f r τ) (h' : R_log σ x y f r' τ') : r = r' ∧ τ = τ' := by
  unfold R_log at h h'
  have ex : ∀ (hN : (((0 ≤ x ∧ x < (s_sn σ)) ∧ (0 ≤ y ∧ y < (s_sn σ))) ∧ ((10 ≤ f ∧ f ≤ 300) ∧ (¬ x = y)) ∧ ((s_em σ) < 80))) (hB : (¬ ((0 ≤ x ∧ x < (s_sn σ)) ∧ (0 ≤ y ∧ y < (s_sn σ)))) ∨ (((0 ≤ x ∧ x < (s_sn σ)) ∧ (0 ≤ y ∧ y < (s_sn σ))) ∧ ¬ ((10 ≤ f ∧ f ≤ 300) ∧ (¬ x = y))) ∨ (((0 ≤ x ∧ x < (s_sn σ)) ∧ (0 ≤ y ∧ y < (s_sn σ))) ∧ ((10 ≤ f ∧ f ≤ 300) ∧ (¬ x = y)) ∧ ¬ ((s_em σ) < 80))), False := fun hN hB => (by rcases hB with hB | hB | hB; exact absurd hN.1 hB; exact absurd hN.2.1 hB.2; exact absurd hN.2.2 hB.2.2)
  rcases h with ⟨hN, hV, hT⟩ | ⟨hB, hV, hT⟩ <;> rcases h' with ⟨hN', hV', hT'⟩ | ⟨hB', hV', hT'⟩
  · exact ⟨hV.trans hV'.symm, hT.trans hT'.symm⟩
  · exact (ex hN hB').elim
  · exact (ex hN' hB).elim
  · exact ⟨hV.trans hV'.symm, hT.trans hT'.symm⟩
theorem R_log_inv {σ τ : zSt} {x y f r : Int} (hI : zInv σ) (h : R_log σ x y f r τ) : zInv τ := by
  unfold R_log at h
  rcases h with ⟨hN, hV, rfl⟩ | ⟨hB, hV, rfl⟩
  · obtain ⟨h_h, h_su, h_st, h_sh, h_fl, h_sn, h_bn, h_cm, h_em, h_ep, h_fr, g_cS, g_cH, g_sea, g_noi, g_pl, g_pw, g_an, g_hd, g_bp, g_bw, g_ban, g_bhd, g_c1, g_c2, g_c3, g_c4, g_c5, g_e1, g_e2, g_e3, g_e4, g_e5, hbo, hpr⟩ := hI
    have hlr : -1 ≤ lowZ (parP (s_e1 σ) (s_e2 σ) (s_e3 σ) (s_e4 σ) (s_e5 σ) x y f (s_h σ)) (s_em σ) ∧ lowZ (parP (s_e1 σ) (s_e2 σ) (s_e3 σ) (s_e4 σ) (s_e5 σ) x y f (s_h σ)) (s_em σ) ≤ 79 := by rcases lowZ_p (e1 := s_e1 σ) (e2 := s_e2 σ) (e3 := s_e3 σ) (e4 := s_e4 σ) (e5 := s_e5 σ) (x := x) (y := y) (f := f) (t := s_h σ) h_em.1 with z | z <;> omega
    show (0 ≤ (s_h σ) ∧ (s_h σ) ≤ 5000) ∧ (0 ≤ (s_su σ) ∧ (s_su σ) ≤ 100) ∧ (0 ≤ (s_st σ) ∧ (s_st σ) ≤ 60) ∧ (0 ≤ (s_sh σ) ∧ (s_sh σ) ≤ 72) ∧ (0 ≤ (s_fl σ) ∧ (s_fl σ) ≤ 80) ∧ (0 ≤ (s_sn σ) ∧ (s_sn σ) ≤ 12) ∧ (0 ≤ (s_bn σ) ∧ (s_bn σ) ≤ 6) ∧ (0 ≤ (s_cm σ) ∧ (s_cm σ) ≤ 60) ∧ (0 ≤ ((s_em σ) + 1) ∧ ((s_em σ) + 1) ≤ 80) ∧ ((0 ≤ (if (lowZ (parP (s_e1 σ) (s_e2 σ) (s_e3 σ) (s_e4 σ) (s_e5 σ) x y f (s_h σ)) (s_em σ)) = -1 then (s_ep σ) else (s_ep σ) + 2) ∧ (if (lowZ (parP (s_e1 σ) (s_e2 σ) (s_e3 σ) (s_e4 σ) (s_e5 σ) x y f (s_h σ)) (s_em σ)) = -1 then (s_ep σ) else (s_ep σ) + 2) ≤ 2 * ((s_em σ) + 1)) ∧ (if (lowZ (parP (s_e1 σ) (s_e2 σ) (s_e3 σ) (s_e4 σ) (s_e5 σ) x y f (s_h σ)) (s_em σ)) = -1 then (s_ep σ) else (s_ep σ) + 2) % 2 = 0) ∧ (0 ≤ (s_fr σ) ∧ (s_fr σ) ≤ (s_fm σ)) ∧ (zrg 48 0 100 (s_cS σ)) ∧ (zrg 48 0 24 (s_cH σ)) ∧ (zrg 48 0 1 (s_sea σ)) ∧ (zrg 48 0 40 (s_noi σ)) ∧ (zrg 12 0 47 (s_pl σ)) ∧ (zrg 12 0 80 (s_pw σ)) ∧ (zrg 12 0 2 (s_an σ)) ∧ (zrg 12 0 2 (s_hd σ)) ∧ (zrg 6 0 47 (s_bp σ)) ∧ (zrg 6 0 80 (s_bw σ)) ∧ (zrg 6 0 2 (s_ban σ)) ∧ (zrg 6 0 2 (s_bhd σ)) ∧ (zrg 60 0 11 (s_c1 σ)) ∧ (zrg 60 0 11 (s_c2 σ)) ∧ (zrg 60 0 300 (s_c3 σ)) ∧ (zrg 60 0 2 (s_c4 σ)) ∧ (zrg 60 0 5000 (s_c5 σ)) ∧ (zrg 80 0 11 (zu (s_e1 σ) (s_em σ) x)) ∧ (zrg 80 0 11 (zu (s_e2 σ) (s_em σ) y)) ∧ (zrg 80 0 300 (zu (s_e3 σ) (s_em σ) f)) ∧ (zrg 80 0 5000 (zu (s_e4 σ) (s_em σ) (s_h σ))) ∧ (zrg 80 (-1) 79 (zpair (zu (s_e5 σ) (s_em σ) (lowZ (parP (s_e1 σ) (s_e2 σ) (s_e3 σ) (s_e4 σ) (s_e5 σ) x y f (s_h σ)) (s_em σ))) (s_em σ) (lowZ (parP (s_e1 σ) (s_e2 σ) (s_e3 σ) (s_e4 σ) (s_e5 σ) x y f (s_h σ)) (s_em σ)))) ∧ (∀ n : Int, 0 ≤ n → n < (s_bn σ) → 10 ≤ (s_bo σ) n ∧ (s_bo σ) n ≤ 300) ∧ (∀ n : Int, 0 ≤ n → n < ((s_em σ) + 1) → parE ((s_em σ) + 1) (zu (s_e1 σ) (s_em σ) x) (zu (s_e2 σ) (s_em σ) y) (zu (s_e3 σ) (s_em σ) f) (zpair (zu (s_e5 σ) (s_em σ) (lowZ (parP (s_e1 σ) (s_e2 σ) (s_e3 σ) (s_e4 σ) (s_e5 σ) x y f (s_h σ)) (s_em σ))) (s_em σ) (lowZ (parP (s_e1 σ) (s_e2 σ) (s_e3 σ) (s_e4 σ) (s_e5 σ) x y f (s_h σ)) (s_em σ))) n)
    exact ⟨h_h, h_su, h_st, h_sh, h_fl, h_sn, h_bn, h_cm, (by omega), (by split <;> omega), h_fr, g_cS, g_cH, g_sea, g_noi, g_pl, g_pw, g_an, g_hd, g_bp, g_bw, g_ban, g_bhd, g_c1, g_c2, g_c3, g_c4, g_c5, (zrg_zu g_e1 (by omega)), (zrg_zu g_e2 (by omega)), (zrg_zu g_e3 (by omega)), (zrg_zu g_e4 (by omega)), (zrg_pair g_e5 (by omega) (by omega)), hbo, (hpr_add h_em hpr)⟩
  · exact hI
theorem R_log_thr {σ τ : zSt} {x y f r : Int} (hI : zInv σ) (h : R_log σ x y f r τ) (hr : iI r = iI (-2000000000)) : τ = σ := by
  unfold R_log at h
  rcases h with ⟨hN, hV, hT⟩ | ⟨hB, hV, hT⟩
  · obtain ⟨h_h, h_su, h_st, h_sh, h_fl, h_sn, h_bn, h_cm, h_em, h_ep, h_fr, g_cS, g_cH, g_sea, g_noi, g_pl, g_pw, g_an, g_hd, g_bp, g_bw, g_ban, g_bhd, g_c1, g_c2, g_c3, g_c4, g_c5, g_e1, g_e2, g_e3, g_e4, g_e5, hbo, hpr⟩ := hI
    exfalso
    skip
    have h8 := (iI_eq (a := r) (b := (-2000000000)) (by omega) ⟨by decide, by decide⟩).mp hr
    omega
  · exact hT
theorem R_log_fm {σ τ : zSt} {x y f r : Int} (hI : zInv σ) (h : R_log σ x y f r τ) : s_fm τ ≤ s_fm σ + 6 := by
  unfold R_log at h
  rcases h with ⟨hN, hV, rfl⟩ | ⟨hB, hV, rfl⟩
  · obtain ⟨h_h, h_su, h_st, h_sh, h_fl, h_sn, h_bn, h_cm, h_em, h_ep, h_fr, g_cS, g_cH, g_sea, g_noi, g_pl, g_pw, g_an, g_hd, g_bp, g_bw, g_ban, g_bhd, g_c1, g_c2, g_c3, g_c4, g_c5, g_e1, g_e2, g_e3, g_e4, g_e5, hbo, hpr⟩ := hI
    show s_fm σ ≤ s_fm σ + 6
    omega
  · omega
theorem R_listen_det {σ τ τ' : zSt} {q r r' : Int} (h : R_listen σ q r τ) (h' : R_listen σ q r' τ') : r = r' ∧ τ = τ' := by
  unfold R_listen at h h'
  have ex : ∀ (hN : ((0 ≤ q ∧ q < 48))) (hB : (¬ (0 ≤ q ∧ q < 48))), False := fun hN hB => absurd hN hB
  rcases h with ⟨hN, hV, hT⟩ | ⟨hB, hV, hT⟩ <;> rcases h' with ⟨hN', hV', hT'⟩ | ⟨hB', hV', hT'⟩
  · exact ⟨hV.trans hV'.symm, hT.trans hT'.symm⟩
  · exact (ex hN hB').elim
  · exact (ex hN' hB).elim
  · exact ⟨hV.trans hV'.symm, hT.trans hT'.symm⟩
theorem R_listen_inv {σ τ : zSt} {q r : Int} (hI : zInv σ) (h : R_listen σ q r τ) : zInv τ := by
  unfold R_listen at h
  rcases h with ⟨hN, hV, rfl⟩ | ⟨hB, hV, rfl⟩
  · obtain ⟨h_h, h_su, h_st, h_sh, h_fl, h_sn, h_bn, h_cm, h_em, h_ep, h_fr, g_cS, g_cH, g_sea, g_noi, g_pl, g_pw, g_an, g_hd, g_bp, g_bw, g_ban, g_bhd, g_c1, g_c2, g_c3, g_c4, g_c5, g_e1, g_e2, g_e3, g_e4, g_e5, hbo, hpr⟩ := hI
    skip
    show (0 ≤ (s_h σ) ∧ (s_h σ) ≤ 5000) ∧ (0 ≤ (s_su σ) ∧ (s_su σ) ≤ 100) ∧ (0 ≤ (s_st σ) ∧ (s_st σ) ≤ 60) ∧ (0 ≤ (s_sh σ) ∧ (s_sh σ) ≤ 72) ∧ (0 ≤ (s_fl σ) ∧ (s_fl σ) ≤ 80) ∧ (0 ≤ (s_sn σ) ∧ (s_sn σ) ≤ 12) ∧ (0 ≤ (s_bn σ) ∧ (s_bn σ) ≤ 6) ∧ (0 ≤ (s_cm σ) ∧ (s_cm σ) ≤ 60) ∧ (0 ≤ (s_em σ) ∧ (s_em σ) ≤ 80) ∧ ((0 ≤ (s_ep σ) ∧ (s_ep σ) ≤ 2 * (s_em σ)) ∧ (s_ep σ) % 2 = 0) ∧ (0 ≤ ((s_fr σ) + lrF (dnE (s_h σ) (s_cS σ)) (dnF (s_h σ) (s_su σ) (s_st σ)) (dnD (s_h σ) (s_fl σ)) (dnE (s_h σ) (fun _ => 0)) (dnF (s_h σ) (s_su σ) 0) (dnD (s_h σ) 0) (s_sea σ) (s_noi σ) (s_h σ) (s_bp σ) (s_bw σ) (s_ban σ) (s_bhd σ) (s_bo σ) q (s_bn σ).toNat) ∧ ((s_fr σ) + lrF (dnE (s_h σ) (s_cS σ)) (dnF (s_h σ) (s_su σ) (s_st σ)) (dnD (s_h σ) (s_fl σ)) (dnE (s_h σ) (fun _ => 0)) (dnF (s_h σ) (s_su σ) 0) (dnD (s_h σ) 0) (s_sea σ) (s_noi σ) (s_h σ) (s_bp σ) (s_bw σ) (s_ban σ) (s_bhd σ) (s_bo σ) q (s_bn σ).toNat) ≤ ((s_fm σ) + (s_bn σ))) ∧ (zrg 48 0 100 (s_cS σ)) ∧ (zrg 48 0 24 (s_cH σ)) ∧ (zrg 48 0 1 (s_sea σ)) ∧ (zrg 48 0 40 (s_noi σ)) ∧ (zrg 12 0 47 (s_pl σ)) ∧ (zrg 12 0 80 (s_pw σ)) ∧ (zrg 12 0 2 (s_an σ)) ∧ (zrg 12 0 2 (s_hd σ)) ∧ (zrg 6 0 47 (s_bp σ)) ∧ (zrg 6 0 80 (s_bw σ)) ∧ (zrg 6 0 2 (s_ban σ)) ∧ (zrg 6 0 2 (s_bhd σ)) ∧ (zrg 60 0 11 (s_c1 σ)) ∧ (zrg 60 0 11 (s_c2 σ)) ∧ (zrg 60 0 300 (s_c3 σ)) ∧ (zrg 60 0 2 (s_c4 σ)) ∧ (zrg 60 0 5000 (s_c5 σ)) ∧ (zrg 80 0 11 (s_e1 σ)) ∧ (zrg 80 0 11 (s_e2 σ)) ∧ (zrg 80 0 300 (s_e3 σ)) ∧ (zrg 80 0 5000 (s_e4 σ)) ∧ (zrg 80 (-1) 79 (s_e5 σ)) ∧ (∀ n : Int, 0 ≤ n → n < (s_bn σ) → 10 ≤ (s_bo σ) n ∧ (s_bo σ) n ≤ 300) ∧ (∀ n : Int, 0 ≤ n → n < (s_em σ) → parE (s_em σ) (s_e1 σ) (s_e2 σ) (s_e3 σ) (s_e5 σ) n)
    exact ⟨h_h, h_su, h_st, h_sh, h_fl, h_sn, h_bn, h_cm, h_em, h_ep, (by have := lrF_rg9 (dE := dnE (s_h σ) (s_cS σ)) (dF := dnF (s_h σ) (s_su σ) (s_st σ)) (dD := dnD (s_h σ) (s_fl σ)) (kE := dnE (s_h σ) (fun _ => 0)) (kF := dnF (s_h σ) (s_su σ) 0) (kD := dnD (s_h σ) 0) (sea := s_sea σ) (noi := s_noi σ) (h := s_h σ) (bpl := s_bp σ) (bpw := s_bw σ) (ban := s_ban σ) (bhd := s_bhd σ) (bfq := s_bo σ) (q := q) (s_bn σ).toNat; omega), g_cS, g_cH, g_sea, g_noi, g_pl, g_pw, g_an, g_hd, g_bp, g_bw, g_ban, g_bhd, g_c1, g_c2, g_c3, g_c4, g_c5, g_e1, g_e2, g_e3, g_e4, g_e5, hbo, hpr⟩
  · exact hI
theorem R_listen_thr {σ τ : zSt} {q r : Int} (hI : zInv σ) (h : R_listen σ q r τ) (hr : iI r = iI (-2000000000)) : τ = σ := by
  unfold R_listen at h
  rcases h with ⟨hN, hV, hT⟩ | ⟨hB, hV, hT⟩
  · obtain ⟨h_h, h_su, h_st, h_sh, h_fl, h_sn, h_bn, h_cm, h_em, h_ep, h_fr, g_cS, g_cH, g_sea, g_noi, g_pl, g_pw, g_an, g_hd, g_bp, g_bw, g_ban, g_bhd, g_c1, g_c2, g_c3, g_c4, g_c5, g_e1, g_e2, g_e3, g_e4, g_e5, hbo, hpr⟩ := hI
    exfalso
    have h9 := (liF_rg (dE := dnE (s_h σ) (s_cS σ)) (dF := dnF (s_h σ) (s_su σ) (s_st σ)) (dD := dnD (s_h σ) (s_fl σ)) (sea := s_sea σ) (noi := s_noi σ) (h := s_h σ) (bpl := s_bp σ) (bpw := s_bw σ) (ban := s_ban σ) (bhd := s_bhd σ) (bfq := s_bo σ) (q := q) (s_bn σ).toNat (by omega))
    have h8 := (iI_eq (a := r) (b := (-2000000000)) (by omega) ⟨by decide, by decide⟩).mp hr
    omega
  · exact hT
theorem R_listen_fm {σ τ : zSt} {q r : Int} (hI : zInv σ) (h : R_listen σ q r τ) : s_fm τ ≤ s_fm σ + 6 := by
  unfold R_listen at h
  rcases h with ⟨hN, hV, rfl⟩ | ⟨hB, hV, rfl⟩
  · obtain ⟨h_h, h_su, h_st, h_sh, h_fl, h_sn, h_bn, h_cm, h_em, h_ep, h_fr, g_cS, g_cH, g_sea, g_noi, g_pl, g_pw, g_an, g_hd, g_bp, g_bw, g_ban, g_bhd, g_c1, g_c2, g_c3, g_c4, g_c5, g_e1, g_e2, g_e3, g_e4, g_e5, hbo, hpr⟩ := hI
    show ((s_fm σ) + (s_bn σ)) ≤ s_fm σ + 6
    omega
  · omega
theorem R_light_det {σ τ τ' : zSt} {q k r r' : Int} (h : R_light σ q k r τ) (h' : R_light σ q k r' τ') : r = r' ∧ τ = τ' := by
  unfold R_light at h h'
  have ex : ∀ (hN : ((0 ≤ q ∧ q < 48) ∧ (0 ≤ k ∧ k ≤ 24))) (hB : (¬ (0 ≤ q ∧ q < 48)) ∨ ((0 ≤ q ∧ q < 48) ∧ ¬ (0 ≤ k ∧ k ≤ 24))), False := fun hN hB => (by rcases hB with hB | hB; exact absurd hN.1 hB; exact absurd hN.2 hB.2)
  rcases h with ⟨hN, hV, hT⟩ | ⟨hB, hV, hT⟩ <;> rcases h' with ⟨hN', hV', hT'⟩ | ⟨hB', hV', hT'⟩
  · exact ⟨hV.trans hV'.symm, hT.trans hT'.symm⟩
  · exact (ex hN hB').elim
  · exact (ex hN' hB).elim
  · exact ⟨hV.trans hV'.symm, hT.trans hT'.symm⟩
theorem R_light_inv {σ τ : zSt} {q k r : Int} (h : R_light σ q k r τ) : τ = σ := by
  unfold R_light at h
  rcases h with h | h
  · exact h.2.2
  · exact h.2.2
theorem R_density_det {σ τ τ' : zSt} {q y r r' : Int} (h : R_density σ q y r τ) (h' : R_density σ q y r' τ') : r = r' ∧ τ = τ' := by
  unfold R_density at h h'
  have ex : ∀ (hN : ((0 ≤ q ∧ q < 48) ∧ (0 ≤ y ∧ y ≤ 2))) (hB : (¬ (0 ≤ q ∧ q < 48)) ∨ ((0 ≤ q ∧ q < 48) ∧ ¬ (0 ≤ y ∧ y ≤ 2))), False := fun hN hB => (by rcases hB with hB | hB; exact absurd hN.1 hB; exact absurd hN.2 hB.2)
  rcases h with ⟨hN, hV, hT⟩ | ⟨hB, hV, hT⟩ <;> rcases h' with ⟨hN', hV', hT'⟩ | ⟨hB', hV', hT'⟩
  · exact ⟨hV.trans hV'.symm, hT.trans hT'.symm⟩
  · exact (ex hN hB').elim
  · exact (ex hN' hB).elim
  · exact ⟨hV.trans hV'.symm, hT.trans hT'.symm⟩
theorem R_density_inv {σ τ : zSt} {q y r : Int} (h : R_density σ q y r τ) : τ = σ := by
  unfold R_density at h
  rcases h with h | h
  · exact h.2.2
  · exact h.2.2
theorem R_landing_det {σ τ τ' : zSt} {q g a f n r r' : Int} (h : R_landing σ q g a f n r τ) (h' : R_landing σ q g a f n r' τ') : r = r' ∧ τ = τ' := by
  unfold R_landing at h h'
  have ex : ∀ (hN : ((0 ≤ q ∧ q < 48) ∧ ((1 ≤ a ∧ a ≤ 9) ∧ (10 ≤ f ∧ f ≤ 300) ∧ (1 ≤ n ∧ n ≤ 10)))) (hB : (¬ (0 ≤ q ∧ q < 48)) ∨ ((0 ≤ q ∧ q < 48) ∧ ¬ ((1 ≤ a ∧ a ≤ 9) ∧ (10 ≤ f ∧ f ≤ 300) ∧ (1 ≤ n ∧ n ≤ 10)))), False := fun hN hB => (by rcases hB with hB | hB; exact absurd hN.1 hB; exact absurd hN.2 hB.2)
  rcases h with ⟨hN, hV, hT⟩ | ⟨hB, hV, hT⟩ <;> rcases h' with ⟨hN', hV', hT'⟩ | ⟨hB', hV', hT'⟩
  · exact ⟨hV.trans hV'.symm, hT.trans hT'.symm⟩
  · exact (ex hN hB').elim
  · exact (ex hN' hB).elim
  · exact ⟨hV.trans hV'.symm, hT.trans hT'.symm⟩
theorem R_landing_inv {σ τ : zSt} {q g a f n r : Int} (h : R_landing σ q g a f n r τ) : τ = σ := by
  unfold R_landing at h
  rcases h with h | h
  · exact h.2.2
  · exact h.2.2
theorem R_paths_det {σ τ τ' : zSt} {q t f w r r' : Int} (h : R_paths σ q t f w r τ) (h' : R_paths σ q t f w r' τ') : r = r' ∧ τ = τ' := by
  unfold R_paths at h h'
  have ex : ∀ (hN : (((0 ≤ q ∧ q < 48) ∧ (0 ≤ t ∧ t < 48)) ∧ ((10 ≤ f ∧ f ≤ 300) ∧ (0 ≤ w ∧ w ≤ 100)))) (hB : (¬ ((0 ≤ q ∧ q < 48) ∧ (0 ≤ t ∧ t < 48))) ∨ (((0 ≤ q ∧ q < 48) ∧ (0 ≤ t ∧ t < 48)) ∧ ¬ ((10 ≤ f ∧ f ≤ 300) ∧ (0 ≤ w ∧ w ≤ 100)))), False := fun hN hB => (by rcases hB with hB | hB; exact absurd hN.1 hB; exact absurd hN.2 hB.2)
  rcases h with ⟨hN, hV, hT⟩ | ⟨hB, hV, hT⟩ <;> rcases h' with ⟨hN', hV', hT'⟩ | ⟨hB', hV', hT'⟩
  · exact ⟨hV.trans hV'.symm, hT.trans hT'.symm⟩
  · exact (ex hN hB').elim
  · exact (ex hN' hB).elim
  · exact ⟨hV.trans hV'.symm, hT.trans hT'.symm⟩
theorem R_paths_inv {σ τ : zSt} {q t f w r : Int} (h : R_paths σ q t f w r τ) : τ = σ := by
  unfold R_paths at h
  rcases h with h | h
  · exact h.2.2
  · exact h.2.2
theorem R_path_det {σ τ τ' : zSt} {q t f w k wh r r' : Int} (h : R_path σ q t f w k wh r τ) (h' : R_path σ q t f w k wh r' τ') : r = r' ∧ τ = τ' := by
  unfold R_path at h h'
  have ex : ∀ (hN : (((0 ≤ q ∧ q < 48) ∧ (0 ≤ t ∧ t < 48)) ∧ ((10 ≤ f ∧ f ≤ 300) ∧ (0 ≤ w ∧ w ≤ 100) ∧ (0 ≤ wh ∧ wh ≤ 5)) ∧ (0 ≤ k ∧ k < cntR (dnE (s_h σ) (s_cS σ)) (dnF (s_h σ) (s_su σ) (s_st σ)) (dnD (s_h σ) (s_fl σ)) (s_sea σ) q t f w 18))) (hB : (¬ ((0 ≤ q ∧ q < 48) ∧ (0 ≤ t ∧ t < 48))) ∨ (((0 ≤ q ∧ q < 48) ∧ (0 ≤ t ∧ t < 48)) ∧ ¬ ((10 ≤ f ∧ f ≤ 300) ∧ (0 ≤ w ∧ w ≤ 100) ∧ (0 ≤ wh ∧ wh ≤ 5))) ∨ (((0 ≤ q ∧ q < 48) ∧ (0 ≤ t ∧ t < 48)) ∧ ((10 ≤ f ∧ f ≤ 300) ∧ (0 ≤ w ∧ w ≤ 100) ∧ (0 ≤ wh ∧ wh ≤ 5)) ∧ ¬ (0 ≤ k ∧ k < cntR (dnE (s_h σ) (s_cS σ)) (dnF (s_h σ) (s_su σ) (s_st σ)) (dnD (s_h σ) (s_fl σ)) (s_sea σ) q t f w 18))), False := fun hN hB => (by rcases hB with hB | hB | hB; exact absurd hN.1 hB; exact absurd hN.2.1 hB.2; exact absurd hN.2.2 hB.2.2)
  rcases h with ⟨hN, hV, hT⟩ | ⟨hB, hV, hT⟩ <;> rcases h' with ⟨hN', hV', hT'⟩ | ⟨hB', hV', hT'⟩
  · exact ⟨by obtain ⟨n1, w1, l1, k1, d1, p1, rfl⟩ := hV; obtain ⟨n2, w2, l2, k2, d2, p2, rfl⟩ := hV'; obtain ⟨rfl, rfl, rfl, rfl, rfl⟩ := pthP_uniq p1 p2; rfl, hT.trans hT'.symm⟩
  · exact (ex hN hB').elim
  · exact (ex hN' hB).elim
  · exact ⟨hV.trans hV'.symm, hT.trans hT'.symm⟩
theorem R_path_inv {σ τ : zSt} {q t f w k wh r : Int} (h : R_path σ q t f w k wh r τ) : τ = σ := by
  unfold R_path at h
  rcases h with h | h
  · exact h.2.2
  · exact h.2.2
theorem R_explain_det {σ τ τ' : zSt} {q t f w mm r r' : Int} (h : R_explain σ q t f w mm r τ) (h' : R_explain σ q t f w mm r' τ') : r = r' ∧ τ = τ' := by
  unfold R_explain at h h'
  have ex : ∀ (hN : (((0 ≤ q ∧ q < 48) ∧ (0 ≤ t ∧ t < 48)) ∧ ((10 ≤ f ∧ f ≤ 300) ∧ (0 ≤ w ∧ w ≤ 100) ∧ (0 ≤ mm ∧ mm ≤ 1000)))) (hB : (¬ ((0 ≤ q ∧ q < 48) ∧ (0 ≤ t ∧ t < 48))) ∨ (((0 ≤ q ∧ q < 48) ∧ (0 ≤ t ∧ t < 48)) ∧ ¬ ((10 ≤ f ∧ f ≤ 300) ∧ (0 ≤ w ∧ w ≤ 100) ∧ (0 ≤ mm ∧ mm ≤ 1000)))), False := fun hN hB => (by rcases hB with hB | hB; exact absurd hN.1 hB; exact absurd hN.2 hB.2)
  rcases h with ⟨hN, hV, hT⟩ | ⟨hB, hV, hT⟩ <;> rcases h' with ⟨hN', hV', hT'⟩ | ⟨hB', hV', hT'⟩
  · exact ⟨hV.trans hV'.symm, hT.trans hT'.symm⟩
  · exact (ex hN hB').elim
  · exact (ex hN' hB).elim
  · exact ⟨hV.trans hV'.symm, hT.trans hT'.symm⟩
theorem R_explain_inv {σ τ : zSt} {q t f w mm r : Int} (h : R_explain σ q t f w mm r τ) : τ = σ := by
  unfold R_explain at h
  rcases h with h | h
  · exact h.2.2
  · exact h.2.2
theorem R_usable_det {σ τ τ' : zSt} {q t w g r r' : Int} (h : R_usable σ q t w g r τ) (h' : R_usable σ q t w g r' τ') : r = r' ∧ τ = τ' := by
  unfold R_usable at h h'
  have ex : ∀ (hN : (((0 ≤ q ∧ q < 48) ∧ (0 ≤ t ∧ t < 48)) ∧ (0 ≤ w ∧ w ≤ 100))) (hB : (¬ ((0 ≤ q ∧ q < 48) ∧ (0 ≤ t ∧ t < 48))) ∨ (((0 ≤ q ∧ q < 48) ∧ (0 ≤ t ∧ t < 48)) ∧ ¬ (0 ≤ w ∧ w ≤ 100))), False := fun hN hB => (by rcases hB with hB | hB; exact absurd hN.1 hB; exact absurd hN.2 hB.2)
  rcases h with ⟨hN, hV, hT⟩ | ⟨hB, hV, hT⟩ <;> rcases h' with ⟨hN', hV', hT'⟩ | ⟨hB', hV', hT'⟩
  · exact ⟨by obtain ⟨v1, p1, rfl⟩ := hV; obtain ⟨v2, p2, rfl⟩ := hV'; exact isUse_uniq p1 p2, hT.trans hT'.symm⟩
  · exact (ex hN hB').elim
  · exact (ex hN' hB).elim
  · exact ⟨hV.trans hV'.symm, hT.trans hT'.symm⟩
theorem R_usable_inv {σ τ : zSt} {q t w g r : Int} (h : R_usable σ q t w g r τ) : τ = σ := by
  unfold R_usable at h
  rcases h with h | h
  · exact h.2.2
  · exact h.2.2
theorem R_skipped_det {σ τ τ' : zSt} {q g f r r' : Int} (h : R_skipped σ q g f r τ) (h' : R_skipped σ q g f r' τ') : r = r' ∧ τ = τ' := by
  unfold R_skipped at h h'
  have ex : ∀ (hN : ((0 ≤ q ∧ q < 48) ∧ (10 ≤ f ∧ f ≤ 300))) (hB : (¬ (0 ≤ q ∧ q < 48)) ∨ ((0 ≤ q ∧ q < 48) ∧ ¬ (10 ≤ f ∧ f ≤ 300))), False := fun hN hB => (by rcases hB with hB | hB; exact absurd hN.1 hB; exact absurd hN.2 hB.2)
  rcases h with ⟨hN, hV, hT⟩ | ⟨hB, hV, hT⟩ <;> rcases h' with ⟨hN', hV', hT'⟩ | ⟨hB', hV', hT'⟩
  · exact ⟨hV.trans hV'.symm, hT.trans hT'.symm⟩
  · exact (ex hN hB').elim
  · exact (ex hN' hB).elim
  · exact ⟨hV.trans hV'.symm, hT.trans hT'.symm⟩
theorem R_skipped_inv {σ τ : zSt} {q g f r : Int} (h : R_skipped σ q g f r τ) : τ = σ := by
  unfold R_skipped at h
  rcases h with h | h
  · exact h.2.2
  · exact h.2.2
theorem R_signal_det {σ τ τ' : zSt} {x y f r r' : Int} (h : R_signal σ x y f r τ) (h' : R_signal σ x y f r' τ') : r = r' ∧ τ = τ' := by
  unfold R_signal at h h'
  have ex : ∀ (hN : (((0 ≤ x ∧ x < (s_sn σ)) ∧ (0 ≤ y ∧ y < (s_sn σ))) ∧ ((10 ≤ f ∧ f ≤ 300) ∧ (¬ x = y)))) (hB : (¬ ((0 ≤ x ∧ x < (s_sn σ)) ∧ (0 ≤ y ∧ y < (s_sn σ)))) ∨ (((0 ≤ x ∧ x < (s_sn σ)) ∧ (0 ≤ y ∧ y < (s_sn σ))) ∧ ¬ ((10 ≤ f ∧ f ≤ 300) ∧ (¬ x = y)))), False := fun hN hB => (by rcases hB with hB | hB; exact absurd hN.1 hB; exact absurd hN.2 hB.2)
  rcases h with ⟨hN, hV, hT⟩ | ⟨hB, hV, hT⟩ <;> rcases h' with ⟨hN', hV', hT'⟩ | ⟨hB', hV', hT'⟩
  · exact ⟨hV.trans hV'.symm, hT.trans hT'.symm⟩
  · exact (ex hN hB').elim
  · exact (ex hN' hB).elim
  · exact ⟨hV.trans hV'.symm, hT.trans hT'.symm⟩
theorem R_signal_inv {σ τ : zSt} {x y f r : Int} (h : R_signal σ x y f r τ) : τ = σ := by
  unfold R_signal at h
  rcases h with h | h
  · exact h.2.2
  · exact h.2.2
theorem R_contactOf_det {σ τ τ' : zSt} {k wh r r' : Int} (h : R_contactOf σ k wh r τ) (h' : R_contactOf σ k wh r' τ') : r = r' ∧ τ = τ' := by
  unfold R_contactOf at h h'
  have ex : ∀ (hN : ((0 ≤ k ∧ k < (s_cm σ)) ∧ (0 ≤ wh ∧ wh ≤ 4))) (hB : (¬ (0 ≤ k ∧ k < (s_cm σ))) ∨ ((0 ≤ k ∧ k < (s_cm σ)) ∧ ¬ (0 ≤ wh ∧ wh ≤ 4))), False := fun hN hB => (by rcases hB with hB | hB; exact absurd hN.1 hB; exact absurd hN.2 hB.2)
  rcases h with ⟨hN, hV, hT⟩ | ⟨hB, hV, hT⟩ <;> rcases h' with ⟨hN', hV', hT'⟩ | ⟨hB', hV', hT'⟩
  · exact ⟨hV.trans hV'.symm, hT.trans hT'.symm⟩
  · exact (ex hN hB').elim
  · exact (ex hN' hB).elim
  · exact ⟨hV.trans hV'.symm, hT.trans hT'.symm⟩
theorem R_contactOf_inv {σ τ : zSt} {k wh r : Int} (h : R_contactOf σ k wh r τ) : τ = σ := by
  unfold R_contactOf at h
  rcases h with h | h
  · exact h.2.2
  · exact h.2.2
theorem R_entryOf_det {σ τ τ' : zSt} {k wh r r' : Int} (h : R_entryOf σ k wh r τ) (h' : R_entryOf σ k wh r' τ') : r = r' ∧ τ = τ' := by
  unfold R_entryOf at h h'
  have ex : ∀ (hN : ((0 ≤ k ∧ k < (s_em σ)) ∧ (0 ≤ wh ∧ wh ≤ 5))) (hB : (¬ (0 ≤ k ∧ k < (s_em σ))) ∨ ((0 ≤ k ∧ k < (s_em σ)) ∧ ¬ (0 ≤ wh ∧ wh ≤ 5))), False := fun hN hB => (by rcases hB with hB | hB; exact absurd hN.1 hB; exact absurd hN.2 hB.2)
  rcases h with ⟨hN, hV, hT⟩ | ⟨hB, hV, hT⟩ <;> rcases h' with ⟨hN', hV', hT'⟩ | ⟨hB', hV', hT'⟩
  · exact ⟨hV.trans hV'.symm, hT.trans hT'.symm⟩
  · exact (ex hN hB').elim
  · exact (ex hN' hB).elim
  · exact ⟨hV.trans hV'.symm, hT.trans hT'.symm⟩
theorem R_entryOf_inv {σ τ : zSt} {k wh r : Int} (h : R_entryOf σ k wh r τ) : τ = σ := by
  unfold R_entryOf at h
  rcases h with h | h
  · exact h.2.2
  · exact h.2.2
theorem R_score_det {σ τ τ' : zSt} {x r r' : Int} (h : R_score σ x r τ) (h' : R_score σ x r' τ') : r = r' ∧ τ = τ' := by
  unfold R_score at h h'
  have ex : ∀ (hN : ((0 ≤ x ∧ x < (s_sn σ)))) (hB : (¬ (0 ≤ x ∧ x < (s_sn σ)))), False := fun hN hB => absurd hN hB
  rcases h with ⟨hN, hV, hT⟩ | ⟨hB, hV, hT⟩ <;> rcases h' with ⟨hN', hV', hT'⟩ | ⟨hB', hV', hT'⟩
  · exact ⟨hV.trans hV'.symm, hT.trans hT'.symm⟩
  · exact (ex hN hB').elim
  · exact (ex hN' hB).elim
  · exact ⟨hV.trans hV'.symm, hT.trans hT'.symm⟩
theorem R_score_inv {σ τ : zSt} {x r : Int} (h : R_score σ x r τ) : τ = σ := by
  unfold R_score at h
  rcases h with h | h
  · exact h.2.2
  · exact h.2.2
theorem R_count_det {σ τ τ' : zSt} {wh r r' : Int} (h : R_count σ wh r τ) (h' : R_count σ wh r' τ') : r = r' ∧ τ = τ' := by
  unfold R_count at h h'
  have ex : ∀ (hN : ((0 ≤ wh ∧ wh ≤ 4))) (hB : (¬ (0 ≤ wh ∧ wh ≤ 4))), False := fun hN hB => absurd hN hB
  rcases h with ⟨hN, hV, hT⟩ | ⟨hB, hV, hT⟩ <;> rcases h' with ⟨hN', hV', hT'⟩ | ⟨hB', hV', hT'⟩
  · exact ⟨hV.trans hV'.symm, hT.trans hT'.symm⟩
  · exact (ex hN hB').elim
  · exact (ex hN' hB).elim
  · exact ⟨hV.trans hV'.symm, hT.trans hT'.symm⟩
theorem R_count_inv {σ τ : zSt} {wh r : Int} (h : R_count σ wh r τ) : τ = σ := by
  unfold R_count at h
  rcases h with h | h
  · exact h.2.2
  · exact h.2.2
