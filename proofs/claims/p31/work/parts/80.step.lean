/-! a call of the law, as a relation -/
def stpO (k : Nat) (v pa pb xa xb mu fe fv yi : Int) (σ : zSt) (r : Int) (τ : zSt) : Prop := match k with
  | 0 => R_sun σ mu r τ
  | 1 => R_storm σ mu fe r τ
  | 2 => R_flare σ mu r τ
  | 3 => R_cloud σ pa mu fe r τ
  | 4 => R_sea σ pa yi r τ
  | 5 => R_noise σ pa mu r τ
  | 6 => R_pass σ mu r τ
  | 7 => R_pass σ mu r τ
  | 8 => R_pass σ mu r τ
  | 9 => R_pass σ mu r τ
  | 10 => R_station σ pa mu fe mu r τ
  | 11 => R_station σ pa mu fe mu r τ
  | 12 => R_station σ pa mu fe mu r τ
  | 13 => R_station σ pa mu fe mu r τ
  | 14 => R_station σ pa mu fe mu r τ
  | 15 => R_beacon σ pa fv mu r τ
  | 16 => R_beacon σ pa fv mu r τ
  | 17 => R_call σ xa xb fv fe r τ
  | 18 => R_call σ xa xb fv fe r τ
  | 19 => R_call σ xa xb fv fe r τ
  | 20 => R_call σ xa xb fv fe r τ
  | 21 => R_call σ xa xb fv fe r τ
  | 22 => R_log σ xa xb fv r τ
  | 23 => R_log σ xa xb fv r τ
  | 24 => R_log σ xa xb fv r τ
  | 25 => R_log σ xa xb fv r τ
  | 26 => R_log σ xa xb fv r τ
  | 27 => R_log σ xa xb fv r τ
  | 28 => R_listen σ pa r τ
  | 29 => R_light σ pa mu r τ
  | 30 => R_density σ pa fe r τ
  | 31 => R_landing σ pa yi fe fv mu r τ
  | 32 => R_paths σ pa pb fv mu r τ
  | 33 => R_path σ pa pb fv mu fe fe r τ
  | 34 => R_explain σ pa pb fv fe v r τ
  | 35 => if (loZ (shZ v 12) 5) = 0 then R_usable σ pa pb mu yi r τ else R_skipped σ pa yi fv r τ
  | 36 => R_signal σ xa xb fv r τ
  | 37 => R_contactOf σ fe mu r τ
  | 38 => R_entryOf σ mu fe r τ
  | 39 => R_entryOf σ mu fe r τ
  | 40 => R_score σ xa r τ
  | _ + 41 => if (loZ (shZ v 12) 3) = 0 then R_forecasts σ yi r τ else R_count σ mu r τ
def stpE (k : Nat) (v pa pb xa xb mu fe fv yi : Int) (σ : zSt) (r : Int) (τ : zSt) : Prop := match k with
  | 0 => R_sun σ (2 * (loZ (shZ v 9) 50)) r τ
  | 1 => R_storm σ (1 + (loZ (shZ v 9) 30)) (1 + (loZ (shZ v 3) 6)) r τ
  | 2 => R_flare σ (1 + mu) r τ
  | 3 => R_cloud σ pa (1 + mu) (1 + (loZ (shZ v 3) 8)) r τ
  | 4 => R_sea σ pa yi r τ
  | 5 => R_noise σ pa (loZ (shZ v 9) 9) r τ
  | 6 => R_pass σ (1 + (loZ (shZ v 9) 3)) r τ
  | 7 => R_pass σ (1 + (loZ (shZ v 9) 3)) r τ
  | 8 => R_pass σ (1 + (loZ (shZ v 9) 3)) r τ
  | 9 => R_pass σ (1 + (loZ (shZ v 9) 3)) r τ
  | 10 => R_station σ (8 + (loZ (shZ v 4) 24)) (25 + (mu / 2)) fe (loZ (shZ v 13) 3) r τ
  | 11 => R_station σ (8 + (loZ (shZ v 4) 24)) (25 + (mu / 2)) fe (loZ (shZ v 13) 3) r τ
  | 12 => R_station σ (8 + (loZ (shZ v 4) 24)) (25 + (mu / 2)) fe (loZ (shZ v 13) 3) r τ
  | 13 => R_station σ (8 + (loZ (shZ v 4) 24)) (25 + (mu / 2)) fe (loZ (shZ v 13) 3) r τ
  | 14 => R_station σ (8 + (loZ (shZ v 4) 24)) (25 + (mu / 2)) fe (loZ (shZ v 13) 3) r τ
  | 15 => R_beacon σ pa fv (20 + mu) r τ
  | 16 => R_beacon σ pa fv (20 + mu) r τ
  | 17 => R_call σ xa xb fv (2 - (loZ (shZ v 11) 2)) r τ
  | 18 => R_call σ xa xb fv (2 - (loZ (shZ v 11) 2)) r τ
  | 19 => R_call σ xa xb fv (2 - (loZ (shZ v 11) 2)) r τ
  | 20 => R_call σ xa xb fv (2 - (loZ (shZ v 11) 2)) r τ
  | 21 => R_call σ xa xb fv (2 - (loZ (shZ v 11) 2)) r τ
  | 22 => R_log σ xa xb fv r τ
  | 23 => R_log σ xa xb fv r τ
  | 24 => R_log σ xa xb fv r τ
  | 25 => R_log σ xa xb fv r τ
  | 26 => R_log σ xa xb fv r τ
  | 27 => R_log σ xa xb fv r τ
  | 28 => R_listen σ pa r τ
  | 29 => R_light σ pa (loZ (shZ v 9) 25) r τ
  | 30 => R_density σ pa fe r τ
  | 31 => R_landing σ pa yi (1 + (loZ (shZ v 11) 9)) fv (1 + (loZ (shZ v 9) 10)) r τ
  | 32 => R_paths σ pa pb fv (20 + mu) r τ
  | 33 => R_path σ pa pb fv (20 + mu) 0 (loZ (shZ v 9) 6) r τ
  | 34 => R_explain σ pa pb fv 60 (5 * mu) r τ
  | 35 => if (loZ (shZ v 12) 5) = 0 then R_usable σ pa pb 40 yi r τ else R_skipped σ pa yi fv r τ
  | 36 => R_signal σ xa xb fv r τ
  | 37 => R_contactOf σ fe (loZ (shZ v 9) 5) r τ
  | 38 => R_entryOf σ (loZ (shZ v 9) 8) (loZ (shZ v 3) 6) r τ
  | 39 => R_entryOf σ (loZ (shZ v 9) 8) (loZ (shZ v 3) 6) r τ
  | 40 => R_score σ xa r τ
  | _ + 41 => if (loZ (shZ v 12) 3) = 0 then R_forecasts σ yi r τ else R_count σ (loZ (shZ v 9) 5) r τ
def isZ (v : Int) : Int := if ndZ (shZ v 15) 1 = 1 then 1 else 0
theorem isZ_rg (v : Int) : 0 ≤ isZ v ∧ isZ v ≤ 1 := by unfold isZ; split <;> omega
def stepR (v : Int) (σ : zSt) (r : Int) (τ : zSt) : Prop := if loZ (shZ v 26) 14 = 0 then stpO (loZ v 42).toNat v (loZ (shZ v 4) 52 - 2) (loZ (shZ v 7) 52 - 2) (loZ (shZ v 5) 15 - 2) (loZ (shZ v 8) 15 - 2) (shZ v 9) (loZ (shZ v 11) 10 - 2) (shZ v 6) (isZ v) σ r τ else stpE (loZ v 42).toNat v (loZ (shZ v 4) 48) ((loZ (shZ v 4) 48 + 40 + loZ (shZ v 7) 17) % 48) (loZ (shZ v 5) 4) (loZ (shZ v 8) 4) (loZ (shZ v 9) 60) (loZ (shZ v 11) 3) (40 + 20 * loZ (shZ v 6) 5) (isZ v) σ r τ
theorem R_sun_keep {σ τ : zSt} {v r : Int} (hI : zInv σ) (h : R_sun σ v r τ) : zInv τ ∧ s_fm τ ≤ s_fm σ + 6 := ⟨R_sun_inv hI h, R_sun_fm hI h⟩
theorem R_storm_keep {σ τ : zSt} {v k r : Int} (hI : zInv σ) (h : R_storm σ v k r τ) : zInv τ ∧ s_fm τ ≤ s_fm σ + 6 := ⟨R_storm_inv hI h, R_storm_fm hI h⟩
theorem R_flare_keep {σ τ : zSt} {v r : Int} (hI : zInv σ) (h : R_flare σ v r τ) : zInv τ ∧ s_fm τ ≤ s_fm σ + 6 := ⟨R_flare_inv hI h, R_flare_fm hI h⟩
theorem R_cloud_keep {σ τ : zSt} {q v k r : Int} (hI : zInv σ) (h : R_cloud σ q v k r τ) : zInv τ ∧ s_fm τ ≤ s_fm σ + 6 := ⟨R_cloud_inv hI h, R_cloud_fm hI h⟩
theorem R_sea_keep {σ τ : zSt} {q z r : Int} (hz : 0 ≤ z ∧ z ≤ 1) (hI : zInv σ) (h : R_sea σ q z r τ) : zInv τ ∧ s_fm τ ≤ s_fm σ + 6 := ⟨R_sea_inv hz hI h, R_sea_fm hI h⟩
theorem R_noise_keep {σ τ : zSt} {q v r : Int} (hI : zInv σ) (h : R_noise σ q v r τ) : zInv τ ∧ s_fm τ ≤ s_fm σ + 6 := ⟨R_noise_inv hI h, R_noise_fm hI h⟩
theorem R_pass_keep {σ τ : zSt} {k r : Int} (hI : zInv σ) (h : R_pass σ k r τ) : zInv τ ∧ s_fm τ ≤ s_fm σ + 6 := ⟨R_pass_inv hI h, R_pass_fm hI h⟩
theorem R_station_keep {σ τ : zSt} {q v a d r : Int} (hI : zInv σ) (h : R_station σ q v a d r τ) : zInv τ ∧ s_fm τ ≤ s_fm σ + 6 := ⟨R_station_inv hI h, R_station_fm hI h⟩
theorem R_beacon_keep {σ τ : zSt} {q f v r : Int} (hI : zInv σ) (h : R_beacon σ q f v r τ) : zInv τ ∧ s_fm τ ≤ s_fm σ + 6 := ⟨R_beacon_inv hI h, R_beacon_fm hI h⟩
theorem R_call_keep {σ τ : zSt} {x y f md r : Int} (hI : zInv σ) (h : R_call σ x y f md r τ) : zInv τ ∧ s_fm τ ≤ s_fm σ + 6 := ⟨R_call_inv hI h, R_call_fm hI h⟩
theorem R_log_keep {σ τ : zSt} {x y f r : Int} (hI : zInv σ) (h : R_log σ x y f r τ) : zInv τ ∧ s_fm τ ≤ s_fm σ + 6 := ⟨R_log_inv hI h, R_log_fm hI h⟩
theorem R_listen_keep {σ τ : zSt} {q r : Int} (hI : zInv σ) (h : R_listen σ q r τ) : zInv τ ∧ s_fm τ ≤ s_fm σ + 6 := ⟨R_listen_inv hI h, R_listen_fm hI h⟩
theorem R_light_keep {σ τ : zSt} {q k r : Int} (hI : zInv σ) (h : R_light σ q k r τ) : zInv τ ∧ s_fm τ ≤ s_fm σ + 6 := by rw [R_light_inv h]; exact ⟨hI, by omega⟩
theorem R_light_thr {σ τ : zSt} {q k r : Int} (_ : zInv σ) (h : R_light σ q k r τ) (_ : iI r = iI (-2000000000)) : τ = σ := R_light_inv h
theorem R_density_keep {σ τ : zSt} {q y r : Int} (hI : zInv σ) (h : R_density σ q y r τ) : zInv τ ∧ s_fm τ ≤ s_fm σ + 6 := by rw [R_density_inv h]; exact ⟨hI, by omega⟩
theorem R_density_thr {σ τ : zSt} {q y r : Int} (_ : zInv σ) (h : R_density σ q y r τ) (_ : iI r = iI (-2000000000)) : τ = σ := R_density_inv h
theorem R_landing_keep {σ τ : zSt} {q g a f n r : Int} (hI : zInv σ) (h : R_landing σ q g a f n r τ) : zInv τ ∧ s_fm τ ≤ s_fm σ + 6 := by rw [R_landing_inv h]; exact ⟨hI, by omega⟩
theorem R_landing_thr {σ τ : zSt} {q g a f n r : Int} (_ : zInv σ) (h : R_landing σ q g a f n r τ) (_ : iI r = iI (-2000000000)) : τ = σ := R_landing_inv h
theorem R_paths_keep {σ τ : zSt} {q t f w r : Int} (hI : zInv σ) (h : R_paths σ q t f w r τ) : zInv τ ∧ s_fm τ ≤ s_fm σ + 6 := by rw [R_paths_inv h]; exact ⟨hI, by omega⟩
theorem R_paths_thr {σ τ : zSt} {q t f w r : Int} (_ : zInv σ) (h : R_paths σ q t f w r τ) (_ : iI r = iI (-2000000000)) : τ = σ := R_paths_inv h
theorem R_path_keep {σ τ : zSt} {q t f w k wh r : Int} (hI : zInv σ) (h : R_path σ q t f w k wh r τ) : zInv τ ∧ s_fm τ ≤ s_fm σ + 6 := by rw [R_path_inv h]; exact ⟨hI, by omega⟩
theorem R_path_thr {σ τ : zSt} {q t f w k wh r : Int} (_ : zInv σ) (h : R_path σ q t f w k wh r τ) (_ : iI r = iI (-2000000000)) : τ = σ := R_path_inv h
theorem R_explain_keep {σ τ : zSt} {q t f w mm r : Int} (hI : zInv σ) (h : R_explain σ q t f w mm r τ) : zInv τ ∧ s_fm τ ≤ s_fm σ + 6 := by rw [R_explain_inv h]; exact ⟨hI, by omega⟩
theorem R_explain_thr {σ τ : zSt} {q t f w mm r : Int} (_ : zInv σ) (h : R_explain σ q t f w mm r τ) (_ : iI r = iI (-2000000000)) : τ = σ := R_explain_inv h
theorem R_usable_keep {σ τ : zSt} {q t w g r : Int} (hI : zInv σ) (h : R_usable σ q t w g r τ) : zInv τ ∧ s_fm τ ≤ s_fm σ + 6 := by rw [R_usable_inv h]; exact ⟨hI, by omega⟩
theorem R_usable_thr {σ τ : zSt} {q t w g r : Int} (_ : zInv σ) (h : R_usable σ q t w g r τ) (_ : iI r = iI (-2000000000)) : τ = σ := R_usable_inv h
theorem R_skipped_keep {σ τ : zSt} {q g f r : Int} (hI : zInv σ) (h : R_skipped σ q g f r τ) : zInv τ ∧ s_fm τ ≤ s_fm σ + 6 := by rw [R_skipped_inv h]; exact ⟨hI, by omega⟩
theorem R_skipped_thr {σ τ : zSt} {q g f r : Int} (_ : zInv σ) (h : R_skipped σ q g f r τ) (_ : iI r = iI (-2000000000)) : τ = σ := R_skipped_inv h
theorem R_signal_keep {σ τ : zSt} {x y f r : Int} (hI : zInv σ) (h : R_signal σ x y f r τ) : zInv τ ∧ s_fm τ ≤ s_fm σ + 6 := by rw [R_signal_inv h]; exact ⟨hI, by omega⟩
theorem R_signal_thr {σ τ : zSt} {x y f r : Int} (_ : zInv σ) (h : R_signal σ x y f r τ) (_ : iI r = iI (-2000000000)) : τ = σ := R_signal_inv h
theorem R_contactOf_keep {σ τ : zSt} {k wh r : Int} (hI : zInv σ) (h : R_contactOf σ k wh r τ) : zInv τ ∧ s_fm τ ≤ s_fm σ + 6 := by rw [R_contactOf_inv h]; exact ⟨hI, by omega⟩
theorem R_contactOf_thr {σ τ : zSt} {k wh r : Int} (_ : zInv σ) (h : R_contactOf σ k wh r τ) (_ : iI r = iI (-2000000000)) : τ = σ := R_contactOf_inv h
theorem R_entryOf_keep {σ τ : zSt} {k wh r : Int} (hI : zInv σ) (h : R_entryOf σ k wh r τ) : zInv τ ∧ s_fm τ ≤ s_fm σ + 6 := by rw [R_entryOf_inv h]; exact ⟨hI, by omega⟩
theorem R_entryOf_thr {σ τ : zSt} {k wh r : Int} (_ : zInv σ) (h : R_entryOf σ k wh r τ) (_ : iI r = iI (-2000000000)) : τ = σ := R_entryOf_inv h
theorem R_score_keep {σ τ : zSt} {x r : Int} (hI : zInv σ) (h : R_score σ x r τ) : zInv τ ∧ s_fm τ ≤ s_fm σ + 6 := by rw [R_score_inv h]; exact ⟨hI, by omega⟩
theorem R_score_thr {σ τ : zSt} {x r : Int} (_ : zInv σ) (h : R_score σ x r τ) (_ : iI r = iI (-2000000000)) : τ = σ := R_score_inv h
theorem R_count_keep {σ τ : zSt} {wh r : Int} (hI : zInv σ) (h : R_count σ wh r τ) : zInv τ ∧ s_fm τ ≤ s_fm σ + 6 := by rw [R_count_inv h]; exact ⟨hI, by omega⟩
theorem R_count_thr {σ τ : zSt} {wh r : Int} (_ : zInv σ) (h : R_count σ wh r τ) (_ : iI r = iI (-2000000000)) : τ = σ := R_count_inv h
theorem R_forecasts_det {σ τ τ' : zSt} {g r r' : Int} (h : R_forecasts σ g r τ) (h' : R_forecasts σ g r' τ') : r = r' ∧ τ = τ' := ⟨h.1.trans h'.1.symm, h.2.trans h'.2.symm⟩
theorem R_forecasts_keep {σ τ : zSt} {g r : Int} (hI : zInv σ) (h : R_forecasts σ g r τ) : zInv τ ∧ s_fm τ ≤ s_fm σ + 6 := by rw [h.2]; exact ⟨hI, by omega⟩
theorem R_forecasts_thr {σ τ : zSt} {g r : Int} (_ : zInv σ) (h : R_forecasts σ g r τ) (_ : iI r = iI (-2000000000)) : τ = σ := h.2
theorem stpO_det {v pa pb xa xb mu fe fv yi : Int} {σ τ τ' : zSt} {r r' : Int} : ∀ k : Nat, stpO k v pa pb xa xb mu fe fv yi σ r τ → stpO k v pa pb xa xb mu fe fv yi σ r' τ' → r = r' ∧ τ = τ'
  | 0 => fun h h' => R_sun_det h h'
  | 1 => fun h h' => R_storm_det h h'
  | 2 => fun h h' => R_flare_det h h'
  | 3 => fun h h' => R_cloud_det h h'
  | 4 => fun h h' => R_sea_det h h'
  | 5 => fun h h' => R_noise_det h h'
  | 6 => fun h h' => R_pass_det h h'
  | 7 => fun h h' => R_pass_det h h'
  | 8 => fun h h' => R_pass_det h h'
  | 9 => fun h h' => R_pass_det h h'
  | 10 => fun h h' => R_station_det h h'
  | 11 => fun h h' => R_station_det h h'
  | 12 => fun h h' => R_station_det h h'
  | 13 => fun h h' => R_station_det h h'
  | 14 => fun h h' => R_station_det h h'
  | 15 => fun h h' => R_beacon_det h h'
  | 16 => fun h h' => R_beacon_det h h'
  | 17 => fun h h' => R_call_det h h'
  | 18 => fun h h' => R_call_det h h'
  | 19 => fun h h' => R_call_det h h'
  | 20 => fun h h' => R_call_det h h'
  | 21 => fun h h' => R_call_det h h'
  | 22 => fun h h' => R_log_det h h'
  | 23 => fun h h' => R_log_det h h'
  | 24 => fun h h' => R_log_det h h'
  | 25 => fun h h' => R_log_det h h'
  | 26 => fun h h' => R_log_det h h'
  | 27 => fun h h' => R_log_det h h'
  | 28 => fun h h' => R_listen_det h h'
  | 29 => fun h h' => R_light_det h h'
  | 30 => fun h h' => R_density_det h h'
  | 31 => fun h h' => R_landing_det h h'
  | 32 => fun h h' => R_paths_det h h'
  | 33 => fun h h' => R_path_det h h'
  | 34 => fun h h' => R_explain_det h h'
  | 35 => fun h h' => by
    have h : (if (loZ (shZ v 12) 5) = 0 then R_usable σ pa pb mu yi r τ else R_skipped σ pa yi fv r τ) := h
    have h' : (if (loZ (shZ v 12) 5) = 0 then R_usable σ pa pb mu yi r' τ' else R_skipped σ pa yi fv r' τ') := h'
    by_cases cc : (loZ (shZ v 12) 5) = 0
    · rw [if_pos cc] at h h'; exact R_usable_det h h'
    · rw [if_neg cc] at h h'; exact R_skipped_det h h'
  | 36 => fun h h' => R_signal_det h h'
  | 37 => fun h h' => R_contactOf_det h h'
  | 38 => fun h h' => R_entryOf_det h h'
  | 39 => fun h h' => R_entryOf_det h h'
  | 40 => fun h h' => R_score_det h h'
  | _ + 41 => fun h h' => by
    have h : (if (loZ (shZ v 12) 3) = 0 then R_forecasts σ yi r τ else R_count σ mu r τ) := h
    have h' : (if (loZ (shZ v 12) 3) = 0 then R_forecasts σ yi r' τ' else R_count σ mu r' τ') := h'
    by_cases cc : (loZ (shZ v 12) 3) = 0
    · rw [if_pos cc] at h h'; exact R_forecasts_det h h'
    · rw [if_neg cc] at h h'; exact R_count_det h h'
theorem stpO_keep {v pa pb xa xb mu fe fv yi : Int} {σ τ : zSt} {r : Int} (h_yi : 0 ≤ yi ∧ yi ≤ 1) (hI : zInv σ) : ∀ k : Nat, stpO k v pa pb xa xb mu fe fv yi σ r τ → zInv τ ∧ s_fm τ ≤ s_fm σ + 6
  | 0 => fun h => R_sun_keep hI h
  | 1 => fun h => R_storm_keep hI h
  | 2 => fun h => R_flare_keep hI h
  | 3 => fun h => R_cloud_keep hI h
  | 4 => fun h => R_sea_keep h_yi hI h
  | 5 => fun h => R_noise_keep hI h
  | 6 => fun h => R_pass_keep hI h
  | 7 => fun h => R_pass_keep hI h
  | 8 => fun h => R_pass_keep hI h
  | 9 => fun h => R_pass_keep hI h
  | 10 => fun h => R_station_keep hI h
  | 11 => fun h => R_station_keep hI h
  | 12 => fun h => R_station_keep hI h
  | 13 => fun h => R_station_keep hI h
  | 14 => fun h => R_station_keep hI h
  | 15 => fun h => R_beacon_keep hI h
  | 16 => fun h => R_beacon_keep hI h
  | 17 => fun h => R_call_keep hI h
  | 18 => fun h => R_call_keep hI h
  | 19 => fun h => R_call_keep hI h
  | 20 => fun h => R_call_keep hI h
  | 21 => fun h => R_call_keep hI h
  | 22 => fun h => R_log_keep hI h
  | 23 => fun h => R_log_keep hI h
  | 24 => fun h => R_log_keep hI h
  | 25 => fun h => R_log_keep hI h
  | 26 => fun h => R_log_keep hI h
  | 27 => fun h => R_log_keep hI h
  | 28 => fun h => R_listen_keep hI h
  | 29 => fun h => R_light_keep hI h
  | 30 => fun h => R_density_keep hI h
  | 31 => fun h => R_landing_keep hI h
  | 32 => fun h => R_paths_keep hI h
  | 33 => fun h => R_path_keep hI h
  | 34 => fun h => R_explain_keep hI h
  | 35 => fun h => by
    have h : (if (loZ (shZ v 12) 5) = 0 then R_usable σ pa pb mu yi r τ else R_skipped σ pa yi fv r τ) := h
    by_cases cc : (loZ (shZ v 12) 5) = 0
    · rw [if_pos cc] at h; exact R_usable_keep hI h
    · rw [if_neg cc] at h; exact R_skipped_keep hI h
  | 36 => fun h => R_signal_keep hI h
  | 37 => fun h => R_contactOf_keep hI h
  | 38 => fun h => R_entryOf_keep hI h
  | 39 => fun h => R_entryOf_keep hI h
  | 40 => fun h => R_score_keep hI h
  | _ + 41 => fun h => by
    have h : (if (loZ (shZ v 12) 3) = 0 then R_forecasts σ yi r τ else R_count σ mu r τ) := h
    by_cases cc : (loZ (shZ v 12) 3) = 0
    · rw [if_pos cc] at h; exact R_forecasts_keep hI h
    · rw [if_neg cc] at h; exact R_count_keep hI h
theorem stpO_thr {v pa pb xa xb mu fe fv yi : Int} {σ τ : zSt} {r : Int} (hI : zInv σ) (hr : iI r = iI (-2000000000)) : ∀ k : Nat, stpO k v pa pb xa xb mu fe fv yi σ r τ → τ = σ
  | 0 => fun h => R_sun_thr hI h hr
  | 1 => fun h => R_storm_thr hI h hr
  | 2 => fun h => R_flare_thr hI h hr
  | 3 => fun h => R_cloud_thr hI h hr
  | 4 => fun h => R_sea_thr hI h hr
  | 5 => fun h => R_noise_thr hI h hr
  | 6 => fun h => R_pass_thr hI h hr
  | 7 => fun h => R_pass_thr hI h hr
  | 8 => fun h => R_pass_thr hI h hr
  | 9 => fun h => R_pass_thr hI h hr
  | 10 => fun h => R_station_thr hI h hr
  | 11 => fun h => R_station_thr hI h hr
  | 12 => fun h => R_station_thr hI h hr
  | 13 => fun h => R_station_thr hI h hr
  | 14 => fun h => R_station_thr hI h hr
  | 15 => fun h => R_beacon_thr hI h hr
  | 16 => fun h => R_beacon_thr hI h hr
  | 17 => fun h => R_call_thr hI h hr
  | 18 => fun h => R_call_thr hI h hr
  | 19 => fun h => R_call_thr hI h hr
  | 20 => fun h => R_call_thr hI h hr
  | 21 => fun h => R_call_thr hI h hr
  | 22 => fun h => R_log_thr hI h hr
  | 23 => fun h => R_log_thr hI h hr
  | 24 => fun h => R_log_thr hI h hr
  | 25 => fun h => R_log_thr hI h hr
  | 26 => fun h => R_log_thr hI h hr
  | 27 => fun h => R_log_thr hI h hr
  | 28 => fun h => R_listen_thr hI h hr
  | 29 => fun h => R_light_thr hI h hr
  | 30 => fun h => R_density_thr hI h hr
  | 31 => fun h => R_landing_thr hI h hr
  | 32 => fun h => R_paths_thr hI h hr
  | 33 => fun h => R_path_thr hI h hr
  | 34 => fun h => R_explain_thr hI h hr
  | 35 => fun h => by
    have h : (if (loZ (shZ v 12) 5) = 0 then R_usable σ pa pb mu yi r τ else R_skipped σ pa yi fv r τ) := h
    by_cases cc : (loZ (shZ v 12) 5) = 0
    · rw [if_pos cc] at h; exact R_usable_thr hI h hr
    · rw [if_neg cc] at h; exact R_skipped_thr hI h hr
  | 36 => fun h => R_signal_thr hI h hr
  | 37 => fun h => R_contactOf_thr hI h hr
  | 38 => fun h => R_entryOf_thr hI h hr
  | 39 => fun h => R_entryOf_thr hI h hr
  | 40 => fun h => R_score_thr hI h hr
  | _ + 41 => fun h => by
    have h : (if (loZ (shZ v 12) 3) = 0 then R_forecasts σ yi r τ else R_count σ mu r τ) := h
    by_cases cc : (loZ (shZ v 12) 3) = 0
    · rw [if_pos cc] at h; exact R_forecasts_thr hI h hr
    · rw [if_neg cc] at h; exact R_count_thr hI h hr
theorem stpE_det {v pa pb xa xb mu fe fv yi : Int} {σ τ τ' : zSt} {r r' : Int} : ∀ k : Nat, stpE k v pa pb xa xb mu fe fv yi σ r τ → stpE k v pa pb xa xb mu fe fv yi σ r' τ' → r = r' ∧ τ = τ'
  | 0 => fun h h' => R_sun_det h h'
  | 1 => fun h h' => R_storm_det h h'
  | 2 => fun h h' => R_flare_det h h'
  | 3 => fun h h' => R_cloud_det h h'
  | 4 => fun h h' => R_sea_det h h'
  | 5 => fun h h' => R_noise_det h h'
  | 6 => fun h h' => R_pass_det h h'
  | 7 => fun h h' => R_pass_det h h'
  | 8 => fun h h' => R_pass_det h h'
  | 9 => fun h h' => R_pass_det h h'
  | 10 => fun h h' => R_station_det h h'
  | 11 => fun h h' => R_station_det h h'
  | 12 => fun h h' => R_station_det h h'
  | 13 => fun h h' => R_station_det h h'
  | 14 => fun h h' => R_station_det h h'
  | 15 => fun h h' => R_beacon_det h h'
  | 16 => fun h h' => R_beacon_det h h'
  | 17 => fun h h' => R_call_det h h'
  | 18 => fun h h' => R_call_det h h'
  | 19 => fun h h' => R_call_det h h'
  | 20 => fun h h' => R_call_det h h'
  | 21 => fun h h' => R_call_det h h'
  | 22 => fun h h' => R_log_det h h'
  | 23 => fun h h' => R_log_det h h'
  | 24 => fun h h' => R_log_det h h'
  | 25 => fun h h' => R_log_det h h'
  | 26 => fun h h' => R_log_det h h'
  | 27 => fun h h' => R_log_det h h'
  | 28 => fun h h' => R_listen_det h h'
  | 29 => fun h h' => R_light_det h h'
  | 30 => fun h h' => R_density_det h h'
  | 31 => fun h h' => R_landing_det h h'
  | 32 => fun h h' => R_paths_det h h'
  | 33 => fun h h' => R_path_det h h'
  | 34 => fun h h' => R_explain_det h h'
  | 35 => fun h h' => by
    have h : (if (loZ (shZ v 12) 5) = 0 then R_usable σ pa pb 40 yi r τ else R_skipped σ pa yi fv r τ) := h
    have h' : (if (loZ (shZ v 12) 5) = 0 then R_usable σ pa pb 40 yi r' τ' else R_skipped σ pa yi fv r' τ') := h'
    by_cases cc : (loZ (shZ v 12) 5) = 0
    · rw [if_pos cc] at h h'; exact R_usable_det h h'
    · rw [if_neg cc] at h h'; exact R_skipped_det h h'
  | 36 => fun h h' => R_signal_det h h'
  | 37 => fun h h' => R_contactOf_det h h'
  | 38 => fun h h' => R_entryOf_det h h'
  | 39 => fun h h' => R_entryOf_det h h'
  | 40 => fun h h' => R_score_det h h'
  | _ + 41 => fun h h' => by
    have h : (if (loZ (shZ v 12) 3) = 0 then R_forecasts σ yi r τ else R_count σ (loZ (shZ v 9) 5) r τ) := h
    have h' : (if (loZ (shZ v 12) 3) = 0 then R_forecasts σ yi r' τ' else R_count σ (loZ (shZ v 9) 5) r' τ') := h'
    by_cases cc : (loZ (shZ v 12) 3) = 0
    · rw [if_pos cc] at h h'; exact R_forecasts_det h h'
    · rw [if_neg cc] at h h'; exact R_count_det h h'
theorem stpE_keep {v pa pb xa xb mu fe fv yi : Int} {σ τ : zSt} {r : Int} (h_yi : 0 ≤ yi ∧ yi ≤ 1) (hI : zInv σ) : ∀ k : Nat, stpE k v pa pb xa xb mu fe fv yi σ r τ → zInv τ ∧ s_fm τ ≤ s_fm σ + 6
  | 0 => fun h => R_sun_keep hI h
  | 1 => fun h => R_storm_keep hI h
  | 2 => fun h => R_flare_keep hI h
  | 3 => fun h => R_cloud_keep hI h
  | 4 => fun h => R_sea_keep h_yi hI h
  | 5 => fun h => R_noise_keep hI h
  | 6 => fun h => R_pass_keep hI h
  | 7 => fun h => R_pass_keep hI h
  | 8 => fun h => R_pass_keep hI h
  | 9 => fun h => R_pass_keep hI h
  | 10 => fun h => R_station_keep hI h
  | 11 => fun h => R_station_keep hI h
  | 12 => fun h => R_station_keep hI h
  | 13 => fun h => R_station_keep hI h
  | 14 => fun h => R_station_keep hI h
  | 15 => fun h => R_beacon_keep hI h
  | 16 => fun h => R_beacon_keep hI h
  | 17 => fun h => R_call_keep hI h
  | 18 => fun h => R_call_keep hI h
  | 19 => fun h => R_call_keep hI h
  | 20 => fun h => R_call_keep hI h
  | 21 => fun h => R_call_keep hI h
  | 22 => fun h => R_log_keep hI h
  | 23 => fun h => R_log_keep hI h
  | 24 => fun h => R_log_keep hI h
  | 25 => fun h => R_log_keep hI h
  | 26 => fun h => R_log_keep hI h
  | 27 => fun h => R_log_keep hI h
  | 28 => fun h => R_listen_keep hI h
  | 29 => fun h => R_light_keep hI h
  | 30 => fun h => R_density_keep hI h
  | 31 => fun h => R_landing_keep hI h
  | 32 => fun h => R_paths_keep hI h
  | 33 => fun h => R_path_keep hI h
  | 34 => fun h => R_explain_keep hI h
  | 35 => fun h => by
    have h : (if (loZ (shZ v 12) 5) = 0 then R_usable σ pa pb 40 yi r τ else R_skipped σ pa yi fv r τ) := h
    by_cases cc : (loZ (shZ v 12) 5) = 0
    · rw [if_pos cc] at h; exact R_usable_keep hI h
    · rw [if_neg cc] at h; exact R_skipped_keep hI h
  | 36 => fun h => R_signal_keep hI h
  | 37 => fun h => R_contactOf_keep hI h
  | 38 => fun h => R_entryOf_keep hI h
  | 39 => fun h => R_entryOf_keep hI h
  | 40 => fun h => R_score_keep hI h
  | _ + 41 => fun h => by
    have h : (if (loZ (shZ v 12) 3) = 0 then R_forecasts σ yi r τ else R_count σ (loZ (shZ v 9) 5) r τ) := h
    by_cases cc : (loZ (shZ v 12) 3) = 0
    · rw [if_pos cc] at h; exact R_forecasts_keep hI h
    · rw [if_neg cc] at h; exact R_count_keep hI h
theorem stpE_thr {v pa pb xa xb mu fe fv yi : Int} {σ τ : zSt} {r : Int} (hI : zInv σ) (hr : iI r = iI (-2000000000)) : ∀ k : Nat, stpE k v pa pb xa xb mu fe fv yi σ r τ → τ = σ
  | 0 => fun h => R_sun_thr hI h hr
  | 1 => fun h => R_storm_thr hI h hr
  | 2 => fun h => R_flare_thr hI h hr
  | 3 => fun h => R_cloud_thr hI h hr
  | 4 => fun h => R_sea_thr hI h hr
  | 5 => fun h => R_noise_thr hI h hr
  | 6 => fun h => R_pass_thr hI h hr
  | 7 => fun h => R_pass_thr hI h hr
  | 8 => fun h => R_pass_thr hI h hr
  | 9 => fun h => R_pass_thr hI h hr
  | 10 => fun h => R_station_thr hI h hr
  | 11 => fun h => R_station_thr hI h hr
  | 12 => fun h => R_station_thr hI h hr
  | 13 => fun h => R_station_thr hI h hr
  | 14 => fun h => R_station_thr hI h hr
  | 15 => fun h => R_beacon_thr hI h hr
  | 16 => fun h => R_beacon_thr hI h hr
  | 17 => fun h => R_call_thr hI h hr
  | 18 => fun h => R_call_thr hI h hr
  | 19 => fun h => R_call_thr hI h hr
  | 20 => fun h => R_call_thr hI h hr
  | 21 => fun h => R_call_thr hI h hr
  | 22 => fun h => R_log_thr hI h hr
  | 23 => fun h => R_log_thr hI h hr
  | 24 => fun h => R_log_thr hI h hr
  | 25 => fun h => R_log_thr hI h hr
  | 26 => fun h => R_log_thr hI h hr
  | 27 => fun h => R_log_thr hI h hr
  | 28 => fun h => R_listen_thr hI h hr
  | 29 => fun h => R_light_thr hI h hr
  | 30 => fun h => R_density_thr hI h hr
  | 31 => fun h => R_landing_thr hI h hr
  | 32 => fun h => R_paths_thr hI h hr
  | 33 => fun h => R_path_thr hI h hr
  | 34 => fun h => R_explain_thr hI h hr
  | 35 => fun h => by
    have h : (if (loZ (shZ v 12) 5) = 0 then R_usable σ pa pb 40 yi r τ else R_skipped σ pa yi fv r τ) := h
    by_cases cc : (loZ (shZ v 12) 5) = 0
    · rw [if_pos cc] at h; exact R_usable_thr hI h hr
    · rw [if_neg cc] at h; exact R_skipped_thr hI h hr
  | 36 => fun h => R_signal_thr hI h hr
  | 37 => fun h => R_contactOf_thr hI h hr
  | 38 => fun h => R_entryOf_thr hI h hr
  | 39 => fun h => R_entryOf_thr hI h hr
  | 40 => fun h => R_score_thr hI h hr
  | _ + 41 => fun h => by
    have h : (if (loZ (shZ v 12) 3) = 0 then R_forecasts σ yi r τ else R_count σ (loZ (shZ v 9) 5) r τ) := h
    by_cases cc : (loZ (shZ v 12) 3) = 0
    · rw [if_pos cc] at h; exact R_forecasts_thr hI h hr
    · rw [if_neg cc] at h; exact R_count_thr hI h hr
theorem stepR_det {v : Int} {σ τ τ' : zSt} {r r' : Int} (h : stepR v σ r τ) (h' : stepR v σ r' τ') : r = r' ∧ τ = τ' := by
  unfold stepR at h h'
  by_cases cc : loZ (shZ v 26) 14 = 0
  · rw [if_pos cc] at h h'; exact stpO_det _ h h'
  · rw [if_neg cc] at h h'; exact stpE_det _ h h'
theorem stepR_keep {v : Int} {σ τ : zSt} {r : Int} (hI : zInv σ) (h : stepR v σ r τ) : zInv τ ∧ s_fm τ ≤ s_fm σ + 6 := by
  unfold stepR at h
  by_cases cc : loZ (shZ v 26) 14 = 0
  · rw [if_pos cc] at h; exact stpO_keep (isZ_rg v) hI _ h
  · rw [if_neg cc] at h; exact stpE_keep (isZ_rg v) hI _ h
theorem stepR_thr {v : Int} {σ τ : zSt} {r : Int} (hI : zInv σ) (h : stepR v σ r τ) (hr : iI r = iI (-2000000000)) : τ = σ := by
  unfold stepR at h
  by_cases cc : loZ (shZ v 26) 14 = 0
  · rw [if_pos cc] at h; exact stpO_thr hI hr _ h
  · rw [if_neg cc] at h; exact stpE_thr hI hr _ h
