/-! contracts: the model, what everybody may call, 2 -/
set_option maxRecDepth 100000 in
set_option maxHeartbeats 4000000 in
theorem c_X7_counts (l : Launch) (D : va_G) (cy : Nat → ClassId) (z0 : Nat) (ad : Nat → Nat) (th h su st sh fl ic sn bn fm fr cm em lg le lf dl : Int) (cS cH sea noi pl pw an hd bp bo bw c1 c2 c3 c4 c5 e1 e2 e3 e4 e5 : Int → Int) (k : Int) (g_c1 : zrg 60 0 11 c1) (g_c2 : zrg 60 0 11 c2) (g_c3 : zrg 60 0 300 c3) (g_c5 : zrg 60 0 5000 c5) (g_e1 : zrg 80 0 11 e1) (g_e2 : zrg 80 0 11 e2) (g_e3 : zrg 80 0 300 e3) (g_e4 : zrg 80 0 5000 e4) (g_e5 : zrg 80 (-1) 79 e5) (hcm : 0 ≤ cm ∧ cm ≤ 60) (hk : 0 ≤ k ∧ k < 80) : Met l yX7_counts [.code yX7_counts cX7_counts 6 (some .boolean)] (zRm 0 0 0 0) (zPc [.ref (ad 0), .int (iI k)] D cy z0 (fun H => va_P D vwCl (mdlW ad 0 cy th h su st sh fl ic sn bn fm fr cm em lg le lf dl cS cH sea noi pl pw an hd bp bo bw c1 c2 c3 c4 c5 e1 e2 e3 e4 e5) H)) (QcRead (iI (zif (cntZ cm c1 c2 c3 c5 e1 e2 e3 e4 e5 k) 1 0))) 0 0 (fun _ => False) := by
  refine z_of (by decide) (Nat.le_of_ble_eq_true rfl) ?_
  intro p e s m args below meth c M hr hlk _ hargs hP hE ls hl
  have hS : va_S (fun q => z0 ≤ q) s.heap s.heap [] := va_S.rf
  have hAz : ∀ q : Nat, (fun q => z0 ≤ q) q → z0 ≤ q := fun _ h => h
  have hl : lv_has ls 6 [(0, .ref (ad 0)), (1, .int (iI k))] := hl
  refine zi_push M dX7_counts_0 ?_
  refine lv_istore_n (lv' := [(2, .int (iI 0)), (0, .ref (ad 0)), (1, .int (iI k))]) M.1 M.2.1 dX7_counts_1 rfl hl (by decide) rfl (fun ls hl => ?_)
  refine zi_push M dX7_counts_2 ?_
  refine lv_istore_n (lv' := [(3, .int (iI 0)), (2, .int (iI 0)), (0, .ref (ad 0)), (1, .int (iI k))]) M.1 M.2.1 dX7_counts_3 rfl hl (by decide) rfl (fun ls hl => ?_)
  have L_4 : ∀ (k_4 : Nat) (d : Int) (i : Int) (hi : 0 ≤ i ∧ i ≤ cm) (hd01 : d = 0 ∨ d = 1) (hdd : (d = 1 ∧ ∃ n : Int, 0 ≤ n ∧ n < i ∧ cntQ c1 c2 c3 c5 e1 e2 e3 e4 e5 k n) ∨ (d = 0 ∧ ∀ j : Int, 0 ≤ j → j < i → ¬ cntQ c1 c2 c3 c5 e1 e2 e3 e4 e5 k j)) (hp5 : d = 1 → ¬ e5 k = -1) (hm : cm - i < (k_4 : Int)) (ls : Array Slot) (hl : lv_has ls 6 [(0, .ref (ad 0)), (1, .int (iI k)), (2, .int (iI d)), (3, .int (iI i))]), W p l e (zRm 0 0 0 0) s m args below meth c s.heap [] 0 0 (MQ below (QcRead (iI (zif (cntZ cm c1 c2 c3 c5 e1 e2 e3 e4 e5 k) 1 0))) args s 0 0 (fun _ => False)) (F0 m 4 ls []) := by
    intro k_4
    induction k_4 with
    | zero =>
      intro d i hi hd01 hdd hp5 hm ls hl
      exact absurd hm (by omega)
    | succ k_4 ih_4 =>
      intro d i hi hd01 hdd hp5 hm ls hl
      have hr_k := g_e5 k (by omega) (by omega)
      refine lv_iload_n M.1 M.2.1 dX7_counts_4 rfl (lv_at hl 3 rfl) ?_
      refine lv_aload_n M.1 M.2.1 dX7_counts_5 rfl (lv_at hl 0 rfl) ?_
      refine zi_get (ci := 7) (v := .int (iI cm)) M hE hP 0 rfl rfl zu_X7 22 (by decide) zk_fl_RX7_180 rfl rfl dX7_counts_6 ?_
      refine zi_icmp_ge (tgt := 172) M dX7_counts_9 (by decide) (by omega) (by omega) (fun c_1 => ?_) (fun c_1 => ?_)
      ·
        refine lv_iload_n M.1 M.2.1 dX7_counts_172 rfl (lv_at hl 2 rfl) ?_
        exact zr_z M hr hlk (v := d) (show (d : Int) = zif (cntZ cm c1 c2 c3 c5 e1 e2 e3 e4 e5 k) 1 0 by (rcases hdd with ⟨z, n, a, b, h9⟩ | ⟨z, h9⟩; rw [z]; exact (zif_t ⟨hp5 z, n, a, by omega, h9⟩).symm; rw [z]; exact (zif_f (fun ⟨g1, n, a, b, g2⟩ => by first | exact g1 (by omega) | exact h9 n a (by omega) g2)).symm)) ((by omega)) dX7_counts_173
      ·
        refine lv_aload_n M.1 M.2.1 dX7_counts_12 rfl (lv_at hl 0 rfl) ?_
        refine zi_get (ci := 7) (v := .ref (ad (0 + 21))) M hE hP 0 rfl rfl zu_X7 33 (by decide) zk_fl_RX7_75 rfl rfl dX7_counts_13 ?_
        refine lv_iload_n M.1 M.2.1 dX7_counts_16 rfl (lv_at hl 1 rfl) ?_
        refine zi_iald M hE hP 21 (n := 80) (g := e5) rfl (Nat.le_of_ble_eq_true rfl) (by omega) (by omega) dX7_counts_17 ?_
        have hr_2 := g_e5 k (by omega) (by omega)
        refine zi_push M dX7_counts_18 ?_
        refine zi_icmp_eq (tgt := 172) M dX7_counts_19 (by decide) (by omega) ⟨by decide, by decide⟩ (fun c_3 => ?_) (fun c_3 => ?_)
        ·
          refine lv_iload_n M.1 M.2.1 dX7_counts_172 rfl (lv_at hl 2 rfl) ?_
          exact zr_z M hr hlk (v := d) (show (d : Int) = zif (cntZ cm c1 c2 c3 c5 e1 e2 e3 e4 e5 k) 1 0 by (rcases hdd with ⟨z, n, a, b, h9⟩ | ⟨z, h9⟩; rw [z]; exact (zif_t ⟨hp5 z, n, a, by omega, h9⟩).symm; rw [z]; exact (zif_f (fun ⟨g1, n, a, b, g2⟩ => by first | exact g1 (by omega) | exact h9 n a (by omega) g2)).symm)) ((by omega)) dX7_counts_173
        ·
          refine lv_aload_n M.1 M.2.1 dX7_counts_22 rfl (lv_at hl 0 rfl) ?_
          refine zi_get (ci := 7) (v := .ref (ad (0 + 12))) M hE hP 0 rfl rfl zu_X7 23 (by decide) zk_fl_RX7_48 rfl rfl dX7_counts_23 ?_
          refine lv_iload_n M.1 M.2.1 dX7_counts_26 rfl (lv_at hl 3 rfl) ?_
          refine zi_iald M hE hP 12 (n := 60) (g := c1) rfl (Nat.le_of_ble_eq_true rfl) (by omega) (by omega) dX7_counts_27 ?_
          have hr_4 := g_c1 i (by omega) (by omega)
          refine lv_aload_n M.1 M.2.1 dX7_counts_28 rfl (lv_at hl 0 rfl) ?_
          refine zi_get (ci := 7) (v := .ref (ad (0 + 17))) M hE hP 0 rfl rfl zu_X7 29 (by decide) zk_fl_RX7_63 rfl rfl dX7_counts_29 ?_
          refine lv_iload_n M.1 M.2.1 dX7_counts_32 rfl (lv_at hl 1 rfl) ?_
          refine zi_iald M hE hP 17 (n := 80) (g := e1) rfl (Nat.le_of_ble_eq_true rfl) (by omega) (by omega) dX7_counts_33 ?_
          have hr_5 := g_e1 k (by omega) (by omega)
          refine zi_icmp_ne (tgt := 52) M dX7_counts_34 (by decide) (by omega) (by omega) (fun c_6 => ?_) (fun c_6 => ?_)
          ·
            refine lv_aload_n M.1 M.2.1 dX7_counts_52 rfl (lv_at hl 0 rfl) ?_
            refine zi_get (ci := 7) (v := .ref (ad (0 + 12))) M hE hP 0 rfl rfl zu_X7 23 (by decide) zk_fl_RX7_48 rfl rfl dX7_counts_53 ?_
            refine lv_iload_n M.1 M.2.1 dX7_counts_56 rfl (lv_at hl 3 rfl) ?_
            refine zi_iald M hE hP 12 (n := 60) (g := c1) rfl (Nat.le_of_ble_eq_true rfl) (by omega) (by omega) dX7_counts_57 ?_
            have hr_7 := g_c1 i (by omega) (by omega)
            refine lv_aload_n M.1 M.2.1 dX7_counts_58 rfl (lv_at hl 0 rfl) ?_
            refine zi_get (ci := 7) (v := .ref (ad (0 + 18))) M hE hP 0 rfl rfl zu_X7 30 (by decide) zk_fl_RX7_66 rfl rfl dX7_counts_59 ?_
            refine lv_iload_n M.1 M.2.1 dX7_counts_62 rfl (lv_at hl 1 rfl) ?_
            refine zi_iald M hE hP 18 (n := 80) (g := e2) rfl (Nat.le_of_ble_eq_true rfl) (by omega) (by omega) dX7_counts_63 ?_
            have hr_8 := g_e2 k (by omega) (by omega)
            refine zi_icmp_ne (tgt := 86) M dX7_counts_64 (by decide) (by omega) (by omega) (fun c_9 => ?_) (fun c_9 => ?_)
            ·
              refine zi_push M dX7_counts_86 ?_
              refine lv_istore (lv' := [(4, .int (iI 0)), (0, .ref (ad 0)), (1, .int (iI k)), (2, .int (iI d)), (3, .int (iI i))]) M.1 M.2.1 dX7_counts_87 hl (by decide) rfl (fun ls hl => ?_)
              refine lv_aload_n M.1 M.2.1 dX7_counts_89 rfl (lv_at hl 1 rfl) ?_
              refine zi_get (ci := 7) (v := .ref (ad (0 + 16))) M hE hP 0 rfl rfl zu_X7 27 (by decide) zk_fl_RX7_60 rfl rfl dX7_counts_90 ?_
              refine lv_iload_n M.1 M.2.1 dX7_counts_93 rfl (lv_at hl 4 rfl) ?_
              refine zi_iald M hE hP 16 (n := 60) (g := c5) rfl (Nat.le_of_ble_eq_true rfl) (by omega) (by omega) dX7_counts_94 ?_
              have hr_10 := g_c5 i (by omega) (by omega)
              refine lv_aload_n M.1 M.2.1 dX7_counts_95 rfl (lv_at hl 1 rfl) ?_
              refine zi_get (ci := 7) (v := .ref (ad (0 + 20))) M hE hP 0 rfl rfl zu_X7 32 (by decide) zk_fl_RX7_72 rfl rfl dX7_counts_96 ?_
              refine lv_iload_n M.1 M.2.1 dX7_counts_99 rfl (lv_at hl 2 rfl) ?_
              refine zi_iald M hE hP 20 (n := 80) (g := e4) rfl (Nat.le_of_ble_eq_true rfl) (by omega) (by omega) dX7_counts_100 ?_
              have hr_11 := g_e4 k (by omega) (by omega)
              refine zi_icmp_eq (tgt := 124) M dX7_counts_101 (by decide) (by omega) (by omega) (fun c_12 => ?_) (fun c_12 => ?_)
              ·
                refine zi_push M dX7_counts_124 ?_
                refine zi_goto (tgt := 129) M dX7_counts_125 (by decide) ?_
                refine lv_istore (lv' := [(5, .int (iI 1)), (4, .int (iI 0)), (0, .ref (ad 0)), (1, .int (iI k)), (2, .int (iI d)), (3, .int (iI i))]) M.1 M.2.1 dX7_counts_129 hl (by decide) rfl (fun ls hl => ?_)
                refine lv_iload_n M.1 M.2.1 dX7_counts_131 rfl (lv_at hl 4 rfl) ?_
                refine zi_if_ne (tgt := 160) M dX7_counts_132 (by decide) (by omega) (fun c_13 => ?_) (fun c_13 => ?_)
                ·
                  refine zi_push M dX7_counts_160 ?_
                  refine zi_goto (tgt := 165) M dX7_counts_161 (by decide) ?_
                  refine lv_istore_n (lv' := [(2, .int (iI 1)), (5, .int (iI 1)), (4, .int (iI 0)), (0, .ref (ad 0)), (1, .int (iI k)), (3, .int (iI i))]) M.1 M.2.1 dX7_counts_165 rfl hl (by decide) rfl (fun ls hl => ?_)
                  refine zi_iinc (lv' := [(3, .int (iI (i + 1))), (2, .int (iI 1)), (5, .int (iI 1)), (4, .int (iI 0)), (0, .ref (ad 0)), (1, .int (iI k))]) M dX7_counts_166 hl 5 rfl (by decide) rfl (fun ls hl => ?_)
                  refine zi_goto (tgt := 4) M dX7_counts_169 (by decide) ?_
                  exact ih_4 1 (i + 1) (by omega) (by omega) (Or.inl ⟨rfl, by first | exact ⟨i, by omega, by omega, by unfold cntQ; omega⟩ | (rcases hdd with ⟨_, n, a, b, z⟩ | ⟨z, _⟩; exact ⟨n, a, by omega, z⟩; exact absurd z (by omega))⟩) (fun _ => by omega) (by omega) ls (lv_sub hl [4, 5, 1, 0] rfl)
                ·
                  refine lv_iload M.1 M.2.1 dX7_counts_135 (lv_at hl 1 rfl) ?_
                  refine zi_if_eq (tgt := 164) M dX7_counts_137 (by decide) ⟨by decide, by decide⟩ (fun _ => ?_) (fun q => absurd q (by decide))
                  refine zi_push M dX7_counts_164 ?_
                  refine lv_istore_n (lv' := [(2, .int (iI 0)), (5, .int (iI 1)), (4, .int (iI 0)), (0, .ref (ad 0)), (1, .int (iI k)), (3, .int (iI i))]) M.1 M.2.1 dX7_counts_165 rfl hl (by decide) rfl (fun ls hl => ?_)
                  refine zi_iinc (lv' := [(3, .int (iI (i + 1))), (2, .int (iI 0)), (5, .int (iI 1)), (4, .int (iI 0)), (0, .ref (ad 0)), (1, .int (iI k))]) M dX7_counts_166 hl 5 rfl (by decide) rfl (fun ls hl => ?_)
                  refine zi_goto (tgt := 4) M dX7_counts_169 (by decide) ?_
                  exact ih_4 0 (i + 1) (by omega) (by omega) (Or.inr ⟨rfl, fun j h0 h1 => by rcases Int.lt_or_le j i with hj | hj; (rcases hdd with ⟨z, _⟩ | ⟨_, z⟩; exact absurd z (by omega); exact z j h0 hj); (have hji : j = i := (by omega)); subst hji; unfold cntQ; omega⟩) (fun _ => by omega) (by omega) ls (lv_sub hl [4, 5, 1, 0] rfl)
              ·
                refine lv_aload_n M.1 M.2.1 dX7_counts_104 rfl (lv_at hl 1 rfl) ?_
                refine zi_get (ci := 7) (v := .ref (ad (0 + 16))) M hE hP 0 rfl rfl zu_X7 27 (by decide) zk_fl_RX7_60 rfl rfl dX7_counts_105 ?_
                refine lv_iload_n M.1 M.2.1 dX7_counts_108 rfl (lv_at hl 4 rfl) ?_
                refine zi_iald M hE hP 16 (n := 60) (g := c5) rfl (Nat.le_of_ble_eq_true rfl) (by omega) (by omega) dX7_counts_109 ?_
                have hr_14 := g_c5 i (by omega) (by omega)
                refine lv_aload_n M.1 M.2.1 dX7_counts_110 rfl (lv_at hl 1 rfl) ?_
                refine zi_get (ci := 7) (v := .ref (ad (0 + 20))) M hE hP 0 rfl rfl zu_X7 32 (by decide) zk_fl_RX7_72 rfl rfl dX7_counts_111 ?_
                refine lv_aload_n M.1 M.2.1 dX7_counts_114 rfl (lv_at hl 1 rfl) ?_
                refine zi_get (ci := 7) (v := .ref (ad (0 + 21))) M hE hP 0 rfl rfl zu_X7 33 (by decide) zk_fl_RX7_75 rfl rfl dX7_counts_115 ?_
                refine lv_iload_n M.1 M.2.1 dX7_counts_118 rfl (lv_at hl 2 rfl) ?_
                refine zi_iald M hE hP 21 (n := 80) (g := e5) rfl (Nat.le_of_ble_eq_true rfl) (by omega) (by omega) dX7_counts_119 ?_
                have hr_15 := g_e5 k (by omega) (by omega)
                refine zi_iald M hE hP 20 (n := 80) (g := e4) rfl (Nat.le_of_ble_eq_true rfl) (by omega) (by omega) dX7_counts_120 ?_
                have hr_16 := g_e4 (e5 k) (by omega) (by omega)
                refine zi_icmp_ne (tgt := 128) M dX7_counts_121 (by decide) (by omega) (by omega) (fun c_17 => ?_) (fun c_17 => ?_)
                ·
                  refine zi_push M dX7_counts_128 ?_
                  refine lv_istore (lv' := [(5, .int (iI 0)), (4, .int (iI 0)), (0, .ref (ad 0)), (1, .int (iI k)), (2, .int (iI d)), (3, .int (iI i))]) M.1 M.2.1 dX7_counts_129 hl (by decide) rfl (fun ls hl => ?_)
                  refine lv_iload_n M.1 M.2.1 dX7_counts_131 rfl (lv_at hl 4 rfl) ?_
                  refine zi_if_ne (tgt := 160) M dX7_counts_132 (by decide) (by omega) (fun c_18 => ?_) (fun c_18 => ?_)
                  ·
                    refine zi_push M dX7_counts_160 ?_
                    refine zi_goto (tgt := 165) M dX7_counts_161 (by decide) ?_
                    refine lv_istore_n (lv' := [(2, .int (iI 1)), (5, .int (iI 0)), (4, .int (iI 0)), (0, .ref (ad 0)), (1, .int (iI k)), (3, .int (iI i))]) M.1 M.2.1 dX7_counts_165 rfl hl (by decide) rfl (fun ls hl => ?_)
                    refine zi_iinc (lv' := [(3, .int (iI (i + 1))), (2, .int (iI 1)), (5, .int (iI 0)), (4, .int (iI 0)), (0, .ref (ad 0)), (1, .int (iI k))]) M dX7_counts_166 hl 5 rfl (by decide) rfl (fun ls hl => ?_)
                    refine zi_goto (tgt := 4) M dX7_counts_169 (by decide) ?_
                    exact ih_4 1 (i + 1) (by omega) (by omega) (Or.inl ⟨rfl, by first | exact ⟨i, by omega, by omega, by unfold cntQ; omega⟩ | (rcases hdd with ⟨_, n, a, b, z⟩ | ⟨z, _⟩; exact ⟨n, a, by omega, z⟩; exact absurd z (by omega))⟩) (fun _ => by omega) (by omega) ls (lv_sub hl [4, 5, 1, 0] rfl)
                  ·
                    refine lv_iload M.1 M.2.1 dX7_counts_135 (lv_at hl 1 rfl) ?_
                    refine zi_if_eq (tgt := 164) M dX7_counts_137 (by decide) ⟨by decide, by decide⟩ (fun _ => ?_) (fun q => absurd q (by decide))
                    refine zi_push M dX7_counts_164 ?_
                    refine lv_istore_n (lv' := [(2, .int (iI 0)), (5, .int (iI 0)), (4, .int (iI 0)), (0, .ref (ad 0)), (1, .int (iI k)), (3, .int (iI i))]) M.1 M.2.1 dX7_counts_165 rfl hl (by decide) rfl (fun ls hl => ?_)
                    refine zi_iinc (lv' := [(3, .int (iI (i + 1))), (2, .int (iI 0)), (5, .int (iI 0)), (4, .int (iI 0)), (0, .ref (ad 0)), (1, .int (iI k))]) M dX7_counts_166 hl 5 rfl (by decide) rfl (fun ls hl => ?_)
                    refine zi_goto (tgt := 4) M dX7_counts_169 (by decide) ?_
                    exact ih_4 0 (i + 1) (by omega) (by omega) (Or.inr ⟨rfl, fun j h0 h1 => by rcases Int.lt_or_le j i with hj | hj; (rcases hdd with ⟨z, _⟩ | ⟨_, z⟩; exact absurd z (by omega); exact z j h0 hj); (have hji : j = i := (by omega)); subst hji; unfold cntQ; omega⟩) (fun _ => by omega) (by omega) ls (lv_sub hl [4, 5, 1, 0] rfl)
                ·
                  refine zi_push M dX7_counts_124 ?_
                  refine zi_goto (tgt := 129) M dX7_counts_125 (by decide) ?_
                  refine lv_istore (lv' := [(5, .int (iI 1)), (4, .int (iI 0)), (0, .ref (ad 0)), (1, .int (iI k)), (2, .int (iI d)), (3, .int (iI i))]) M.1 M.2.1 dX7_counts_129 hl (by decide) rfl (fun ls hl => ?_)
                  refine lv_iload_n M.1 M.2.1 dX7_counts_131 rfl (lv_at hl 4 rfl) ?_
                  refine zi_if_ne (tgt := 160) M dX7_counts_132 (by decide) (by omega) (fun c_19 => ?_) (fun c_19 => ?_)
                  ·
                    refine zi_push M dX7_counts_160 ?_
                    refine zi_goto (tgt := 165) M dX7_counts_161 (by decide) ?_
                    refine lv_istore_n (lv' := [(2, .int (iI 1)), (5, .int (iI 1)), (4, .int (iI 0)), (0, .ref (ad 0)), (1, .int (iI k)), (3, .int (iI i))]) M.1 M.2.1 dX7_counts_165 rfl hl (by decide) rfl (fun ls hl => ?_)
                    refine zi_iinc (lv' := [(3, .int (iI (i + 1))), (2, .int (iI 1)), (5, .int (iI 1)), (4, .int (iI 0)), (0, .ref (ad 0)), (1, .int (iI k))]) M dX7_counts_166 hl 5 rfl (by decide) rfl (fun ls hl => ?_)
                    refine zi_goto (tgt := 4) M dX7_counts_169 (by decide) ?_
                    exact ih_4 1 (i + 1) (by omega) (by omega) (Or.inl ⟨rfl, by first | exact ⟨i, by omega, by omega, by unfold cntQ; omega⟩ | (rcases hdd with ⟨_, n, a, b, z⟩ | ⟨z, _⟩; exact ⟨n, a, by omega, z⟩; exact absurd z (by omega))⟩) (fun _ => by omega) (by omega) ls (lv_sub hl [4, 5, 1, 0] rfl)
                  ·
                    refine lv_iload M.1 M.2.1 dX7_counts_135 (lv_at hl 1 rfl) ?_
                    refine zi_if_eq (tgt := 164) M dX7_counts_137 (by decide) ⟨by decide, by decide⟩ (fun _ => ?_) (fun q => absurd q (by decide))
                    refine zi_push M dX7_counts_164 ?_
                    refine lv_istore_n (lv' := [(2, .int (iI 0)), (5, .int (iI 1)), (4, .int (iI 0)), (0, .ref (ad 0)), (1, .int (iI k)), (3, .int (iI i))]) M.1 M.2.1 dX7_counts_165 rfl hl (by decide) rfl (fun ls hl => ?_)
                    refine zi_iinc (lv' := [(3, .int (iI (i + 1))), (2, .int (iI 0)), (5, .int (iI 1)), (4, .int (iI 0)), (0, .ref (ad 0)), (1, .int (iI k))]) M dX7_counts_166 hl 5 rfl (by decide) rfl (fun ls hl => ?_)
                    refine zi_goto (tgt := 4) M dX7_counts_169 (by decide) ?_
                    exact ih_4 0 (i + 1) (by omega) (by omega) (Or.inr ⟨rfl, fun j h0 h1 => by rcases Int.lt_or_le j i with hj | hj; (rcases hdd with ⟨z, _⟩ | ⟨_, z⟩; exact absurd z (by omega); exact z j h0 hj); (have hji : j = i := (by omega)); subst hji; unfold cntQ; omega⟩) (fun _ => by omega) (by omega) ls (lv_sub hl [4, 5, 1, 0] rfl)
            ·
              refine lv_aload_n M.1 M.2.1 dX7_counts_67 rfl (lv_at hl 0 rfl) ?_
              refine zi_get (ci := 7) (v := .ref (ad (0 + 13))) M hE hP 0 rfl rfl zu_X7 24 (by decide) zk_fl_RX7_51 rfl rfl dX7_counts_68 ?_
              refine lv_iload_n M.1 M.2.1 dX7_counts_71 rfl (lv_at hl 3 rfl) ?_
              refine zi_iald M hE hP 13 (n := 60) (g := c2) rfl (Nat.le_of_ble_eq_true rfl) (by omega) (by omega) dX7_counts_72 ?_
              have hr_20 := g_c2 i (by omega) (by omega)
              refine lv_aload_n M.1 M.2.1 dX7_counts_73 rfl (lv_at hl 0 rfl) ?_
              refine zi_get (ci := 7) (v := .ref (ad (0 + 17))) M hE hP 0 rfl rfl zu_X7 29 (by decide) zk_fl_RX7_63 rfl rfl dX7_counts_74 ?_
              refine lv_iload_n M.1 M.2.1 dX7_counts_77 rfl (lv_at hl 1 rfl) ?_
              refine zi_iald M hE hP 17 (n := 80) (g := e1) rfl (Nat.le_of_ble_eq_true rfl) (by omega) (by omega) dX7_counts_78 ?_
              have hr_21 := g_e1 k (by omega) (by omega)
              refine zi_icmp_ne (tgt := 86) M dX7_counts_79 (by decide) (by omega) (by omega) (fun c_22 => ?_) (fun c_22 => ?_)
              ·
                refine zi_push M dX7_counts_86 ?_
                refine lv_istore (lv' := [(4, .int (iI 0)), (0, .ref (ad 0)), (1, .int (iI k)), (2, .int (iI d)), (3, .int (iI i))]) M.1 M.2.1 dX7_counts_87 hl (by decide) rfl (fun ls hl => ?_)
                refine lv_aload_n M.1 M.2.1 dX7_counts_89 rfl (lv_at hl 1 rfl) ?_
                refine zi_get (ci := 7) (v := .ref (ad (0 + 16))) M hE hP 0 rfl rfl zu_X7 27 (by decide) zk_fl_RX7_60 rfl rfl dX7_counts_90 ?_
                refine lv_iload_n M.1 M.2.1 dX7_counts_93 rfl (lv_at hl 4 rfl) ?_
                refine zi_iald M hE hP 16 (n := 60) (g := c5) rfl (Nat.le_of_ble_eq_true rfl) (by omega) (by omega) dX7_counts_94 ?_
                have hr_23 := g_c5 i (by omega) (by omega)
                refine lv_aload_n M.1 M.2.1 dX7_counts_95 rfl (lv_at hl 1 rfl) ?_
                refine zi_get (ci := 7) (v := .ref (ad (0 + 20))) M hE hP 0 rfl rfl zu_X7 32 (by decide) zk_fl_RX7_72 rfl rfl dX7_counts_96 ?_
                refine lv_iload_n M.1 M.2.1 dX7_counts_99 rfl (lv_at hl 2 rfl) ?_
                refine zi_iald M hE hP 20 (n := 80) (g := e4) rfl (Nat.le_of_ble_eq_true rfl) (by omega) (by omega) dX7_counts_100 ?_
                have hr_24 := g_e4 k (by omega) (by omega)
                refine zi_icmp_eq (tgt := 124) M dX7_counts_101 (by decide) (by omega) (by omega) (fun c_25 => ?_) (fun c_25 => ?_)
                ·
                  refine zi_push M dX7_counts_124 ?_
                  refine zi_goto (tgt := 129) M dX7_counts_125 (by decide) ?_
                  refine lv_istore (lv' := [(5, .int (iI 1)), (4, .int (iI 0)), (0, .ref (ad 0)), (1, .int (iI k)), (2, .int (iI d)), (3, .int (iI i))]) M.1 M.2.1 dX7_counts_129 hl (by decide) rfl (fun ls hl => ?_)
                  refine lv_iload_n M.1 M.2.1 dX7_counts_131 rfl (lv_at hl 4 rfl) ?_
                  refine zi_if_ne (tgt := 160) M dX7_counts_132 (by decide) (by omega) (fun c_26 => ?_) (fun c_26 => ?_)
                  ·
                    refine zi_push M dX7_counts_160 ?_
                    refine zi_goto (tgt := 165) M dX7_counts_161 (by decide) ?_
                    refine lv_istore_n (lv' := [(2, .int (iI 1)), (5, .int (iI 1)), (4, .int (iI 0)), (0, .ref (ad 0)), (1, .int (iI k)), (3, .int (iI i))]) M.1 M.2.1 dX7_counts_165 rfl hl (by decide) rfl (fun ls hl => ?_)
                    refine zi_iinc (lv' := [(3, .int (iI (i + 1))), (2, .int (iI 1)), (5, .int (iI 1)), (4, .int (iI 0)), (0, .ref (ad 0)), (1, .int (iI k))]) M dX7_counts_166 hl 5 rfl (by decide) rfl (fun ls hl => ?_)
                    refine zi_goto (tgt := 4) M dX7_counts_169 (by decide) ?_
                    exact ih_4 1 (i + 1) (by omega) (by omega) (Or.inl ⟨rfl, by first | exact ⟨i, by omega, by omega, by unfold cntQ; omega⟩ | (rcases hdd with ⟨_, n, a, b, z⟩ | ⟨z, _⟩; exact ⟨n, a, by omega, z⟩; exact absurd z (by omega))⟩) (fun _ => by omega) (by omega) ls (lv_sub hl [4, 5, 1, 0] rfl)
                  ·
                    refine lv_iload M.1 M.2.1 dX7_counts_135 (lv_at hl 1 rfl) ?_
                    refine zi_if_eq (tgt := 164) M dX7_counts_137 (by decide) ⟨by decide, by decide⟩ (fun _ => ?_) (fun q => absurd q (by decide))
                    refine zi_push M dX7_counts_164 ?_
                    refine lv_istore_n (lv' := [(2, .int (iI 0)), (5, .int (iI 1)), (4, .int (iI 0)), (0, .ref (ad 0)), (1, .int (iI k)), (3, .int (iI i))]) M.1 M.2.1 dX7_counts_165 rfl hl (by decide) rfl (fun ls hl => ?_)
                    refine zi_iinc (lv' := [(3, .int (iI (i + 1))), (2, .int (iI 0)), (5, .int (iI 1)), (4, .int (iI 0)), (0, .ref (ad 0)), (1, .int (iI k))]) M dX7_counts_166 hl 5 rfl (by decide) rfl (fun ls hl => ?_)
                    refine zi_goto (tgt := 4) M dX7_counts_169 (by decide) ?_
                    exact ih_4 0 (i + 1) (by omega) (by omega) (Or.inr ⟨rfl, fun j h0 h1 => by rcases Int.lt_or_le j i with hj | hj; (rcases hdd with ⟨z, _⟩ | ⟨_, z⟩; exact absurd z (by omega); exact z j h0 hj); (have hji : j = i := (by omega)); subst hji; unfold cntQ; omega⟩) (fun _ => by omega) (by omega) ls (lv_sub hl [4, 5, 1, 0] rfl)
                ·
                  refine lv_aload_n M.1 M.2.1 dX7_counts_104 rfl (lv_at hl 1 rfl) ?_
                  refine zi_get (ci := 7) (v := .ref (ad (0 + 16))) M hE hP 0 rfl rfl zu_X7 27 (by decide) zk_fl_RX7_60 rfl rfl dX7_counts_105 ?_
                  refine lv_iload_n M.1 M.2.1 dX7_counts_108 rfl (lv_at hl 4 rfl) ?_
                  refine zi_iald M hE hP 16 (n := 60) (g := c5) rfl (Nat.le_of_ble_eq_true rfl) (by omega) (by omega) dX7_counts_109 ?_
                  have hr_27 := g_c5 i (by omega) (by omega)
                  refine lv_aload_n M.1 M.2.1 dX7_counts_110 rfl (lv_at hl 1 rfl) ?_
                  refine zi_get (ci := 7) (v := .ref (ad (0 + 20))) M hE hP 0 rfl rfl zu_X7 32 (by decide) zk_fl_RX7_72 rfl rfl dX7_counts_111 ?_
                  refine lv_aload_n M.1 M.2.1 dX7_counts_114 rfl (lv_at hl 1 rfl) ?_
                  refine zi_get (ci := 7) (v := .ref (ad (0 + 21))) M hE hP 0 rfl rfl zu_X7 33 (by decide) zk_fl_RX7_75 rfl rfl dX7_counts_115 ?_
                  refine lv_iload_n M.1 M.2.1 dX7_counts_118 rfl (lv_at hl 2 rfl) ?_
                  refine zi_iald M hE hP 21 (n := 80) (g := e5) rfl (Nat.le_of_ble_eq_true rfl) (by omega) (by omega) dX7_counts_119 ?_
                  have hr_28 := g_e5 k (by omega) (by omega)
                  refine zi_iald M hE hP 20 (n := 80) (g := e4) rfl (Nat.le_of_ble_eq_true rfl) (by omega) (by omega) dX7_counts_120 ?_
                  have hr_29 := g_e4 (e5 k) (by omega) (by omega)
                  refine zi_icmp_ne (tgt := 128) M dX7_counts_121 (by decide) (by omega) (by omega) (fun c_30 => ?_) (fun c_30 => ?_)
                  ·
                    refine zi_push M dX7_counts_128 ?_
                    refine lv_istore (lv' := [(5, .int (iI 0)), (4, .int (iI 0)), (0, .ref (ad 0)), (1, .int (iI k)), (2, .int (iI d)), (3, .int (iI i))]) M.1 M.2.1 dX7_counts_129 hl (by decide) rfl (fun ls hl => ?_)
                    refine lv_iload_n M.1 M.2.1 dX7_counts_131 rfl (lv_at hl 4 rfl) ?_
                    refine zi_if_ne (tgt := 160) M dX7_counts_132 (by decide) (by omega) (fun c_31 => ?_) (fun c_31 => ?_)
                    ·
                      refine zi_push M dX7_counts_160 ?_
                      refine zi_goto (tgt := 165) M dX7_counts_161 (by decide) ?_
                      refine lv_istore_n (lv' := [(2, .int (iI 1)), (5, .int (iI 0)), (4, .int (iI 0)), (0, .ref (ad 0)), (1, .int (iI k)), (3, .int (iI i))]) M.1 M.2.1 dX7_counts_165 rfl hl (by decide) rfl (fun ls hl => ?_)
                      refine zi_iinc (lv' := [(3, .int (iI (i + 1))), (2, .int (iI 1)), (5, .int (iI 0)), (4, .int (iI 0)), (0, .ref (ad 0)), (1, .int (iI k))]) M dX7_counts_166 hl 5 rfl (by decide) rfl (fun ls hl => ?_)
                      refine zi_goto (tgt := 4) M dX7_counts_169 (by decide) ?_
                      exact ih_4 1 (i + 1) (by omega) (by omega) (Or.inl ⟨rfl, by first | exact ⟨i, by omega, by omega, by unfold cntQ; omega⟩ | (rcases hdd with ⟨_, n, a, b, z⟩ | ⟨z, _⟩; exact ⟨n, a, by omega, z⟩; exact absurd z (by omega))⟩) (fun _ => by omega) (by omega) ls (lv_sub hl [4, 5, 1, 0] rfl)
                    ·
                      refine lv_iload M.1 M.2.1 dX7_counts_135 (lv_at hl 1 rfl) ?_
                      refine zi_if_eq (tgt := 164) M dX7_counts_137 (by decide) ⟨by decide, by decide⟩ (fun _ => ?_) (fun q => absurd q (by decide))
                      refine zi_push M dX7_counts_164 ?_
                      refine lv_istore_n (lv' := [(2, .int (iI 0)), (5, .int (iI 0)), (4, .int (iI 0)), (0, .ref (ad 0)), (1, .int (iI k)), (3, .int (iI i))]) M.1 M.2.1 dX7_counts_165 rfl hl (by decide) rfl (fun ls hl => ?_)
                      refine zi_iinc (lv' := [(3, .int (iI (i + 1))), (2, .int (iI 0)), (5, .int (iI 0)), (4, .int (iI 0)), (0, .ref (ad 0)), (1, .int (iI k))]) M dX7_counts_166 hl 5 rfl (by decide) rfl (fun ls hl => ?_)
                      refine zi_goto (tgt := 4) M dX7_counts_169 (by decide) ?_
                      exact ih_4 0 (i + 1) (by omega) (by omega) (Or.inr ⟨rfl, fun j h0 h1 => by rcases Int.lt_or_le j i with hj | hj; (rcases hdd with ⟨z, _⟩ | ⟨_, z⟩; exact absurd z (by omega); exact z j h0 hj); (have hji : j = i := (by omega)); subst hji; unfold cntQ; omega⟩) (fun _ => by omega) (by omega) ls (lv_sub hl [4, 5, 1, 0] rfl)
                  ·
                    refine zi_push M dX7_counts_124 ?_
                    refine zi_goto (tgt := 129) M dX7_counts_125 (by decide) ?_
                    refine lv_istore (lv' := [(5, .int (iI 1)), (4, .int (iI 0)), (0, .ref (ad 0)), (1, .int (iI k)), (2, .int (iI d)), (3, .int (iI i))]) M.1 M.2.1 dX7_counts_129 hl (by decide) rfl (fun ls hl => ?_)
                    refine lv_iload_n M.1 M.2.1 dX7_counts_131 rfl (lv_at hl 4 rfl) ?_
                    refine zi_if_ne (tgt := 160) M dX7_counts_132 (by decide) (by omega) (fun c_32 => ?_) (fun c_32 => ?_)
                    ·
                      refine zi_push M dX7_counts_160 ?_
                      refine zi_goto (tgt := 165) M dX7_counts_161 (by decide) ?_
                      refine lv_istore_n (lv' := [(2, .int (iI 1)), (5, .int (iI 1)), (4, .int (iI 0)), (0, .ref (ad 0)), (1, .int (iI k)), (3, .int (iI i))]) M.1 M.2.1 dX7_counts_165 rfl hl (by decide) rfl (fun ls hl => ?_)
                      refine zi_iinc (lv' := [(3, .int (iI (i + 1))), (2, .int (iI 1)), (5, .int (iI 1)), (4, .int (iI 0)), (0, .ref (ad 0)), (1, .int (iI k))]) M dX7_counts_166 hl 5 rfl (by decide) rfl (fun ls hl => ?_)
                      refine zi_goto (tgt := 4) M dX7_counts_169 (by decide) ?_
                      exact ih_4 1 (i + 1) (by omega) (by omega) (Or.inl ⟨rfl, by first | exact ⟨i, by omega, by omega, by unfold cntQ; omega⟩ | (rcases hdd with ⟨_, n, a, b, z⟩ | ⟨z, _⟩; exact ⟨n, a, by omega, z⟩; exact absurd z (by omega))⟩) (fun _ => by omega) (by omega) ls (lv_sub hl [4, 5, 1, 0] rfl)
                    ·
                      refine lv_iload M.1 M.2.1 dX7_counts_135 (lv_at hl 1 rfl) ?_
                      refine zi_if_eq (tgt := 164) M dX7_counts_137 (by decide) ⟨by decide, by decide⟩ (fun _ => ?_) (fun q => absurd q (by decide))
                      refine zi_push M dX7_counts_164 ?_
                      refine lv_istore_n (lv' := [(2, .int (iI 0)), (5, .int (iI 1)), (4, .int (iI 0)), (0, .ref (ad 0)), (1, .int (iI k)), (3, .int (iI i))]) M.1 M.2.1 dX7_counts_165 rfl hl (by decide) rfl (fun ls hl => ?_)
                      refine zi_iinc (lv' := [(3, .int (iI (i + 1))), (2, .int (iI 0)), (5, .int (iI 1)), (4, .int (iI 0)), (0, .ref (ad 0)), (1, .int (iI k))]) M dX7_counts_166 hl 5 rfl (by decide) rfl (fun ls hl => ?_)
                      refine zi_goto (tgt := 4) M dX7_counts_169 (by decide) ?_
                      exact ih_4 0 (i + 1) (by omega) (by omega) (Or.inr ⟨rfl, fun j h0 h1 => by rcases Int.lt_or_le j i with hj | hj; (rcases hdd with ⟨z, _⟩ | ⟨_, z⟩; exact absurd z (by omega); exact z j h0 hj); (have hji : j = i := (by omega)); subst hji; unfold cntQ; omega⟩) (fun _ => by omega) (by omega) ls (lv_sub hl [4, 5, 1, 0] rfl)
              ·
                refine zi_push M dX7_counts_82 ?_
                refine zi_goto (tgt := 87) M dX7_counts_83 (by decide) ?_
                refine lv_istore (lv' := [(4, .int (iI 1)), (0, .ref (ad 0)), (1, .int (iI k)), (2, .int (iI d)), (3, .int (iI i))]) M.1 M.2.1 dX7_counts_87 hl (by decide) rfl (fun ls hl => ?_)
                refine lv_aload_n M.1 M.2.1 dX7_counts_89 rfl (lv_at hl 1 rfl) ?_
                refine zi_get (ci := 7) (v := .ref (ad (0 + 16))) M hE hP 0 rfl rfl zu_X7 27 (by decide) zk_fl_RX7_60 rfl rfl dX7_counts_90 ?_
                refine lv_iload_n M.1 M.2.1 dX7_counts_93 rfl (lv_at hl 4 rfl) ?_
                refine zi_iald M hE hP 16 (n := 60) (g := c5) rfl (Nat.le_of_ble_eq_true rfl) (by omega) (by omega) dX7_counts_94 ?_
                have hr_33 := g_c5 i (by omega) (by omega)
                refine lv_aload_n M.1 M.2.1 dX7_counts_95 rfl (lv_at hl 1 rfl) ?_
                refine zi_get (ci := 7) (v := .ref (ad (0 + 20))) M hE hP 0 rfl rfl zu_X7 32 (by decide) zk_fl_RX7_72 rfl rfl dX7_counts_96 ?_
                refine lv_iload_n M.1 M.2.1 dX7_counts_99 rfl (lv_at hl 2 rfl) ?_
                refine zi_iald M hE hP 20 (n := 80) (g := e4) rfl (Nat.le_of_ble_eq_true rfl) (by omega) (by omega) dX7_counts_100 ?_
                have hr_34 := g_e4 k (by omega) (by omega)
                refine zi_icmp_eq (tgt := 124) M dX7_counts_101 (by decide) (by omega) (by omega) (fun c_35 => ?_) (fun c_35 => ?_)
                ·
                  refine zi_push M dX7_counts_124 ?_
                  refine zi_goto (tgt := 129) M dX7_counts_125 (by decide) ?_
                  refine lv_istore (lv' := [(5, .int (iI 1)), (4, .int (iI 1)), (0, .ref (ad 0)), (1, .int (iI k)), (2, .int (iI d)), (3, .int (iI i))]) M.1 M.2.1 dX7_counts_129 hl (by decide) rfl (fun ls hl => ?_)
                  refine lv_iload_n M.1 M.2.1 dX7_counts_131 rfl (lv_at hl 4 rfl) ?_
                  refine zi_if_ne (tgt := 160) M dX7_counts_132 (by decide) (by omega) (fun c_36 => ?_) (fun c_36 => ?_)
                  ·
                    refine zi_push M dX7_counts_160 ?_
                    refine zi_goto (tgt := 165) M dX7_counts_161 (by decide) ?_
                    refine lv_istore_n (lv' := [(2, .int (iI 1)), (5, .int (iI 1)), (4, .int (iI 1)), (0, .ref (ad 0)), (1, .int (iI k)), (3, .int (iI i))]) M.1 M.2.1 dX7_counts_165 rfl hl (by decide) rfl (fun ls hl => ?_)
                    refine zi_iinc (lv' := [(3, .int (iI (i + 1))), (2, .int (iI 1)), (5, .int (iI 1)), (4, .int (iI 1)), (0, .ref (ad 0)), (1, .int (iI k))]) M dX7_counts_166 hl 5 rfl (by decide) rfl (fun ls hl => ?_)
                    refine zi_goto (tgt := 4) M dX7_counts_169 (by decide) ?_
                    exact ih_4 1 (i + 1) (by omega) (by omega) (Or.inl ⟨rfl, by first | exact ⟨i, by omega, by omega, by unfold cntQ; omega⟩ | (rcases hdd with ⟨_, n, a, b, z⟩ | ⟨z, _⟩; exact ⟨n, a, by omega, z⟩; exact absurd z (by omega))⟩) (fun _ => by omega) (by omega) ls (lv_sub hl [4, 5, 1, 0] rfl)
                  ·
                    refine lv_iload M.1 M.2.1 dX7_counts_135 (lv_at hl 1 rfl) ?_
                    refine zi_if_eq (tgt := 164) M dX7_counts_137 (by decide) ⟨by decide, by decide⟩ (fun q => absurd q (by decide)) (fun _ => ?_)
                    refine lv_iload M.1 M.2.1 dX7_counts_140 (lv_at hl 0 rfl) ?_
                    refine zi_if_eq (tgt := 164) M dX7_counts_142 (by decide) ⟨by decide, by decide⟩ (fun q => absurd q (by decide)) (fun _ => ?_)
                    refine lv_aload_n M.1 M.2.1 dX7_counts_145 rfl (lv_at hl 2 rfl) ?_
                    refine zi_get (ci := 7) (v := .ref (ad (0 + 14))) M hE hP 0 rfl rfl zu_X7 25 (by decide) zk_fl_RX7_54 rfl rfl dX7_counts_146 ?_
                    refine lv_iload_n M.1 M.2.1 dX7_counts_149 rfl (lv_at hl 5 rfl) ?_
                    refine zi_iald M hE hP 14 (n := 60) (g := c3) rfl (Nat.le_of_ble_eq_true rfl) (by omega) (by omega) dX7_counts_150 ?_
                    have hr_37 := g_c3 i (by omega) (by omega)
                    refine lv_aload_n M.1 M.2.1 dX7_counts_151 rfl (lv_at hl 2 rfl) ?_
                    refine zi_get (ci := 7) (v := .ref (ad (0 + 19))) M hE hP 0 rfl rfl zu_X7 31 (by decide) zk_fl_RX7_69 rfl rfl dX7_counts_152 ?_
                    refine lv_iload_n M.1 M.2.1 dX7_counts_155 rfl (lv_at hl 3 rfl) ?_
                    refine zi_iald M hE hP 19 (n := 80) (g := e3) rfl (Nat.le_of_ble_eq_true rfl) (by omega) (by omega) dX7_counts_156 ?_
                    have hr_38 := g_e3 k (by omega) (by omega)
                    refine zi_icmp_ne (tgt := 164) M dX7_counts_157 (by decide) (by omega) (by omega) (fun c_39 => ?_) (fun c_39 => ?_)
                    ·
                      refine zi_push M dX7_counts_164 ?_
                      refine lv_istore_n (lv' := [(2, .int (iI 0)), (5, .int (iI 1)), (4, .int (iI 1)), (0, .ref (ad 0)), (1, .int (iI k)), (3, .int (iI i))]) M.1 M.2.1 dX7_counts_165 rfl hl (by decide) rfl (fun ls hl => ?_)
                      refine zi_iinc (lv' := [(3, .int (iI (i + 1))), (2, .int (iI 0)), (5, .int (iI 1)), (4, .int (iI 1)), (0, .ref (ad 0)), (1, .int (iI k))]) M dX7_counts_166 hl 5 rfl (by decide) rfl (fun ls hl => ?_)
                      refine zi_goto (tgt := 4) M dX7_counts_169 (by decide) ?_
                      exact ih_4 0 (i + 1) (by omega) (by omega) (Or.inr ⟨rfl, fun j h0 h1 => by rcases Int.lt_or_le j i with hj | hj; (rcases hdd with ⟨z, _⟩ | ⟨_, z⟩; exact absurd z (by omega); exact z j h0 hj); (have hji : j = i := (by omega)); subst hji; unfold cntQ; omega⟩) (fun _ => by omega) (by omega) ls (lv_sub hl [4, 5, 1, 0] rfl)
                    ·
                      refine zi_push M dX7_counts_160 ?_
                      refine zi_goto (tgt := 165) M dX7_counts_161 (by decide) ?_
                      refine lv_istore_n (lv' := [(2, .int (iI 1)), (5, .int (iI 1)), (4, .int (iI 1)), (0, .ref (ad 0)), (1, .int (iI k)), (3, .int (iI i))]) M.1 M.2.1 dX7_counts_165 rfl hl (by decide) rfl (fun ls hl => ?_)
                      refine zi_iinc (lv' := [(3, .int (iI (i + 1))), (2, .int (iI 1)), (5, .int (iI 1)), (4, .int (iI 1)), (0, .ref (ad 0)), (1, .int (iI k))]) M dX7_counts_166 hl 5 rfl (by decide) rfl (fun ls hl => ?_)
                      refine zi_goto (tgt := 4) M dX7_counts_169 (by decide) ?_
                      exact ih_4 1 (i + 1) (by omega) (by omega) (Or.inl ⟨rfl, by first | exact ⟨i, by omega, by omega, by unfold cntQ; omega⟩ | (rcases hdd with ⟨_, n, a, b, z⟩ | ⟨z, _⟩; exact ⟨n, a, by omega, z⟩; exact absurd z (by omega))⟩) (fun _ => by omega) (by omega) ls (lv_sub hl [4, 5, 1, 0] rfl)
                ·
                  refine lv_aload_n M.1 M.2.1 dX7_counts_104 rfl (lv_at hl 1 rfl) ?_
                  refine zi_get (ci := 7) (v := .ref (ad (0 + 16))) M hE hP 0 rfl rfl zu_X7 27 (by decide) zk_fl_RX7_60 rfl rfl dX7_counts_105 ?_
                  refine lv_iload_n M.1 M.2.1 dX7_counts_108 rfl (lv_at hl 4 rfl) ?_
                  refine zi_iald M hE hP 16 (n := 60) (g := c5) rfl (Nat.le_of_ble_eq_true rfl) (by omega) (by omega) dX7_counts_109 ?_
                  have hr_40 := g_c5 i (by omega) (by omega)
                  refine lv_aload_n M.1 M.2.1 dX7_counts_110 rfl (lv_at hl 1 rfl) ?_
                  refine zi_get (ci := 7) (v := .ref (ad (0 + 20))) M hE hP 0 rfl rfl zu_X7 32 (by decide) zk_fl_RX7_72 rfl rfl dX7_counts_111 ?_
                  refine lv_aload_n M.1 M.2.1 dX7_counts_114 rfl (lv_at hl 1 rfl) ?_
                  refine zi_get (ci := 7) (v := .ref (ad (0 + 21))) M hE hP 0 rfl rfl zu_X7 33 (by decide) zk_fl_RX7_75 rfl rfl dX7_counts_115 ?_
                  refine lv_iload_n M.1 M.2.1 dX7_counts_118 rfl (lv_at hl 2 rfl) ?_
                  refine zi_iald M hE hP 21 (n := 80) (g := e5) rfl (Nat.le_of_ble_eq_true rfl) (by omega) (by omega) dX7_counts_119 ?_
                  have hr_41 := g_e5 k (by omega) (by omega)
                  refine zi_iald M hE hP 20 (n := 80) (g := e4) rfl (Nat.le_of_ble_eq_true rfl) (by omega) (by omega) dX7_counts_120 ?_
                  have hr_42 := g_e4 (e5 k) (by omega) (by omega)
                  refine zi_icmp_ne (tgt := 128) M dX7_counts_121 (by decide) (by omega) (by omega) (fun c_43 => ?_) (fun c_43 => ?_)
                  ·
                    refine zi_push M dX7_counts_128 ?_
                    refine lv_istore (lv' := [(5, .int (iI 0)), (4, .int (iI 1)), (0, .ref (ad 0)), (1, .int (iI k)), (2, .int (iI d)), (3, .int (iI i))]) M.1 M.2.1 dX7_counts_129 hl (by decide) rfl (fun ls hl => ?_)
                    refine lv_iload_n M.1 M.2.1 dX7_counts_131 rfl (lv_at hl 4 rfl) ?_
                    refine zi_if_ne (tgt := 160) M dX7_counts_132 (by decide) (by omega) (fun c_44 => ?_) (fun c_44 => ?_)
                    ·
                      refine zi_push M dX7_counts_160 ?_
                      refine zi_goto (tgt := 165) M dX7_counts_161 (by decide) ?_
                      refine lv_istore_n (lv' := [(2, .int (iI 1)), (5, .int (iI 0)), (4, .int (iI 1)), (0, .ref (ad 0)), (1, .int (iI k)), (3, .int (iI i))]) M.1 M.2.1 dX7_counts_165 rfl hl (by decide) rfl (fun ls hl => ?_)
                      refine zi_iinc (lv' := [(3, .int (iI (i + 1))), (2, .int (iI 1)), (5, .int (iI 0)), (4, .int (iI 1)), (0, .ref (ad 0)), (1, .int (iI k))]) M dX7_counts_166 hl 5 rfl (by decide) rfl (fun ls hl => ?_)
                      refine zi_goto (tgt := 4) M dX7_counts_169 (by decide) ?_
                      exact ih_4 1 (i + 1) (by omega) (by omega) (Or.inl ⟨rfl, by first | exact ⟨i, by omega, by omega, by unfold cntQ; omega⟩ | (rcases hdd with ⟨_, n, a, b, z⟩ | ⟨z, _⟩; exact ⟨n, a, by omega, z⟩; exact absurd z (by omega))⟩) (fun _ => by omega) (by omega) ls (lv_sub hl [4, 5, 1, 0] rfl)
                    ·
                      refine lv_iload M.1 M.2.1 dX7_counts_135 (lv_at hl 1 rfl) ?_
                      refine zi_if_eq (tgt := 164) M dX7_counts_137 (by decide) ⟨by decide, by decide⟩ (fun q => absurd q (by decide)) (fun _ => ?_)
                      refine lv_iload M.1 M.2.1 dX7_counts_140 (lv_at hl 0 rfl) ?_
                      refine zi_if_eq (tgt := 164) M dX7_counts_142 (by decide) ⟨by decide, by decide⟩ (fun _ => ?_) (fun q => absurd q (by decide))
                      refine zi_push M dX7_counts_164 ?_
                      refine lv_istore_n (lv' := [(2, .int (iI 0)), (5, .int (iI 0)), (4, .int (iI 1)), (0, .ref (ad 0)), (1, .int (iI k)), (3, .int (iI i))]) M.1 M.2.1 dX7_counts_165 rfl hl (by decide) rfl (fun ls hl => ?_)
                      refine zi_iinc (lv' := [(3, .int (iI (i + 1))), (2, .int (iI 0)), (5, .int (iI 0)), (4, .int (iI 1)), (0, .ref (ad 0)), (1, .int (iI k))]) M dX7_counts_166 hl 5 rfl (by decide) rfl (fun ls hl => ?_)
                      refine zi_goto (tgt := 4) M dX7_counts_169 (by decide) ?_
                      exact ih_4 0 (i + 1) (by omega) (by omega) (Or.inr ⟨rfl, fun j h0 h1 => by rcases Int.lt_or_le j i with hj | hj; (rcases hdd with ⟨z, _⟩ | ⟨_, z⟩; exact absurd z (by omega); exact z j h0 hj); (have hji : j = i := (by omega)); subst hji; unfold cntQ; omega⟩) (fun _ => by omega) (by omega) ls (lv_sub hl [4, 5, 1, 0] rfl)
                  ·
                    refine zi_push M dX7_counts_124 ?_
                    refine zi_goto (tgt := 129) M dX7_counts_125 (by decide) ?_
                    refine lv_istore (lv' := [(5, .int (iI 1)), (4, .int (iI 1)), (0, .ref (ad 0)), (1, .int (iI k)), (2, .int (iI d)), (3, .int (iI i))]) M.1 M.2.1 dX7_counts_129 hl (by decide) rfl (fun ls hl => ?_)
                    refine lv_iload_n M.1 M.2.1 dX7_counts_131 rfl (lv_at hl 4 rfl) ?_
                    refine zi_if_ne (tgt := 160) M dX7_counts_132 (by decide) (by omega) (fun c_45 => ?_) (fun c_45 => ?_)
                    ·
                      refine zi_push M dX7_counts_160 ?_
                      refine zi_goto (tgt := 165) M dX7_counts_161 (by decide) ?_
                      refine lv_istore_n (lv' := [(2, .int (iI 1)), (5, .int (iI 1)), (4, .int (iI 1)), (0, .ref (ad 0)), (1, .int (iI k)), (3, .int (iI i))]) M.1 M.2.1 dX7_counts_165 rfl hl (by decide) rfl (fun ls hl => ?_)
                      refine zi_iinc (lv' := [(3, .int (iI (i + 1))), (2, .int (iI 1)), (5, .int (iI 1)), (4, .int (iI 1)), (0, .ref (ad 0)), (1, .int (iI k))]) M dX7_counts_166 hl 5 rfl (by decide) rfl (fun ls hl => ?_)
                      refine zi_goto (tgt := 4) M dX7_counts_169 (by decide) ?_
                      exact ih_4 1 (i + 1) (by omega) (by omega) (Or.inl ⟨rfl, by first | exact ⟨i, by omega, by omega, by unfold cntQ; omega⟩ | (rcases hdd with ⟨_, n, a, b, z⟩ | ⟨z, _⟩; exact ⟨n, a, by omega, z⟩; exact absurd z (by omega))⟩) (fun _ => by omega) (by omega) ls (lv_sub hl [4, 5, 1, 0] rfl)
                    ·
                      refine lv_iload M.1 M.2.1 dX7_counts_135 (lv_at hl 1 rfl) ?_
                      refine zi_if_eq (tgt := 164) M dX7_counts_137 (by decide) ⟨by decide, by decide⟩ (fun q => absurd q (by decide)) (fun _ => ?_)
                      refine lv_iload M.1 M.2.1 dX7_counts_140 (lv_at hl 0 rfl) ?_
                      refine zi_if_eq (tgt := 164) M dX7_counts_142 (by decide) ⟨by decide, by decide⟩ (fun q => absurd q (by decide)) (fun _ => ?_)
                      refine lv_aload_n M.1 M.2.1 dX7_counts_145 rfl (lv_at hl 2 rfl) ?_
                      refine zi_get (ci := 7) (v := .ref (ad (0 + 14))) M hE hP 0 rfl rfl zu_X7 25 (by decide) zk_fl_RX7_54 rfl rfl dX7_counts_146 ?_
                      refine lv_iload_n M.1 M.2.1 dX7_counts_149 rfl (lv_at hl 5 rfl) ?_
                      refine zi_iald M hE hP 14 (n := 60) (g := c3) rfl (Nat.le_of_ble_eq_true rfl) (by omega) (by omega) dX7_counts_150 ?_
                      have hr_46 := g_c3 i (by omega) (by omega)
                      refine lv_aload_n M.1 M.2.1 dX7_counts_151 rfl (lv_at hl 2 rfl) ?_
                      refine zi_get (ci := 7) (v := .ref (ad (0 + 19))) M hE hP 0 rfl rfl zu_X7 31 (by decide) zk_fl_RX7_69 rfl rfl dX7_counts_152 ?_
                      refine lv_iload_n M.1 M.2.1 dX7_counts_155 rfl (lv_at hl 3 rfl) ?_
                      refine zi_iald M hE hP 19 (n := 80) (g := e3) rfl (Nat.le_of_ble_eq_true rfl) (by omega) (by omega) dX7_counts_156 ?_
                      have hr_47 := g_e3 k (by omega) (by omega)
                      refine zi_icmp_ne (tgt := 164) M dX7_counts_157 (by decide) (by omega) (by omega) (fun c_48 => ?_) (fun c_48 => ?_)
                      ·
                        refine zi_push M dX7_counts_164 ?_
                        refine lv_istore_n (lv' := [(2, .int (iI 0)), (5, .int (iI 1)), (4, .int (iI 1)), (0, .ref (ad 0)), (1, .int (iI k)), (3, .int (iI i))]) M.1 M.2.1 dX7_counts_165 rfl hl (by decide) rfl (fun ls hl => ?_)
                        refine zi_iinc (lv' := [(3, .int (iI (i + 1))), (2, .int (iI 0)), (5, .int (iI 1)), (4, .int (iI 1)), (0, .ref (ad 0)), (1, .int (iI k))]) M dX7_counts_166 hl 5 rfl (by decide) rfl (fun ls hl => ?_)
                        refine zi_goto (tgt := 4) M dX7_counts_169 (by decide) ?_
                        exact ih_4 0 (i + 1) (by omega) (by omega) (Or.inr ⟨rfl, fun j h0 h1 => by rcases Int.lt_or_le j i with hj | hj; (rcases hdd with ⟨z, _⟩ | ⟨_, z⟩; exact absurd z (by omega); exact z j h0 hj); (have hji : j = i := (by omega)); subst hji; unfold cntQ; omega⟩) (fun _ => by omega) (by omega) ls (lv_sub hl [4, 5, 1, 0] rfl)
                      ·
                        refine zi_push M dX7_counts_160 ?_
                        refine zi_goto (tgt := 165) M dX7_counts_161 (by decide) ?_
                        refine lv_istore_n (lv' := [(2, .int (iI 1)), (5, .int (iI 1)), (4, .int (iI 1)), (0, .ref (ad 0)), (1, .int (iI k)), (3, .int (iI i))]) M.1 M.2.1 dX7_counts_165 rfl hl (by decide) rfl (fun ls hl => ?_)
                        refine zi_iinc (lv' := [(3, .int (iI (i + 1))), (2, .int (iI 1)), (5, .int (iI 1)), (4, .int (iI 1)), (0, .ref (ad 0)), (1, .int (iI k))]) M dX7_counts_166 hl 5 rfl (by decide) rfl (fun ls hl => ?_)
                        refine zi_goto (tgt := 4) M dX7_counts_169 (by decide) ?_
                        exact ih_4 1 (i + 1) (by omega) (by omega) (Or.inl ⟨rfl, by first | exact ⟨i, by omega, by omega, by unfold cntQ; omega⟩ | (rcases hdd with ⟨_, n, a, b, z⟩ | ⟨z, _⟩; exact ⟨n, a, by omega, z⟩; exact absurd z (by omega))⟩) (fun _ => by omega) (by omega) ls (lv_sub hl [4, 5, 1, 0] rfl)
          ·
            refine lv_aload_n M.1 M.2.1 dX7_counts_37 rfl (lv_at hl 0 rfl) ?_
            refine zi_get (ci := 7) (v := .ref (ad (0 + 13))) M hE hP 0 rfl rfl zu_X7 24 (by decide) zk_fl_RX7_51 rfl rfl dX7_counts_38 ?_
            refine lv_iload_n M.1 M.2.1 dX7_counts_41 rfl (lv_at hl 3 rfl) ?_
            refine zi_iald M hE hP 13 (n := 60) (g := c2) rfl (Nat.le_of_ble_eq_true rfl) (by omega) (by omega) dX7_counts_42 ?_
            have hr_49 := g_c2 i (by omega) (by omega)
            refine lv_aload_n M.1 M.2.1 dX7_counts_43 rfl (lv_at hl 0 rfl) ?_
            refine zi_get (ci := 7) (v := .ref (ad (0 + 18))) M hE hP 0 rfl rfl zu_X7 30 (by decide) zk_fl_RX7_66 rfl rfl dX7_counts_44 ?_
            refine lv_iload_n M.1 M.2.1 dX7_counts_47 rfl (lv_at hl 1 rfl) ?_
            refine zi_iald M hE hP 18 (n := 80) (g := e2) rfl (Nat.le_of_ble_eq_true rfl) (by omega) (by omega) dX7_counts_48 ?_
            have hr_50 := g_e2 k (by omega) (by omega)
            refine zi_icmp_eq (tgt := 82) M dX7_counts_49 (by decide) (by omega) (by omega) (fun c_51 => ?_) (fun c_51 => ?_)
            ·
              refine zi_push M dX7_counts_82 ?_
              refine zi_goto (tgt := 87) M dX7_counts_83 (by decide) ?_
              refine lv_istore (lv' := [(4, .int (iI 1)), (0, .ref (ad 0)), (1, .int (iI k)), (2, .int (iI d)), (3, .int (iI i))]) M.1 M.2.1 dX7_counts_87 hl (by decide) rfl (fun ls hl => ?_)
              refine lv_aload_n M.1 M.2.1 dX7_counts_89 rfl (lv_at hl 1 rfl) ?_
              refine zi_get (ci := 7) (v := .ref (ad (0 + 16))) M hE hP 0 rfl rfl zu_X7 27 (by decide) zk_fl_RX7_60 rfl rfl dX7_counts_90 ?_
              refine lv_iload_n M.1 M.2.1 dX7_counts_93 rfl (lv_at hl 4 rfl) ?_
              refine zi_iald M hE hP 16 (n := 60) (g := c5) rfl (Nat.le_of_ble_eq_true rfl) (by omega) (by omega) dX7_counts_94 ?_
              have hr_52 := g_c5 i (by omega) (by omega)
              refine lv_aload_n M.1 M.2.1 dX7_counts_95 rfl (lv_at hl 1 rfl) ?_
              refine zi_get (ci := 7) (v := .ref (ad (0 + 20))) M hE hP 0 rfl rfl zu_X7 32 (by decide) zk_fl_RX7_72 rfl rfl dX7_counts_96 ?_
              refine lv_iload_n M.1 M.2.1 dX7_counts_99 rfl (lv_at hl 2 rfl) ?_
              refine zi_iald M hE hP 20 (n := 80) (g := e4) rfl (Nat.le_of_ble_eq_true rfl) (by omega) (by omega) dX7_counts_100 ?_
              have hr_53 := g_e4 k (by omega) (by omega)
              refine zi_icmp_eq (tgt := 124) M dX7_counts_101 (by decide) (by omega) (by omega) (fun c_54 => ?_) (fun c_54 => ?_)
              ·
                refine zi_push M dX7_counts_124 ?_
                refine zi_goto (tgt := 129) M dX7_counts_125 (by decide) ?_
                refine lv_istore (lv' := [(5, .int (iI 1)), (4, .int (iI 1)), (0, .ref (ad 0)), (1, .int (iI k)), (2, .int (iI d)), (3, .int (iI i))]) M.1 M.2.1 dX7_counts_129 hl (by decide) rfl (fun ls hl => ?_)
                refine lv_iload_n M.1 M.2.1 dX7_counts_131 rfl (lv_at hl 4 rfl) ?_
                refine zi_if_ne (tgt := 160) M dX7_counts_132 (by decide) (by omega) (fun c_55 => ?_) (fun c_55 => ?_)
                ·
                  refine zi_push M dX7_counts_160 ?_
                  refine zi_goto (tgt := 165) M dX7_counts_161 (by decide) ?_
                  refine lv_istore_n (lv' := [(2, .int (iI 1)), (5, .int (iI 1)), (4, .int (iI 1)), (0, .ref (ad 0)), (1, .int (iI k)), (3, .int (iI i))]) M.1 M.2.1 dX7_counts_165 rfl hl (by decide) rfl (fun ls hl => ?_)
                  refine zi_iinc (lv' := [(3, .int (iI (i + 1))), (2, .int (iI 1)), (5, .int (iI 1)), (4, .int (iI 1)), (0, .ref (ad 0)), (1, .int (iI k))]) M dX7_counts_166 hl 5 rfl (by decide) rfl (fun ls hl => ?_)
                  refine zi_goto (tgt := 4) M dX7_counts_169 (by decide) ?_
                  exact ih_4 1 (i + 1) (by omega) (by omega) (Or.inl ⟨rfl, by first | exact ⟨i, by omega, by omega, by unfold cntQ; omega⟩ | (rcases hdd with ⟨_, n, a, b, z⟩ | ⟨z, _⟩; exact ⟨n, a, by omega, z⟩; exact absurd z (by omega))⟩) (fun _ => by omega) (by omega) ls (lv_sub hl [4, 5, 1, 0] rfl)
                ·
                  refine lv_iload M.1 M.2.1 dX7_counts_135 (lv_at hl 1 rfl) ?_
                  refine zi_if_eq (tgt := 164) M dX7_counts_137 (by decide) ⟨by decide, by decide⟩ (fun q => absurd q (by decide)) (fun _ => ?_)
                  refine lv_iload M.1 M.2.1 dX7_counts_140 (lv_at hl 0 rfl) ?_
                  refine zi_if_eq (tgt := 164) M dX7_counts_142 (by decide) ⟨by decide, by decide⟩ (fun q => absurd q (by decide)) (fun _ => ?_)
                  refine lv_aload_n M.1 M.2.1 dX7_counts_145 rfl (lv_at hl 2 rfl) ?_
                  refine zi_get (ci := 7) (v := .ref (ad (0 + 14))) M hE hP 0 rfl rfl zu_X7 25 (by decide) zk_fl_RX7_54 rfl rfl dX7_counts_146 ?_
                  refine lv_iload_n M.1 M.2.1 dX7_counts_149 rfl (lv_at hl 5 rfl) ?_
                  refine zi_iald M hE hP 14 (n := 60) (g := c3) rfl (Nat.le_of_ble_eq_true rfl) (by omega) (by omega) dX7_counts_150 ?_
                  have hr_56 := g_c3 i (by omega) (by omega)
                  refine lv_aload_n M.1 M.2.1 dX7_counts_151 rfl (lv_at hl 2 rfl) ?_
                  refine zi_get (ci := 7) (v := .ref (ad (0 + 19))) M hE hP 0 rfl rfl zu_X7 31 (by decide) zk_fl_RX7_69 rfl rfl dX7_counts_152 ?_
                  refine lv_iload_n M.1 M.2.1 dX7_counts_155 rfl (lv_at hl 3 rfl) ?_
                  refine zi_iald M hE hP 19 (n := 80) (g := e3) rfl (Nat.le_of_ble_eq_true rfl) (by omega) (by omega) dX7_counts_156 ?_
                  have hr_57 := g_e3 k (by omega) (by omega)
                  refine zi_icmp_ne (tgt := 164) M dX7_counts_157 (by decide) (by omega) (by omega) (fun c_58 => ?_) (fun c_58 => ?_)
                  ·
                    refine zi_push M dX7_counts_164 ?_
                    refine lv_istore_n (lv' := [(2, .int (iI 0)), (5, .int (iI 1)), (4, .int (iI 1)), (0, .ref (ad 0)), (1, .int (iI k)), (3, .int (iI i))]) M.1 M.2.1 dX7_counts_165 rfl hl (by decide) rfl (fun ls hl => ?_)
                    refine zi_iinc (lv' := [(3, .int (iI (i + 1))), (2, .int (iI 0)), (5, .int (iI 1)), (4, .int (iI 1)), (0, .ref (ad 0)), (1, .int (iI k))]) M dX7_counts_166 hl 5 rfl (by decide) rfl (fun ls hl => ?_)
                    refine zi_goto (tgt := 4) M dX7_counts_169 (by decide) ?_
                    exact ih_4 0 (i + 1) (by omega) (by omega) (Or.inr ⟨rfl, fun j h0 h1 => by rcases Int.lt_or_le j i with hj | hj; (rcases hdd with ⟨z, _⟩ | ⟨_, z⟩; exact absurd z (by omega); exact z j h0 hj); (have hji : j = i := (by omega)); subst hji; unfold cntQ; omega⟩) (fun _ => by omega) (by omega) ls (lv_sub hl [4, 5, 1, 0] rfl)
                  ·
                    refine zi_push M dX7_counts_160 ?_
                    refine zi_goto (tgt := 165) M dX7_counts_161 (by decide) ?_
                    refine lv_istore_n (lv' := [(2, .int (iI 1)), (5, .int (iI 1)), (4, .int (iI 1)), (0, .ref (ad 0)), (1, .int (iI k)), (3, .int (iI i))]) M.1 M.2.1 dX7_counts_165 rfl hl (by decide) rfl (fun ls hl => ?_)
                    refine zi_iinc (lv' := [(3, .int (iI (i + 1))), (2, .int (iI 1)), (5, .int (iI 1)), (4, .int (iI 1)), (0, .ref (ad 0)), (1, .int (iI k))]) M dX7_counts_166 hl 5 rfl (by decide) rfl (fun ls hl => ?_)
                    refine zi_goto (tgt := 4) M dX7_counts_169 (by decide) ?_
                    exact ih_4 1 (i + 1) (by omega) (by omega) (Or.inl ⟨rfl, by first | exact ⟨i, by omega, by omega, by unfold cntQ; omega⟩ | (rcases hdd with ⟨_, n, a, b, z⟩ | ⟨z, _⟩; exact ⟨n, a, by omega, z⟩; exact absurd z (by omega))⟩) (fun _ => by omega) (by omega) ls (lv_sub hl [4, 5, 1, 0] rfl)
              ·
                refine lv_aload_n M.1 M.2.1 dX7_counts_104 rfl (lv_at hl 1 rfl) ?_
                refine zi_get (ci := 7) (v := .ref (ad (0 + 16))) M hE hP 0 rfl rfl zu_X7 27 (by decide) zk_fl_RX7_60 rfl rfl dX7_counts_105 ?_
                refine lv_iload_n M.1 M.2.1 dX7_counts_108 rfl (lv_at hl 4 rfl) ?_
                refine zi_iald M hE hP 16 (n := 60) (g := c5) rfl (Nat.le_of_ble_eq_true rfl) (by omega) (by omega) dX7_counts_109 ?_
                have hr_59 := g_c5 i (by omega) (by omega)
                refine lv_aload_n M.1 M.2.1 dX7_counts_110 rfl (lv_at hl 1 rfl) ?_
                refine zi_get (ci := 7) (v := .ref (ad (0 + 20))) M hE hP 0 rfl rfl zu_X7 32 (by decide) zk_fl_RX7_72 rfl rfl dX7_counts_111 ?_
                refine lv_aload_n M.1 M.2.1 dX7_counts_114 rfl (lv_at hl 1 rfl) ?_
                refine zi_get (ci := 7) (v := .ref (ad (0 + 21))) M hE hP 0 rfl rfl zu_X7 33 (by decide) zk_fl_RX7_75 rfl rfl dX7_counts_115 ?_
                refine lv_iload_n M.1 M.2.1 dX7_counts_118 rfl (lv_at hl 2 rfl) ?_
                refine zi_iald M hE hP 21 (n := 80) (g := e5) rfl (Nat.le_of_ble_eq_true rfl) (by omega) (by omega) dX7_counts_119 ?_
                have hr_60 := g_e5 k (by omega) (by omega)
                refine zi_iald M hE hP 20 (n := 80) (g := e4) rfl (Nat.le_of_ble_eq_true rfl) (by omega) (by omega) dX7_counts_120 ?_
                have hr_61 := g_e4 (e5 k) (by omega) (by omega)
                refine zi_icmp_ne (tgt := 128) M dX7_counts_121 (by decide) (by omega) (by omega) (fun c_62 => ?_) (fun c_62 => ?_)
                ·
                  refine zi_push M dX7_counts_128 ?_
                  refine lv_istore (lv' := [(5, .int (iI 0)), (4, .int (iI 1)), (0, .ref (ad 0)), (1, .int (iI k)), (2, .int (iI d)), (3, .int (iI i))]) M.1 M.2.1 dX7_counts_129 hl (by decide) rfl (fun ls hl => ?_)
                  refine lv_iload_n M.1 M.2.1 dX7_counts_131 rfl (lv_at hl 4 rfl) ?_
                  refine zi_if_ne (tgt := 160) M dX7_counts_132 (by decide) (by omega) (fun c_63 => ?_) (fun c_63 => ?_)
                  ·
                    refine zi_push M dX7_counts_160 ?_
                    refine zi_goto (tgt := 165) M dX7_counts_161 (by decide) ?_
                    refine lv_istore_n (lv' := [(2, .int (iI 1)), (5, .int (iI 0)), (4, .int (iI 1)), (0, .ref (ad 0)), (1, .int (iI k)), (3, .int (iI i))]) M.1 M.2.1 dX7_counts_165 rfl hl (by decide) rfl (fun ls hl => ?_)
                    refine zi_iinc (lv' := [(3, .int (iI (i + 1))), (2, .int (iI 1)), (5, .int (iI 0)), (4, .int (iI 1)), (0, .ref (ad 0)), (1, .int (iI k))]) M dX7_counts_166 hl 5 rfl (by decide) rfl (fun ls hl => ?_)
                    refine zi_goto (tgt := 4) M dX7_counts_169 (by decide) ?_
                    exact ih_4 1 (i + 1) (by omega) (by omega) (Or.inl ⟨rfl, by first | exact ⟨i, by omega, by omega, by unfold cntQ; omega⟩ | (rcases hdd with ⟨_, n, a, b, z⟩ | ⟨z, _⟩; exact ⟨n, a, by omega, z⟩; exact absurd z (by omega))⟩) (fun _ => by omega) (by omega) ls (lv_sub hl [4, 5, 1, 0] rfl)
                  ·
                    refine lv_iload M.1 M.2.1 dX7_counts_135 (lv_at hl 1 rfl) ?_
                    refine zi_if_eq (tgt := 164) M dX7_counts_137 (by decide) ⟨by decide, by decide⟩ (fun q => absurd q (by decide)) (fun _ => ?_)
                    refine lv_iload M.1 M.2.1 dX7_counts_140 (lv_at hl 0 rfl) ?_
                    refine zi_if_eq (tgt := 164) M dX7_counts_142 (by decide) ⟨by decide, by decide⟩ (fun _ => ?_) (fun q => absurd q (by decide))
                    refine zi_push M dX7_counts_164 ?_
                    refine lv_istore_n (lv' := [(2, .int (iI 0)), (5, .int (iI 0)), (4, .int (iI 1)), (0, .ref (ad 0)), (1, .int (iI k)), (3, .int (iI i))]) M.1 M.2.1 dX7_counts_165 rfl hl (by decide) rfl (fun ls hl => ?_)
                    refine zi_iinc (lv' := [(3, .int (iI (i + 1))), (2, .int (iI 0)), (5, .int (iI 0)), (4, .int (iI 1)), (0, .ref (ad 0)), (1, .int (iI k))]) M dX7_counts_166 hl 5 rfl (by decide) rfl (fun ls hl => ?_)
                    refine zi_goto (tgt := 4) M dX7_counts_169 (by decide) ?_
                    exact ih_4 0 (i + 1) (by omega) (by omega) (Or.inr ⟨rfl, fun j h0 h1 => by rcases Int.lt_or_le j i with hj | hj; (rcases hdd with ⟨z, _⟩ | ⟨_, z⟩; exact absurd z (by omega); exact z j h0 hj); (have hji : j = i := (by omega)); subst hji; unfold cntQ; omega⟩) (fun _ => by omega) (by omega) ls (lv_sub hl [4, 5, 1, 0] rfl)
                ·
                  refine zi_push M dX7_counts_124 ?_
                  refine zi_goto (tgt := 129) M dX7_counts_125 (by decide) ?_
                  refine lv_istore (lv' := [(5, .int (iI 1)), (4, .int (iI 1)), (0, .ref (ad 0)), (1, .int (iI k)), (2, .int (iI d)), (3, .int (iI i))]) M.1 M.2.1 dX7_counts_129 hl (by decide) rfl (fun ls hl => ?_)
                  refine lv_iload_n M.1 M.2.1 dX7_counts_131 rfl (lv_at hl 4 rfl) ?_
                  refine zi_if_ne (tgt := 160) M dX7_counts_132 (by decide) (by omega) (fun c_64 => ?_) (fun c_64 => ?_)
                  ·
                    refine zi_push M dX7_counts_160 ?_
                    refine zi_goto (tgt := 165) M dX7_counts_161 (by decide) ?_
                    refine lv_istore_n (lv' := [(2, .int (iI 1)), (5, .int (iI 1)), (4, .int (iI 1)), (0, .ref (ad 0)), (1, .int (iI k)), (3, .int (iI i))]) M.1 M.2.1 dX7_counts_165 rfl hl (by decide) rfl (fun ls hl => ?_)
                    refine zi_iinc (lv' := [(3, .int (iI (i + 1))), (2, .int (iI 1)), (5, .int (iI 1)), (4, .int (iI 1)), (0, .ref (ad 0)), (1, .int (iI k))]) M dX7_counts_166 hl 5 rfl (by decide) rfl (fun ls hl => ?_)
                    refine zi_goto (tgt := 4) M dX7_counts_169 (by decide) ?_
                    exact ih_4 1 (i + 1) (by omega) (by omega) (Or.inl ⟨rfl, by first | exact ⟨i, by omega, by omega, by unfold cntQ; omega⟩ | (rcases hdd with ⟨_, n, a, b, z⟩ | ⟨z, _⟩; exact ⟨n, a, by omega, z⟩; exact absurd z (by omega))⟩) (fun _ => by omega) (by omega) ls (lv_sub hl [4, 5, 1, 0] rfl)
                  ·
                    refine lv_iload M.1 M.2.1 dX7_counts_135 (lv_at hl 1 rfl) ?_
                    refine zi_if_eq (tgt := 164) M dX7_counts_137 (by decide) ⟨by decide, by decide⟩ (fun q => absurd q (by decide)) (fun _ => ?_)
                    refine lv_iload M.1 M.2.1 dX7_counts_140 (lv_at hl 0 rfl) ?_
                    refine zi_if_eq (tgt := 164) M dX7_counts_142 (by decide) ⟨by decide, by decide⟩ (fun q => absurd q (by decide)) (fun _ => ?_)
                    refine lv_aload_n M.1 M.2.1 dX7_counts_145 rfl (lv_at hl 2 rfl) ?_
                    refine zi_get (ci := 7) (v := .ref (ad (0 + 14))) M hE hP 0 rfl rfl zu_X7 25 (by decide) zk_fl_RX7_54 rfl rfl dX7_counts_146 ?_
                    refine lv_iload_n M.1 M.2.1 dX7_counts_149 rfl (lv_at hl 5 rfl) ?_
                    refine zi_iald M hE hP 14 (n := 60) (g := c3) rfl (Nat.le_of_ble_eq_true rfl) (by omega) (by omega) dX7_counts_150 ?_
                    have hr_65 := g_c3 i (by omega) (by omega)
                    refine lv_aload_n M.1 M.2.1 dX7_counts_151 rfl (lv_at hl 2 rfl) ?_
                    refine zi_get (ci := 7) (v := .ref (ad (0 + 19))) M hE hP 0 rfl rfl zu_X7 31 (by decide) zk_fl_RX7_69 rfl rfl dX7_counts_152 ?_
                    refine lv_iload_n M.1 M.2.1 dX7_counts_155 rfl (lv_at hl 3 rfl) ?_
                    refine zi_iald M hE hP 19 (n := 80) (g := e3) rfl (Nat.le_of_ble_eq_true rfl) (by omega) (by omega) dX7_counts_156 ?_
                    have hr_66 := g_e3 k (by omega) (by omega)
                    refine zi_icmp_ne (tgt := 164) M dX7_counts_157 (by decide) (by omega) (by omega) (fun c_67 => ?_) (fun c_67 => ?_)
                    ·
                      refine zi_push M dX7_counts_164 ?_
                      refine lv_istore_n (lv' := [(2, .int (iI 0)), (5, .int (iI 1)), (4, .int (iI 1)), (0, .ref (ad 0)), (1, .int (iI k)), (3, .int (iI i))]) M.1 M.2.1 dX7_counts_165 rfl hl (by decide) rfl (fun ls hl => ?_)
                      refine zi_iinc (lv' := [(3, .int (iI (i + 1))), (2, .int (iI 0)), (5, .int (iI 1)), (4, .int (iI 1)), (0, .ref (ad 0)), (1, .int (iI k))]) M dX7_counts_166 hl 5 rfl (by decide) rfl (fun ls hl => ?_)
                      refine zi_goto (tgt := 4) M dX7_counts_169 (by decide) ?_
                      exact ih_4 0 (i + 1) (by omega) (by omega) (Or.inr ⟨rfl, fun j h0 h1 => by rcases Int.lt_or_le j i with hj | hj; (rcases hdd with ⟨z, _⟩ | ⟨_, z⟩; exact absurd z (by omega); exact z j h0 hj); (have hji : j = i := (by omega)); subst hji; unfold cntQ; omega⟩) (fun _ => by omega) (by omega) ls (lv_sub hl [4, 5, 1, 0] rfl)
                    ·
                      refine zi_push M dX7_counts_160 ?_
                      refine zi_goto (tgt := 165) M dX7_counts_161 (by decide) ?_
                      refine lv_istore_n (lv' := [(2, .int (iI 1)), (5, .int (iI 1)), (4, .int (iI 1)), (0, .ref (ad 0)), (1, .int (iI k)), (3, .int (iI i))]) M.1 M.2.1 dX7_counts_165 rfl hl (by decide) rfl (fun ls hl => ?_)
                      refine zi_iinc (lv' := [(3, .int (iI (i + 1))), (2, .int (iI 1)), (5, .int (iI 1)), (4, .int (iI 1)), (0, .ref (ad 0)), (1, .int (iI k))]) M dX7_counts_166 hl 5 rfl (by decide) rfl (fun ls hl => ?_)
                      refine zi_goto (tgt := 4) M dX7_counts_169 (by decide) ?_
                      exact ih_4 1 (i + 1) (by omega) (by omega) (Or.inl ⟨rfl, by first | exact ⟨i, by omega, by omega, by unfold cntQ; omega⟩ | (rcases hdd with ⟨_, n, a, b, z⟩ | ⟨z, _⟩; exact ⟨n, a, by omega, z⟩; exact absurd z (by omega))⟩) (fun _ => by omega) (by omega) ls (lv_sub hl [4, 5, 1, 0] rfl)
            ·
              refine lv_aload_n M.1 M.2.1 dX7_counts_52 rfl (lv_at hl 0 rfl) ?_
              refine zi_get (ci := 7) (v := .ref (ad (0 + 12))) M hE hP 0 rfl rfl zu_X7 23 (by decide) zk_fl_RX7_48 rfl rfl dX7_counts_53 ?_
              refine lv_iload_n M.1 M.2.1 dX7_counts_56 rfl (lv_at hl 3 rfl) ?_
              refine zi_iald M hE hP 12 (n := 60) (g := c1) rfl (Nat.le_of_ble_eq_true rfl) (by omega) (by omega) dX7_counts_57 ?_
              have hr_68 := g_c1 i (by omega) (by omega)
              refine lv_aload_n M.1 M.2.1 dX7_counts_58 rfl (lv_at hl 0 rfl) ?_
              refine zi_get (ci := 7) (v := .ref (ad (0 + 18))) M hE hP 0 rfl rfl zu_X7 30 (by decide) zk_fl_RX7_66 rfl rfl dX7_counts_59 ?_
              refine lv_iload_n M.1 M.2.1 dX7_counts_62 rfl (lv_at hl 1 rfl) ?_
              refine zi_iald M hE hP 18 (n := 80) (g := e2) rfl (Nat.le_of_ble_eq_true rfl) (by omega) (by omega) dX7_counts_63 ?_
              have hr_69 := g_e2 k (by omega) (by omega)
              refine zi_icmp_ne (tgt := 86) M dX7_counts_64 (by decide) (by omega) (by omega) (fun c_70 => ?_) (fun c_70 => ?_)
              ·
                refine zi_push M dX7_counts_86 ?_
                refine lv_istore (lv' := [(4, .int (iI 0)), (0, .ref (ad 0)), (1, .int (iI k)), (2, .int (iI d)), (3, .int (iI i))]) M.1 M.2.1 dX7_counts_87 hl (by decide) rfl (fun ls hl => ?_)
                refine lv_aload_n M.1 M.2.1 dX7_counts_89 rfl (lv_at hl 1 rfl) ?_
                refine zi_get (ci := 7) (v := .ref (ad (0 + 16))) M hE hP 0 rfl rfl zu_X7 27 (by decide) zk_fl_RX7_60 rfl rfl dX7_counts_90 ?_
                refine lv_iload_n M.1 M.2.1 dX7_counts_93 rfl (lv_at hl 4 rfl) ?_
                refine zi_iald M hE hP 16 (n := 60) (g := c5) rfl (Nat.le_of_ble_eq_true rfl) (by omega) (by omega) dX7_counts_94 ?_
                have hr_71 := g_c5 i (by omega) (by omega)
                refine lv_aload_n M.1 M.2.1 dX7_counts_95 rfl (lv_at hl 1 rfl) ?_
                refine zi_get (ci := 7) (v := .ref (ad (0 + 20))) M hE hP 0 rfl rfl zu_X7 32 (by decide) zk_fl_RX7_72 rfl rfl dX7_counts_96 ?_
                refine lv_iload_n M.1 M.2.1 dX7_counts_99 rfl (lv_at hl 2 rfl) ?_
                refine zi_iald M hE hP 20 (n := 80) (g := e4) rfl (Nat.le_of_ble_eq_true rfl) (by omega) (by omega) dX7_counts_100 ?_
                have hr_72 := g_e4 k (by omega) (by omega)
                refine zi_icmp_eq (tgt := 124) M dX7_counts_101 (by decide) (by omega) (by omega) (fun c_73 => ?_) (fun c_73 => ?_)
                ·
                  refine zi_push M dX7_counts_124 ?_
                  refine zi_goto (tgt := 129) M dX7_counts_125 (by decide) ?_
                  refine lv_istore (lv' := [(5, .int (iI 1)), (4, .int (iI 0)), (0, .ref (ad 0)), (1, .int (iI k)), (2, .int (iI d)), (3, .int (iI i))]) M.1 M.2.1 dX7_counts_129 hl (by decide) rfl (fun ls hl => ?_)
                  refine lv_iload_n M.1 M.2.1 dX7_counts_131 rfl (lv_at hl 4 rfl) ?_
                  refine zi_if_ne (tgt := 160) M dX7_counts_132 (by decide) (by omega) (fun c_74 => ?_) (fun c_74 => ?_)
                  ·
                    refine zi_push M dX7_counts_160 ?_
                    refine zi_goto (tgt := 165) M dX7_counts_161 (by decide) ?_
                    refine lv_istore_n (lv' := [(2, .int (iI 1)), (5, .int (iI 1)), (4, .int (iI 0)), (0, .ref (ad 0)), (1, .int (iI k)), (3, .int (iI i))]) M.1 M.2.1 dX7_counts_165 rfl hl (by decide) rfl (fun ls hl => ?_)
                    refine zi_iinc (lv' := [(3, .int (iI (i + 1))), (2, .int (iI 1)), (5, .int (iI 1)), (4, .int (iI 0)), (0, .ref (ad 0)), (1, .int (iI k))]) M dX7_counts_166 hl 5 rfl (by decide) rfl (fun ls hl => ?_)
                    refine zi_goto (tgt := 4) M dX7_counts_169 (by decide) ?_
                    exact ih_4 1 (i + 1) (by omega) (by omega) (Or.inl ⟨rfl, by first | exact ⟨i, by omega, by omega, by unfold cntQ; omega⟩ | (rcases hdd with ⟨_, n, a, b, z⟩ | ⟨z, _⟩; exact ⟨n, a, by omega, z⟩; exact absurd z (by omega))⟩) (fun _ => by omega) (by omega) ls (lv_sub hl [4, 5, 1, 0] rfl)
                  ·
                    refine lv_iload M.1 M.2.1 dX7_counts_135 (lv_at hl 1 rfl) ?_
                    refine zi_if_eq (tgt := 164) M dX7_counts_137 (by decide) ⟨by decide, by decide⟩ (fun _ => ?_) (fun q => absurd q (by decide))
                    refine zi_push M dX7_counts_164 ?_
                    refine lv_istore_n (lv' := [(2, .int (iI 0)), (5, .int (iI 1)), (4, .int (iI 0)), (0, .ref (ad 0)), (1, .int (iI k)), (3, .int (iI i))]) M.1 M.2.1 dX7_counts_165 rfl hl (by decide) rfl (fun ls hl => ?_)
                    refine zi_iinc (lv' := [(3, .int (iI (i + 1))), (2, .int (iI 0)), (5, .int (iI 1)), (4, .int (iI 0)), (0, .ref (ad 0)), (1, .int (iI k))]) M dX7_counts_166 hl 5 rfl (by decide) rfl (fun ls hl => ?_)
                    refine zi_goto (tgt := 4) M dX7_counts_169 (by decide) ?_
                    exact ih_4 0 (i + 1) (by omega) (by omega) (Or.inr ⟨rfl, fun j h0 h1 => by rcases Int.lt_or_le j i with hj | hj; (rcases hdd with ⟨z, _⟩ | ⟨_, z⟩; exact absurd z (by omega); exact z j h0 hj); (have hji : j = i := (by omega)); subst hji; unfold cntQ; omega⟩) (fun _ => by omega) (by omega) ls (lv_sub hl [4, 5, 1, 0] rfl)
                ·
                  refine lv_aload_n M.1 M.2.1 dX7_counts_104 rfl (lv_at hl 1 rfl) ?_
                  refine zi_get (ci := 7) (v := .ref (ad (0 + 16))) M hE hP 0 rfl rfl zu_X7 27 (by decide) zk_fl_RX7_60 rfl rfl dX7_counts_105 ?_
                  refine lv_iload_n M.1 M.2.1 dX7_counts_108 rfl (lv_at hl 4 rfl) ?_
                  refine zi_iald M hE hP 16 (n := 60) (g := c5) rfl (Nat.le_of_ble_eq_true rfl) (by omega) (by omega) dX7_counts_109 ?_
                  have hr_75 := g_c5 i (by omega) (by omega)
                  refine lv_aload_n M.1 M.2.1 dX7_counts_110 rfl (lv_at hl 1 rfl) ?_
                  refine zi_get (ci := 7) (v := .ref (ad (0 + 20))) M hE hP 0 rfl rfl zu_X7 32 (by decide) zk_fl_RX7_72 rfl rfl dX7_counts_111 ?_
                  refine lv_aload_n M.1 M.2.1 dX7_counts_114 rfl (lv_at hl 1 rfl) ?_
                  refine zi_get (ci := 7) (v := .ref (ad (0 + 21))) M hE hP 0 rfl rfl zu_X7 33 (by decide) zk_fl_RX7_75 rfl rfl dX7_counts_115 ?_
                  refine lv_iload_n M.1 M.2.1 dX7_counts_118 rfl (lv_at hl 2 rfl) ?_
                  refine zi_iald M hE hP 21 (n := 80) (g := e5) rfl (Nat.le_of_ble_eq_true rfl) (by omega) (by omega) dX7_counts_119 ?_
                  have hr_76 := g_e5 k (by omega) (by omega)
                  refine zi_iald M hE hP 20 (n := 80) (g := e4) rfl (Nat.le_of_ble_eq_true rfl) (by omega) (by omega) dX7_counts_120 ?_
                  have hr_77 := g_e4 (e5 k) (by omega) (by omega)
                  refine zi_icmp_ne (tgt := 128) M dX7_counts_121 (by decide) (by omega) (by omega) (fun c_78 => ?_) (fun c_78 => ?_)
                  ·
                    refine zi_push M dX7_counts_128 ?_
                    refine lv_istore (lv' := [(5, .int (iI 0)), (4, .int (iI 0)), (0, .ref (ad 0)), (1, .int (iI k)), (2, .int (iI d)), (3, .int (iI i))]) M.1 M.2.1 dX7_counts_129 hl (by decide) rfl (fun ls hl => ?_)
                    refine lv_iload_n M.1 M.2.1 dX7_counts_131 rfl (lv_at hl 4 rfl) ?_
                    refine zi_if_ne (tgt := 160) M dX7_counts_132 (by decide) (by omega) (fun c_79 => ?_) (fun c_79 => ?_)
                    ·
                      refine zi_push M dX7_counts_160 ?_
                      refine zi_goto (tgt := 165) M dX7_counts_161 (by decide) ?_
                      refine lv_istore_n (lv' := [(2, .int (iI 1)), (5, .int (iI 0)), (4, .int (iI 0)), (0, .ref (ad 0)), (1, .int (iI k)), (3, .int (iI i))]) M.1 M.2.1 dX7_counts_165 rfl hl (by decide) rfl (fun ls hl => ?_)
                      refine zi_iinc (lv' := [(3, .int (iI (i + 1))), (2, .int (iI 1)), (5, .int (iI 0)), (4, .int (iI 0)), (0, .ref (ad 0)), (1, .int (iI k))]) M dX7_counts_166 hl 5 rfl (by decide) rfl (fun ls hl => ?_)
                      refine zi_goto (tgt := 4) M dX7_counts_169 (by decide) ?_
                      exact ih_4 1 (i + 1) (by omega) (by omega) (Or.inl ⟨rfl, by first | exact ⟨i, by omega, by omega, by unfold cntQ; omega⟩ | (rcases hdd with ⟨_, n, a, b, z⟩ | ⟨z, _⟩; exact ⟨n, a, by omega, z⟩; exact absurd z (by omega))⟩) (fun _ => by omega) (by omega) ls (lv_sub hl [4, 5, 1, 0] rfl)
                    ·
                      refine lv_iload M.1 M.2.1 dX7_counts_135 (lv_at hl 1 rfl) ?_
                      refine zi_if_eq (tgt := 164) M dX7_counts_137 (by decide) ⟨by decide, by decide⟩ (fun _ => ?_) (fun q => absurd q (by decide))
                      refine zi_push M dX7_counts_164 ?_
                      refine lv_istore_n (lv' := [(2, .int (iI 0)), (5, .int (iI 0)), (4, .int (iI 0)), (0, .ref (ad 0)), (1, .int (iI k)), (3, .int (iI i))]) M.1 M.2.1 dX7_counts_165 rfl hl (by decide) rfl (fun ls hl => ?_)
                      refine zi_iinc (lv' := [(3, .int (iI (i + 1))), (2, .int (iI 0)), (5, .int (iI 0)), (4, .int (iI 0)), (0, .ref (ad 0)), (1, .int (iI k))]) M dX7_counts_166 hl 5 rfl (by decide) rfl (fun ls hl => ?_)
                      refine zi_goto (tgt := 4) M dX7_counts_169 (by decide) ?_
                      exact ih_4 0 (i + 1) (by omega) (by omega) (Or.inr ⟨rfl, fun j h0 h1 => by rcases Int.lt_or_le j i with hj | hj; (rcases hdd with ⟨z, _⟩ | ⟨_, z⟩; exact absurd z (by omega); exact z j h0 hj); (have hji : j = i := (by omega)); subst hji; unfold cntQ; omega⟩) (fun _ => by omega) (by omega) ls (lv_sub hl [4, 5, 1, 0] rfl)
                  ·
                    refine zi_push M dX7_counts_124 ?_
                    refine zi_goto (tgt := 129) M dX7_counts_125 (by decide) ?_
                    refine lv_istore (lv' := [(5, .int (iI 1)), (4, .int (iI 0)), (0, .ref (ad 0)), (1, .int (iI k)), (2, .int (iI d)), (3, .int (iI i))]) M.1 M.2.1 dX7_counts_129 hl (by decide) rfl (fun ls hl => ?_)
                    refine lv_iload_n M.1 M.2.1 dX7_counts_131 rfl (lv_at hl 4 rfl) ?_
                    refine zi_if_ne (tgt := 160) M dX7_counts_132 (by decide) (by omega) (fun c_80 => ?_) (fun c_80 => ?_)
                    ·
                      refine zi_push M dX7_counts_160 ?_
                      refine zi_goto (tgt := 165) M dX7_counts_161 (by decide) ?_
                      refine lv_istore_n (lv' := [(2, .int (iI 1)), (5, .int (iI 1)), (4, .int (iI 0)), (0, .ref (ad 0)), (1, .int (iI k)), (3, .int (iI i))]) M.1 M.2.1 dX7_counts_165 rfl hl (by decide) rfl (fun ls hl => ?_)
                      refine zi_iinc (lv' := [(3, .int (iI (i + 1))), (2, .int (iI 1)), (5, .int (iI 1)), (4, .int (iI 0)), (0, .ref (ad 0)), (1, .int (iI k))]) M dX7_counts_166 hl 5 rfl (by decide) rfl (fun ls hl => ?_)
                      refine zi_goto (tgt := 4) M dX7_counts_169 (by decide) ?_
                      exact ih_4 1 (i + 1) (by omega) (by omega) (Or.inl ⟨rfl, by first | exact ⟨i, by omega, by omega, by unfold cntQ; omega⟩ | (rcases hdd with ⟨_, n, a, b, z⟩ | ⟨z, _⟩; exact ⟨n, a, by omega, z⟩; exact absurd z (by omega))⟩) (fun _ => by omega) (by omega) ls (lv_sub hl [4, 5, 1, 0] rfl)
                    ·
                      refine lv_iload M.1 M.2.1 dX7_counts_135 (lv_at hl 1 rfl) ?_
                      refine zi_if_eq (tgt := 164) M dX7_counts_137 (by decide) ⟨by decide, by decide⟩ (fun _ => ?_) (fun q => absurd q (by decide))
                      refine zi_push M dX7_counts_164 ?_
                      refine lv_istore_n (lv' := [(2, .int (iI 0)), (5, .int (iI 1)), (4, .int (iI 0)), (0, .ref (ad 0)), (1, .int (iI k)), (3, .int (iI i))]) M.1 M.2.1 dX7_counts_165 rfl hl (by decide) rfl (fun ls hl => ?_)
                      refine zi_iinc (lv' := [(3, .int (iI (i + 1))), (2, .int (iI 0)), (5, .int (iI 1)), (4, .int (iI 0)), (0, .ref (ad 0)), (1, .int (iI k))]) M dX7_counts_166 hl 5 rfl (by decide) rfl (fun ls hl => ?_)
                      refine zi_goto (tgt := 4) M dX7_counts_169 (by decide) ?_
                      exact ih_4 0 (i + 1) (by omega) (by omega) (Or.inr ⟨rfl, fun j h0 h1 => by rcases Int.lt_or_le j i with hj | hj; (rcases hdd with ⟨z, _⟩ | ⟨_, z⟩; exact absurd z (by omega); exact z j h0 hj); (have hji : j = i := (by omega)); subst hji; unfold cntQ; omega⟩) (fun _ => by omega) (by omega) ls (lv_sub hl [4, 5, 1, 0] rfl)
              ·
                refine lv_aload_n M.1 M.2.1 dX7_counts_67 rfl (lv_at hl 0 rfl) ?_
                refine zi_get (ci := 7) (v := .ref (ad (0 + 13))) M hE hP 0 rfl rfl zu_X7 24 (by decide) zk_fl_RX7_51 rfl rfl dX7_counts_68 ?_
                refine lv_iload_n M.1 M.2.1 dX7_counts_71 rfl (lv_at hl 3 rfl) ?_
                refine zi_iald M hE hP 13 (n := 60) (g := c2) rfl (Nat.le_of_ble_eq_true rfl) (by omega) (by omega) dX7_counts_72 ?_
                have hr_81 := g_c2 i (by omega) (by omega)
                refine lv_aload_n M.1 M.2.1 dX7_counts_73 rfl (lv_at hl 0 rfl) ?_
                refine zi_get (ci := 7) (v := .ref (ad (0 + 17))) M hE hP 0 rfl rfl zu_X7 29 (by decide) zk_fl_RX7_63 rfl rfl dX7_counts_74 ?_
                refine lv_iload_n M.1 M.2.1 dX7_counts_77 rfl (lv_at hl 1 rfl) ?_
                refine zi_iald M hE hP 17 (n := 80) (g := e1) rfl (Nat.le_of_ble_eq_true rfl) (by omega) (by omega) dX7_counts_78 ?_
                have hr_82 := g_e1 k (by omega) (by omega)
                refine zi_icmp_ne (tgt := 86) M dX7_counts_79 (by decide) (by omega) (by omega) (fun c_83 => ?_) (fun c_83 => ?_)
                ·
                  refine zi_push M dX7_counts_86 ?_
                  refine lv_istore (lv' := [(4, .int (iI 0)), (0, .ref (ad 0)), (1, .int (iI k)), (2, .int (iI d)), (3, .int (iI i))]) M.1 M.2.1 dX7_counts_87 hl (by decide) rfl (fun ls hl => ?_)
                  refine lv_aload_n M.1 M.2.1 dX7_counts_89 rfl (lv_at hl 1 rfl) ?_
                  refine zi_get (ci := 7) (v := .ref (ad (0 + 16))) M hE hP 0 rfl rfl zu_X7 27 (by decide) zk_fl_RX7_60 rfl rfl dX7_counts_90 ?_
                  refine lv_iload_n M.1 M.2.1 dX7_counts_93 rfl (lv_at hl 4 rfl) ?_
                  refine zi_iald M hE hP 16 (n := 60) (g := c5) rfl (Nat.le_of_ble_eq_true rfl) (by omega) (by omega) dX7_counts_94 ?_
                  have hr_84 := g_c5 i (by omega) (by omega)
                  refine lv_aload_n M.1 M.2.1 dX7_counts_95 rfl (lv_at hl 1 rfl) ?_
                  refine zi_get (ci := 7) (v := .ref (ad (0 + 20))) M hE hP 0 rfl rfl zu_X7 32 (by decide) zk_fl_RX7_72 rfl rfl dX7_counts_96 ?_
                  refine lv_iload_n M.1 M.2.1 dX7_counts_99 rfl (lv_at hl 2 rfl) ?_
                  refine zi_iald M hE hP 20 (n := 80) (g := e4) rfl (Nat.le_of_ble_eq_true rfl) (by omega) (by omega) dX7_counts_100 ?_
                  have hr_85 := g_e4 k (by omega) (by omega)
                  refine zi_icmp_eq (tgt := 124) M dX7_counts_101 (by decide) (by omega) (by omega) (fun c_86 => ?_) (fun c_86 => ?_)
                  ·
                    refine zi_push M dX7_counts_124 ?_
                    refine zi_goto (tgt := 129) M dX7_counts_125 (by decide) ?_
                    refine lv_istore (lv' := [(5, .int (iI 1)), (4, .int (iI 0)), (0, .ref (ad 0)), (1, .int (iI k)), (2, .int (iI d)), (3, .int (iI i))]) M.1 M.2.1 dX7_counts_129 hl (by decide) rfl (fun ls hl => ?_)
                    refine lv_iload_n M.1 M.2.1 dX7_counts_131 rfl (lv_at hl 4 rfl) ?_
                    refine zi_if_ne (tgt := 160) M dX7_counts_132 (by decide) (by omega) (fun c_87 => ?_) (fun c_87 => ?_)
                    ·
                      refine zi_push M dX7_counts_160 ?_
                      refine zi_goto (tgt := 165) M dX7_counts_161 (by decide) ?_
                      refine lv_istore_n (lv' := [(2, .int (iI 1)), (5, .int (iI 1)), (4, .int (iI 0)), (0, .ref (ad 0)), (1, .int (iI k)), (3, .int (iI i))]) M.1 M.2.1 dX7_counts_165 rfl hl (by decide) rfl (fun ls hl => ?_)
                      refine zi_iinc (lv' := [(3, .int (iI (i + 1))), (2, .int (iI 1)), (5, .int (iI 1)), (4, .int (iI 0)), (0, .ref (ad 0)), (1, .int (iI k))]) M dX7_counts_166 hl 5 rfl (by decide) rfl (fun ls hl => ?_)
                      refine zi_goto (tgt := 4) M dX7_counts_169 (by decide) ?_
                      exact ih_4 1 (i + 1) (by omega) (by omega) (Or.inl ⟨rfl, by first | exact ⟨i, by omega, by omega, by unfold cntQ; omega⟩ | (rcases hdd with ⟨_, n, a, b, z⟩ | ⟨z, _⟩; exact ⟨n, a, by omega, z⟩; exact absurd z (by omega))⟩) (fun _ => by omega) (by omega) ls (lv_sub hl [4, 5, 1, 0] rfl)
                    ·
                      refine lv_iload M.1 M.2.1 dX7_counts_135 (lv_at hl 1 rfl) ?_
                      refine zi_if_eq (tgt := 164) M dX7_counts_137 (by decide) ⟨by decide, by decide⟩ (fun _ => ?_) (fun q => absurd q (by decide))
                      refine zi_push M dX7_counts_164 ?_
                      refine lv_istore_n (lv' := [(2, .int (iI 0)), (5, .int (iI 1)), (4, .int (iI 0)), (0, .ref (ad 0)), (1, .int (iI k)), (3, .int (iI i))]) M.1 M.2.1 dX7_counts_165 rfl hl (by decide) rfl (fun ls hl => ?_)
                      refine zi_iinc (lv' := [(3, .int (iI (i + 1))), (2, .int (iI 0)), (5, .int (iI 1)), (4, .int (iI 0)), (0, .ref (ad 0)), (1, .int (iI k))]) M dX7_counts_166 hl 5 rfl (by decide) rfl (fun ls hl => ?_)
                      refine zi_goto (tgt := 4) M dX7_counts_169 (by decide) ?_
                      exact ih_4 0 (i + 1) (by omega) (by omega) (Or.inr ⟨rfl, fun j h0 h1 => by rcases Int.lt_or_le j i with hj | hj; (rcases hdd with ⟨z, _⟩ | ⟨_, z⟩; exact absurd z (by omega); exact z j h0 hj); (have hji : j = i := (by omega)); subst hji; unfold cntQ; omega⟩) (fun _ => by omega) (by omega) ls (lv_sub hl [4, 5, 1, 0] rfl)
                  ·
                    refine lv_aload_n M.1 M.2.1 dX7_counts_104 rfl (lv_at hl 1 rfl) ?_
                    refine zi_get (ci := 7) (v := .ref (ad (0 + 16))) M hE hP 0 rfl rfl zu_X7 27 (by decide) zk_fl_RX7_60 rfl rfl dX7_counts_105 ?_
                    refine lv_iload_n M.1 M.2.1 dX7_counts_108 rfl (lv_at hl 4 rfl) ?_
                    refine zi_iald M hE hP 16 (n := 60) (g := c5) rfl (Nat.le_of_ble_eq_true rfl) (by omega) (by omega) dX7_counts_109 ?_
                    have hr_88 := g_c5 i (by omega) (by omega)
                    refine lv_aload_n M.1 M.2.1 dX7_counts_110 rfl (lv_at hl 1 rfl) ?_
                    refine zi_get (ci := 7) (v := .ref (ad (0 + 20))) M hE hP 0 rfl rfl zu_X7 32 (by decide) zk_fl_RX7_72 rfl rfl dX7_counts_111 ?_
                    refine lv_aload_n M.1 M.2.1 dX7_counts_114 rfl (lv_at hl 1 rfl) ?_
                    refine zi_get (ci := 7) (v := .ref (ad (0 + 21))) M hE hP 0 rfl rfl zu_X7 33 (by decide) zk_fl_RX7_75 rfl rfl dX7_counts_115 ?_
                    refine lv_iload_n M.1 M.2.1 dX7_counts_118 rfl (lv_at hl 2 rfl) ?_
                    refine zi_iald M hE hP 21 (n := 80) (g := e5) rfl (Nat.le_of_ble_eq_true rfl) (by omega) (by omega) dX7_counts_119 ?_
                    have hr_89 := g_e5 k (by omega) (by omega)
                    refine zi_iald M hE hP 20 (n := 80) (g := e4) rfl (Nat.le_of_ble_eq_true rfl) (by omega) (by omega) dX7_counts_120 ?_
                    have hr_90 := g_e4 (e5 k) (by omega) (by omega)
                    refine zi_icmp_ne (tgt := 128) M dX7_counts_121 (by decide) (by omega) (by omega) (fun c_91 => ?_) (fun c_91 => ?_)
                    ·
                      refine zi_push M dX7_counts_128 ?_
                      refine lv_istore (lv' := [(5, .int (iI 0)), (4, .int (iI 0)), (0, .ref (ad 0)), (1, .int (iI k)), (2, .int (iI d)), (3, .int (iI i))]) M.1 M.2.1 dX7_counts_129 hl (by decide) rfl (fun ls hl => ?_)
                      refine lv_iload_n M.1 M.2.1 dX7_counts_131 rfl (lv_at hl 4 rfl) ?_
                      refine zi_if_ne (tgt := 160) M dX7_counts_132 (by decide) (by omega) (fun c_92 => ?_) (fun c_92 => ?_)
                      ·
                        refine zi_push M dX7_counts_160 ?_
                        refine zi_goto (tgt := 165) M dX7_counts_161 (by decide) ?_
                        refine lv_istore_n (lv' := [(2, .int (iI 1)), (5, .int (iI 0)), (4, .int (iI 0)), (0, .ref (ad 0)), (1, .int (iI k)), (3, .int (iI i))]) M.1 M.2.1 dX7_counts_165 rfl hl (by decide) rfl (fun ls hl => ?_)
                        refine zi_iinc (lv' := [(3, .int (iI (i + 1))), (2, .int (iI 1)), (5, .int (iI 0)), (4, .int (iI 0)), (0, .ref (ad 0)), (1, .int (iI k))]) M dX7_counts_166 hl 5 rfl (by decide) rfl (fun ls hl => ?_)
                        refine zi_goto (tgt := 4) M dX7_counts_169 (by decide) ?_
                        exact ih_4 1 (i + 1) (by omega) (by omega) (Or.inl ⟨rfl, by first | exact ⟨i, by omega, by omega, by unfold cntQ; omega⟩ | (rcases hdd with ⟨_, n, a, b, z⟩ | ⟨z, _⟩; exact ⟨n, a, by omega, z⟩; exact absurd z (by omega))⟩) (fun _ => by omega) (by omega) ls (lv_sub hl [4, 5, 1, 0] rfl)
                      ·
                        refine lv_iload M.1 M.2.1 dX7_counts_135 (lv_at hl 1 rfl) ?_
                        refine zi_if_eq (tgt := 164) M dX7_counts_137 (by decide) ⟨by decide, by decide⟩ (fun _ => ?_) (fun q => absurd q (by decide))
                        refine zi_push M dX7_counts_164 ?_
                        refine lv_istore_n (lv' := [(2, .int (iI 0)), (5, .int (iI 0)), (4, .int (iI 0)), (0, .ref (ad 0)), (1, .int (iI k)), (3, .int (iI i))]) M.1 M.2.1 dX7_counts_165 rfl hl (by decide) rfl (fun ls hl => ?_)
                        refine zi_iinc (lv' := [(3, .int (iI (i + 1))), (2, .int (iI 0)), (5, .int (iI 0)), (4, .int (iI 0)), (0, .ref (ad 0)), (1, .int (iI k))]) M dX7_counts_166 hl 5 rfl (by decide) rfl (fun ls hl => ?_)
                        refine zi_goto (tgt := 4) M dX7_counts_169 (by decide) ?_
                        exact ih_4 0 (i + 1) (by omega) (by omega) (Or.inr ⟨rfl, fun j h0 h1 => by rcases Int.lt_or_le j i with hj | hj; (rcases hdd with ⟨z, _⟩ | ⟨_, z⟩; exact absurd z (by omega); exact z j h0 hj); (have hji : j = i := (by omega)); subst hji; unfold cntQ; omega⟩) (fun _ => by omega) (by omega) ls (lv_sub hl [4, 5, 1, 0] rfl)
                    ·
                      refine zi_push M dX7_counts_124 ?_
                      refine zi_goto (tgt := 129) M dX7_counts_125 (by decide) ?_
                      refine lv_istore (lv' := [(5, .int (iI 1)), (4, .int (iI 0)), (0, .ref (ad 0)), (1, .int (iI k)), (2, .int (iI d)), (3, .int (iI i))]) M.1 M.2.1 dX7_counts_129 hl (by decide) rfl (fun ls hl => ?_)
                      refine lv_iload_n M.1 M.2.1 dX7_counts_131 rfl (lv_at hl 4 rfl) ?_
                      refine zi_if_ne (tgt := 160) M dX7_counts_132 (by decide) (by omega) (fun c_93 => ?_) (fun c_93 => ?_)
                      ·
                        refine zi_push M dX7_counts_160 ?_
                        refine zi_goto (tgt := 165) M dX7_counts_161 (by decide) ?_
                        refine lv_istore_n (lv' := [(2, .int (iI 1)), (5, .int (iI 1)), (4, .int (iI 0)), (0, .ref (ad 0)), (1, .int (iI k)), (3, .int (iI i))]) M.1 M.2.1 dX7_counts_165 rfl hl (by decide) rfl (fun ls hl => ?_)
                        refine zi_iinc (lv' := [(3, .int (iI (i + 1))), (2, .int (iI 1)), (5, .int (iI 1)), (4, .int (iI 0)), (0, .ref (ad 0)), (1, .int (iI k))]) M dX7_counts_166 hl 5 rfl (by decide) rfl (fun ls hl => ?_)
                        refine zi_goto (tgt := 4) M dX7_counts_169 (by decide) ?_
                        exact ih_4 1 (i + 1) (by omega) (by omega) (Or.inl ⟨rfl, by first | exact ⟨i, by omega, by omega, by unfold cntQ; omega⟩ | (rcases hdd with ⟨_, n, a, b, z⟩ | ⟨z, _⟩; exact ⟨n, a, by omega, z⟩; exact absurd z (by omega))⟩) (fun _ => by omega) (by omega) ls (lv_sub hl [4, 5, 1, 0] rfl)
                      ·
                        refine lv_iload M.1 M.2.1 dX7_counts_135 (lv_at hl 1 rfl) ?_
                        refine zi_if_eq (tgt := 164) M dX7_counts_137 (by decide) ⟨by decide, by decide⟩ (fun _ => ?_) (fun q => absurd q (by decide))
                        refine zi_push M dX7_counts_164 ?_
                        refine lv_istore_n (lv' := [(2, .int (iI 0)), (5, .int (iI 1)), (4, .int (iI 0)), (0, .ref (ad 0)), (1, .int (iI k)), (3, .int (iI i))]) M.1 M.2.1 dX7_counts_165 rfl hl (by decide) rfl (fun ls hl => ?_)
                        refine zi_iinc (lv' := [(3, .int (iI (i + 1))), (2, .int (iI 0)), (5, .int (iI 1)), (4, .int (iI 0)), (0, .ref (ad 0)), (1, .int (iI k))]) M dX7_counts_166 hl 5 rfl (by decide) rfl (fun ls hl => ?_)
                        refine zi_goto (tgt := 4) M dX7_counts_169 (by decide) ?_
                        exact ih_4 0 (i + 1) (by omega) (by omega) (Or.inr ⟨rfl, fun j h0 h1 => by rcases Int.lt_or_le j i with hj | hj; (rcases hdd with ⟨z, _⟩ | ⟨_, z⟩; exact absurd z (by omega); exact z j h0 hj); (have hji : j = i := (by omega)); subst hji; unfold cntQ; omega⟩) (fun _ => by omega) (by omega) ls (lv_sub hl [4, 5, 1, 0] rfl)
                ·
                  refine zi_push M dX7_counts_82 ?_
                  refine zi_goto (tgt := 87) M dX7_counts_83 (by decide) ?_
                  refine lv_istore (lv' := [(4, .int (iI 1)), (0, .ref (ad 0)), (1, .int (iI k)), (2, .int (iI d)), (3, .int (iI i))]) M.1 M.2.1 dX7_counts_87 hl (by decide) rfl (fun ls hl => ?_)
                  refine lv_aload_n M.1 M.2.1 dX7_counts_89 rfl (lv_at hl 1 rfl) ?_
                  refine zi_get (ci := 7) (v := .ref (ad (0 + 16))) M hE hP 0 rfl rfl zu_X7 27 (by decide) zk_fl_RX7_60 rfl rfl dX7_counts_90 ?_
                  refine lv_iload_n M.1 M.2.1 dX7_counts_93 rfl (lv_at hl 4 rfl) ?_
                  refine zi_iald M hE hP 16 (n := 60) (g := c5) rfl (Nat.le_of_ble_eq_true rfl) (by omega) (by omega) dX7_counts_94 ?_
                  have hr_94 := g_c5 i (by omega) (by omega)
                  refine lv_aload_n M.1 M.2.1 dX7_counts_95 rfl (lv_at hl 1 rfl) ?_
                  refine zi_get (ci := 7) (v := .ref (ad (0 + 20))) M hE hP 0 rfl rfl zu_X7 32 (by decide) zk_fl_RX7_72 rfl rfl dX7_counts_96 ?_
                  refine lv_iload_n M.1 M.2.1 dX7_counts_99 rfl (lv_at hl 2 rfl) ?_
                  refine zi_iald M hE hP 20 (n := 80) (g := e4) rfl (Nat.le_of_ble_eq_true rfl) (by omega) (by omega) dX7_counts_100 ?_
                  have hr_95 := g_e4 k (by omega) (by omega)
                  refine zi_icmp_eq (tgt := 124) M dX7_counts_101 (by decide) (by omega) (by omega) (fun c_96 => ?_) (fun c_96 => ?_)
                  ·
                    refine zi_push M dX7_counts_124 ?_
                    refine zi_goto (tgt := 129) M dX7_counts_125 (by decide) ?_
                    refine lv_istore (lv' := [(5, .int (iI 1)), (4, .int (iI 1)), (0, .ref (ad 0)), (1, .int (iI k)), (2, .int (iI d)), (3, .int (iI i))]) M.1 M.2.1 dX7_counts_129 hl (by decide) rfl (fun ls hl => ?_)
                    refine lv_iload_n M.1 M.2.1 dX7_counts_131 rfl (lv_at hl 4 rfl) ?_
                    refine zi_if_ne (tgt := 160) M dX7_counts_132 (by decide) (by omega) (fun c_97 => ?_) (fun c_97 => ?_)
                    ·
                      refine zi_push M dX7_counts_160 ?_
                      refine zi_goto (tgt := 165) M dX7_counts_161 (by decide) ?_
                      refine lv_istore_n (lv' := [(2, .int (iI 1)), (5, .int (iI 1)), (4, .int (iI 1)), (0, .ref (ad 0)), (1, .int (iI k)), (3, .int (iI i))]) M.1 M.2.1 dX7_counts_165 rfl hl (by decide) rfl (fun ls hl => ?_)
                      refine zi_iinc (lv' := [(3, .int (iI (i + 1))), (2, .int (iI 1)), (5, .int (iI 1)), (4, .int (iI 1)), (0, .ref (ad 0)), (1, .int (iI k))]) M dX7_counts_166 hl 5 rfl (by decide) rfl (fun ls hl => ?_)
                      refine zi_goto (tgt := 4) M dX7_counts_169 (by decide) ?_
                      exact ih_4 1 (i + 1) (by omega) (by omega) (Or.inl ⟨rfl, by first | exact ⟨i, by omega, by omega, by unfold cntQ; omega⟩ | (rcases hdd with ⟨_, n, a, b, z⟩ | ⟨z, _⟩; exact ⟨n, a, by omega, z⟩; exact absurd z (by omega))⟩) (fun _ => by omega) (by omega) ls (lv_sub hl [4, 5, 1, 0] rfl)
                    ·
                      refine lv_iload M.1 M.2.1 dX7_counts_135 (lv_at hl 1 rfl) ?_
                      refine zi_if_eq (tgt := 164) M dX7_counts_137 (by decide) ⟨by decide, by decide⟩ (fun q => absurd q (by decide)) (fun _ => ?_)
                      refine lv_iload M.1 M.2.1 dX7_counts_140 (lv_at hl 0 rfl) ?_
                      refine zi_if_eq (tgt := 164) M dX7_counts_142 (by decide) ⟨by decide, by decide⟩ (fun q => absurd q (by decide)) (fun _ => ?_)
                      refine lv_aload_n M.1 M.2.1 dX7_counts_145 rfl (lv_at hl 2 rfl) ?_
                      refine zi_get (ci := 7) (v := .ref (ad (0 + 14))) M hE hP 0 rfl rfl zu_X7 25 (by decide) zk_fl_RX7_54 rfl rfl dX7_counts_146 ?_
                      refine lv_iload_n M.1 M.2.1 dX7_counts_149 rfl (lv_at hl 5 rfl) ?_
                      refine zi_iald M hE hP 14 (n := 60) (g := c3) rfl (Nat.le_of_ble_eq_true rfl) (by omega) (by omega) dX7_counts_150 ?_
                      have hr_98 := g_c3 i (by omega) (by omega)
                      refine lv_aload_n M.1 M.2.1 dX7_counts_151 rfl (lv_at hl 2 rfl) ?_
                      refine zi_get (ci := 7) (v := .ref (ad (0 + 19))) M hE hP 0 rfl rfl zu_X7 31 (by decide) zk_fl_RX7_69 rfl rfl dX7_counts_152 ?_
                      refine lv_iload_n M.1 M.2.1 dX7_counts_155 rfl (lv_at hl 3 rfl) ?_
                      refine zi_iald M hE hP 19 (n := 80) (g := e3) rfl (Nat.le_of_ble_eq_true rfl) (by omega) (by omega) dX7_counts_156 ?_
                      have hr_99 := g_e3 k (by omega) (by omega)
                      refine zi_icmp_ne (tgt := 164) M dX7_counts_157 (by decide) (by omega) (by omega) (fun c_100 => ?_) (fun c_100 => ?_)
                      ·
                        refine zi_push M dX7_counts_164 ?_
                        refine lv_istore_n (lv' := [(2, .int (iI 0)), (5, .int (iI 1)), (4, .int (iI 1)), (0, .ref (ad 0)), (1, .int (iI k)), (3, .int (iI i))]) M.1 M.2.1 dX7_counts_165 rfl hl (by decide) rfl (fun ls hl => ?_)
                        refine zi_iinc (lv' := [(3, .int (iI (i + 1))), (2, .int (iI 0)), (5, .int (iI 1)), (4, .int (iI 1)), (0, .ref (ad 0)), (1, .int (iI k))]) M dX7_counts_166 hl 5 rfl (by decide) rfl (fun ls hl => ?_)
                        refine zi_goto (tgt := 4) M dX7_counts_169 (by decide) ?_
                        exact ih_4 0 (i + 1) (by omega) (by omega) (Or.inr ⟨rfl, fun j h0 h1 => by rcases Int.lt_or_le j i with hj | hj; (rcases hdd with ⟨z, _⟩ | ⟨_, z⟩; exact absurd z (by omega); exact z j h0 hj); (have hji : j = i := (by omega)); subst hji; unfold cntQ; omega⟩) (fun _ => by omega) (by omega) ls (lv_sub hl [4, 5, 1, 0] rfl)
                      ·
                        refine zi_push M dX7_counts_160 ?_
                        refine zi_goto (tgt := 165) M dX7_counts_161 (by decide) ?_
                        refine lv_istore_n (lv' := [(2, .int (iI 1)), (5, .int (iI 1)), (4, .int (iI 1)), (0, .ref (ad 0)), (1, .int (iI k)), (3, .int (iI i))]) M.1 M.2.1 dX7_counts_165 rfl hl (by decide) rfl (fun ls hl => ?_)
                        refine zi_iinc (lv' := [(3, .int (iI (i + 1))), (2, .int (iI 1)), (5, .int (iI 1)), (4, .int (iI 1)), (0, .ref (ad 0)), (1, .int (iI k))]) M dX7_counts_166 hl 5 rfl (by decide) rfl (fun ls hl => ?_)
                        refine zi_goto (tgt := 4) M dX7_counts_169 (by decide) ?_
                        exact ih_4 1 (i + 1) (by omega) (by omega) (Or.inl ⟨rfl, by first | exact ⟨i, by omega, by omega, by unfold cntQ; omega⟩ | (rcases hdd with ⟨_, n, a, b, z⟩ | ⟨z, _⟩; exact ⟨n, a, by omega, z⟩; exact absurd z (by omega))⟩) (fun _ => by omega) (by omega) ls (lv_sub hl [4, 5, 1, 0] rfl)
                  ·
                    refine lv_aload_n M.1 M.2.1 dX7_counts_104 rfl (lv_at hl 1 rfl) ?_
                    refine zi_get (ci := 7) (v := .ref (ad (0 + 16))) M hE hP 0 rfl rfl zu_X7 27 (by decide) zk_fl_RX7_60 rfl rfl dX7_counts_105 ?_
                    refine lv_iload_n M.1 M.2.1 dX7_counts_108 rfl (lv_at hl 4 rfl) ?_
                    refine zi_iald M hE hP 16 (n := 60) (g := c5) rfl (Nat.le_of_ble_eq_true rfl) (by omega) (by omega) dX7_counts_109 ?_
                    have hr_101 := g_c5 i (by omega) (by omega)
                    refine lv_aload_n M.1 M.2.1 dX7_counts_110 rfl (lv_at hl 1 rfl) ?_
                    refine zi_get (ci := 7) (v := .ref (ad (0 + 20))) M hE hP 0 rfl rfl zu_X7 32 (by decide) zk_fl_RX7_72 rfl rfl dX7_counts_111 ?_
                    refine lv_aload_n M.1 M.2.1 dX7_counts_114 rfl (lv_at hl 1 rfl) ?_
                    refine zi_get (ci := 7) (v := .ref (ad (0 + 21))) M hE hP 0 rfl rfl zu_X7 33 (by decide) zk_fl_RX7_75 rfl rfl dX7_counts_115 ?_
                    refine lv_iload_n M.1 M.2.1 dX7_counts_118 rfl (lv_at hl 2 rfl) ?_
                    refine zi_iald M hE hP 21 (n := 80) (g := e5) rfl (Nat.le_of_ble_eq_true rfl) (by omega) (by omega) dX7_counts_119 ?_
                    have hr_102 := g_e5 k (by omega) (by omega)
                    refine zi_iald M hE hP 20 (n := 80) (g := e4) rfl (Nat.le_of_ble_eq_true rfl) (by omega) (by omega) dX7_counts_120 ?_
                    have hr_103 := g_e4 (e5 k) (by omega) (by omega)
                    refine zi_icmp_ne (tgt := 128) M dX7_counts_121 (by decide) (by omega) (by omega) (fun c_104 => ?_) (fun c_104 => ?_)
                    ·
                      refine zi_push M dX7_counts_128 ?_
                      refine lv_istore (lv' := [(5, .int (iI 0)), (4, .int (iI 1)), (0, .ref (ad 0)), (1, .int (iI k)), (2, .int (iI d)), (3, .int (iI i))]) M.1 M.2.1 dX7_counts_129 hl (by decide) rfl (fun ls hl => ?_)
                      refine lv_iload_n M.1 M.2.1 dX7_counts_131 rfl (lv_at hl 4 rfl) ?_
                      refine zi_if_ne (tgt := 160) M dX7_counts_132 (by decide) (by omega) (fun c_105 => ?_) (fun c_105 => ?_)
                      ·
                        refine zi_push M dX7_counts_160 ?_
                        refine zi_goto (tgt := 165) M dX7_counts_161 (by decide) ?_
                        refine lv_istore_n (lv' := [(2, .int (iI 1)), (5, .int (iI 0)), (4, .int (iI 1)), (0, .ref (ad 0)), (1, .int (iI k)), (3, .int (iI i))]) M.1 M.2.1 dX7_counts_165 rfl hl (by decide) rfl (fun ls hl => ?_)
                        refine zi_iinc (lv' := [(3, .int (iI (i + 1))), (2, .int (iI 1)), (5, .int (iI 0)), (4, .int (iI 1)), (0, .ref (ad 0)), (1, .int (iI k))]) M dX7_counts_166 hl 5 rfl (by decide) rfl (fun ls hl => ?_)
                        refine zi_goto (tgt := 4) M dX7_counts_169 (by decide) ?_
                        exact ih_4 1 (i + 1) (by omega) (by omega) (Or.inl ⟨rfl, by first | exact ⟨i, by omega, by omega, by unfold cntQ; omega⟩ | (rcases hdd with ⟨_, n, a, b, z⟩ | ⟨z, _⟩; exact ⟨n, a, by omega, z⟩; exact absurd z (by omega))⟩) (fun _ => by omega) (by omega) ls (lv_sub hl [4, 5, 1, 0] rfl)
                      ·
                        refine lv_iload M.1 M.2.1 dX7_counts_135 (lv_at hl 1 rfl) ?_
                        refine zi_if_eq (tgt := 164) M dX7_counts_137 (by decide) ⟨by decide, by decide⟩ (fun q => absurd q (by decide)) (fun _ => ?_)
                        refine lv_iload M.1 M.2.1 dX7_counts_140 (lv_at hl 0 rfl) ?_
                        refine zi_if_eq (tgt := 164) M dX7_counts_142 (by decide) ⟨by decide, by decide⟩ (fun _ => ?_) (fun q => absurd q (by decide))
                        refine zi_push M dX7_counts_164 ?_
                        refine lv_istore_n (lv' := [(2, .int (iI 0)), (5, .int (iI 0)), (4, .int (iI 1)), (0, .ref (ad 0)), (1, .int (iI k)), (3, .int (iI i))]) M.1 M.2.1 dX7_counts_165 rfl hl (by decide) rfl (fun ls hl => ?_)
                        refine zi_iinc (lv' := [(3, .int (iI (i + 1))), (2, .int (iI 0)), (5, .int (iI 0)), (4, .int (iI 1)), (0, .ref (ad 0)), (1, .int (iI k))]) M dX7_counts_166 hl 5 rfl (by decide) rfl (fun ls hl => ?_)
                        refine zi_goto (tgt := 4) M dX7_counts_169 (by decide) ?_
                        exact ih_4 0 (i + 1) (by omega) (by omega) (Or.inr ⟨rfl, fun j h0 h1 => by rcases Int.lt_or_le j i with hj | hj; (rcases hdd with ⟨z, _⟩ | ⟨_, z⟩; exact absurd z (by omega); exact z j h0 hj); (have hji : j = i := (by omega)); subst hji; unfold cntQ; omega⟩) (fun _ => by omega) (by omega) ls (lv_sub hl [4, 5, 1, 0] rfl)
                    ·
                      refine zi_push M dX7_counts_124 ?_
                      refine zi_goto (tgt := 129) M dX7_counts_125 (by decide) ?_
                      refine lv_istore (lv' := [(5, .int (iI 1)), (4, .int (iI 1)), (0, .ref (ad 0)), (1, .int (iI k)), (2, .int (iI d)), (3, .int (iI i))]) M.1 M.2.1 dX7_counts_129 hl (by decide) rfl (fun ls hl => ?_)
                      refine lv_iload_n M.1 M.2.1 dX7_counts_131 rfl (lv_at hl 4 rfl) ?_
                      refine zi_if_ne (tgt := 160) M dX7_counts_132 (by decide) (by omega) (fun c_106 => ?_) (fun c_106 => ?_)
                      ·
                        refine zi_push M dX7_counts_160 ?_
                        refine zi_goto (tgt := 165) M dX7_counts_161 (by decide) ?_
                        refine lv_istore_n (lv' := [(2, .int (iI 1)), (5, .int (iI 1)), (4, .int (iI 1)), (0, .ref (ad 0)), (1, .int (iI k)), (3, .int (iI i))]) M.1 M.2.1 dX7_counts_165 rfl hl (by decide) rfl (fun ls hl => ?_)
                        refine zi_iinc (lv' := [(3, .int (iI (i + 1))), (2, .int (iI 1)), (5, .int (iI 1)), (4, .int (iI 1)), (0, .ref (ad 0)), (1, .int (iI k))]) M dX7_counts_166 hl 5 rfl (by decide) rfl (fun ls hl => ?_)
                        refine zi_goto (tgt := 4) M dX7_counts_169 (by decide) ?_
                        exact ih_4 1 (i + 1) (by omega) (by omega) (Or.inl ⟨rfl, by first | exact ⟨i, by omega, by omega, by unfold cntQ; omega⟩ | (rcases hdd with ⟨_, n, a, b, z⟩ | ⟨z, _⟩; exact ⟨n, a, by omega, z⟩; exact absurd z (by omega))⟩) (fun _ => by omega) (by omega) ls (lv_sub hl [4, 5, 1, 0] rfl)
                      ·
                        refine lv_iload M.1 M.2.1 dX7_counts_135 (lv_at hl 1 rfl) ?_
                        refine zi_if_eq (tgt := 164) M dX7_counts_137 (by decide) ⟨by decide, by decide⟩ (fun q => absurd q (by decide)) (fun _ => ?_)
                        refine lv_iload M.1 M.2.1 dX7_counts_140 (lv_at hl 0 rfl) ?_
                        refine zi_if_eq (tgt := 164) M dX7_counts_142 (by decide) ⟨by decide, by decide⟩ (fun q => absurd q (by decide)) (fun _ => ?_)
                        refine lv_aload_n M.1 M.2.1 dX7_counts_145 rfl (lv_at hl 2 rfl) ?_
                        refine zi_get (ci := 7) (v := .ref (ad (0 + 14))) M hE hP 0 rfl rfl zu_X7 25 (by decide) zk_fl_RX7_54 rfl rfl dX7_counts_146 ?_
                        refine lv_iload_n M.1 M.2.1 dX7_counts_149 rfl (lv_at hl 5 rfl) ?_
                        refine zi_iald M hE hP 14 (n := 60) (g := c3) rfl (Nat.le_of_ble_eq_true rfl) (by omega) (by omega) dX7_counts_150 ?_
                        have hr_107 := g_c3 i (by omega) (by omega)
                        refine lv_aload_n M.1 M.2.1 dX7_counts_151 rfl (lv_at hl 2 rfl) ?_
                        refine zi_get (ci := 7) (v := .ref (ad (0 + 19))) M hE hP 0 rfl rfl zu_X7 31 (by decide) zk_fl_RX7_69 rfl rfl dX7_counts_152 ?_
                        refine lv_iload_n M.1 M.2.1 dX7_counts_155 rfl (lv_at hl 3 rfl) ?_
                        refine zi_iald M hE hP 19 (n := 80) (g := e3) rfl (Nat.le_of_ble_eq_true rfl) (by omega) (by omega) dX7_counts_156 ?_
                        have hr_108 := g_e3 k (by omega) (by omega)
                        refine zi_icmp_ne (tgt := 164) M dX7_counts_157 (by decide) (by omega) (by omega) (fun c_109 => ?_) (fun c_109 => ?_)
                        ·
                          refine zi_push M dX7_counts_164 ?_
                          refine lv_istore_n (lv' := [(2, .int (iI 0)), (5, .int (iI 1)), (4, .int (iI 1)), (0, .ref (ad 0)), (1, .int (iI k)), (3, .int (iI i))]) M.1 M.2.1 dX7_counts_165 rfl hl (by decide) rfl (fun ls hl => ?_)
                          refine zi_iinc (lv' := [(3, .int (iI (i + 1))), (2, .int (iI 0)), (5, .int (iI 1)), (4, .int (iI 1)), (0, .ref (ad 0)), (1, .int (iI k))]) M dX7_counts_166 hl 5 rfl (by decide) rfl (fun ls hl => ?_)
                          refine zi_goto (tgt := 4) M dX7_counts_169 (by decide) ?_
                          exact ih_4 0 (i + 1) (by omega) (by omega) (Or.inr ⟨rfl, fun j h0 h1 => by rcases Int.lt_or_le j i with hj | hj; (rcases hdd with ⟨z, _⟩ | ⟨_, z⟩; exact absurd z (by omega); exact z j h0 hj); (have hji : j = i := (by omega)); subst hji; unfold cntQ; omega⟩) (fun _ => by omega) (by omega) ls (lv_sub hl [4, 5, 1, 0] rfl)
                        ·
                          refine zi_push M dX7_counts_160 ?_
                          refine zi_goto (tgt := 165) M dX7_counts_161 (by decide) ?_
                          refine lv_istore_n (lv' := [(2, .int (iI 1)), (5, .int (iI 1)), (4, .int (iI 1)), (0, .ref (ad 0)), (1, .int (iI k)), (3, .int (iI i))]) M.1 M.2.1 dX7_counts_165 rfl hl (by decide) rfl (fun ls hl => ?_)
                          refine zi_iinc (lv' := [(3, .int (iI (i + 1))), (2, .int (iI 1)), (5, .int (iI 1)), (4, .int (iI 1)), (0, .ref (ad 0)), (1, .int (iI k))]) M dX7_counts_166 hl 5 rfl (by decide) rfl (fun ls hl => ?_)
                          refine zi_goto (tgt := 4) M dX7_counts_169 (by decide) ?_
                          exact ih_4 1 (i + 1) (by omega) (by omega) (Or.inl ⟨rfl, by first | exact ⟨i, by omega, by omega, by unfold cntQ; omega⟩ | (rcases hdd with ⟨_, n, a, b, z⟩ | ⟨z, _⟩; exact ⟨n, a, by omega, z⟩; exact absurd z (by omega))⟩) (fun _ => by omega) (by omega) ls (lv_sub hl [4, 5, 1, 0] rfl)
  exact L_4 (Int.toNat (cm - 0) + 1) 0 0 (by omega) (by omega) (Or.inr ⟨rfl, fun j h0 h1 => absurd h1 (by omega)⟩) (fun z => absurd z (by omega)) (by omega) ls (lv_sub hl [2, 3, 1, 0] rfl)

set_option maxRecDepth 100000 in
set_option maxHeartbeats 4000000 in
theorem c_X7_entryOf (l : Launch) (D : va_G) (cy : Nat → ClassId) (z0 : Nat) (ad : Nat → Nat) (th h su st sh fl ic sn bn fm fr cm em lg le lf dl : Int) (cS cH sea noi pl pw an hd bp bo bw c1 c2 c3 c4 c5 e1 e2 e3 e4 e5 : Int → Int) (k : Int) (wh : Int) (r_k : r32 k) (r_wh : r32 wh) (g_c1 : zrg 60 0 11 c1) (g_c2 : zrg 60 0 11 c2) (g_c3 : zrg 60 0 300 c3) (g_c5 : zrg 60 0 5000 c5) (g_e1 : zrg 80 0 11 e1) (g_e2 : zrg 80 0 11 e2) (g_e3 : zrg 80 0 300 e3) (g_e4 : zrg 80 0 5000 e4) (g_e5 : zrg 80 (-1) 79 e5) (hcm : 0 ≤ cm ∧ cm ≤ 60) (hem : 0 ≤ em ∧ em ≤ 80) : Met l yX7_entryOf [.code yX7_entryOf cX7_entryOf 4 (some .int)] (zRm 1 0 0 25) (zPc [.ref (ad 0), .int (iI k), .int (iI wh)] D cy z0 (zWl D z0 (mdlW ad 0 cy th h su st sh fl ic sn bn fm fr cm em lg le lf dl cS cH sea noi pl pw an hd bp bo bw c1 c2 c3 c4 c5 e1 e2 e3 e4 e5))) (zQ1 D (mdlW ad 0 cy th h su st sh fl ic sn bn fm fr cm em lg le lf dl cS cH sea noi pl pw an hd bp bo bw c1 c2 c3 c4 c5 e1 e2 e3 e4 e5) (fun (r : Int32) (u : Int) => (u = 0 ∧ ((0 ≤ k ∧ k < em) ∧ (0 ≤ wh ∧ wh ≤ 5)) ∧ r = iI (if wh = 5 then zif (cntZ cm c1 c2 c3 c5 e1 e2 e3 e4 e5 k) 1 0 else tell5 (e1 k) (e2 k) (e3 k) (e4 k) (e5 k) wh)) ∨ (u = 1 ∧ (¬ (0 ≤ k ∧ k < em)) ∧ r = iI 0) ∨ (u = 2 ∧ ((0 ≤ k ∧ k < em) ∧ ¬ (0 ≤ wh ∧ wh ≤ 5)) ∧ r = iI 0)) (fun (u : Int) => (mdlW ad 0 cy u h su st sh fl ic sn bn fm fr cm em lg le lf dl cS cH sea noi pl pw an hd bp bo bw c1 c2 c3 c4 c5 e1 e2 e3 e4 e5))) 0 0 (zIn (mdlW ad 0 cy th h su st sh fl ic sn bn fm fr cm em lg le lf dl cS cH sea noi pl pw an hd bp bo bw c1 c2 c3 c4 c5 e1 e2 e3 e4 e5)) := by
  refine z_of (by decide) (Nat.le_of_ble_eq_true rfl) ?_
  intro p e s m args below meth c M hr hlk hini hargs hP0 hE ls hl
  have hP : va_P D vwCl (mdlW ad 0 cy th h su st sh fl ic sn bn fm fr cm em lg le lf dl cS cH sea noi pl pw an hd bp bo bw c1 c2 c3 c4 c5 e1 e2 e3 e4 e5) s.heap := hP0.1
  have hD : va_D (zIn (mdlW ad 0 cy th h su st sh fl ic sn bn fm fr cm em lg le lf dl cS cH sea noi pl pw an hd bp bo bw c1 c2 c3 c4 c5 e1 e2 e3 e4 e5)) (mdlW ad 0 cy th h su st sh fl ic sn bn fm fr cm em lg le lf dl cS cH sea noi pl pw an hd bp bo bw c1 c2 c3 c4 c5 e1 e2 e3 e4 e5) := hP0.self
  have hAz := hP0.A
  have hS : va_S (zIn (mdlW ad 0 cy th h su st sh fl ic sn bn fm fr cm em lg le lf dl cS cH sea noi pl pw an hd bp bo bw c1 c2 c3 c4 c5 e1 e2 e3 e4 e5)) s.heap s.heap [] := va_S.rf
  have hl : lv_has ls 4 [(0, .ref (ad 0)), (1, .int (iI k)), (2, .int (iI wh))] := hl
  refine lv_iload_n M.1 M.2.1 dX7_entryOf_0 rfl (lv_at hl 1 rfl) ?_
  refine zi_push M dX7_entryOf_1 ?_
  refine lv_aload_n M.1 M.2.1 dX7_entryOf_2 rfl (lv_at hl 0 rfl) ?_
  refine zi_get (ci := 7) (v := .int (iI em)) M hE hP 0 rfl rfl zu_X7 28 (by decide) zk_fl_RX7_187 rfl rfl dX7_entryOf_3 ?_
  refine zi_push M dX7_entryOf_6 ?_
  refine zi_isub M dX7_entryOf_7 ?_
  refine z_cR (z_runS (As := [.int (iI k), .int (iI 0), .int (iI (em - 1))]) (rest := []) M (c_X7_in l D cy z0 k 0 (em - 1) (by omega) (by omega) (by omega)) hE hS hAz trivial zk_cd_X7_in zk_in_RX7 zk_st_X7_in zk_ml_RX7_81 rfl rfl zd_X7_in ⟨by decide, by decide⟩ rfl hl.1 rfl (Nat.le_of_ble_eq_true rfl) dX7_entryOf_8 ⟨by decide, by decide⟩) ?_
  refine zi_b (P := 0 ≤ k ∧ k ≤ (em - 1)) (g := fun r => F0 m 11 ls (.int r :: [])) (fun b_1 => ?_) (fun b_1 => ?_)
  ·
    refine lv_istore_n (lv' := [(3, .int (iI 1)), (0, .ref (ad 0)), (1, .int (iI k)), (2, .int (iI wh))]) M.1 M.2.1 dX7_entryOf_11 rfl hl (by decide) rfl (fun ls hl => ?_)
    refine lv_aload_n M.1 M.2.1 dX7_entryOf_12 rfl (lv_at hl 1 rfl) ?_
    refine lv_iload_n M.1 M.2.1 dX7_entryOf_13 rfl (lv_at hl 0 rfl) ?_
    refine zi_if_ne (tgt := 21) M dX7_entryOf_14 (by decide) ⟨by decide, by decide⟩ (fun _ => ?_) (fun q => absurd q (by decide))
    refine lv_iload_n M.1 M.2.1 dX7_entryOf_21 rfl (lv_at hl 3 rfl) ?_
    refine zi_push M dX7_entryOf_22 ?_
    refine zi_push M dX7_entryOf_23 ?_
    refine z_cR (z_runS (As := [.int (iI wh), .int (iI 0), .int (iI 5)]) (rest := [.ref (ad 0)]) M (c_X7_in l D cy z0 wh 0 5 (by omega) (by omega) (by omega)) hE hS hAz trivial zk_cd_X7_in zk_in_RX7 zk_st_X7_in zk_ml_RX7_81 rfl rfl zd_X7_in ⟨by decide, by decide⟩ rfl hl.1 rfl (Nat.le_of_ble_eq_true rfl) dX7_entryOf_24 ⟨by decide, by decide⟩) ?_
    refine zi_b (P := 0 ≤ wh ∧ wh ≤ 5) (g := fun r => F0 m 27 ls (.int r :: [.ref (ad 0)])) (fun b_2 => ?_) (fun b_2 => ?_)
    ·
      refine zi_if_eq (tgt := 34) M dX7_entryOf_27 (by decide) ⟨by decide, by decide⟩ (fun q => absurd q (by decide)) (fun _ => ?_)
      refine zi_push M dX7_entryOf_30 ?_
      refine zi_goto (tgt := 35) M dX7_entryOf_31 (by decide) ?_
      refine z_cW (z_runV (As := [.int (iI 0)]) (rest := []) M (c_X7_goesWell l D cy z0 ad th h su st sh fl ic sn bn fm fr cm em lg le lf dl cS cH sea noi pl pw an hd bp bo bw c1 c2 c3 c4 c5 e1 e2 e3 e4 e5 0 (by omega)) hE hS hAz (z_cut hP hD hAz [0, 1, 2, 3, 4, 5, 6, 7, 8, 9, 10, 11, 12, 13, 14, 15, 16, 17, 18, 19, 20, 21] rfl (by decide +kernel)) (zRc.of (ci := 7) (q0 := 0) hE hP rfl rfl) zk_cd_X7_goesWell zk_in_RX7 zk_im_X7_goesWell zk_se_X7_goesWell zk_ml_RX7_88 rfl rfl zd_X7_goesWell ⟨by decide, by decide⟩ rfl hl.1 rfl (Nat.le_of_ble_eq_true rfl) dX7_entryOf_35 ⟨by decide, by decide⟩) hP hD hS [0, 1, 2, 3, 4, 5, 6, 7, 8, 9, 10, 11, 12, 13, 14, 15, 16, 17, 18, 19, 20, 21] rfl (fun _ => rfl) (fun r_3 u_3 H locs hp_3 hP hD hS => ?_)
      have hP : va_P D vwCl (mdlW ad 0 cy 0 h su st sh fl ic sn bn fm fr cm em lg le lf dl cS cH sea noi pl pw an hd bp bo bw c1 c2 c3 c4 c5 e1 e2 e3 e4 e5) H := hP
      have hD : va_D (zIn (mdlW ad 0 cy th h su st sh fl ic sn bn fm fr cm em lg le lf dl cS cH sea noi pl pw an hd bp bo bw c1 c2 c3 c4 c5 e1 e2 e3 e4 e5)) (mdlW ad 0 cy 0 h su st sh fl ic sn bn fm fr cm em lg le lf dl cS cH sea noi pl pw an hd bp bo bw c1 c2 c3 c4 c5 e1 e2 e3 e4 e5) := hD
      subst hp_3
      refine z_rw (b := 1) rfl ?_
      refine zi_if_ne (tgt := 43) M dX7_entryOf_38 (by decide) ⟨by decide, by decide⟩ (fun _ => ?_) (fun q => absurd q (by decide))
      rcases (by omega : wh = 0 ∨ wh = 1 ∨ wh = 2 ∨ wh = 3 ∨ wh = 4 ∨ wh = 5) with rfl | rfl | rfl | rfl | rfl | rfl
      ·
        refine lv_iload_n M.1 M.2.1 dX7_entryOf_43 rfl (lv_at hl 3 rfl) ?_
        refine lv_tableIn (off := 36) (tgt := 80) M.1 M.2.1 dX7_entryOf_44 (by decide) (by decide) rfl (by decide) ?_
        refine lv_aload_n M.1 M.2.1 dX7_entryOf_80 rfl (lv_at hl 1 rfl) ?_
        refine zi_get (ci := 7) (v := .ref (ad (0 + 17))) M hE hP 0 rfl rfl zu_X7 29 (by decide) zk_fl_RX7_63 rfl rfl dX7_entryOf_81 ?_
        refine lv_iload_n M.1 M.2.1 dX7_entryOf_84 rfl (lv_at hl 2 rfl) ?_
        refine zi_iald M hE hP 17 (n := 80) (g := e1) rfl (Nat.le_of_ble_eq_true rfl) (by omega) (by omega) dX7_entryOf_85 ?_
        have hr_4 := g_e1 k (by omega) (by omega)
        have hP : va_P D vwCl (mdlW ad 0 cy 0 h su st sh fl ic sn bn fm fr cm em lg le lf dl cS cH sea noi pl pw an hd bp bo bw c1 c2 c3 c4 c5 e1 e2 e3 e4 e5) H := hP
        exact zw_i M hr hlk 0 hP hS (by exact Or.inl ⟨rfl, by omega, congrArg iI (show ((e1 k) : Int) = if 0 = 5 then zif (cntZ cm c1 c2 c3 c5 e1 e2 e3 e4 e5 k) 1 0 else tell5 (e1 k) (e2 k) (e3 k) (e4 k) (e5 k) 0 by (rw [if_neg (by decide)]; rfl))⟩) (by decide) (by decide) dX7_entryOf_86
      ·
        refine lv_iload_n M.1 M.2.1 dX7_entryOf_43 rfl (lv_at hl 3 rfl) ?_
        refine lv_tableIn (off := 43) (tgt := 87) M.1 M.2.1 dX7_entryOf_44 (by decide) (by decide) rfl (by decide) ?_
        refine lv_aload_n M.1 M.2.1 dX7_entryOf_87 rfl (lv_at hl 1 rfl) ?_
        refine zi_get (ci := 7) (v := .ref (ad (0 + 18))) M hE hP 0 rfl rfl zu_X7 30 (by decide) zk_fl_RX7_66 rfl rfl dX7_entryOf_88 ?_
        refine lv_iload_n M.1 M.2.1 dX7_entryOf_91 rfl (lv_at hl 2 rfl) ?_
        refine zi_iald M hE hP 18 (n := 80) (g := e2) rfl (Nat.le_of_ble_eq_true rfl) (by omega) (by omega) dX7_entryOf_92 ?_
        have hr_5 := g_e2 k (by omega) (by omega)
        have hP : va_P D vwCl (mdlW ad 0 cy 0 h su st sh fl ic sn bn fm fr cm em lg le lf dl cS cH sea noi pl pw an hd bp bo bw c1 c2 c3 c4 c5 e1 e2 e3 e4 e5) H := hP
        exact zw_i M hr hlk 0 hP hS (by exact Or.inl ⟨rfl, by omega, congrArg iI (show ((e2 k) : Int) = if 1 = 5 then zif (cntZ cm c1 c2 c3 c5 e1 e2 e3 e4 e5 k) 1 0 else tell5 (e1 k) (e2 k) (e3 k) (e4 k) (e5 k) 1 by (rw [if_neg (by decide)]; rfl))⟩) (by decide) (by decide) dX7_entryOf_93
      ·
        refine lv_iload_n M.1 M.2.1 dX7_entryOf_43 rfl (lv_at hl 3 rfl) ?_
        refine lv_tableIn (off := 50) (tgt := 94) M.1 M.2.1 dX7_entryOf_44 (by decide) (by decide) rfl (by decide) ?_
        refine lv_aload_n M.1 M.2.1 dX7_entryOf_94 rfl (lv_at hl 1 rfl) ?_
        refine zi_get (ci := 7) (v := .ref (ad (0 + 19))) M hE hP 0 rfl rfl zu_X7 31 (by decide) zk_fl_RX7_69 rfl rfl dX7_entryOf_95 ?_
        refine lv_iload_n M.1 M.2.1 dX7_entryOf_98 rfl (lv_at hl 2 rfl) ?_
        refine zi_iald M hE hP 19 (n := 80) (g := e3) rfl (Nat.le_of_ble_eq_true rfl) (by omega) (by omega) dX7_entryOf_99 ?_
        have hr_6 := g_e3 k (by omega) (by omega)
        have hP : va_P D vwCl (mdlW ad 0 cy 0 h su st sh fl ic sn bn fm fr cm em lg le lf dl cS cH sea noi pl pw an hd bp bo bw c1 c2 c3 c4 c5 e1 e2 e3 e4 e5) H := hP
        exact zw_i M hr hlk 0 hP hS (by exact Or.inl ⟨rfl, by omega, congrArg iI (show ((e3 k) : Int) = if 2 = 5 then zif (cntZ cm c1 c2 c3 c5 e1 e2 e3 e4 e5 k) 1 0 else tell5 (e1 k) (e2 k) (e3 k) (e4 k) (e5 k) 2 by (rw [if_neg (by decide)]; rfl))⟩) (by decide) (by decide) dX7_entryOf_100
      ·
        refine lv_iload_n M.1 M.2.1 dX7_entryOf_43 rfl (lv_at hl 3 rfl) ?_
        refine lv_tableIn (off := 57) (tgt := 101) M.1 M.2.1 dX7_entryOf_44 (by decide) (by decide) rfl (by decide) ?_
        refine lv_aload_n M.1 M.2.1 dX7_entryOf_101 rfl (lv_at hl 1 rfl) ?_
        refine zi_get (ci := 7) (v := .ref (ad (0 + 20))) M hE hP 0 rfl rfl zu_X7 32 (by decide) zk_fl_RX7_72 rfl rfl dX7_entryOf_102 ?_
        refine lv_iload_n M.1 M.2.1 dX7_entryOf_105 rfl (lv_at hl 2 rfl) ?_
        refine zi_iald M hE hP 20 (n := 80) (g := e4) rfl (Nat.le_of_ble_eq_true rfl) (by omega) (by omega) dX7_entryOf_106 ?_
        have hr_7 := g_e4 k (by omega) (by omega)
        have hP : va_P D vwCl (mdlW ad 0 cy 0 h su st sh fl ic sn bn fm fr cm em lg le lf dl cS cH sea noi pl pw an hd bp bo bw c1 c2 c3 c4 c5 e1 e2 e3 e4 e5) H := hP
        exact zw_i M hr hlk 0 hP hS (by exact Or.inl ⟨rfl, by omega, congrArg iI (show ((e4 k) : Int) = if 3 = 5 then zif (cntZ cm c1 c2 c3 c5 e1 e2 e3 e4 e5 k) 1 0 else tell5 (e1 k) (e2 k) (e3 k) (e4 k) (e5 k) 3 by (rw [if_neg (by decide)]; rfl))⟩) (by decide) (by decide) dX7_entryOf_107
      ·
        refine lv_iload_n M.1 M.2.1 dX7_entryOf_43 rfl (lv_at hl 3 rfl) ?_
        refine lv_tableIn (off := 64) (tgt := 108) M.1 M.2.1 dX7_entryOf_44 (by decide) (by decide) rfl (by decide) ?_
        refine lv_aload_n M.1 M.2.1 dX7_entryOf_108 rfl (lv_at hl 1 rfl) ?_
        refine zi_get (ci := 7) (v := .ref (ad (0 + 21))) M hE hP 0 rfl rfl zu_X7 33 (by decide) zk_fl_RX7_75 rfl rfl dX7_entryOf_109 ?_
        refine lv_iload_n M.1 M.2.1 dX7_entryOf_112 rfl (lv_at hl 2 rfl) ?_
        refine zi_iald M hE hP 21 (n := 80) (g := e5) rfl (Nat.le_of_ble_eq_true rfl) (by omega) (by omega) dX7_entryOf_113 ?_
        have hr_8 := g_e5 k (by omega) (by omega)
        have hP : va_P D vwCl (mdlW ad 0 cy 0 h su st sh fl ic sn bn fm fr cm em lg le lf dl cS cH sea noi pl pw an hd bp bo bw c1 c2 c3 c4 c5 e1 e2 e3 e4 e5) H := hP
        exact zw_i M hr hlk 0 hP hS (by exact Or.inl ⟨rfl, by omega, congrArg iI (show ((e5 k) : Int) = if 4 = 5 then zif (cntZ cm c1 c2 c3 c5 e1 e2 e3 e4 e5 k) 1 0 else tell5 (e1 k) (e2 k) (e3 k) (e4 k) (e5 k) 4 by (rw [if_neg (by decide)]; rfl))⟩) (by decide) (by decide) dX7_entryOf_114
      ·
        refine lv_iload_n M.1 M.2.1 dX7_entryOf_43 rfl (lv_at hl 3 rfl) ?_
        refine lv_tableOut (tgt := 115) M.1 M.2.1 dX7_entryOf_44 (by decide) (by decide) ?_
        refine lv_aload_n M.1 M.2.1 dX7_entryOf_115 rfl (lv_at hl 1 rfl) ?_
        refine lv_iload_n M.1 M.2.1 dX7_entryOf_116 rfl (lv_at hl 2 rfl) ?_
        refine z_cR (z_runV (As := [.int (iI k)]) (rest := []) M (c_X7_counts l D cy z0 ad 0 h su st sh fl ic sn bn fm fr cm em lg le lf dl cS cH sea noi pl pw an hd bp bo bw c1 c2 c3 c4 c5 e1 e2 e3 e4 e5 k g_c1 g_c2 g_c3 g_c5 g_e1 g_e2 g_e3 g_e4 g_e5 (by omega) (by omega)) hE hS hAz hP (zRc.of (ci := 7) (q0 := 0) hE hP rfl rfl) zk_cd_X7_counts zk_in_RX7 zk_im_X7_counts zk_se_X7_counts zk_ml_RX7_196 rfl rfl zd_X7_counts ⟨by decide, by decide⟩ rfl hl.1 rfl (Nat.le_of_ble_eq_true rfl) dX7_entryOf_117 ⟨by decide, by decide⟩) ?_
        refine zi_bz (P := cntZ cm c1 c2 c3 c5 e1 e2 e3 e4 e5 k) (g := fun r => F0 m 120 ls (.int r :: [])) (fun b_9 => ?_) (fun b_9 => ?_)
        ·
          refine zi_if_eq (tgt := 127) M dX7_entryOf_120 (by decide) ⟨by decide, by decide⟩ (fun q => absurd q (by decide)) (fun _ => ?_)
          refine zi_push M dX7_entryOf_123 ?_
          refine zi_goto (tgt := 128) M dX7_entryOf_124 (by decide) ?_
          have hP : va_P D vwCl (mdlW ad 0 cy 0 h su st sh fl ic sn bn fm fr cm em lg le lf dl cS cH sea noi pl pw an hd bp bo bw c1 c2 c3 c4 c5 e1 e2 e3 e4 e5) H := hP
          exact zw_i M hr hlk 0 hP hS (by exact Or.inl ⟨rfl, by omega, congrArg iI (show (1 : Int) = if 5 = 5 then zif (cntZ cm c1 c2 c3 c5 e1 e2 e3 e4 e5 k) 1 0 else tell5 (e1 k) (e2 k) (e3 k) (e4 k) (e5 k) 5 by (rw [if_pos rfl]; exact (zif_t (by assumption)).symm))⟩) (by decide) (by decide) dX7_entryOf_128
        ·
          refine zi_if_eq (tgt := 127) M dX7_entryOf_120 (by decide) ⟨by decide, by decide⟩ (fun _ => ?_) (fun q => absurd q (by decide))
          refine zi_push M dX7_entryOf_127 ?_
          have hP : va_P D vwCl (mdlW ad 0 cy 0 h su st sh fl ic sn bn fm fr cm em lg le lf dl cS cH sea noi pl pw an hd bp bo bw c1 c2 c3 c4 c5 e1 e2 e3 e4 e5) H := hP
          exact zw_i M hr hlk 0 hP hS (by exact Or.inl ⟨rfl, by omega, congrArg iI (show (0 : Int) = if 5 = 5 then zif (cntZ cm c1 c2 c3 c5 e1 e2 e3 e4 e5 k) 1 0 else tell5 (e1 k) (e2 k) (e3 k) (e4 k) (e5 k) 5 by (rw [if_pos rfl]; exact (zif_f (by assumption)).symm))⟩) (by decide) (by decide) dX7_entryOf_128
    ·
      refine zi_if_eq (tgt := 34) M dX7_entryOf_27 (by decide) ⟨by decide, by decide⟩ (fun _ => ?_) (fun q => absurd q (by decide))
      refine zi_push M dX7_entryOf_34 ?_
      refine z_cW (z_runV (As := [.int (iI 2)]) (rest := []) M (c_X7_goesWell l D cy z0 ad th h su st sh fl ic sn bn fm fr cm em lg le lf dl cS cH sea noi pl pw an hd bp bo bw c1 c2 c3 c4 c5 e1 e2 e3 e4 e5 2 (by omega)) hE hS hAz (z_cut hP hD hAz [0, 1, 2, 3, 4, 5, 6, 7, 8, 9, 10, 11, 12, 13, 14, 15, 16, 17, 18, 19, 20, 21] rfl (by decide +kernel)) (zRc.of (ci := 7) (q0 := 0) hE hP rfl rfl) zk_cd_X7_goesWell zk_in_RX7 zk_im_X7_goesWell zk_se_X7_goesWell zk_ml_RX7_88 rfl rfl zd_X7_goesWell ⟨by decide, by decide⟩ rfl hl.1 rfl (Nat.le_of_ble_eq_true rfl) dX7_entryOf_35 ⟨by decide, by decide⟩) hP hD hS [0, 1, 2, 3, 4, 5, 6, 7, 8, 9, 10, 11, 12, 13, 14, 15, 16, 17, 18, 19, 20, 21] rfl (fun _ => rfl) (fun r_10 u_10 H locs hp_10 hP hD hS => ?_)
      have hP : va_P D vwCl (mdlW ad 0 cy 2 h su st sh fl ic sn bn fm fr cm em lg le lf dl cS cH sea noi pl pw an hd bp bo bw c1 c2 c3 c4 c5 e1 e2 e3 e4 e5) H := hP
      have hD : va_D (zIn (mdlW ad 0 cy th h su st sh fl ic sn bn fm fr cm em lg le lf dl cS cH sea noi pl pw an hd bp bo bw c1 c2 c3 c4 c5 e1 e2 e3 e4 e5)) (mdlW ad 0 cy 2 h su st sh fl ic sn bn fm fr cm em lg le lf dl cS cH sea noi pl pw an hd bp bo bw c1 c2 c3 c4 c5 e1 e2 e3 e4 e5) := hD
      subst hp_10
      refine z_rw (b := 0) rfl ?_
      refine zi_if_ne (tgt := 43) M dX7_entryOf_38 (by decide) ⟨by decide, by decide⟩ (fun q => absurd q (by decide)) (fun _ => ?_)
      refine zi_push M dX7_entryOf_41 ?_
      have hP : va_P D vwCl (mdlW ad 0 cy 2 h su st sh fl ic sn bn fm fr cm em lg le lf dl cS cH sea noi pl pw an hd bp bo bw c1 c2 c3 c4 c5 e1 e2 e3 e4 e5) H := hP
      exact zw_i M hr hlk 2 hP hS (by exact Or.inr (Or.inr (⟨rfl, by omega, rfl⟩))) (by decide) (by decide) dX7_entryOf_42
  ·
    refine lv_istore_n (lv' := [(3, .int (iI 0)), (0, .ref (ad 0)), (1, .int (iI k)), (2, .int (iI wh))]) M.1 M.2.1 dX7_entryOf_11 rfl hl (by decide) rfl (fun ls hl => ?_)
    refine lv_aload_n M.1 M.2.1 dX7_entryOf_12 rfl (lv_at hl 1 rfl) ?_
    refine lv_iload_n M.1 M.2.1 dX7_entryOf_13 rfl (lv_at hl 0 rfl) ?_
    refine zi_if_ne (tgt := 21) M dX7_entryOf_14 (by decide) ⟨by decide, by decide⟩ (fun q => absurd q (by decide)) (fun _ => ?_)
    refine zi_push M dX7_entryOf_17 ?_
    refine zi_goto (tgt := 35) M dX7_entryOf_18 (by decide) ?_
    refine z_cW (z_runV (As := [.int (iI 1)]) (rest := []) M (c_X7_goesWell l D cy z0 ad th h su st sh fl ic sn bn fm fr cm em lg le lf dl cS cH sea noi pl pw an hd bp bo bw c1 c2 c3 c4 c5 e1 e2 e3 e4 e5 1 (by omega)) hE hS hAz (z_cut hP hD hAz [0, 1, 2, 3, 4, 5, 6, 7, 8, 9, 10, 11, 12, 13, 14, 15, 16, 17, 18, 19, 20, 21] rfl (by decide +kernel)) (zRc.of (ci := 7) (q0 := 0) hE hP rfl rfl) zk_cd_X7_goesWell zk_in_RX7 zk_im_X7_goesWell zk_se_X7_goesWell zk_ml_RX7_88 rfl rfl zd_X7_goesWell ⟨by decide, by decide⟩ rfl hl.1 rfl (Nat.le_of_ble_eq_true rfl) dX7_entryOf_35 ⟨by decide, by decide⟩) hP hD hS [0, 1, 2, 3, 4, 5, 6, 7, 8, 9, 10, 11, 12, 13, 14, 15, 16, 17, 18, 19, 20, 21] rfl (fun _ => rfl) (fun r_11 u_11 H locs hp_11 hP hD hS => ?_)
    have hP : va_P D vwCl (mdlW ad 0 cy 1 h su st sh fl ic sn bn fm fr cm em lg le lf dl cS cH sea noi pl pw an hd bp bo bw c1 c2 c3 c4 c5 e1 e2 e3 e4 e5) H := hP
    have hD : va_D (zIn (mdlW ad 0 cy th h su st sh fl ic sn bn fm fr cm em lg le lf dl cS cH sea noi pl pw an hd bp bo bw c1 c2 c3 c4 c5 e1 e2 e3 e4 e5)) (mdlW ad 0 cy 1 h su st sh fl ic sn bn fm fr cm em lg le lf dl cS cH sea noi pl pw an hd bp bo bw c1 c2 c3 c4 c5 e1 e2 e3 e4 e5) := hD
    subst hp_11
    refine z_rw (b := 0) rfl ?_
    refine zi_if_ne (tgt := 43) M dX7_entryOf_38 (by decide) ⟨by decide, by decide⟩ (fun q => absurd q (by decide)) (fun _ => ?_)
    refine zi_push M dX7_entryOf_41 ?_
    have hP : va_P D vwCl (mdlW ad 0 cy 1 h su st sh fl ic sn bn fm fr cm em lg le lf dl cS cH sea noi pl pw an hd bp bo bw c1 c2 c3 c4 c5 e1 e2 e3 e4 e5) H := hP
    exact zw_i M hr hlk 1 hP hS (by exact Or.inr (Or.inl (⟨rfl, by omega, rfl⟩))) (by decide) (by decide) dX7_entryOf_42

set_option maxRecDepth 100000 in
set_option maxHeartbeats 4000000 in
theorem c_X7_count (l : Launch) (D : va_G) (cy : Nat → ClassId) (z0 : Nat) (ad : Nat → Nat) (th h su st sh fl ic sn bn fm fr cm em lg le lf dl : Int) (cS cH sea noi pl pw an hd bp bo bw c1 c2 c3 c4 c5 e1 e2 e3 e4 e5 : Int → Int) (wh : Int) (r_wh : r32 wh) (hem : 0 ≤ em ∧ em ≤ 80) (g_e5 : zrg 80 (-1) 79 e5) : Met l yX7_count [.code yX7_count cX7_count 4 (some .int)] (zRm 1 0 0 22) (zPc [.ref (ad 0), .int (iI wh)] D cy z0 (zWl D z0 (mdlW ad 0 cy th h su st sh fl ic sn bn fm fr cm em lg le lf dl cS cH sea noi pl pw an hd bp bo bw c1 c2 c3 c4 c5 e1 e2 e3 e4 e5))) (zQ1 D (mdlW ad 0 cy th h su st sh fl ic sn bn fm fr cm em lg le lf dl cS cH sea noi pl pw an hd bp bo bw c1 c2 c3 c4 c5 e1 e2 e3 e4 e5) (fun (r : Int32) (u : Int) => (u = 0 ∧ ((0 ≤ wh ∧ wh ≤ 4)) ∧ r = iI (tell5 sn bn cm em (prF e5 em.toNat) wh)) ∨ (u = 1 ∧ (¬ (0 ≤ wh ∧ wh ≤ 4)) ∧ r = iI 0)) (fun (u : Int) => (mdlW ad 0 cy u h su st sh fl ic sn bn fm fr cm em lg le lf dl cS cH sea noi pl pw an hd bp bo bw c1 c2 c3 c4 c5 e1 e2 e3 e4 e5))) 0 0 (zIn (mdlW ad 0 cy th h su st sh fl ic sn bn fm fr cm em lg le lf dl cS cH sea noi pl pw an hd bp bo bw c1 c2 c3 c4 c5 e1 e2 e3 e4 e5)) := by
  refine z_of (by decide) (Nat.le_of_ble_eq_true rfl) ?_
  intro p e s m args below meth c M hr hlk hini hargs hP0 hE ls hl
  have hP : va_P D vwCl (mdlW ad 0 cy th h su st sh fl ic sn bn fm fr cm em lg le lf dl cS cH sea noi pl pw an hd bp bo bw c1 c2 c3 c4 c5 e1 e2 e3 e4 e5) s.heap := hP0.1
  have hD : va_D (zIn (mdlW ad 0 cy th h su st sh fl ic sn bn fm fr cm em lg le lf dl cS cH sea noi pl pw an hd bp bo bw c1 c2 c3 c4 c5 e1 e2 e3 e4 e5)) (mdlW ad 0 cy th h su st sh fl ic sn bn fm fr cm em lg le lf dl cS cH sea noi pl pw an hd bp bo bw c1 c2 c3 c4 c5 e1 e2 e3 e4 e5) := hP0.self
  have hAz := hP0.A
  have hS : va_S (zIn (mdlW ad 0 cy th h su st sh fl ic sn bn fm fr cm em lg le lf dl cS cH sea noi pl pw an hd bp bo bw c1 c2 c3 c4 c5 e1 e2 e3 e4 e5)) s.heap s.heap [] := va_S.rf
  have hl : lv_has ls 4 [(0, .ref (ad 0)), (1, .int (iI wh))] := hl
  refine lv_aload_n M.1 M.2.1 dX7_count_0 rfl (lv_at hl 0 rfl) ?_
  refine lv_iload_n M.1 M.2.1 dX7_count_1 rfl (lv_at hl 1 rfl) ?_
  refine zi_push M dX7_count_2 ?_
  refine zi_push M dX7_count_3 ?_
  refine z_cR (z_runS (As := [.int (iI wh), .int (iI 0), .int (iI 4)]) (rest := [.ref (ad 0)]) M (c_X7_in l D cy z0 wh 0 4 (by omega) (by omega) (by omega)) hE hS hAz trivial zk_cd_X7_in zk_in_RX7 zk_st_X7_in zk_ml_RX7_81 rfl rfl zd_X7_in ⟨by decide, by decide⟩ rfl hl.1 rfl (Nat.le_of_ble_eq_true rfl) dX7_count_4 ⟨by decide, by decide⟩) ?_
  refine zi_b (P := 0 ≤ wh ∧ wh ≤ 4) (g := fun r => F0 m 7 ls (.int r :: [.ref (ad 0)])) (fun b_1 => ?_) (fun b_1 => ?_)
  ·
    refine zi_if_eq (tgt := 14) M dX7_count_7 (by decide) ⟨by decide, by decide⟩ (fun q => absurd q (by decide)) (fun _ => ?_)
    refine zi_push M dX7_count_10 ?_
    refine zi_goto (tgt := 15) M dX7_count_11 (by decide) ?_
    refine z_cW (z_runV (As := [.int (iI 0)]) (rest := []) M (c_X7_goesWell l D cy z0 ad th h su st sh fl ic sn bn fm fr cm em lg le lf dl cS cH sea noi pl pw an hd bp bo bw c1 c2 c3 c4 c5 e1 e2 e3 e4 e5 0 (by omega)) hE hS hAz (z_cut hP hD hAz [0, 1, 2, 3, 4, 5, 6, 7, 8, 9, 10, 11, 12, 13, 14, 15, 16, 17, 18, 19, 20, 21] rfl (by decide +kernel)) (zRc.of (ci := 7) (q0 := 0) hE hP rfl rfl) zk_cd_X7_goesWell zk_in_RX7 zk_im_X7_goesWell zk_se_X7_goesWell zk_ml_RX7_88 rfl rfl zd_X7_goesWell ⟨by decide, by decide⟩ rfl hl.1 rfl (Nat.le_of_ble_eq_true rfl) dX7_count_15 ⟨by decide, by decide⟩) hP hD hS [0, 1, 2, 3, 4, 5, 6, 7, 8, 9, 10, 11, 12, 13, 14, 15, 16, 17, 18, 19, 20, 21] rfl (fun _ => rfl) (fun r_2 u_2 H locs hp_2 hP hD hS => ?_)
    have hP : va_P D vwCl (mdlW ad 0 cy 0 h su st sh fl ic sn bn fm fr cm em lg le lf dl cS cH sea noi pl pw an hd bp bo bw c1 c2 c3 c4 c5 e1 e2 e3 e4 e5) H := hP
    have hD : va_D (zIn (mdlW ad 0 cy th h su st sh fl ic sn bn fm fr cm em lg le lf dl cS cH sea noi pl pw an hd bp bo bw c1 c2 c3 c4 c5 e1 e2 e3 e4 e5)) (mdlW ad 0 cy 0 h su st sh fl ic sn bn fm fr cm em lg le lf dl cS cH sea noi pl pw an hd bp bo bw c1 c2 c3 c4 c5 e1 e2 e3 e4 e5) := hD
    subst hp_2
    refine z_rw (b := 1) rfl ?_
    refine zi_if_ne (tgt := 23) M dX7_count_18 (by decide) ⟨by decide, by decide⟩ (fun _ => ?_) (fun q => absurd q (by decide))
    refine zi_push M dX7_count_23 ?_
    refine lv_istore_n (lv' := [(2, .int (iI 0)), (0, .ref (ad 0)), (1, .int (iI wh))]) M.1 M.2.1 dX7_count_24 rfl hl (by decide) rfl (fun ls hl => ?_)
    refine zi_push M dX7_count_25 ?_
    refine lv_istore_n (lv' := [(3, .int (iI 0)), (2, .int (iI 0)), (0, .ref (ad 0)), (1, .int (iI wh))]) M.1 M.2.1 dX7_count_26 rfl hl (by decide) rfl (fun ls hl => ?_)
    have L_27 : ∀ (k_27 : Nat) (x : Int) (i : Int) (hi : 0 ≤ i ∧ i ≤ em) (hx : x = prF e5 i.toNat) (hm : em - i < (k_27 : Int)) (H : Heap) (locs : List Loc) (hP : va_P D vwCl (mdlW ad 0 cy 0 h su st sh fl ic sn bn fm fr cm em lg le lf dl cS cH sea noi pl pw an hd bp bo bw c1 c2 c3 c4 c5 e1 e2 e3 e4 e5) H) (hD : va_D (zIn (mdlW ad 0 cy th h su st sh fl ic sn bn fm fr cm em lg le lf dl cS cH sea noi pl pw an hd bp bo bw c1 c2 c3 c4 c5 e1 e2 e3 e4 e5)) (mdlW ad 0 cy 0 h su st sh fl ic sn bn fm fr cm em lg le lf dl cS cH sea noi pl pw an hd bp bo bw c1 c2 c3 c4 c5 e1 e2 e3 e4 e5)) (hS : va_S (zIn (mdlW ad 0 cy th h su st sh fl ic sn bn fm fr cm em lg le lf dl cS cH sea noi pl pw an hd bp bo bw c1 c2 c3 c4 c5 e1 e2 e3 e4 e5)) s.heap H locs) (ls : Array Slot) (hl : lv_has ls 4 [(0, .ref (ad 0)), (1, .int (iI wh)), (2, .int (iI x)), (3, .int (iI i))]), W p l e (zRm 1 0 0 22) s m args below meth c H locs 0 0 (MQ below (zQ1 D (mdlW ad 0 cy th h su st sh fl ic sn bn fm fr cm em lg le lf dl cS cH sea noi pl pw an hd bp bo bw c1 c2 c3 c4 c5 e1 e2 e3 e4 e5) (fun (r : Int32) (u : Int) => (u = 0 ∧ ((0 ≤ wh ∧ wh ≤ 4)) ∧ r = iI (tell5 sn bn cm em (prF e5 em.toNat) wh)) ∨ (u = 1 ∧ (¬ (0 ≤ wh ∧ wh ≤ 4)) ∧ r = iI 0)) (fun (u : Int) => (mdlW ad 0 cy u h su st sh fl ic sn bn fm fr cm em lg le lf dl cS cH sea noi pl pw an hd bp bo bw c1 c2 c3 c4 c5 e1 e2 e3 e4 e5))) args s 0 0 (zIn (mdlW ad 0 cy th h su st sh fl ic sn bn fm fr cm em lg le lf dl cS cH sea noi pl pw an hd bp bo bw c1 c2 c3 c4 c5 e1 e2 e3 e4 e5))) (F0 m 27 ls []) := by
      intro k_27
      induction k_27 with
      | zero =>
        intro x i hi hx hm H locs hP hD hS ls hl
        exact absurd hm (by omega)
      | succ k_27 ih_27 =>
        intro x i hi hx hm H locs hP hD hS ls hl
        refine lv_iload_n M.1 M.2.1 dX7_count_27 rfl (lv_at hl 3 rfl) ?_
        refine lv_aload_n M.1 M.2.1 dX7_count_28 rfl (lv_at hl 0 rfl) ?_
        refine zi_get (ci := 7) (v := .int (iI em)) M hE hP 0 rfl rfl zu_X7 28 (by decide) zk_fl_RX7_187 rfl rfl dX7_count_29 ?_
        refine zi_icmp_ge (tgt := 59) M dX7_count_32 (by decide) (by omega) (by omega) (fun c_3 => ?_) (fun c_3 => ?_)
        ·
          refine lv_iload_n M.1 M.2.1 dX7_count_59 rfl (lv_at hl 1 rfl) ?_
          refine zi_if_ne (tgt := 70) M dX7_count_60 (by decide) (by omega) (fun c_4 => ?_) (fun c_4 => ?_)
          ·
            refine lv_iload_n M.1 M.2.1 dX7_count_70 rfl (lv_at hl 1 rfl) ?_
            refine zi_push M dX7_count_71 ?_
            refine zi_icmp_ne (tgt := 82) M dX7_count_72 (by decide) (by omega) ⟨by decide, by decide⟩ (fun c_5 => ?_) (fun c_5 => ?_)
            ·
              refine lv_iload_n M.1 M.2.1 dX7_count_82 rfl (lv_at hl 1 rfl) ?_
              refine zi_push M dX7_count_83 ?_
              refine zi_icmp_ne (tgt := 94) M dX7_count_84 (by decide) (by omega) ⟨by decide, by decide⟩ (fun c_6 => ?_) (fun c_6 => ?_)
              ·
                refine lv_iload_n M.1 M.2.1 dX7_count_94 rfl (lv_at hl 1 rfl) ?_
                refine zi_push M dX7_count_95 ?_
                refine zi_icmp_ne (tgt := 106) M dX7_count_96 (by decide) (by omega) ⟨by decide, by decide⟩ (fun c_7 => ?_) (fun c_7 => ?_)
                ·
                  refine lv_iload_n M.1 M.2.1 dX7_count_106 rfl (lv_at hl 2 rfl) ?_
                  have hP : va_P D vwCl (mdlW ad 0 cy 0 h su st sh fl ic sn bn fm fr cm em lg le lf dl cS cH sea noi pl pw an hd bp bo bw c1 c2 c3 c4 c5 e1 e2 e3 e4 e5) H := hP
                  exact zw_i M hr hlk 0 hP hS (by exact Or.inl ⟨rfl, by omega, congrArg iI (show (x : Int) = tell5 sn bn cm em (prF e5 em.toNat) wh by (have hem2 : x = prF e5 em.toNat := (by rw [hx, show i = em from by omega]); rw [← hem2]; unfold tell5; (repeat' split) <;> omega))⟩) (by decide) (by decide) dX7_count_107
                ·
                  refine lv_aload_n M.1 M.2.1 dX7_count_99 rfl (lv_at hl 0 rfl) ?_
                  refine zi_get (ci := 7) (v := .int (iI em)) M hE hP 0 rfl rfl zu_X7 28 (by decide) zk_fl_RX7_187 rfl rfl dX7_count_100 ?_
                  refine zi_goto (tgt := 107) M dX7_count_103 (by decide) ?_
                  have hP : va_P D vwCl (mdlW ad 0 cy 0 h su st sh fl ic sn bn fm fr cm em lg le lf dl cS cH sea noi pl pw an hd bp bo bw c1 c2 c3 c4 c5 e1 e2 e3 e4 e5) H := hP
                  exact zw_i M hr hlk 0 hP hS (by exact Or.inl ⟨rfl, by omega, congrArg iI (show (em : Int) = tell5 sn bn cm em (prF e5 em.toNat) wh by (have hem2 : x = prF e5 em.toNat := (by rw [hx, show i = em from by omega]); rw [← hem2]; unfold tell5; (repeat' split) <;> omega))⟩) (by decide) (by decide) dX7_count_107
              ·
                refine lv_aload_n M.1 M.2.1 dX7_count_87 rfl (lv_at hl 0 rfl) ?_
                refine zi_get (ci := 7) (v := .int (iI cm)) M hE hP 0 rfl rfl zu_X7 22 (by decide) zk_fl_RX7_180 rfl rfl dX7_count_88 ?_
                refine zi_goto (tgt := 107) M dX7_count_91 (by decide) ?_
                have hP : va_P D vwCl (mdlW ad 0 cy 0 h su st sh fl ic sn bn fm fr cm em lg le lf dl cS cH sea noi pl pw an hd bp bo bw c1 c2 c3 c4 c5 e1 e2 e3 e4 e5) H := hP
                exact zw_i M hr hlk 0 hP hS (by exact Or.inl ⟨rfl, by omega, congrArg iI (show (cm : Int) = tell5 sn bn cm em (prF e5 em.toNat) wh by (have hem2 : x = prF e5 em.toNat := (by rw [hx, show i = em from by omega]); rw [← hem2]; unfold tell5; (repeat' split) <;> omega))⟩) (by decide) (by decide) dX7_count_107
            ·
              refine lv_aload_n M.1 M.2.1 dX7_count_75 rfl (lv_at hl 0 rfl) ?_
              refine zi_get (ci := 7) (v := .int (iI bn)) M hE hP 0 rfl rfl zu_X7 16 (by decide) zk_fl_RX7_174 rfl rfl dX7_count_76 ?_
              refine zi_goto (tgt := 107) M dX7_count_79 (by decide) ?_
              have hP : va_P D vwCl (mdlW ad 0 cy 0 h su st sh fl ic sn bn fm fr cm em lg le lf dl cS cH sea noi pl pw an hd bp bo bw c1 c2 c3 c4 c5 e1 e2 e3 e4 e5) H := hP
              exact zw_i M hr hlk 0 hP hS (by exact Or.inl ⟨rfl, by omega, congrArg iI (show (bn : Int) = tell5 sn bn cm em (prF e5 em.toNat) wh by (have hem2 : x = prF e5 em.toNat := (by rw [hx, show i = em from by omega]); rw [← hem2]; unfold tell5; (repeat' split) <;> omega))⟩) (by decide) (by decide) dX7_count_107
          ·
            refine lv_aload_n M.1 M.2.1 dX7_count_63 rfl (lv_at hl 0 rfl) ?_
            refine zi_get (ci := 7) (v := .int (iI sn)) M hE hP 0 rfl rfl zu_X7 11 (by decide) zk_fl_RX7_85 rfl rfl dX7_count_64 ?_
            refine zi_goto (tgt := 107) M dX7_count_67 (by decide) ?_
            have hP : va_P D vwCl (mdlW ad 0 cy 0 h su st sh fl ic sn bn fm fr cm em lg le lf dl cS cH sea noi pl pw an hd bp bo bw c1 c2 c3 c4 c5 e1 e2 e3 e4 e5) H := hP
            exact zw_i M hr hlk 0 hP hS (by exact Or.inl ⟨rfl, by omega, congrArg iI (show (sn : Int) = tell5 sn bn cm em (prF e5 em.toNat) wh by (have hem2 : x = prF e5 em.toNat := (by rw [hx, show i = em from by omega]); rw [← hem2]; unfold tell5; (repeat' split) <;> omega))⟩) (by decide) (by decide) dX7_count_107
        ·
          refine lv_iload_n M.1 M.2.1 dX7_count_35 rfl (lv_at hl 2 rfl) ?_
          refine lv_aload_n M.1 M.2.1 dX7_count_36 rfl (lv_at hl 0 rfl) ?_
          refine zi_get (ci := 7) (v := .ref (ad (0 + 21))) M hE hP 0 rfl rfl zu_X7 33 (by decide) zk_fl_RX7_75 rfl rfl dX7_count_37 ?_
          refine lv_iload_n M.1 M.2.1 dX7_count_40 rfl (lv_at hl 3 rfl) ?_
          refine zi_iald M hE hP 21 (n := 80) (g := e5) rfl (Nat.le_of_ble_eq_true rfl) (by omega) (by omega) dX7_count_41 ?_
          have hr_8 := g_e5 i (by omega) (by omega)
          refine zi_push M dX7_count_42 ?_
          refine zi_icmp_eq (tgt := 50) M dX7_count_43 (by decide) (by omega) ⟨by decide, by decide⟩ (fun c_9 => ?_) (fun c_9 => ?_)
          ·
            refine zi_push M dX7_count_50 ?_
            refine zi_iadd M dX7_count_51 ?_
            refine lv_istore_n (lv' := [(2, .int (iI (x + 0))), (0, .ref (ad 0)), (1, .int (iI wh)), (3, .int (iI i))]) M.1 M.2.1 dX7_count_52 rfl hl (by decide) rfl (fun ls hl => ?_)
            refine zi_iinc (lv' := [(3, .int (iI (i + 1))), (2, .int (iI (x + 0))), (0, .ref (ad 0)), (1, .int (iI wh))]) M dX7_count_53 hl 3 rfl (by decide) rfl (fun ls hl => ?_)
            refine zi_goto (tgt := 27) M dX7_count_56 (by decide) ?_
            exact ih_27 (x + 0) (i + 1) (by omega) (by rw [prF_s hi.1, ← hx]; first | rw [if_pos (by omega)] | rw [if_neg (by omega)]) (by omega) _ _ hP hD hS ls (lv_sub hl [2, 3, 1, 0] rfl)
          ·
            refine zi_push M dX7_count_46 ?_
            refine zi_goto (tgt := 51) M dX7_count_47 (by decide) ?_
            refine zi_iadd M dX7_count_51 ?_
            refine lv_istore_n (lv' := [(2, .int (iI (x + 1))), (0, .ref (ad 0)), (1, .int (iI wh)), (3, .int (iI i))]) M.1 M.2.1 dX7_count_52 rfl hl (by decide) rfl (fun ls hl => ?_)
            refine zi_iinc (lv' := [(3, .int (iI (i + 1))), (2, .int (iI (x + 1))), (0, .ref (ad 0)), (1, .int (iI wh))]) M dX7_count_53 hl 3 rfl (by decide) rfl (fun ls hl => ?_)
            refine zi_goto (tgt := 27) M dX7_count_56 (by decide) ?_
            exact ih_27 (x + 1) (i + 1) (by omega) (by rw [prF_s hi.1, ← hx]; first | rw [if_pos (by omega)] | rw [if_neg (by omega)]) (by omega) _ _ hP hD hS ls (lv_sub hl [2, 3, 1, 0] rfl)
    exact L_27 (Int.toNat (em - 0) + 1) 0 0 (by omega) rfl (by omega) _ _ hP hD hS ls (lv_sub hl [2, 3, 1, 0] rfl)
  ·
    refine zi_if_eq (tgt := 14) M dX7_count_7 (by decide) ⟨by decide, by decide⟩ (fun _ => ?_) (fun q => absurd q (by decide))
    refine zi_push M dX7_count_14 ?_
    refine z_cW (z_runV (As := [.int (iI 1)]) (rest := []) M (c_X7_goesWell l D cy z0 ad th h su st sh fl ic sn bn fm fr cm em lg le lf dl cS cH sea noi pl pw an hd bp bo bw c1 c2 c3 c4 c5 e1 e2 e3 e4 e5 1 (by omega)) hE hS hAz (z_cut hP hD hAz [0, 1, 2, 3, 4, 5, 6, 7, 8, 9, 10, 11, 12, 13, 14, 15, 16, 17, 18, 19, 20, 21] rfl (by decide +kernel)) (zRc.of (ci := 7) (q0 := 0) hE hP rfl rfl) zk_cd_X7_goesWell zk_in_RX7 zk_im_X7_goesWell zk_se_X7_goesWell zk_ml_RX7_88 rfl rfl zd_X7_goesWell ⟨by decide, by decide⟩ rfl hl.1 rfl (Nat.le_of_ble_eq_true rfl) dX7_count_15 ⟨by decide, by decide⟩) hP hD hS [0, 1, 2, 3, 4, 5, 6, 7, 8, 9, 10, 11, 12, 13, 14, 15, 16, 17, 18, 19, 20, 21] rfl (fun _ => rfl) (fun r_10 u_10 H locs hp_10 hP hD hS => ?_)
    have hP : va_P D vwCl (mdlW ad 0 cy 1 h su st sh fl ic sn bn fm fr cm em lg le lf dl cS cH sea noi pl pw an hd bp bo bw c1 c2 c3 c4 c5 e1 e2 e3 e4 e5) H := hP
    have hD : va_D (zIn (mdlW ad 0 cy th h su st sh fl ic sn bn fm fr cm em lg le lf dl cS cH sea noi pl pw an hd bp bo bw c1 c2 c3 c4 c5 e1 e2 e3 e4 e5)) (mdlW ad 0 cy 1 h su st sh fl ic sn bn fm fr cm em lg le lf dl cS cH sea noi pl pw an hd bp bo bw c1 c2 c3 c4 c5 e1 e2 e3 e4 e5) := hD
    subst hp_10
    refine z_rw (b := 0) rfl ?_
    refine zi_if_ne (tgt := 23) M dX7_count_18 (by decide) ⟨by decide, by decide⟩ (fun q => absurd q (by decide)) (fun _ => ?_)
    refine zi_push M dX7_count_21 ?_
    have hP : va_P D vwCl (mdlW ad 0 cy 1 h su st sh fl ic sn bn fm fr cm em lg le lf dl cS cH sea noi pl pw an hd bp bo bw c1 c2 c3 c4 c5 e1 e2 e3 e4 e5) H := hP
    exact zw_i M hr hlk 1 hP hS (by exact Or.inr (⟨rfl, by omega, rfl⟩)) (by decide) (by decide) dX7_count_22
