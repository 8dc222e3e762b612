/-! what holds at the law's start -/
theorem zk_ls_UNASSIGNED_STACK : Cond.laysStatic Bundle.tN "UNASSIGNED_STACK" Bundle.steD ∈ lw_tbl := List.mem_of_getElem? (i := 309) (by decide +kernel)
theorem zk_ls_SUPPRESSED_SENTINEL : Cond.laysStatic Bundle.tN "SUPPRESSED_SENTINEL" Bundle.listD ∈ lw_tbl := List.mem_of_getElem? (i := 311) (by decide +kernel)
theorem zk_sr_276 : Cond.stringRef "SkipRays" 276 "out of its range" ∈ lw_tbl := List.mem_of_getElem? (i := 323) (by decide +kernel)
theorem zk_sr_272 : Cond.stringRef "SkipRays" 272 "no such place" ∈ lw_tbl := List.mem_of_getElem? (i := 397) (by decide +kernel)
theorem zk_sr_99 : Cond.stringRef "SkipRays" 99 "above the last hour" ∈ lw_tbl := List.mem_of_getElem? (i := 439) (by decide +kernel)
theorem zk_sr_111 : Cond.stringRef "SkipRays" 111 "no more stations" ∈ lw_tbl := List.mem_of_getElem? (i := 465) (by decide +kernel)
theorem zk_sr_120 : Cond.stringRef "SkipRays" 120 "no more beacons" ∈ lw_tbl := List.mem_of_getElem? (i := 480) (by decide +kernel)
theorem zk_sr_282 : Cond.stringRef "SkipRays" 282 "no such station" ∈ lw_tbl := List.mem_of_getElem? (i := 496) (by decide +kernel)
theorem zk_sr_279 : Cond.stringRef "SkipRays" 279 "both stations are the same" ∈ lw_tbl := List.mem_of_getElem? (i := 500) (by decide +kernel)
theorem zk_sr_129 : Cond.stringRef "SkipRays" 129 "no more contacts" ∈ lw_tbl := List.mem_of_getElem? (i := 505) (by decide +kernel)
theorem zk_sr_143 : Cond.stringRef "SkipRays" 143 "no more entries" ∈ lw_tbl := List.mem_of_getElem? (i := 584) (by decide +kernel)
theorem zk_sr_205 : Cond.stringRef "SkipRays" 205 "no such path" ∈ lw_tbl := List.mem_of_getElem? (i := 651) (by decide +kernel)
theorem zk_sr_233 : Cond.stringRef "SkipRays" 233 "no such contact" ∈ lw_tbl := List.mem_of_getElem? (i := 698) (by decide +kernel)
theorem zk_sr_238 : Cond.stringRef "SkipRays" 238 "no such entry" ∈ lw_tbl := List.mem_of_getElem? (i := 714) (by decide +kernel)
theorem z_startK {s : State} {A0 : Array Value} (hts : ∀ w ∈ lw_tbl, w.before A0 s = true) : ∃ (D : va_G) (cy : Nat → ClassId), va_K D vwCl (zT cy) s := by
  have hu : ∀ {C : String} {T : u_T} {N n : Nat}, (∀ w ∈ u_ws C T N, zin w) → zin (.instantiable C n) → ∃ (cC : ClassId) (iS : Nat → Nat), u_Kn s C T N cC iS := fun h1 h2 => u_known (ws := lw_tbl) hts (fun w hw => (h1 w hw).1) (hts _ h2.1)
  obtain ⟨k0, i0, h0⟩ := hu zu_X0 zk_is_RX0
  obtain ⟨k1, i1, h1⟩ := hu zu_X1 zk_is_RX1
  obtain ⟨k2, i2, h2⟩ := hu zu_X2 zk_is_RX2
  obtain ⟨k3, i3, h3⟩ := hu zu_X3 zk_is_RX3
  obtain ⟨k4, i4, h4⟩ := hu zu_X4 zk_is_RX4
  obtain ⟨k5, i5, h5⟩ := hu zu_X5 zk_is_RX5
  obtain ⟨k6, i6, h6⟩ := hu zu_X6 zk_is_RX6
  obtain ⟨c0, q0, p0, a1, a2, a3⟩ := Cond.arrayClass_spec (hts _ zk_ac_int.1)
  obtain ⟨c1, q1, p1, b1, b2, b3⟩ := Cond.arrayClass_spec (hts _ zk_ac_boolean.1)
  obtain ⟨p2, c2, q2, d0, d1, d2, d3⟩ := Cond.arrayOver_specA (hts _ zk_ao_arrayint.1)
  refine ⟨(fun c => match c with | 0 => k0 | 1 => k1 | 2 => k2 | 3 => k3 | 4 => k4 | 5 => k5 | _ => k6, fun c => match c with | 0 => i0 | 1 => i1 | 2 => i2 | 3 => i3 | 4 => i4 | 5 => i5 | _ => i6), (fun c => match c with | 0 => c0 | 1 => c1 | _ => c2), fun c q hq => ?_, fun k q hq => ?_⟩
  · match c, hq with
    | 0, hq => cases hq; exact h0
    | 1, hq => cases hq; exact h1
    | 2, hq => cases hq; exact h2
    | 3, hq => cases hq; exact h3
    | 4, hq => cases hq; exact h4
    | 5, hq => cases hq; exact h5
    | 6, hq => cases hq; exact h6
  · match k, hq with
    | 0, hq => cases hq; exact ⟨fun n z => ⟨fun k h => (by cases h), q0, a2, p0, a3⟩, a1⟩
    | 1, hq => cases hq; exact ⟨fun n z => ⟨fun k h => (by cases h), q1, b2, p1, b3⟩, b1⟩
    | 2, hq => cases hq; exact ⟨fun n z => ⟨fun k h => (by cases h), q2, d1, p2, d2⟩, d3⟩
theorem z_startS {s : State} {A0 : Array Value} (hts : ∀ w ∈ lw_tbl, w.before A0 s = true) (k : Nat) (hk : zTi k) : ∃ sa : Nat, vk_R "SkipRays" k (zTx k) sa s := by
  have key : ∀ {k : Nat} {tx : String}, Cond.stringRef "SkipRays" k tx ∈ lw_tbl → ∃ sa : Nat, vk_R "SkipRays" k tx sa s := fun {k tx} h => by
    have h1 := hts _ h
    have hc : ∃ cur, s.vm.findClass "SkipRays" = some cur := by
      have hi := hts _ zk_in_RX6.1
      simp only [Cond.before, Cond.holds, Cond.value] at hi
      cases hf : s.vm.findClass RX6 with
      | none => simp [hf] at hi
      | some cur => exact ⟨cur, hf⟩
    obtain ⟨cur, hcur⟩ := hc
    obtain ⟨-, -, -, a, -, -, -, -, -, h2⟩ := Cond.stringRef_spec hcur h1
    exact ⟨a, vk_R.of (A := A0) h1 h2⟩
  unfold zTi at hk
  simp only [List.mem_cons, List.not_mem_nil, or_false] at hk
  rcases hk with rfl | rfl | rfl | rfl | rfl | rfl | rfl | rfl | rfl | rfl | rfl | rfl
  · exact key zk_sr_276
  · exact key zk_sr_272
  · exact key zk_sr_99
  · exact key zk_sr_111
  · exact key zk_sr_120
  · exact key zk_sr_282
  · exact key zk_sr_279
  · exact key zk_sr_129
  · exact key zk_sr_143
  · exact key zk_sr_205
  · exact key zk_sr_233
  · exact key zk_sr_238
set_option maxRecDepth 100000 in
theorem z_start {s : State} {A0 : Array Value} (hts : ∀ w ∈ lw_tbl, w.before A0 s = true) (hgv : (Jvm.Cond.and given_1 narrow_1).before A0 s = true) : ∃ (D : va_G) (cy : Nat → ClassId), zE D cy s.heap.size s ∧ zNc s := by
  obtain ⟨D, cy, hK⟩ := z_startK hts
  have hs := flat_of_before _ hgv
  have hr1 : (Cond.isRef (.static Bundle.tN "UNASSIGNED_STACK" Bundle.steD)).before A0 s = true := hs _ (by decide +kernel)
  have hr2 : (Cond.isRef (.static Bundle.tN "SUPPRESSED_SENTINEL" Bundle.listD)).before A0 s = true := hs _ (by decide +kernel)
  have n1 : (Cond.not (.castable eIA eIB)).before A0 s = true := hs _ (by decide +kernel)
  have n2 : (Cond.not (.castable eIS eIB)).before A0 s = true := hs _ (by decide +kernel)
  have n3 : (Cond.not (.castable eIS eIA)).before A0 s = true := hs _ (by decide +kernel)
  have hA : ∀ a : Nat, a < s.heap.size → ¬ (fun q => s.heap.size ≤ q) a := fun a h1 h2 => absurd h1 (Nat.not_lt.mpr h2)
  exact ⟨D, cy, ⟨hK, fun w hw => zwarm hw.2 (State.WarmedH.refl s) (hts w hw.1), Nat.le_refl _, vx_Zqof (hts _ zk_ls_UNASSIGNED_STACK) (hts _ zk_in_java_lang_Throwable.1) hr1 hA, vx_Zqof (hts _ zk_ls_SUPPRESSED_SENTINEL) (hts _ zk_in_java_lang_Throwable.1) hr2 hA, z_startS hts⟩, va_Nc.of n1, va_Nc.of n2, va_Nc.of n3⟩
