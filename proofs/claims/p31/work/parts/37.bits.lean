/-! bits -/
def orZ (b k : Int) : Int := ((b.toNat ||| (1 <<< k.toNat) : Nat) : Int)
theorem orZ_all : ∀ b : Fin 256, ∀ k : Fin 8, iI ((b.val : Nat) : Int) ||| (iI 1 <<< (iI ((k.val : Nat) : Int) &&& 31)) = iI (orZ ((b.val : Nat) : Int) ((k.val : Nat) : Int)) ∧ 0 ≤ orZ ((b.val : Nat) : Int) ((k.val : Nat) : Int) ∧ orZ ((b.val : Nat) : Int) ((k.val : Nat) : Int) < 256 := by decide +kernel
theorem orZ_i {b k : Int} (hb : 0 ≤ b ∧ b < 256) (hk : 0 ≤ k ∧ k < 8) : iI b ||| (iI 1 <<< (iI k &&& 31)) = iI (orZ b k) ∧ 0 ≤ orZ b k ∧ orZ b k < 256 := by
  have h := orZ_all ⟨b.toNat, by omega⟩ ⟨k.toNat, by omega⟩
  rw [show ((b.toNat : Nat) : Int) = b from by omega, show ((k.toNat : Nat) : Int) = k from by omega] at h
  exact h
def popZ (b : Int) : Int := b % 2 + b / 2 % 2 + b / 4 % 2 + b / 8 % 2 + b / 16 % 2 + b / 32 % 2 + b / 64 % 2 + b / 128 % 2
theorem popZ_rg (b : Int) : 0 ≤ popZ b ∧ popZ b ≤ 8 := by unfold popZ; omega
abbrev bcs (x y : Int32) : Int32 := (x.toUInt32 >>> (y.toUInt32 &&& Int32.toUInt32 31)).toInt32
def bc1 (x : Int32) : Int32 := x - (bcs x (iI 1) &&& 1431655765)
def bc2 (x : Int32) : Int32 := (x &&& 858993459) + (bcs x (iI 2) &&& 858993459)
def bc3 (x : Int32) : Int32 := (x + bcs x (iI 4)) &&& 252645135
def bc4 (x : Int32) : Int32 := x + bcs x (iI 8)
def bc5 (x : Int32) : Int32 := x + bcs x (iI 16)
theorem bc_all : ∀ b : Fin 256, bc5 (bc4 (bc3 (bc2 (bc1 (iI ((b.val : Nat) : Int)))))) &&& iI 63 = iI (popZ ((b.val : Nat) : Int)) := by decide +kernel
theorem zd_J6_bitCount_0f7a4 : yJ6_bitCount_0f7a4.cls ≠ "java/lang/invoke/MethodHandle" ∧ yJ6_bitCount_0f7a4.cls ≠ "java/lang/invoke/VarHandle" ∧ (parseMethodDescriptor yJ6_bitCount_0f7a4.desc).map (fun d => d.parameters.length) = some 1 := by decide +kernel
theorem c_J6_bitCount (l : Launch) (D : va_G) (cy : Nat → ClassId) (z0 : Nat) (b : Int) (hb : 0 ≤ b ∧ b < 256) : Met l yJ6_bitCount_0f7a4 [.code yJ6_bitCount_0f7a4 cJ6_bitCount_0f7a4 1 (some .int)] (zRm 0 0 0 0) (zPc [.int (iI b)] D cy z0 (fun _ => True)) (QcRead (iI (popZ b))) 0 0 (fun _ => False) := by
  refine z_of (by decide) (Nat.le_of_ble_eq_true rfl) ?_
  intro p e s m args below meth c M hr hlk _ hargs hP hE ls hl
  have hl : lv_has ls 1 [(0, .int (iI b))] := hl
  have hv := bc_all ⟨b.toNat, by omega⟩
  rw [show (((⟨b.toNat, by omega⟩ : Fin 256).val : Nat) : Int) = b from by show ((b.toNat : Nat) : Int) = b; omega] at hv
  refine lv_iload_n M.1 M.2.1 dJ6_bitCount_0f7a4_0 rfl (lv_at hl 0 rfl) ?_
  refine lv_iload_n M.1 M.2.1 dJ6_bitCount_0f7a4_1 rfl (lv_at hl 0 rfl) ?_
  refine zi_push M dJ6_bitCount_0f7a4_2 ?_
  refine lv_iushr M.1 M.2.1 dJ6_bitCount_0f7a4_3 rfl ?_
  refine lv_ldcw M.1 M.2.1 M.2.2.2.1 (M.w zk_ct_RJ6_265) dJ6_bitCount_0f7a4_4 ?_
  refine lv_iand M.1 M.2.1 dJ6_bitCount_0f7a4_7 ?_
  refine lv_isub M.1 M.2.1 dJ6_bitCount_0f7a4_8 ?_
  refine lv_istore_n (lv' := [(0, .int (bc1 (iI b)))]) M.1 M.2.1 dJ6_bitCount_0f7a4_9 rfl hl (by decide) rfl (fun ls hl => ?_)
  refine lv_iload_n M.1 M.2.1 dJ6_bitCount_0f7a4_10 rfl (lv_at hl 0 rfl) ?_
  refine lv_ldcw M.1 M.2.1 M.2.2.2.1 (M.w zk_ct_RJ6_266) dJ6_bitCount_0f7a4_11 ?_
  refine lv_iand M.1 M.2.1 dJ6_bitCount_0f7a4_14 ?_
  refine lv_iload_n M.1 M.2.1 dJ6_bitCount_0f7a4_15 rfl (lv_at hl 0 rfl) ?_
  refine zi_push M dJ6_bitCount_0f7a4_16 ?_
  refine lv_iushr M.1 M.2.1 dJ6_bitCount_0f7a4_17 rfl ?_
  refine lv_ldcw M.1 M.2.1 M.2.2.2.1 (M.w zk_ct_RJ6_266) dJ6_bitCount_0f7a4_18 ?_
  refine lv_iand M.1 M.2.1 dJ6_bitCount_0f7a4_21 ?_
  refine lv_iadd M.1 M.2.1 dJ6_bitCount_0f7a4_22 ?_
  refine lv_istore_n (lv' := [(0, .int (bc2 (bc1 (iI b))))]) M.1 M.2.1 dJ6_bitCount_0f7a4_23 rfl hl (by decide) rfl (fun ls hl => ?_)
  refine lv_iload_n M.1 M.2.1 dJ6_bitCount_0f7a4_24 rfl (lv_at hl 0 rfl) ?_
  refine lv_iload_n M.1 M.2.1 dJ6_bitCount_0f7a4_25 rfl (lv_at hl 0 rfl) ?_
  refine zi_push M dJ6_bitCount_0f7a4_26 ?_
  refine lv_iushr M.1 M.2.1 dJ6_bitCount_0f7a4_27 rfl ?_
  refine lv_iadd M.1 M.2.1 dJ6_bitCount_0f7a4_28 ?_
  refine lv_ldcw M.1 M.2.1 M.2.2.2.1 (M.w zk_ct_RJ6_267) dJ6_bitCount_0f7a4_29 ?_
  refine lv_iand M.1 M.2.1 dJ6_bitCount_0f7a4_32 ?_
  refine lv_istore_n (lv' := [(0, .int (bc3 (bc2 (bc1 (iI b)))))]) M.1 M.2.1 dJ6_bitCount_0f7a4_33 rfl hl (by decide) rfl (fun ls hl => ?_)
  refine lv_iload_n M.1 M.2.1 dJ6_bitCount_0f7a4_34 rfl (lv_at hl 0 rfl) ?_
  refine lv_iload_n M.1 M.2.1 dJ6_bitCount_0f7a4_35 rfl (lv_at hl 0 rfl) ?_
  refine zi_bipush M dJ6_bitCount_0f7a4_36 ⟨by decide, by decide⟩ ?_
  refine lv_iushr M.1 M.2.1 dJ6_bitCount_0f7a4_38 rfl ?_
  refine lv_iadd M.1 M.2.1 dJ6_bitCount_0f7a4_39 ?_
  refine lv_istore_n (lv' := [(0, .int (bc4 (bc3 (bc2 (bc1 (iI b))))))]) M.1 M.2.1 dJ6_bitCount_0f7a4_40 rfl hl (by decide) rfl (fun ls hl => ?_)
  refine lv_iload_n M.1 M.2.1 dJ6_bitCount_0f7a4_41 rfl (lv_at hl 0 rfl) ?_
  refine lv_iload_n M.1 M.2.1 dJ6_bitCount_0f7a4_42 rfl (lv_at hl 0 rfl) ?_
  refine zi_bipush M dJ6_bitCount_0f7a4_43 ⟨by decide, by decide⟩ ?_
  refine lv_iushr M.1 M.2.1 dJ6_bitCount_0f7a4_45 rfl ?_
  refine lv_iadd M.1 M.2.1 dJ6_bitCount_0f7a4_46 ?_
  refine lv_istore_n (lv' := [(0, .int (bc5 (bc4 (bc3 (bc2 (bc1 (iI b)))))))]) M.1 M.2.1 dJ6_bitCount_0f7a4_47 rfl hl (by decide) rfl (fun ls hl => ?_)
  refine lv_iload_n M.1 M.2.1 dJ6_bitCount_0f7a4_48 rfl (lv_at hl 0 rfl) ?_
  refine zi_bipush M dJ6_bitCount_0f7a4_49 ⟨by decide, by decide⟩ ?_
  refine lv_iand M.1 M.2.1 dJ6_bitCount_0f7a4_51 ?_
  exact zr_i M hr hlk hv dJ6_bitCount_0f7a4_52
section ZB
variable {p : Program} {l : Launch} {e : Env} {R : Room} {s : State} {m : MethodId} {args : Array Value} {below : List Frame} {meth : Method} {c : Code} {H : Heap} {locs : List Loc} {cells slots : Nat} {Q : State → Prop}
variable {cc : ByteArray} {pc : Nat} {ls : Array Slot} {rest : List Value} {own : String} {nL : Nat}
/-- b | 1 << k -/
theorem zi_orshl (M : zM p s m args c cc own nL) {b k : Int} (hb : 0 ≤ b ∧ b < 256) (hk : 0 ≤ k ∧ k < 8) (d0 : decode cc pc = .ok (.ishl, 1)) (d1 : decode cc (pc + 1) = .ok (.ior, 1)) (kk : W p l e R s m args below meth c H locs cells slots Q (F0 m (pc + 2) ls (.int (iI (orZ b k)) :: rest))) : W p l e R s m args below meth c H locs cells slots Q (F0 m pc ls (.int (iI k) :: .int (iI 1) :: .int (iI b) :: rest)) := by
  refine lv_ishl M.1 M.2.1 d0 (lv_ior M.1 M.2.1 d1 ?_)
  rw [(orZ_i hb hk).1]
  exact kk
end ZB
/-! THE WORDS, 8: scores, and what is heard -/
section ZSC
variable (cm : Int) (c1 c2 c3 c5 e1 e2 e3 e4 e5 pl : Int → Int) (h x : Int)
/-- an entry by the station that counts -/
def hitP (n : Int) : Prop := e1 n = x ∧ cntZ cm c1 c2 c3 c5 e1 e2 e3 e4 e5 n
noncomputable def ptF : Nat → Int
  | 0 => 0
  | n + 1 => zif (hitP cm c1 c2 c3 c5 e1 e2 e3 e4 e5 x n) (ptF n + (1 + distZ (pl x) (pl (e2 n)) / 6)) (ptF n)
noncomputable def lnF : Nat → Int
  | 0 => 0
  | n + 1 => zif (hitP cm c1 c2 c3 c5 e1 e2 e3 e4 e5 x n) (orZ (lnF n) (pl (e2 n) / 6)) (lnF n)
def msF : Nat → Int
  | 0 => 0
  | n + 1 => if e1 n = x ∧ e5 n = -1 ∧ 2 ≤ h - e4 n then msF n + 1 else msF n
end ZSC
noncomputable def scZ (cm : Int) (c1 c2 c3 c5 e1 e2 e3 e4 e5 pl : Int → Int) (em h x : Int) : Int := ptF cm c1 c2 c3 c5 e1 e2 e3 e4 e5 pl x em.toNat * popZ (lnF cm c1 c2 c3 c5 e1 e2 e3 e4 e5 pl x em.toNat) - 3 * msF e1 e4 e5 h x em.toNat
section ZSD
variable {cm : Int} {c1 c2 c3 c5 e1 e2 e3 e4 e5 pl : Int → Int} {h x : Int}
theorem lnF_rg (hp : zrg 12 0 47 pl) (h2 : zrg 80 0 11 e2) : ∀ n : Nat, n ≤ 80 → 0 ≤ lnF cm c1 c2 c3 c5 e1 e2 e3 e4 e5 pl x n ∧ lnF cm c1 c2 c3 c5 e1 e2 e3 e4 e5 pl x n < 256
  | 0, _ => by unfold lnF; omega
  | n + 1, hn => by
    have ih := lnF_rg hp h2 n (by omega)
    have q1 := h2 n (by omega) (by omega)
    have q2 := hp (e2 n) (by omega) (by omega)
    have q3 := orZ_i (k := pl (e2 n) / 6) ih (by omega)
    unfold lnF
    rcases Classical.em (hitP cm c1 c2 c3 c5 e1 e2 e3 e4 e5 x n) with q | q
    · rw [zif_t q]; exact q3.2
    · rw [zif_f q]; exact ih
theorem ptF_s {i v : Int} (hi : 0 ≤ i) (hv : v = ptF cm c1 c2 c3 c5 e1 e2 e3 e4 e5 pl x i.toNat) (q : hitP cm c1 c2 c3 c5 e1 e2 e3 e4 e5 x i) : v + (1 + distZ (pl x) (pl (e2 i)) / 6) = ptF cm c1 c2 c3 c5 e1 e2 e3 e4 e5 pl x (i + 1).toNat := by
  rw [show (i + 1).toNat = i.toNat + 1 from by omega]
  unfold ptF
  rw [show ((i.toNat : Nat) : Int) = i from by omega, zif_t q, hv]
theorem ptF_n {i v : Int} (hi : 0 ≤ i) (hv : v = ptF cm c1 c2 c3 c5 e1 e2 e3 e4 e5 pl x i.toNat) (q : ¬ hitP cm c1 c2 c3 c5 e1 e2 e3 e4 e5 x i) : v = ptF cm c1 c2 c3 c5 e1 e2 e3 e4 e5 pl x (i + 1).toNat := by
  rw [show (i + 1).toNat = i.toNat + 1 from by omega]
  unfold ptF
  rw [show ((i.toNat : Nat) : Int) = i from by omega, zif_f q, hv]
theorem lnF_s {i v : Int} (hi : 0 ≤ i) (hv : v = lnF cm c1 c2 c3 c5 e1 e2 e3 e4 e5 pl x i.toNat) (q : hitP cm c1 c2 c3 c5 e1 e2 e3 e4 e5 x i) : orZ v (pl (e2 i) / 6) = lnF cm c1 c2 c3 c5 e1 e2 e3 e4 e5 pl x (i + 1).toNat := by
  rw [show (i + 1).toNat = i.toNat + 1 from by omega]
  unfold lnF
  rw [show ((i.toNat : Nat) : Int) = i from by omega, zif_t q, hv]
theorem lnF_n {i v : Int} (hi : 0 ≤ i) (hv : v = lnF cm c1 c2 c3 c5 e1 e2 e3 e4 e5 pl x i.toNat) (q : ¬ hitP cm c1 c2 c3 c5 e1 e2 e3 e4 e5 x i) : v = lnF cm c1 c2 c3 c5 e1 e2 e3 e4 e5 pl x (i + 1).toNat := by
  rw [show (i + 1).toNat = i.toNat + 1 from by omega]
  unfold lnF
  rw [show ((i.toNat : Nat) : Int) = i from by omega, zif_f q, hv]
theorem msF_s {i v : Int} (hi : 0 ≤ i) (hv : v = msF e1 e4 e5 h x i.toNat) (q : e1 i = x ∧ e5 i = -1 ∧ 2 ≤ h - e4 i) : v + 1 = msF e1 e4 e5 h x (i + 1).toNat := by
  rw [show (i + 1).toNat = i.toNat + 1 from by omega]
  show _ = (if e1 (i.toNat : Nat) = x ∧ e5 (i.toNat : Nat) = -1 ∧ 2 ≤ h - e4 (i.toNat : Nat) then msF e1 e4 e5 h x i.toNat + 1 else msF e1 e4 e5 h x i.toNat)
  rw [show ((i.toNat : Nat) : Int) = i from by omega, if_pos q, hv]
theorem msF_n {i v : Int} (hi : 0 ≤ i) (hv : v = msF e1 e4 e5 h x i.toNat) (q : ¬ (e1 i = x ∧ e5 i = -1 ∧ 2 ≤ h - e4 i)) : v = msF e1 e4 e5 h x (i + 1).toNat := by
  rw [show (i + 1).toNat = i.toNat + 1 from by omega]
  show _ = (if e1 (i.toNat : Nat) = x ∧ e5 (i.toNat : Nat) = -1 ∧ 2 ≤ h - e4 (i.toNat : Nat) then msF e1 e4 e5 h x i.toNat + 1 else msF e1 e4 e5 h x i.toNat)
  rw [show ((i.toNat : Nat) : Int) = i from by omega, if_neg q, hv]
end ZSD
theorem zxw0 {D : va_G} {w0 : va_W} {s t : State} (hP : va_P D vwCl w0 s.heap) (hz : s.heap.size ≤ t.heap.size) (hq : ∀ q : Nat, q < s.heap.size → t.heap[q]? = s.heap[q]?) : va_P D vwCl w0 t.heap ∧ va_F (zIn w0) s t := ⟨fun k q hk => (hP k q hk).kept (hq q.1 (hP k q hk).lt), hz, fun q h _ => hq q h⟩
theorem zxw1 {D : va_G} {w w0 : va_W} {s t : State} {H : Heap} {locs : List Loc} (hP : va_P D vwCl w H) (hS : va_S (zIn w0) s.heap H locs) (hz : H.size ≤ t.heap.size) (hq : ∀ q : Nat, q < H.size → t.heap[q]? = H[q]?) : va_P D vwCl w t.heap ∧ va_F (zIn w0) s t := ⟨fun k q hk => (hP k q hk).kept (hq q.1 (hP k q hk).lt), Nat.le_trans hS.1 hz, fun q h1 h2 => (hq q (Nat.lt_of_lt_of_le h1 hS.1)).trans (hS.2.1 q h1 h2)⟩
/-! what is heard: bits, and forecasts that come true, over the beacons below n -/
section ZLI
variable (dE dF dD kE kF kD sea noi : Int → Int) (h : Int) (bpl bpw ban bhd bfq : Int → Int) (q : Int)
def hrP (dE dF dD : Int → Int) (n : Int) : Prop := 0 ≤ sigZ dE dF dD sea noi h (bpl n) q (bfq n) (bpw n) (ban n) (bhd n)
noncomputable def liF : Nat → Int
  | 0 => 0
  | n + 1 => zif (hrP sea noi h bpl bpw ban bhd bfq q dE dF dD n) (orZ (liF n) n) (liF n)
noncomputable def lrF : Nat → Int
  | 0 => 0
  | n + 1 => zif (hrP sea noi h bpl bpw ban bhd bfq q dE dF dD n ↔ hrP sea noi h bpl bpw ban bhd bfq q kE kF kD n) (lrF n + 1) (lrF n)
end ZLI
section ZLJ
variable {dE dF dD kE kF kD sea noi : Int → Int} {h : Int} {bpl bpw ban bhd bfq : Int → Int} {q : Int}
theorem liF_rg : ∀ n : Nat, n ≤ 6 → 0 ≤ liF dE dF dD sea noi h bpl bpw ban bhd bfq q n ∧ liF dE dF dD sea noi h bpl bpw ban bhd bfq q n < 256
  | 0, _ => by unfold liF; omega
  | n + 1, hn => by
    have ih := liF_rg n (by omega)
    have q3 := orZ_i (k := (n : Int)) ih (by omega)
    unfold liF
    rcases Classical.em (hrP sea noi h bpl bpw ban bhd bfq q dE dF dD n) with z | z
    · rw [zif_t z]; exact q3.2
    · rw [zif_f z]; exact ih
theorem liF_s {i v : Int} (hi : 0 ≤ i) (hv : v = liF dE dF dD sea noi h bpl bpw ban bhd bfq q i.toNat) (z : hrP sea noi h bpl bpw ban bhd bfq q dE dF dD i) : orZ v i = liF dE dF dD sea noi h bpl bpw ban bhd bfq q (i + 1).toNat := by
  rw [show (i + 1).toNat = i.toNat + 1 from by omega]
  unfold liF
  rw [show ((i.toNat : Nat) : Int) = i from by omega, zif_t z, hv]
theorem liF_n {i v : Int} (hi : 0 ≤ i) (hv : v = liF dE dF dD sea noi h bpl bpw ban bhd bfq q i.toNat) (z : ¬ hrP sea noi h bpl bpw ban bhd bfq q dE dF dD i) : v = liF dE dF dD sea noi h bpl bpw ban bhd bfq q (i + 1).toNat := by
  rw [show (i + 1).toNat = i.toNat + 1 from by omega]
  unfold liF
  rw [show ((i.toNat : Nat) : Int) = i from by omega, zif_f z, hv]
theorem lrF_s {i v b : Int} (hi : 0 ≤ i) (hv : v = b + lrF dE dF dD kE kF kD sea noi h bpl bpw ban bhd bfq q i.toNat) (z : hrP sea noi h bpl bpw ban bhd bfq q dE dF dD i ↔ hrP sea noi h bpl bpw ban bhd bfq q kE kF kD i) : v + 1 = b + lrF dE dF dD kE kF kD sea noi h bpl bpw ban bhd bfq q (i + 1).toNat := by
  rw [show (i + 1).toNat = i.toNat + 1 from by omega]
  show _ = b + zif _ (lrF dE dF dD kE kF kD sea noi h bpl bpw ban bhd bfq q i.toNat + 1) (lrF dE dF dD kE kF kD sea noi h bpl bpw ban bhd bfq q i.toNat)
  rw [show ((i.toNat : Nat) : Int) = i from by omega, zif_t z, hv]
  omega
theorem lrF_n {i v b : Int} (hi : 0 ≤ i) (hv : v = b + lrF dE dF dD kE kF kD sea noi h bpl bpw ban bhd bfq q i.toNat) (z : ¬ (hrP sea noi h bpl bpw ban bhd bfq q dE dF dD i ↔ hrP sea noi h bpl bpw ban bhd bfq q kE kF kD i)) : v = b + lrF dE dF dD kE kF kD sea noi h bpl bpw ban bhd bfq q (i + 1).toNat := by
  rw [show (i + 1).toNat = i.toNat + 1 from by omega]
  show _ = b + zif _ (lrF dE dF dD kE kF kD sea noi h bpl bpw ban bhd bfq q i.toNat + 1) (lrF dE dF dD kE kF kD sea noi h bpl bpw ban bhd bfq q i.toNat)
  rw [show ((i.toNat : Nat) : Int) = i from by omega, zif_f z, hv]
end ZLJ
