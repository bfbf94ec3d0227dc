theorem nx_or (a b : Nat) : nI a ||| nI b = nI (a ||| b) := by
  apply Int32.toBitVec_inj.mp
  rw [Int32.toBitVec_or]
  apply BitVec.eq_of_toNat_eq
  rw [BitVec.toNat_or]
  show (BitVec.ofNat 32 a).toNat ||| (BitVec.ofNat 32 b).toNat = (BitVec.ofNat 32 (a ||| b)).toNat
  rw [BitVec.toNat_ofNat, BitVec.toNat_ofNat, BitVec.toNat_ofNat, Nat.or_mod_two_pow]
/-- the number of the first i bytes from a on -/
def loN (bl : List Int32) (a : Nat) : Nat → Nat
  | 0 => 0
  | i + 1 => loN bl a i + bq bl (a + i) * 2 ^ (8 * i)
theorem loN_lt {bl : List Int32} {a : Nat} : ∀ i, (∀ j, j < i → bq bl (a + j) < 256) → loN bl a i < 2 ^ (8 * i) := by
  intro i
  induction i with
  | zero => intro _; exact Nat.one_pos
  | succ i ih =>
    intro h
    have h1 := ih (fun j hj => h j (by omega))
    have h2 := h i (by omega)
    rw [loN]
    have h3 : bq bl (a + i) * 2 ^ (8 * i) ≤ 255 * 2 ^ (8 * i) := Nat.mul_le_mul_right _ (by omega)
    have h4 : 2 ^ (8 * (i + 1)) = 256 * 2 ^ (8 * i) := by rw [Nat.mul_add, Nat.pow_add, Nat.mul_comm]
    omega
theorem or_nI {x b i : Nat} (hx : x < 2 ^ (8 * i)) (hb : b < 256) (hi : i < 4) : nI x ||| (nI b <<< (nI (8 * i) &&& 31)) = nI (x + b * 2 ^ (8 * i)) := by
  have hs : ((nI (8 * i) &&& 31).toBitVec.smod 32).toNat = 8 * i := by
    rcases (show i = 0 ∨ i = 1 ∨ i = 2 ∨ i = 3 by omega) with rfl | rfl | rfl | rfl <;> decide
  have hp : b * 2 ^ (8 * i) < 2 ^ 32 := by
    rcases (show i = 0 ∨ i = 1 ∨ i = 2 ∨ i = 3 by omega) with rfl | rfl | rfl | rfl <;> simp <;> omega
  rw [pk_shlN _ (8 * i) hs hp, nx_or, Nat.or_comm, Nat.mul_comm b, ← Nat.two_pow_add_eq_or_of_lt hx, Nat.add_comm]
theorem isB_255 {x : Int32} (h : isB x) : x &&& nI 255 = x := by
  obtain ⟨n, h1, rfl⟩ := h
  rw [nx_and]
  congr 1
  exact Nat.and_two_pow_sub_one_of_lt_two_pow (n := 8) h1
theorem ckS_lt {m : Nat} (h : m < 65536) : ∃ k, k < 65536 ∧ ckS (nI m) = nI k := by
  have e1 : nI m >>> ((1 : Int32) &&& 31) = nI (m / 2 ^ 1) := pk_shrN (by omega) _ 1 (by decide)
  unfold ckS
  rw [e1]
  split
  · refine ⟨m / 2 ^ 1 ^^^ 42684, Nat.xor_lt_two_pow (n := 16) (by omega) (by decide), ?_⟩
    exact nx_xor _ _
  · exact ⟨m / 2 ^ 1, by omega, rfl⟩
theorem ckI_lt : ∀ (n : Nat) {m : Nat}, m < 65536 → ∃ k, k < 65536 ∧ ckI n (nI m) = nI k := by
  intro n
  induction n with
  | zero => intro m h; exact ⟨m, h, rfl⟩
  | succ n ih =>
    intro m h
    obtain ⟨k, h1, h2⟩ := ih h
    rw [ckI, h2]
    exact ckS_lt h1
theorem ckF_seg {f : Nat → Int32} {a : Nat} : ∀ n, (∀ j, j < n → isB (f (a + j))) → ∃ k, k < 65536 ∧ ckF (seg f a n) = nI k := by
  intro n
  induction n with
  | zero => intro _; exact ⟨0, by decide, rfl⟩
  | succ n ih =>
    intro h
    obtain ⟨k, h1, h2⟩ := ih (fun j hj => h j (by omega))
    obtain ⟨x, h3, h4⟩ := h n (by omega)
    rw [seg, ckF_add, h2, h4, nx_xor]
    exact ckI_lt 8 (Nat.xor_lt_two_pow (n := 16) h1 (by omega))
theorem and1 (c : Int32) : c &&& 1 = 0 ∨ c &&& 1 = 1 := by
  obtain ⟨j, h1, h2⟩ := pk_andE c (m := 1) 1 rfl
  rcases (show j = 0 ∨ j = 1 by omega) with rfl | rfl
  · exact Or.inl h2
  · exact Or.inr h2
theorem not16 {k : Nat} (h : k < 65536) : (nI k ^^^ (-1)) &&& 65535 = nI k ^^^ 65535 := by
  apply Int32.toBitVec_inj.mp
  rw [Int32.toBitVec_and, Int32.toBitVec_xor, Int32.toBitVec_xor]
  apply BitVec.eq_of_toNat_eq
  rw [BitVec.toNat_and, BitVec.toNat_xor, BitVec.toNat_xor]
  show ((BitVec.ofNat 32 k).toNat ^^^ 4294967295) &&& 65535 = (BitVec.ofNat 32 k).toNat ^^^ 65535
  rw [BitVec.toNat_ofNat, Nat.mod_eq_of_lt (by omega)]
  apply Nat.eq_of_testBit_eq
  intro i
  rw [Nat.testBit_and, Nat.testBit_xor, Nat.testBit_xor, show (65535 : Nat) = 2 ^ 16 - 1 from rfl, show (4294967295 : Nat) = 2 ^ 32 - 1 from rfl, Nat.testBit_two_pow_sub_one, Nat.testBit_two_pow_sub_one]
  by_cases hi : i < 16
  · simp [hi, show i < 32 by omega]
  · have hk : k.testBit i = false := Nat.testBit_lt_two_pow (Nat.lt_of_lt_of_le (show k < 2 ^ 16 from h) (Nat.pow_le_pow_right (show 0 < 2 by decide) (show 16 ≤ i by omega)))
    simp [hi, hk]
set_option maxRecDepth 100000 in
set_option maxHeartbeats 4000000 in
/-- Bytes.number(a, k) -/
theorem k_Bytes_number (l : Launch) (G : rG) (b r n : Nat) (f : Nat → Int32) (bl : List Int32) (hp : pfx f bl) (hbn : bl.length ≤ n) (hn : n < 1000000) (hB9 : ∀ x ∈ bl, isB x) (a k : Nat) (hk : k ≤ 4) (hak : a + k ≤ bl.length) : gM l G.1 (rT G) yX1_number wsX1_number { frames := 1, cells := 0, slots := 0, locals := 21 } [.ref b, .int (nI a), .int (nI k)] [(b, .inr (0, [.ref r, .int (nI bl.length)])), (r, .inl (G.2.2.2.1, n, .inl f))] (gQi G.1 (rT G) (fun (r : Int32) (u : Int32 × (Nat → Int32)) => r = nI (loN bl a k) ∧ u = (nI bl.length, f)) (bW G b r n)) 0 0 := by
  refine gM.of (cc := cX1_number) (maxL := 5) (ret := (some .int)) (by decide) rfl (Nat.le_of_ble_eq_true rfl) ?_
  intro p e s m below meth c A ls hx hb hr hml hown hts hlocks hnm hB hl
  have hl : lv_has ls 5 [(0, .ref b), (1, .int (nI a)), (2, .int (nI k))] := hl
  refine lv_iconst (v := nI 0) hx hb dX1_number_0 (by decide) ?_
  refine lv_istore_n (lv' := [(3, .int (nI 0)), (0, .ref b), (1, .int (nI a)), (2, .int (nI k))]) hx hb dX1_number_1 rfl hl (by decide) rfl (fun ls hl => ?_)
  refine lv_iconst (v := nI 0) hx hb dX1_number_2 (by decide) ?_
  refine lv_istore (lv' := [(4, .int (nI 0)), (3, .int (nI 0)), (0, .ref b), (1, .int (nI a)), (2, .int (nI k))]) hx hb dX1_number_3 hl (by decide) rfl (fun ls hl => ?_)
  have hl : lv_has ls 5 [(4, .int (nI 0)), (3, .int (nI (loN bl a 0))), (0, .ref b), (1, .int (nI a)), (2, .int (nI k))] := lv_sub hl [0, 1, 2, 3, 4] rfl
  have hB : gB G.1 (rT G) A s s.heap [] [(b, .inr (0, [.ref r, .int (nI bl.length)])), (r, .inl (G.2.2.2.1, n, .inl f))] := hB
  refine g_loop (σ := Nat) (fun d xv H locs ls => (xv + d = k) ∧ gB G.1 (rT G) A s H locs [(b, .inr (0, [.ref r, .int (nI bl.length)])), (r, .inl (G.2.2.2.1, n, .inl f))] ∧ lv_has ls 5 [(4, .int (nI xv)), (3, .int (nI (loN bl a xv))), (0, .ref b), (1, .int (nI a)), (2, .int (nI k))]) k (0) ⟨by omega, hB, hl⟩ ?_
  rintro d i H locs ls ⟨hi, hB, hl⟩ ih_1
  have hi : i + d = k := hi
  have hB : gB G.1 (rT G) A s H locs [(b, .inr (0, [.ref r, .int (nI bl.length)])), (r, .inl (G.2.2.2.1, n, .inl f))] := hB
  have hl : lv_has ls 5 [(4, .int (nI i)), (3, .int (nI (loN bl a i))), (0, .ref b), (1, .int (nI a)), (2, .int (nI k))] := hl
  refine lv_iload hx hb dX1_number_5 (lv_at hl 0 rfl) ?_
  refine lv_iload_n hx hb dX1_number_7 rfl (lv_at hl 4 rfl) ?_
  refine lv_icmp_ge (tgt := 38) hx hb dX1_number_8 (by decide) (fun c_2 => ?_) (fun c_2 => ?_)
  · have c_2 : k ≤ i := (nI_leI (a := k) (b := i) (by omega) (by omega)).mp c_2
    have hi9 : i = k := by omega
    subst hi9
    refine lv_iload_n hx hb dX1_number_38 rfl (lv_at hl 1 rfl) ?_
    exact g_iret (Wd := bW G b r n) (v := nI (loN bl a i)) (nI bl.length, f) hB hx hb hr hlocks rfl ⟨rfl, rfl⟩ dX1_number_39
  · have c_2 : ¬ k ≤ i := fun h9 => c_2 ((nI_leI (a := k) (b := i) (by omega) (by omega)).mpr h9)
    refine lv_iload_n hx hb dX1_number_11 rfl (lv_at hl 1 rfl) ?_
    refine lv_aload_n hx hb dX1_number_12 rfl (lv_at hl 2 rfl) ?_
    refine lv_iload_n hx hb dX1_number_13 rfl (lv_at hl 3 rfl) ?_
    refine lv_iload hx hb dX1_number_14 (lv_at hl 0 rfl) ?_
    refine lv_iadd hx hb dX1_number_16 ?_
    refine g_top (y := nI (a + i)) (nI_add _ _) ?_
    refine g_calliA (wr := []) (wc := [(b, .inr (0, [.ref r, .int (nI bl.length)])), (r, .inl (G.2.2.2.1, n, .inl f))]) (av := [.int (nI (a + i))]) (rest := [.int (nI (loN bl a i))]) ⟨hx, hb, hml, hown, hts⟩ (k_Bytes_get l G b r n f bl hp hbn hn (nI (a + i))) (cwV 1 hts gX1_number_X1_get rfl rfl rfl (by decide +kernel) ⟨Nat.le_of_ble_eq_true rfl, Nat.le_of_ble_eq_true rfl⟩) hB (q0 := 0) (ci := 0) rfl rfl rfl rfl hl.1 rfl (Nat.le_of_ble_eq_true rfl) dX1_number_17 ⟨Nat.le_of_ble_eq_true rfl, Nat.le_of_ble_eq_true rfl⟩ (fun r9 u H locs hw hB => ?_)
    obtain ⟨er, rfl⟩ := hw
    have hB : gB G.1 (rT G) A s H locs [(b, .inr (0, [.ref r, .int (nI bl.length)])), (r, .inl (G.2.2.2.1, n, .inl f))] := hB
    have er : r9 = nI (bq bl (a + i)) := by rw [er, if_neg (by rintro (z | z); exact nI_pos (by omega) z; exact absurd ((nI_leI (by omega) (by omega)).mp z) (by omega)), nI_clamp (by omega)]; exact (bq_at hB9 (by omega)).1
    have lt9 := (bq_at hB9 (j := a + i) (by omega)).2
    subst er
    refine lv_sipush (v := nI 255) hx hb dX1_number_20 (by decide) ?_
    refine lv_iand hx hb dX1_number_23 ?_
    refine g_top (y := nI (bq bl (a + i))) (isB_255 ⟨_, lt9, rfl⟩) ?_
    refine lv_bipush (v := nI 8) hx hb dX1_number_24 (by decide) ?_
    refine lv_iload hx hb dX1_number_26 (lv_at hl 0 rfl) ?_
    refine lv_imul hx hb dX1_number_28 ?_
    refine g_top (y := nI (8 * i)) (pk_mul _ _) ?_
    refine lv_ishl hx hb dX1_number_29 ?_
    refine lv_ior hx hb dX1_number_30 ?_
    refine g_top (y := nI (loN bl a (i + 1))) (or_nI (loN_lt i (fun j hj => (bq_at hB9 (by omega)).2)) lt9 (by omega)) ?_
    refine lv_istore_n (lv' := [(3, .int (nI (loN bl a (i + 1)))), (4, .int (nI i)), (0, .ref b), (1, .int (nI a)), (2, .int (nI k))]) hx hb dX1_number_31 rfl hl (by decide) rfl (fun ls hl => ?_)
    refine lv_iinc (v := nI (i + 1)) (lv' := [(4, .int (nI (i + 1))), (3, .int (nI (loN bl a (i + 1)))), (0, .ref b), (1, .int (nI a)), (2, .int (nI k))]) hx hb dX1_number_32 hl (k := 1) rfl (nI_add _ _) (by decide) rfl (fun ls hl => ?_)
    refine lv_goto (tgt := 5) hx hb dX1_number_35 (by decide) ?_
    have hl : lv_has ls 5 [(4, .int (nI (i + 1))), (3, .int (nI (loN bl a (i + 1)))), (0, .ref b), (1, .int (nI a)), (2, .int (nI k))] := lv_sub hl [0, 1, 2, 3, 4] rfl
    have hB : gB G.1 (rT G) A s H locs [(b, .inr (0, [.ref r, .int (nI bl.length)])), (r, .inl (G.2.2.2.1, n, .inl f))] := hB
    have b_3 : (i + 1) + (k - (i + 1)) = k := by omega
    exact ih_1 (k - (i + 1)) (i + 1) H locs ls (by omega) ⟨b_3, hB, hl⟩
set_option maxRecDepth 100000 in
set_option maxHeartbeats 4000000 in
/-- Bytes.check(a, k) -/
theorem k_Bytes_check (l : Launch) (G : rG) (b r n : Nat) (f : Nat → Int32) (bl : List Int32) (hp : pfx f bl) (hbn : bl.length ≤ n) (hn : n < 1000000) (hB9 : ∀ x ∈ bl, isB x) (a k : Nat) (hak : a + k ≤ bl.length) : gM l G.1 (rT G) yX1_check wsX1_check { frames := 1, cells := 0, slots := 0, locals := 21 } [.ref b, .int (nI a), .int (nI k)] [(b, .inr (0, [.ref r, .int (nI bl.length)])), (r, .inl (G.2.2.2.1, n, .inl f))] (gQi G.1 (rT G) (fun (r : Int32) (u : Int32 × (Nat → Int32)) => r = ck (sub bl a k) ∧ u = (nI bl.length, f)) (bW G b r n)) 0 0 := by
  refine gM.of (cc := cX1_check) (maxL := 6) (ret := (some .int)) (by decide) rfl (Nat.le_of_ble_eq_true rfl) ?_
  intro p e s m below meth c A ls hx hb hr hml hown hts hlocks hnm hB hl
  have hl : lv_has ls 6 [(0, .ref b), (1, .int (nI a)), (2, .int (nI k))] := hl
  refine lv_iconst (v := nI 0) hx hb dX1_check_0 (by decide) ?_
  refine lv_istore_n (lv' := [(3, .int (nI 0)), (0, .ref b), (1, .int (nI a)), (2, .int (nI k))]) hx hb dX1_check_1 rfl hl (by decide) rfl (fun ls hl => ?_)
  refine lv_iconst (v := nI 0) hx hb dX1_check_2 (by decide) ?_
  refine lv_istore (lv' := [(4, .int (nI 0)), (3, .int (nI 0)), (0, .ref b), (1, .int (nI a)), (2, .int (nI k))]) hx hb dX1_check_3 hl (by decide) rfl (fun ls hl => ?_)
  have hl : lv_has ls 6 [(4, .int (nI 0)), (3, .int (nI 0)), (0, .ref b), (1, .int (nI a)), (2, .int (nI k))] := lv_sub hl [0, 1, 2, 3, 4] rfl
  have hB : gB G.1 (rT G) A s s.heap [] [(b, .inr (0, [.ref r, .int (nI bl.length)])), (r, .inl (G.2.2.2.1, n, .inl f))] := hB
  refine g_loop (σ := Nat × Int32) (fun d xv H locs ls => (xv.1 + d = k) ∧ (xv.2 = ckF (seg (fun j => bl.getD j 0) a xv.1)) ∧ gB G.1 (rT G) A s H locs [(b, .inr (0, [.ref r, .int (nI bl.length)])), (r, .inl (G.2.2.2.1, n, .inl f))] ∧ lv_has ls 6 [(4, .int (nI xv.1)), (3, .int xv.2), (0, .ref b), (1, .int (nI a)), (2, .int (nI k))]) k (0, nI 0) ⟨by omega, rfl, hB, hl⟩ ?_
  rintro d ⟨i, cv⟩ H locs ls ⟨hi, hc, hB, hl⟩ ih_1
  have hi : i + d = k := hi
  have hc : cv = ckF (seg (fun j => bl.getD j 0) a i) := hc
  have hB : gB G.1 (rT G) A s H locs [(b, .inr (0, [.ref r, .int (nI bl.length)])), (r, .inl (G.2.2.2.1, n, .inl f))] := hB
  have hl : lv_has ls 6 [(4, .int (nI i)), (3, .int cv), (0, .ref b), (1, .int (nI a)), (2, .int (nI k))] := hl
  refine lv_iload hx hb dX1_check_5 (lv_at hl 0 rfl) ?_
  refine lv_iload_n hx hb dX1_check_7 rfl (lv_at hl 4 rfl) ?_
  refine lv_icmp_ge (tgt := 67) hx hb dX1_check_8 (by decide) (fun c_2 => ?_) (fun c_2 => ?_)
  · have c_2 : k ≤ i := (nI_leI (a := k) (b := i) (by omega) (by omega)).mp c_2
    have hi9 : i = k := by omega
    subst hi9
    obtain ⟨c1, c2, c3⟩ := ckF_seg (f := fun j => bl.getD j 0) (a := a) i (fun j hj => ⟨_, (bq_at hB9 (j := a + j) (by omega)).2, (bq_at hB9 (j := a + j) (by omega)).1⟩)
    refine lv_iload_n hx hb dX1_check_67 rfl (lv_at hl 1 rfl) ?_
    refine lv_iconst (v := (-1)) hx hb dX1_check_68 (by decide) ?_
    refine lv_ixor hx hb dX1_check_69 ?_
    refine lv_ldc (v := (65535)) hx hb hown (hts (.constant RX1 28 (65535)) (by decide +kernel)) dX1_check_70 ?_
    refine lv_iand hx hb dX1_check_72 ?_
    exact g_iret (Wd := bW G b r n) (v := (cv ^^^ (-1)) &&& (65535)) (nI bl.length, f) hB hx hb hr hlocks rfl ⟨by rw [hc, c3, ck, sub, c3]; exact not16 c2, rfl⟩ dX1_check_73
  · have c_2 : ¬ k ≤ i := fun h9 => c_2 ((nI_leI (a := k) (b := i) (by omega) (by omega)).mpr h9)
    refine lv_iload_n hx hb dX1_check_11 rfl (lv_at hl 1 rfl) ?_
    refine lv_aload_n hx hb dX1_check_12 rfl (lv_at hl 2 rfl) ?_
    refine lv_iload_n hx hb dX1_check_13 rfl (lv_at hl 3 rfl) ?_
    refine lv_iload hx hb dX1_check_14 (lv_at hl 0 rfl) ?_
    refine lv_iadd hx hb dX1_check_16 ?_
    refine g_top (y := nI (a + i)) (nI_add _ _) ?_
    refine g_calliA (wr := []) (wc := [(b, .inr (0, [.ref r, .int (nI bl.length)])), (r, .inl (G.2.2.2.1, n, .inl f))]) (av := [.int (nI (a + i))]) (rest := [.int cv]) ⟨hx, hb, hml, hown, hts⟩ (k_Bytes_get l G b r n f bl hp hbn hn (nI (a + i))) (cwV 1 hts gX1_check_X1_get rfl rfl rfl (by decide +kernel) ⟨Nat.le_of_ble_eq_true rfl, Nat.le_of_ble_eq_true rfl⟩) hB (q0 := 0) (ci := 0) rfl rfl rfl rfl hl.1 rfl (Nat.le_of_ble_eq_true rfl) dX1_check_17 ⟨Nat.le_of_ble_eq_true rfl, Nat.le_of_ble_eq_true rfl⟩ (fun r9 u H locs hw hB => ?_)
    obtain ⟨er, rfl⟩ := hw
    have hB : gB G.1 (rT G) A s H locs [(b, .inr (0, [.ref r, .int (nI bl.length)])), (r, .inl (G.2.2.2.1, n, .inl f))] := hB
    have er : r9 = nI (bq bl (a + i)) := by rw [er, if_neg (by rintro (z | z); exact nI_pos (by omega) z; exact absurd ((nI_leI (by omega) (by omega)).mp z) (by omega)), nI_clamp (by omega)]; exact (bq_at hB9 (by omega)).1
    have lt9 := (bq_at hB9 (j := a + i) (by omega)).2
    subst er
    refine lv_sipush (v := nI 255) hx hb dX1_check_20 (by decide) ?_
    refine lv_iand hx hb dX1_check_23 ?_
    refine g_top (y := nI (bq bl (a + i))) (isB_255 ⟨_, lt9, rfl⟩) ?_
    refine lv_ixor hx hb dX1_check_24 ?_
    refine lv_istore_n (lv' := [(3, .int (cv ^^^ (nI (bq bl (a + i))))), (4, .int (nI i)), (0, .ref b), (1, .int (nI a)), (2, .int (nI k))]) hx hb dX1_check_25 rfl hl (by decide) rfl (fun ls hl => ?_)
    refine lv_iconst (v := nI 0) hx hb dX1_check_26 (by decide) ?_
    refine lv_istore (lv' := [(5, .int (nI 0)), (3, .int (cv ^^^ (nI (bq bl (a + i))))), (4, .int (nI i)), (0, .ref b), (1, .int (nI a)), (2, .int (nI k))]) hx hb dX1_check_27 hl (by decide) rfl (fun ls hl => ?_)
    have hl : lv_has ls 6 [(5, .int (nI 0)), (3, .int (cv ^^^ nI (bq bl (a + i)))), (4, .int (nI i)), (0, .ref b), (1, .int (nI a)), (2, .int (nI k))] := lv_sub hl [0, 1, 2, 3, 4, 5] rfl
    have hB : gB G.1 (rT G) A s H locs [(b, .inr (0, [.ref r, .int (nI bl.length)])), (r, .inl (G.2.2.2.1, n, .inl f))] := hB
    refine g_loop (σ := Nat × Int32) (fun d xv H locs ls => (xv.1 + d = 8) ∧ (xv.2 = ckI xv.1 (cv ^^^ nI (bq bl (a + i)))) ∧ gB G.1 (rT G) A s H locs [(b, .inr (0, [.ref r, .int (nI bl.length)])), (r, .inl (G.2.2.2.1, n, .inl f))] ∧ lv_has ls 6 [(5, .int (nI xv.1)), (3, .int xv.2), (4, .int (nI i)), (0, .ref b), (1, .int (nI a)), (2, .int (nI k))]) 8 (0, (cv ^^^ nI (bq bl (a + i)))) ⟨by omega, rfl, hB, hl⟩ ?_
    rintro d ⟨j, cw⟩ H locs ls ⟨hj, hw, hB, hl⟩ ih_3
    have hj : j + d = 8 := hj
    have hw : cw = ckI j (cv ^^^ nI (bq bl (a + i))) := hw
    have hB : gB G.1 (rT G) A s H locs [(b, .inr (0, [.ref r, .int (nI bl.length)])), (r, .inl (G.2.2.2.1, n, .inl f))] := hB
    have hl : lv_has ls 6 [(5, .int (nI j)), (3, .int cw), (4, .int (nI i)), (0, .ref b), (1, .int (nI a)), (2, .int (nI k))] := hl
    refine lv_iload hx hb dX1_check_29 (lv_at hl 0 rfl) ?_
    refine lv_bipush (v := nI 8) hx hb dX1_check_31 (by decide) ?_
    refine lv_icmp_ge (tgt := 61) hx hb dX1_check_33 (by decide) (fun c_4 => ?_) (fun c_4 => ?_)
    · have c_4 : 8 ≤ j := (nI_leI (a := 8) (b := j) (by omega) (by omega)).mp c_4
      have hj8 : j = 8 := by omega
      rw [hj8] at hw
      refine lv_iinc (v := nI (i + 1)) (lv' := [(4, .int (nI (i + 1))), (5, .int (nI j)), (3, .int cw), (0, .ref b), (1, .int (nI a)), (2, .int (nI k))]) hx hb dX1_check_61 hl (k := 2) rfl (nI_add _ _) (by decide) rfl (fun ls hl => ?_)
      refine lv_goto (tgt := 5) hx hb dX1_check_64 (by decide) ?_
      have hl : lv_has ls 6 [(4, .int (nI (i + 1))), (3, .int cw), (0, .ref b), (1, .int (nI a)), (2, .int (nI k))] := lv_sub hl [0, 2, 3, 4, 5] rfl
      have hB : gB G.1 (rT G) A s H locs [(b, .inr (0, [.ref r, .int (nI bl.length)])), (r, .inl (G.2.2.2.1, n, .inl f))] := hB
      have b_5 : (i + 1) + (k - (i + 1)) = k := by omega
      have b_6 : cw = ckF (seg (fun j => bl.getD j 0) a (i + 1)) := by rw [seg, ckF_add, ← hc, (bq_at hB9 (j := a + i) (by omega)).1]; exact hw
      exact ih_1 (k - (i + 1)) (i + 1, cw) H locs ls (by omega) ⟨b_5, b_6, hB, hl⟩
    · have c_4 : ¬ 8 ≤ j := fun h9 => c_4 ((nI_leI (a := 8) (b := j) (by omega) (by omega)).mpr h9)
      refine lv_iload_n hx hb dX1_check_36 rfl (lv_at hl 1 rfl) ?_
      refine lv_iconst (v := nI 1) hx hb dX1_check_37 (by decide) ?_
      refine lv_iand hx hb dX1_check_38 ?_
      refine lv_if_ne (tgt := 48) hx hb dX1_check_39 (by decide) (fun c_7 => ?_) (fun c_7 => ?_)
      · have c_7 := c_7
        refine lv_iload_n hx hb dX1_check_48 rfl (lv_at hl 1 rfl) ?_
        refine lv_iconst (v := nI 1) hx hb dX1_check_49 (by decide) ?_
        refine lv_ishr hx hb dX1_check_50 ?_
        refine lv_ldc (v := (42684)) hx hb hown (hts (.constant RX1 27 (42684)) (by decide +kernel)) dX1_check_51 ?_
        refine lv_ixor hx hb dX1_check_53 ?_
        refine lv_istore_n (lv' := [(3, .int ((cw >>> ((nI 1) &&& 31)) ^^^ (42684))), (5, .int (nI j)), (4, .int (nI i)), (0, .ref b), (1, .int (nI a)), (2, .int (nI k))]) hx hb dX1_check_54 rfl hl (by decide) rfl (fun ls hl => ?_)
        refine lv_iinc (v := nI (j + 1)) (lv' := [(5, .int (nI (j + 1))), (3, .int ((cw >>> ((nI 1) &&& 31)) ^^^ (42684))), (4, .int (nI i)), (0, .ref b), (1, .int (nI a)), (2, .int (nI k))]) hx hb dX1_check_55 hl (k := 1) rfl (nI_add _ _) (by decide) rfl (fun ls hl => ?_)
        refine lv_goto (tgt := 29) hx hb dX1_check_58 (by decide) ?_
        have hl : lv_has ls 6 [(5, .int (nI (j + 1))), (3, .int ((cw >>> ((nI 1) &&& 31)) ^^^ (42684))), (4, .int (nI i)), (0, .ref b), (1, .int (nI a)), (2, .int (nI k))] := lv_sub hl [0, 1, 2, 3, 4, 5] rfl
        have hB : gB G.1 (rT G) A s H locs [(b, .inr (0, [.ref r, .int (nI bl.length)])), (r, .inl (G.2.2.2.1, n, .inl f))] := hB
        have b_8 : (j + 1) + (8 - (j + 1)) = 8 := by omega
        have b_9 : ((cw >>> ((nI 1) &&& 31)) ^^^ (42684)) = ckI (j + 1) (cv ^^^ nI (bq bl (a + i))) := by have q9 : (cw &&& 1 = 1) := (by rcases and1 cw with h | h; exact absurd h c_7; exact h); rw [ckI, ← hw, ckS, if_pos q9]; rfl
        exact ih_3 (8 - (j + 1)) (j + 1, (cw >>> ((nI 1) &&& 31)) ^^^ (42684)) H locs ls (by omega) ⟨b_8, b_9, hB, hl⟩
      · have c_7 := c_7
        refine lv_iload_n hx hb dX1_check_42 rfl (lv_at hl 1 rfl) ?_
        refine lv_iconst (v := nI 1) hx hb dX1_check_43 (by decide) ?_
        refine lv_ishr hx hb dX1_check_44 ?_
        refine lv_goto (tgt := 54) hx hb dX1_check_45 (by decide) ?_
        refine lv_istore_n (lv' := [(3, .int (cw >>> ((nI 1) &&& 31))), (5, .int (nI j)), (4, .int (nI i)), (0, .ref b), (1, .int (nI a)), (2, .int (nI k))]) hx hb dX1_check_54 rfl hl (by decide) rfl (fun ls hl => ?_)
        refine lv_iinc (v := nI (j + 1)) (lv' := [(5, .int (nI (j + 1))), (3, .int (cw >>> ((nI 1) &&& 31))), (4, .int (nI i)), (0, .ref b), (1, .int (nI a)), (2, .int (nI k))]) hx hb dX1_check_55 hl (k := 1) rfl (nI_add _ _) (by decide) rfl (fun ls hl => ?_)
        refine lv_goto (tgt := 29) hx hb dX1_check_58 (by decide) ?_
        have hl : lv_has ls 6 [(5, .int (nI (j + 1))), (3, .int (cw >>> ((nI 1) &&& 31))), (4, .int (nI i)), (0, .ref b), (1, .int (nI a)), (2, .int (nI k))] := lv_sub hl [0, 1, 2, 3, 4, 5] rfl
        have hB : gB G.1 (rT G) A s H locs [(b, .inr (0, [.ref r, .int (nI bl.length)])), (r, .inl (G.2.2.2.1, n, .inl f))] := hB
        have b_10 : (j + 1) + (8 - (j + 1)) = 8 := by omega
        have b_11 : (cw >>> ((nI 1) &&& 31)) = ckI (j + 1) (cv ^^^ nI (bq bl (a + i))) := by have q9 : ¬ (cw &&& 1 = 1) := (fun h => by have h2 : cw &&& 1 = 0 := c_7; rw [h2] at h; exact absurd h (by decide)); rw [ckI, ← hw, ckS, if_neg q9]; rfl
        exact ih_3 (8 - (j + 1)) (j + 1, cw >>> ((nI 1) &&& 31)) H locs ls (by omega) ⟨b_10, b_11, hB, hl⟩
