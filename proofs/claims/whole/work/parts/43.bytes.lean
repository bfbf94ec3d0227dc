/-! PointReports$Bytes -/
def bW (G : rG) (b r n : Nat) (u : Int32 × (Nat → Int32)) : va_W := [(b, .inr (0, [.ref r, .int u.1])), (r, .inl (G.2.2.2.1, n, .inl u.2))]
set_option maxRecDepth 100000 in
set_option maxHeartbeats 4000000 in
/-- Bytes.size() -/
theorem k_Bytes_size (l : Launch) (G : rG) (b r n : Nat) (f : Nat → Int32) (bl : List Int32) (hp : pfx f bl) (hbn : bl.length ≤ n) (hn : n < 1000000) : gM l G.1 (rT G) yX1_size wsX1_size { frames := 0, cells := 0, slots := 0, locals := 0 } [.ref b] [(b, .inr (0, [.ref r, .int (nI bl.length)])), (r, .inl (G.2.2.2.1, n, .inl f))] (gQi G.1 (rT G) (fun (r : Int32) (u : Int32 × (Nat → Int32)) => r = nI bl.length ∧ u = (nI bl.length, f)) (bW G b r n)) 0 0 := by
  refine gM.of (cc := cX1_size) (maxL := 1) (ret := (some .int)) (by decide) rfl (Nat.le_of_ble_eq_true rfl) ?_
  intro p e s m below meth c A ls hx hb hr hml hown hts hlocks hnm hB hl
  have hl : lv_has ls 1 [(0, .ref b)] := hl
  refine lv_aload_n hx hb dX1_size_0 rfl (lv_at hl 0 rfl) ?_
  refine g_get (own := RX1) (C := RX1) (T := TX1) (N := 2) (ci := 0) (v := .int (nI bl.length)) hx hb hts (fun _ h => List.mem_cons_of_mem _ (List.mem_append_right _ h)) hown hB 0 rfl rfl 1 (by decide) (hts (.fieldLink RX1 15 "PointReports$Bytes" "length" "I") (by decide +kernel)) rfl rfl dX1_size_1 ?_
  exact g_iret (Wd := bW G b r n) (v := nI bl.length) (nI bl.length, f) hB hx hb hr hlocks rfl ⟨rfl, rfl⟩ dX1_size_4
set_option maxRecDepth 100000 in
set_option maxHeartbeats 4000000 in
/-- Bytes.clear() -/
theorem k_Bytes_clear (l : Launch) (G : rG) (b r n : Nat) (f : Nat → Int32) (bl : List Int32) (hp : pfx f bl) (hbn : bl.length ≤ n) (hn : n < 1000000) : gM l G.1 (rT G) yX1_clear wsX1_clear { frames := 0, cells := 0, slots := 0, locals := 0 } [.ref b] [(b, .inr (0, [.ref r, .int (nI bl.length)])), (r, .inl (G.2.2.2.1, n, .inl f))] (gQv G.1 (rT G) (fun u : Int32 × (Nat → Int32) => u = (nI 0, f)) (bW G b r n)) 0 0 := by
  refine gM.of (cc := cX1_clear) (maxL := 1) (ret := none) (by decide) rfl (Nat.le_of_ble_eq_true rfl) ?_
  intro p e s m below meth c A ls hx hb hr hml hown hts hlocks hnm hB hl
  have hl : lv_has ls 1 [(0, .ref b)] := hl
  refine lv_aload_n hx hb dX1_clear_0 rfl (lv_at hl 0 rfl) ?_
  refine lv_iconst (v := nI 0) hx hb dX1_clear_1 (by decide) ?_
  refine g_put (own := RX1) (C := RX1) (T := TX1) (N := 2) (ci := 0) (v := .int (nI 0)) hx hb ([(b, .inr (0, [.ref r, .int (nI 0)])), (r, .inl (G.2.2.2.1, n, .inl f))]) hts (fun _ h => List.mem_cons_of_mem _ (List.mem_append_right _ h)) tyX1 tyX1_ok nmX1 hown hB 0 rfl rfl 1 (by decide) (hts (.fieldLink RX1 15 "PointReports$Bytes" "length" "I") (by decide +kernel)) rfl rfl (ty := .int) rfl rfl rfl (Nat.le_of_ble_eq_true rfl) rfl dX1_clear_2 (fun H locs hB => ?_)
  exact g_vret (Wd := bW G b r n) (nI 0, f) hB hx hb hr hlocks rfl rfl dX1_clear_5
set_option maxRecDepth 100000 in
set_option maxHeartbeats 4000000 in
/-- Bytes.hasRoomFor(k) -/
theorem k_Bytes_hasRoomFor (l : Launch) (G : rG) (b r n : Nat) (f : Nat → Int32) (bl : List Int32) (hp : pfx f bl) (hbn : bl.length ≤ n) (hn : n < 1000000) (k : Nat) (hk : k < 1000000) : gM l G.1 (rT G) yX1_hasRoomFor wsX1_hasRoomFor { frames := 0, cells := 0, slots := 0, locals := 0 } [.ref b, .int (nI k)] [(b, .inr (0, [.ref r, .int (nI bl.length)])), (r, .inl (G.2.2.2.1, n, .inl f))] (gQi G.1 (rT G) (fun (r : Int32) (u : Int32 × (Nat → Int32)) => r = nI (if bl.length + k ≤ n then 1 else 0) ∧ u = (nI bl.length, f)) (bW G b r n)) 0 0 := by
  refine gM.of (cc := cX1_hasRoomFor) (maxL := 2) (ret := (some .boolean)) (by decide) rfl (Nat.le_of_ble_eq_true rfl) ?_
  intro p e s m below meth c A ls hx hb hr hml hown hts hlocks hnm hB hl
  have hl : lv_has ls 2 [(0, .ref b), (1, .int (nI k))] := hl
  refine lv_aload_n hx hb dX1_hasRoomFor_0 rfl (lv_at hl 0 rfl) ?_
  refine g_get (own := RX1) (C := RX1) (T := TX1) (N := 2) (ci := 0) (v := .int (nI bl.length)) hx hb hts (fun _ h => List.mem_cons_of_mem _ (List.mem_append_right _ h)) hown hB 0 rfl rfl 1 (by decide) (hts (.fieldLink RX1 15 "PointReports$Bytes" "length" "I") (by decide +kernel)) rfl rfl dX1_hasRoomFor_1 ?_
  refine lv_iload_n hx hb dX1_hasRoomFor_4 rfl (lv_at hl 1 rfl) ?_
  refine lv_iadd hx hb dX1_hasRoomFor_5 ?_
  refine g_top (y := nI (bl.length + k)) (nI_add _ _) ?_
  refine lv_aload_n hx hb dX1_hasRoomFor_6 rfl (lv_at hl 0 rfl) ?_
  refine g_get (own := RX1) (C := RX1) (T := TX1) (N := 2) (ci := 0) (v := .ref r) hx hb hts (fun _ h => List.mem_cons_of_mem _ (List.mem_append_right _ h)) hown hB 0 rfl rfl 0 (by decide) (hts (.fieldLink RX1 9 "PointReports$Bytes" "row" "[I") (by decide +kernel)) rfl rfl dX1_hasRoomFor_7 ?_
  refine g_alen hx hb hB 1 0 rfl rfl dX1_hasRoomFor_10 ?_
  refine lv_icmp_gt (tgt := 18) hx hb dX1_hasRoomFor_11 (by decide) (fun c_1 => ?_) (fun c_1 => ?_)
  · have c_1 : n < (bl.length + k) := (nI_ltI (a := n) (b := (bl.length + k)) (by omega) (by omega)).mp c_1
    refine lv_iconst (v := nI 0) hx hb dX1_hasRoomFor_18 (by decide) ?_
    exact g_zret (Wd := bW G b r n) (v := nI 0) (nI bl.length, f) hB hx hb hr hlocks rfl (narrow_z (Or.inl rfl)) ⟨by rw [if_neg (by omega)], rfl⟩ dX1_hasRoomFor_19
  · have c_1 : ¬ n < (bl.length + k) := fun h9 => c_1 ((nI_ltI (a := n) (b := (bl.length + k)) (by omega) (by omega)).mpr h9)
    refine lv_iconst (v := nI 1) hx hb dX1_hasRoomFor_14 (by decide) ?_
    refine lv_goto (tgt := 19) hx hb dX1_hasRoomFor_15 (by decide) ?_
    exact g_zret (Wd := bW G b r n) (v := nI 1) (nI bl.length, f) hB hx hb hr hlocks rfl (narrow_z (Or.inr rfl)) ⟨by rw [if_pos (by omega)], rfl⟩ dX1_hasRoomFor_19
set_option maxRecDepth 100000 in
set_option maxHeartbeats 4000000 in
/-- Bytes.get(k) -/
theorem k_Bytes_get (l : Launch) (G : rG) (b r n : Nat) (f : Nat → Int32) (bl : List Int32) (hp : pfx f bl) (hbn : bl.length ≤ n) (hn : n < 1000000) (k0 : Int32) : gM l G.1 (rT G) yX1_get wsX1_get { frames := 0, cells := 0, slots := 0, locals := 0 } [.ref b, .int k0] [(b, .inr (0, [.ref r, .int (nI bl.length)])), (r, .inl (G.2.2.2.1, n, .inl f))] (gQi G.1 (rT G) (fun (r : Int32) (u : Int32 × (Nat → Int32)) => (r = if k0 < 0 ∨ nI bl.length ≤ k0 then -1 else bl.getD k0.toNatClampNeg 0) ∧ u = (nI bl.length, f)) (bW G b r n)) 0 0 := by
  refine gM.of (cc := cX1_get) (maxL := 2) (ret := (some .int)) (by decide) rfl (Nat.le_of_ble_eq_true rfl) ?_
  intro p e s m below meth c A ls hx hb hr hml hown hts hlocks hnm hB hl
  have hl : lv_has ls 2 [(0, .ref b), (1, .int k0)] := hl
  refine lv_iload_n hx hb dX1_get_0 rfl (lv_at hl 1 rfl) ?_
  refine lv_if_lt (tgt := 12) hx hb dX1_get_1 (by decide) (fun c_1 => ?_) (fun c_1 => ?_)
  · have c_1 := c_1
    refine lv_iconst (v := (-1)) hx hb dX1_get_12 (by decide) ?_
    refine lv_goto (tgt := 22) hx hb dX1_get_13 (by decide) ?_
    exact g_iret (Wd := bW G b r n) (v := (-1)) (nI bl.length, f) hB hx hb hr hlocks rfl ⟨by rw [if_pos (Or.inl c_1)], rfl⟩ dX1_get_22
  · have c_1 := c_1
    refine lv_iload_n hx hb dX1_get_4 rfl (lv_at hl 1 rfl) ?_
    refine lv_aload_n hx hb dX1_get_5 rfl (lv_at hl 0 rfl) ?_
    refine g_get (own := RX1) (C := RX1) (T := TX1) (N := 2) (ci := 0) (v := .int (nI bl.length)) hx hb hts (fun _ h => List.mem_cons_of_mem _ (List.mem_append_right _ h)) hown hB 0 rfl rfl 1 (by decide) (hts (.fieldLink RX1 15 "PointReports$Bytes" "length" "I") (by decide +kernel)) rfl rfl dX1_get_6 ?_
    refine lv_icmp_lt (tgt := 16) hx hb dX1_get_9 (by decide) (fun c_2 => ?_) (fun c_2 => ?_)
    · have c_2 := c_2
      obtain ⟨j, hj, ej⟩ : ∃ j : Nat, j < bl.length ∧ k0 = nI j := by rcases pk_ix k0 (n := bl.length) (by omega) with h | h | h; exact absurd h c_1; exact absurd c_2 (Int32.not_lt.mpr h); exact h
      have hr9 : (if k0 < 0 ∨ nI bl.length ≤ k0 then -1 else bl.getD k0.toNatClampNeg 0) = bl.getD j 0 := by rw [if_neg (by rintro (z | z); exact c_1 z; exact absurd c_2 (Int32.not_lt.mpr z)), ej, nI_clamp (by omega)]
      rw [hr9]
      subst ej
      refine lv_aload_n hx hb dX1_get_16 rfl (lv_at hl 0 rfl) ?_
      refine g_get (own := RX1) (C := RX1) (T := TX1) (N := 2) (ci := 0) (v := .ref r) hx hb hts (fun _ h => List.mem_cons_of_mem _ (List.mem_append_right _ h)) hown hB 0 rfl rfl 0 (by decide) (hts (.fieldLink RX1 9 "PointReports$Bytes" "row" "[I") (by decide +kernel)) rfl rfl dX1_get_17 ?_
      refine lv_iload_n hx hb dX1_get_20 rfl (lv_at hl 1 rfl) ?_
      refine g_ald hx hb hB 1 0 rfl rfl j rfl (by omega) (by omega) dX1_get_21 ?_
      exact g_iret (Wd := bW G b r n) (v := f j) (nI bl.length, f) hB hx hb hr hlocks rfl ⟨hp j hj, rfl⟩ dX1_get_22
    · have c_2 := c_2
      refine lv_iconst (v := (-1)) hx hb dX1_get_12 (by decide) ?_
      refine lv_goto (tgt := 22) hx hb dX1_get_13 (by decide) ?_
      exact g_iret (Wd := bW G b r n) (v := (-1)) (nI bl.length, f) hB hx hb hr hlocks rfl ⟨by rw [if_pos (Or.inr (Int32.not_lt.mp c_2))], rfl⟩ dX1_get_22
set_option maxRecDepth 100000 in
set_option maxHeartbeats 4000000 in
/-- Bytes.set(k, x) -/
theorem k_Bytes_set (l : Launch) (G : rG) (b r n : Nat) (f : Nat → Int32) (bl : List Int32) (hp : pfx f bl) (hbn : bl.length ≤ n) (hn : n < 1000000) (k : Nat) (x : Int32) (hk : k < bl.length) : gM l G.1 (rT G) yX1_set wsX1_set { frames := 0, cells := 0, slots := 0, locals := 0 } [.ref b, .int (nI k), .int x] [(b, .inr (0, [.ref r, .int (nI bl.length)])), (r, .inl (G.2.2.2.1, n, .inl f))] (gQv G.1 (rT G) (fun u : Int32 × (Nat → Int32) => ∃ f2, pfx f2 (bl.set k (x &&& 255)) ∧ u = (nI bl.length, f2)) (bW G b r n)) 0 0 := by
  refine gM.of (cc := cX1_set) (maxL := 3) (ret := none) (by decide) rfl (Nat.le_of_ble_eq_true rfl) ?_
  intro p e s m below meth c A ls hx hb hr hml hown hts hlocks hnm hB hl
  have hl : lv_has ls 3 [(0, .ref b), (1, .int (nI k)), (2, .int x)] := hl
  refine lv_iload_n hx hb dX1_set_0 rfl (lv_at hl 1 rfl) ?_
  refine lv_if_lt (tgt := 23) hx hb dX1_set_1 (by decide) (fun c_1 => ?_) (fun c_1 => ?_)
  · have c_1 : k < 0 := (nI_ltI (a := k) (b := 0) (by omega) (by omega)).mp c_1
    exact absurd c_1 (Nat.not_lt_zero _)
  · have c_1 : ¬ k < 0 := fun h9 => c_1 ((nI_ltI (a := k) (b := 0) (by omega) (by omega)).mpr h9)
    refine lv_iload_n hx hb dX1_set_4 rfl (lv_at hl 1 rfl) ?_
    refine lv_aload_n hx hb dX1_set_5 rfl (lv_at hl 0 rfl) ?_
    refine g_get (own := RX1) (C := RX1) (T := TX1) (N := 2) (ci := 0) (v := .int (nI bl.length)) hx hb hts (fun _ h => List.mem_cons_of_mem _ (List.mem_append_right _ h)) hown hB 0 rfl rfl 1 (by decide) (hts (.fieldLink RX1 15 "PointReports$Bytes" "length" "I") (by decide +kernel)) rfl rfl dX1_set_6 ?_
    refine lv_icmp_ge (tgt := 23) hx hb dX1_set_9 (by decide) (fun c_2 => ?_) (fun c_2 => ?_)
    · have c_2 : bl.length ≤ k := (nI_leI (a := bl.length) (b := k) (by omega) (by omega)).mp c_2
      exact absurd c_2 (by omega)
    · have c_2 : ¬ bl.length ≤ k := fun h9 => c_2 ((nI_leI (a := bl.length) (b := k) (by omega) (by omega)).mpr h9)
      refine lv_aload_n hx hb dX1_set_12 rfl (lv_at hl 0 rfl) ?_
      refine g_get (own := RX1) (C := RX1) (T := TX1) (N := 2) (ci := 0) (v := .ref r) hx hb hts (fun _ h => List.mem_cons_of_mem _ (List.mem_append_right _ h)) hown hB 0 rfl rfl 0 (by decide) (hts (.fieldLink RX1 9 "PointReports$Bytes" "row" "[I") (by decide +kernel)) rfl rfl dX1_set_13 ?_
      refine lv_iload_n hx hb dX1_set_16 rfl (lv_at hl 1 rfl) ?_
      refine lv_iload_n hx hb dX1_set_17 rfl (lv_at hl 2 rfl) ?_
      refine lv_sipush (v := nI 255) hx hb dX1_set_18 (by decide) ?_
      refine lv_iand hx hb dX1_set_21 ?_
      refine g_ast (x := x &&& (nI 255)) hx hb ([(b, .inr (0, [.ref r, .int (nI bl.length)])), (r, .inl (G.2.2.2.1, n, .inl (upd f k (x &&& (nI 255)))))]) hB 1 0 rfl rfl k rfl (by omega) (by omega) rfl dX1_set_22 (fun H locs hB => ?_)
      exact g_vret (Wd := bW G b r n) (nI bl.length, upd f k (x &&& (nI 255))) hB hx hb hr hlocks rfl ⟨_, pfx_set hp hk, rfl⟩ dX1_set_23
set_option maxRecDepth 100000 in
set_option maxHeartbeats 4000000 in
/-- Bytes.add(x) -/
theorem k_Bytes_add (l : Launch) (G : rG) (b r n : Nat) (f : Nat → Int32) (bl : List Int32) (hp : pfx f bl) (hbn : bl.length ≤ n) (hn : n < 1000000) (x : Int32) : gM l G.1 (rT G) yX1_add wsX1_add { frames := 0, cells := 0, slots := 0, locals := 0 } [.ref b, .int x] [(b, .inr (0, [.ref r, .int (nI bl.length)])), (r, .inl (G.2.2.2.1, n, .inl f))] (gQi G.1 (rT G) (fun (r : Int32) (u : Int32 × (Nat → Int32)) => if bl.length < n then r = nI 1 ∧ ∃ f2, pfx f2 (bl ++ [x &&& 255]) ∧ u = (nI (bl.length + 1), f2) else r = nI 0 ∧ u = (nI bl.length, f)) (bW G b r n)) 0 0 := by
  refine gM.of (cc := cX1_add) (maxL := 2) (ret := (some .boolean)) (by decide) rfl (Nat.le_of_ble_eq_true rfl) ?_
  intro p e s m below meth c A ls hx hb hr hml hown hts hlocks hnm hB hl
  have hl : lv_has ls 2 [(0, .ref b), (1, .int x)] := hl
  refine lv_aload_n hx hb dX1_add_0 rfl (lv_at hl 0 rfl) ?_
  refine g_get (own := RX1) (C := RX1) (T := TX1) (N := 2) (ci := 0) (v := .int (nI bl.length)) hx hb hts (fun _ h => List.mem_cons_of_mem _ (List.mem_append_right _ h)) hown hB 0 rfl rfl 1 (by decide) (hts (.fieldLink RX1 15 "PointReports$Bytes" "length" "I") (by decide +kernel)) rfl rfl dX1_add_1 ?_
  refine lv_aload_n hx hb dX1_add_4 rfl (lv_at hl 0 rfl) ?_
  refine g_get (own := RX1) (C := RX1) (T := TX1) (N := 2) (ci := 0) (v := .ref r) hx hb hts (fun _ h => List.mem_cons_of_mem _ (List.mem_append_right _ h)) hown hB 0 rfl rfl 0 (by decide) (hts (.fieldLink RX1 9 "PointReports$Bytes" "row" "[I") (by decide +kernel)) rfl rfl dX1_add_5 ?_
  refine g_alen hx hb hB 1 0 rfl rfl dX1_add_8 ?_
  refine lv_icmp_lt (tgt := 14) hx hb dX1_add_9 (by decide) (fun c_1 => ?_) (fun c_1 => ?_)
  · have c_1 : bl.length < n := (nI_ltI (a := bl.length) (b := n) (by omega) (by omega)).mp c_1
    refine lv_aload_n hx hb dX1_add_14 rfl (lv_at hl 0 rfl) ?_
    refine g_get (own := RX1) (C := RX1) (T := TX1) (N := 2) (ci := 0) (v := .ref r) hx hb hts (fun _ h => List.mem_cons_of_mem _ (List.mem_append_right _ h)) hown hB 0 rfl rfl 0 (by decide) (hts (.fieldLink RX1 9 "PointReports$Bytes" "row" "[I") (by decide +kernel)) rfl rfl dX1_add_15 ?_
    refine lv_aload_n hx hb dX1_add_18 rfl (lv_at hl 0 rfl) ?_
    refine g_get (own := RX1) (C := RX1) (T := TX1) (N := 2) (ci := 0) (v := .int (nI bl.length)) hx hb hts (fun _ h => List.mem_cons_of_mem _ (List.mem_append_right _ h)) hown hB 0 rfl rfl 1 (by decide) (hts (.fieldLink RX1 15 "PointReports$Bytes" "length" "I") (by decide +kernel)) rfl rfl dX1_add_19 ?_
    refine lv_iload_n hx hb dX1_add_22 rfl (lv_at hl 1 rfl) ?_
    refine lv_sipush (v := nI 255) hx hb dX1_add_23 (by decide) ?_
    refine lv_iand hx hb dX1_add_26 ?_
    refine g_ast (x := x &&& (nI 255)) hx hb ([(b, .inr (0, [.ref r, .int (nI bl.length)])), (r, .inl (G.2.2.2.1, n, .inl (upd f bl.length (x &&& (nI 255)))))]) hB 1 0 rfl rfl bl.length rfl (by omega) (by omega) rfl dX1_add_27 (fun H locs hB => ?_)
    refine lv_aload_n hx hb dX1_add_28 rfl (lv_at hl 0 rfl) ?_
    refine lv_dup hx hb dX1_add_29 rfl ?_
    refine g_get (own := RX1) (C := RX1) (T := TX1) (N := 2) (ci := 0) (v := .int (nI bl.length)) hx hb hts (fun _ h => List.mem_cons_of_mem _ (List.mem_append_right _ h)) hown hB 0 rfl rfl 1 (by decide) (hts (.fieldLink RX1 15 "PointReports$Bytes" "length" "I") (by decide +kernel)) rfl rfl dX1_add_30 ?_
    refine lv_iconst (v := nI 1) hx hb dX1_add_33 (by decide) ?_
    refine lv_iadd hx hb dX1_add_34 ?_
    refine g_top (y := nI (bl.length + 1)) (nI_add _ _) ?_
    refine g_put (own := RX1) (C := RX1) (T := TX1) (N := 2) (ci := 0) (v := .int (nI (bl.length + 1))) hx hb ([(b, .inr (0, [.ref r, .int (nI (bl.length + 1))])), (r, .inl (G.2.2.2.1, n, .inl (upd f bl.length (x &&& (nI 255)))))]) hts (fun _ h => List.mem_cons_of_mem _ (List.mem_append_right _ h)) tyX1 tyX1_ok nmX1 hown hB 0 rfl rfl 1 (by decide) (hts (.fieldLink RX1 15 "PointReports$Bytes" "length" "I") (by decide +kernel)) rfl rfl (ty := .int) rfl rfl rfl (Nat.le_of_ble_eq_true rfl) rfl dX1_add_35 (fun H locs hB => ?_)
    refine lv_iconst (v := nI 1) hx hb dX1_add_38 (by decide) ?_
    exact g_zret (Wd := bW G b r n) (v := nI 1) (nI (bl.length + 1), upd f bl.length (x &&& (nI 255))) hB hx hb hr hlocks rfl (narrow_z (Or.inr rfl)) (by rw [if_pos c_1]; exact ⟨rfl, _, pfx_add hp, rfl⟩) dX1_add_39
  · have c_1 : ¬ bl.length < n := fun h9 => c_1 ((nI_ltI (a := bl.length) (b := n) (by omega) (by omega)).mpr h9)
    refine lv_iconst (v := nI 0) hx hb dX1_add_12 (by decide) ?_
    exact g_zret (Wd := bW G b r n) (v := nI 0) (nI bl.length, f) hB hx hb hr hlocks rfl (narrow_z (Or.inl rfl)) (by rw [if_neg c_1]; exact ⟨rfl, rfl⟩) dX1_add_13
set_option maxRecDepth 100000 in
set_option maxHeartbeats 4000000 in
/-- Bytes.addNumber(v, k) -/
theorem k_Bytes_addNumber (l : Launch) (G : rG) (b r n : Nat) (f : Nat → Int32) (bl : List Int32) (hp : pfx f bl) (hbn : bl.length ≤ n) (hn : n < 1000000) (v : Int32) (k : Nat) (hk : k ≤ 4) (hroom : bl.length + k ≤ n) : gM l G.1 (rT G) yX1_addNumber wsX1_addNumber { frames := 1, cells := 0, slots := 0, locals := 21 } [.ref b, .int v, .int (nI k)] [(b, .inr (0, [.ref r, .int (nI bl.length)])), (r, .inl (G.2.2.2.1, n, .inl f))] (gQv G.1 (rT G) (fun u : Int32 × (Nat → Int32) => ∃ f2, pfx f2 (bl ++ bN v k) ∧ u = (nI (bl.length + k), f2)) (bW G b r n)) 0 0 := by
  refine gM.of (cc := cX1_addNumber) (maxL := 4) (ret := none) (by decide) rfl (Nat.le_of_ble_eq_true rfl) ?_
  intro p e s m below meth c A ls hx hb hr hml hown hts hlocks hnm hB hl
  have hl : lv_has ls 4 [(0, .ref b), (1, .int v), (2, .int (nI k))] := hl
  refine lv_iconst (v := nI 0) hx hb dX1_addNumber_0 (by decide) ?_
  refine lv_istore_n (lv' := [(3, .int (nI 0)), (0, .ref b), (1, .int v), (2, .int (nI k))]) hx hb dX1_addNumber_1 rfl hl (by decide) rfl (fun ls hl => ?_)
  have hl : lv_has ls 4 [(3, .int (nI 0)), (0, .ref b), (1, .int v), (2, .int (nI k))] := lv_sub hl [0, 1, 2, 3] rfl
  have hB : gB G.1 (rT G) A s s.heap [] [(b, .inr (0, [.ref r, .int (nI (bl.length + 0))])), (r, .inl (G.2.2.2.1, n, .inl f))] := hB
  refine g_loop (σ := Nat × (Nat → Int32)) (fun d xv H locs ls => (xv.1 + d = k) ∧ (pfx xv.2 (bl ++ bN v xv.1)) ∧ gB G.1 (rT G) A s H locs [(b, .inr (0, [.ref r, .int (nI (bl.length + xv.1))])), (r, .inl (G.2.2.2.1, n, .inl xv.2))] ∧ lv_has ls 4 [(3, .int (nI xv.1)), (0, .ref b), (1, .int v), (2, .int (nI k))]) k (0, f) ⟨by omega, by rw [bN, List.append_nil]; exact hp, hB, hl⟩ ?_
  rintro d ⟨j, g⟩ H locs ls ⟨hj, hg, hB, hl⟩ ih_1
  have hj : j + d = k := hj
  have hg : pfx g (bl ++ bN v j) := hg
  have hB : gB G.1 (rT G) A s H locs [(b, .inr (0, [.ref r, .int (nI (bl.length + j))])), (r, .inl (G.2.2.2.1, n, .inl g))] := hB
  have hl : lv_has ls 4 [(3, .int (nI j)), (0, .ref b), (1, .int v), (2, .int (nI k))] := hl
  refine lv_iload_n hx hb dX1_addNumber_2 rfl (lv_at hl 0 rfl) ?_
  refine lv_iload_n hx hb dX1_addNumber_3 rfl (lv_at hl 3 rfl) ?_
  refine lv_icmp_ge (tgt := 24) hx hb dX1_addNumber_4 (by decide) (fun c_2 => ?_) (fun c_2 => ?_)
  · have c_2 : k ≤ j := (nI_leI (a := k) (b := j) (by omega) (by omega)).mp c_2
    have hj9 : j = k := by omega
    subst hj9
    exact g_vret (Wd := bW G b r n) (nI (bl.length + j), g) hB hx hb hr hlocks rfl ⟨g, hg, rfl⟩ dX1_addNumber_24
  · have c_2 : ¬ k ≤ j := fun h9 => c_2 ((nI_leI (a := k) (b := j) (by omega) (by omega)).mpr h9)
    refine lv_aload_n hx hb dX1_addNumber_7 rfl (lv_at hl 1 rfl) ?_
    refine lv_iload_n hx hb dX1_addNumber_8 rfl (lv_at hl 2 rfl) ?_
    refine lv_bipush (v := nI 8) hx hb dX1_addNumber_9 (by decide) ?_
    refine lv_iload_n hx hb dX1_addNumber_11 rfl (lv_at hl 0 rfl) ?_
    refine lv_imul hx hb dX1_addNumber_12 ?_
    refine g_top (y := nI (8 * j)) (pk_mul _ _) ?_
    refine lv_ishr hx hb dX1_addNumber_13 ?_
    have lb : (bl ++ bN v j).length = bl.length + j := by rw [List.length_append, bN_len]
    have hB : gB G.1 (rT G) A s H locs [(b, .inr (0, [.ref r, .int (nI ((bl ++ bN v j).length))])), (r, .inl (G.2.2.2.1, n, .inl g))] := by rw [lb]; exact hB
    refine g_calliA (wr := []) (wc := [(b, .inr (0, [.ref r, .int (nI ((bl ++ bN v j).length))])), (r, .inl (G.2.2.2.1, n, .inl g))]) (av := [.int (v >>> ((nI (8 * j)) &&& 31))]) (rest := []) ⟨hx, hb, hml, hown, hts⟩ (k_Bytes_add l G b r n g (bl ++ bN v j) hg (by omega) hn (v >>> (nI (8 * j) &&& 31))) (cwV 1 hts gX1_addNumber_X1_add rfl rfl rfl (by decide +kernel) ⟨Nat.le_of_ble_eq_true rfl, Nat.le_of_ble_eq_true rfl⟩) hB (q0 := 0) (ci := 0) rfl rfl rfl rfl hl.1 rfl (Nat.le_of_ble_eq_true rfl) dX1_addNumber_14 ⟨Nat.le_of_ble_eq_true rfl, Nat.le_of_ble_eq_true rfl⟩ (fun r9 u H locs hw hB => ?_)
    have hpo := hw
    have hB : gB G.1 (rT G) A s H locs [(b, .inr (0, [.ref r, .int u.1])), (r, .inl (G.2.2.2.1, n, .inl u.2))] := hB
    rw [if_pos (by omega)] at hpo
    obtain ⟨-, g2, hg2, rfl⟩ := hpo
    have hB : gB G.1 (rT G) A s H locs [(b, .inr (0, [.ref r, .int (nI (bl.length + (j + 1)))])), (r, .inl (G.2.2.2.1, n, .inl g2))] := by rw [lb] at hB; exact hB
    refine lv_pop hx hb dX1_addNumber_17 rfl ?_
    refine lv_iinc (v := nI (j + 1)) (lv' := [(3, .int (nI (j + 1))), (0, .ref b), (1, .int v), (2, .int (nI k))]) hx hb dX1_addNumber_18 hl (k := 0) rfl (nI_add _ _) (by decide) rfl (fun ls hl => ?_)
    refine lv_goto (tgt := 2) hx hb dX1_addNumber_21 (by decide) ?_
    have hl : lv_has ls 4 [(3, .int (nI (j + 1))), (0, .ref b), (1, .int v), (2, .int (nI k))] := lv_sub hl [0, 1, 2, 3] rfl
    have hB : gB G.1 (rT G) A s H locs [(b, .inr (0, [.ref r, .int (nI (bl.length + (j + 1)))])), (r, .inl (G.2.2.2.1, n, .inl g2))] := hB
    have b_3 : (j + 1) + (k - (j + 1)) = k := by omega
    have b_4 : pfx g2 (bl ++ bN v (j + 1)) := by rw [bN, ← List.append_assoc]; exact hg2
    exact ih_1 (k - (j + 1)) (j + 1, g2) H locs ls (by omega) ⟨b_3, b_4, hB, hl⟩
