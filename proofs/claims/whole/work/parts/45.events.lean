/-! PointReports$Segment, PointReports$Events -/
def eW (G : rG) (ev po va ti : Nat) (u : Int32 × Int32 × (Nat → Int32) × (Nat → Int32) × (Nat → Int32)) : va_W := [(ev, .inr (1, [.ref po, .ref va, .ref ti, .int u.1, .int u.2.1])), (po, .inl (G.2.2.2.1, 8, .inl u.2.2.1)), (va, .inl (G.2.2.2.1, 8, .inl u.2.2.2.1)), (ti, .inl (G.2.2.2.1, 8, .inl u.2.2.2.2))]
/-- the rows of a class's events -/
def evC (fp fv ft : Nat → Int32) (E : List (Int32 × Int32 × Int32)) : Prop := ∀ (k : Nat) (q : Int32 × Int32 × Int32), E[k]? = some q → fp k = q.1 ∧ fv k = q.2.1 ∧ ft k = q.2.2
theorem evC_at {fp fv ft : Nat → Int32} {E : List (Int32 × Int32 × Int32)} (h : evC fp fv ft E) {k : Nat} (hk : k < E.length) : fp k = (E.getD k (0, 0, 0)).1 ∧ fv k = (E.getD k (0, 0, 0)).2.1 ∧ ft k = (E.getD k (0, 0, 0)).2.2 := h k _ (by rw [List.getD_eq_getElem?_getD, List.getElem?_eq_getElem hk]; rfl)
theorem evC_drop {fp fv ft gp gv gt : Nat → Int32} {E : List (Int32 × Int32 × Int32)} {w : Nat} (h : evC fp fv ft E) (h5 : ∀ z, gp z = if z < E.length - w then fp (z + w) else fp z) (h6 : ∀ z, gv z = if z < E.length - w then fv (z + w) else fv z) (h7 : ∀ z, gt z = if z < E.length - w then ft (z + w) else ft z) : evC gp gv gt (E.drop w) := by
  intro k q hk
  rw [List.getElem?_drop] at hk
  have hl := (List.getElem?_eq_some_iff.mp hk).1
  obtain ⟨a1, a2, a3⟩ := h (w + k) q hk
  rw [h5, h6, h7, if_pos (by omega), if_pos (by omega), if_pos (by omega), Nat.add_comm k w]
  exact ⟨a1, a2, a3⟩
theorem evC_push {fp fv ft : Nat → Int32} {E : List (Int32 × Int32 × Int32)} {q : Int32 × Int32 × Int32} (h : evC fp fv ft E) : evC (upd fp E.length q.1) (upd fv E.length q.2.1) (upd ft E.length q.2.2) (E ++ [q]) := by
  intro k z hz
  by_cases hk : k < E.length
  · rw [List.getElem?_append_left hk] at hz
    rw [upd_ne (by omega), upd_ne (by omega), upd_ne (by omega)]
    exact h k z hz
  · rw [List.getElem?_append_right (by omega)] at hz
    have h2 : k - E.length < 1 := (List.getElem?_eq_some_iff.mp hz).1
    have hk2 : k = E.length := by omega
    subst hk2
    rw [Nat.sub_self] at hz
    cases hz
    rw [upd_self, upd_self, upd_self]
    exact ⟨rfl, rfl, rfl⟩
set_option maxRecDepth 100000 in
set_option maxHeartbeats 4000000 in
theorem k_Segment_firstByte (l : Launch) (G : rG) (q a1 b1 : Nat) (ha : a1 ≤ 1) (hb1 : b1 ≤ 1) : gM l G.1 (rT G) yX8_firstByte wsX8_firstByte { frames := 0, cells := 0, slots := 0, locals := 0 } [.int (nI q), .int (nI a1), .int (nI b1)] [] (gQi G.1 (rT G) (fun (r : Int32) (u : Unit) => r = nI (q + (if a1 = 0 then 0 else 64) + (if b1 = 0 then 0 else 128))) (fun _ => [])) 0 0 := by
  refine gM.of (cc := cX8_firstByte) (maxL := 3) (ret := (some .int)) (by decide) rfl (Nat.le_of_ble_eq_true rfl) ?_
  intro p e s m below meth c A ls hx hb hr hml hown hts hlocks hnm hB hl
  have hl : lv_has ls 3 [(0, .int (nI q)), (1, .int (nI a1)), (2, .int (nI b1))] := hl
  refine lv_iload_n hx hb dX8_firstByte_0 rfl (lv_at hl 0 rfl) ?_
  refine lv_iload_n hx hb dX8_firstByte_1 rfl (lv_at hl 1 rfl) ?_
  refine g_cut (σ := Unit) 11 (fun _ H locs ls => gB G.1 (rT G) A s H locs [] ∧ lv_has ls 3 [(0, .int (nI q)), (1, .int (nI a1)), (2, .int (nI b1))]) (fun _ => [.int (nI (if a1 = 0 then 0 else 64)), .int (nI q)]) ?_ (fun cut => ?_)
  rotate_left
  · refine lv_if_eq (tgt := 10) hx hb dX8_firstByte_2 (by decide) (fun c_1 => ?_) (fun c_1 => ?_)
    · have c_1 : a1 = 0 := (nI_eq (a := a1) (b := 0) (by omega) (by omega)).mp c_1
      refine lv_iconst (v := nI 0) hx hb dX8_firstByte_10 (by decide) ?_
      refine g_top (y := nI (if a1 = 0 then 0 else 64)) (by rw [if_pos c_1]) ?_
      exact cut () s.heap [] ls ⟨hB, hl⟩
    · have c_1 : ¬ a1 = 0 := fun h9 => c_1 ((nI_eq (a := a1) (b := 0) (by omega) (by omega)).mpr h9)
      refine lv_bipush (v := nI 64) hx hb dX8_firstByte_5 (by decide) ?_
      refine lv_goto (tgt := 11) hx hb dX8_firstByte_7 (by decide) ?_
      refine g_top (y := nI (if a1 = 0 then 0 else 64)) (by rw [if_neg c_1]) ?_
      exact cut () s.heap [] ls ⟨hB, hl⟩
  rintro - H locs ls ⟨hB, hl⟩
  refine lv_iadd hx hb dX8_firstByte_11 ?_
  refine g_top (y := nI (q + (if a1 = 0 then 0 else 64))) (nI_add _ _) ?_
  refine lv_iload_n hx hb dX8_firstByte_12 rfl (lv_at hl 2 rfl) ?_
  refine g_cut (σ := Unit) 23 (fun _ H locs ls => gB G.1 (rT G) A s H locs [] ∧ lv_has ls 3 [(0, .int (nI q)), (1, .int (nI a1)), (2, .int (nI b1))]) (fun _ => [.int (nI (if b1 = 0 then 0 else 128)), .int (nI (q + (if a1 = 0 then 0 else 64)))]) ?_ (fun cut => ?_)
  rotate_left
  · refine lv_if_eq (tgt := 22) hx hb dX8_firstByte_13 (by decide) (fun c_2 => ?_) (fun c_2 => ?_)
    · have c_2 : b1 = 0 := (nI_eq (a := b1) (b := 0) (by omega) (by omega)).mp c_2
      refine lv_iconst (v := nI 0) hx hb dX8_firstByte_22 (by decide) ?_
      refine g_top (y := nI (if b1 = 0 then 0 else 128)) (by rw [if_pos c_2]) ?_
      exact cut () H locs ls ⟨hB, hl⟩
    · have c_2 : ¬ b1 = 0 := fun h9 => c_2 ((nI_eq (a := b1) (b := 0) (by omega) (by omega)).mpr h9)
      refine lv_sipush (v := nI 128) hx hb dX8_firstByte_16 (by decide) ?_
      refine lv_goto (tgt := 23) hx hb dX8_firstByte_19 (by decide) ?_
      refine g_top (y := nI (if b1 = 0 then 0 else 128)) (by rw [if_neg c_2]) ?_
      exact cut () H locs ls ⟨hB, hl⟩
  rintro - H locs ls ⟨hB, hl⟩
  refine lv_iadd hx hb dX8_firstByte_23 ?_
  refine g_top (y := nI ((q + (if a1 = 0 then 0 else 64)) + (if b1 = 0 then 0 else 128))) (nI_add _ _) ?_
  exact g_iret (Wd := fun _ => []) (v := nI ((q + (if a1 = 0 then 0 else 64)) + (if b1 = 0 then 0 else 128))) () hB hx hb hr hlocks rfl rfl dX8_firstByte_24
set_option maxRecDepth 100000 in
set_option maxHeartbeats 4000000 in
theorem k_Segment_isFirst (l : Launch) (G : rG) (x : Nat) (hx2 : x < 256) : gM l G.1 (rT G) yX8_isFirst wsX8_isFirst { frames := 0, cells := 0, slots := 0, locals := 0 } [.int (nI x)] [] (gQi G.1 (rT G) (fun (r : Int32) (u : Unit) => r = nI (if (x &&& 64) = 0 then 0 else 1)) (fun _ => [])) 0 0 := by
  refine gM.of (cc := cX8_isFirst) (maxL := 1) (ret := (some .boolean)) (by decide) rfl (Nat.le_of_ble_eq_true rfl) ?_
  intro p e s m below meth c A ls hx hb hr hml hown hts hlocks hnm hB hl
  have hl : lv_has ls 1 [(0, .int (nI x))] := hl
  refine lv_iload_n hx hb dX8_isFirst_0 rfl (lv_at hl 0 rfl) ?_
  refine lv_bipush (v := nI 64) hx hb dX8_isFirst_1 (by decide) ?_
  refine lv_iand hx hb dX8_isFirst_3 ?_
  refine g_top (y := nI (x &&& 64)) (nx_and _ _) ?_
  have l9 := and_lt x 64
  refine lv_if_eq (tgt := 11) hx hb dX8_isFirst_4 (by decide) (fun c_1 => ?_) (fun c_1 => ?_)
  · have c_1 : (x &&& 64) = 0 := (nI_eq (a := (x &&& 64)) (b := 0) (by omega) (by omega)).mp c_1
    refine lv_iconst (v := nI 0) hx hb dX8_isFirst_11 (by decide) ?_
    exact g_zret (Wd := fun _ => []) (v := nI 0) () hB hx hb hr hlocks rfl (narrow_z (Or.inl rfl)) (by rw [if_pos c_1]) dX8_isFirst_12
  · have c_1 : ¬ (x &&& 64) = 0 := fun h9 => c_1 ((nI_eq (a := (x &&& 64)) (b := 0) (by omega) (by omega)).mpr h9)
    refine lv_iconst (v := nI 1) hx hb dX8_isFirst_7 (by decide) ?_
    refine lv_goto (tgt := 12) hx hb dX8_isFirst_8 (by decide) ?_
    exact g_zret (Wd := fun _ => []) (v := nI 1) () hB hx hb hr hlocks rfl (narrow_z (Or.inr rfl)) (by rw [if_neg c_1]) dX8_isFirst_12
set_option maxRecDepth 100000 in
set_option maxHeartbeats 4000000 in
theorem k_Segment_isLast (l : Launch) (G : rG) (x : Nat) (hx2 : x < 256) : gM l G.1 (rT G) yX8_isLast wsX8_isLast { frames := 0, cells := 0, slots := 0, locals := 0 } [.int (nI x)] [] (gQi G.1 (rT G) (fun (r : Int32) (u : Unit) => r = nI (if (x &&& 128) = 0 then 0 else 1)) (fun _ => [])) 0 0 := by
  refine gM.of (cc := cX8_isLast) (maxL := 1) (ret := (some .boolean)) (by decide) rfl (Nat.le_of_ble_eq_true rfl) ?_
  intro p e s m below meth c A ls hx hb hr hml hown hts hlocks hnm hB hl
  have hl : lv_has ls 1 [(0, .int (nI x))] := hl
  refine lv_iload_n hx hb dX8_isLast_0 rfl (lv_at hl 0 rfl) ?_
  refine lv_sipush (v := nI 128) hx hb dX8_isLast_1 (by decide) ?_
  refine lv_iand hx hb dX8_isLast_4 ?_
  refine g_top (y := nI (x &&& 128)) (nx_and _ _) ?_
  have l9 := and_lt x 128
  refine lv_if_eq (tgt := 12) hx hb dX8_isLast_5 (by decide) (fun c_1 => ?_) (fun c_1 => ?_)
  · have c_1 : (x &&& 128) = 0 := (nI_eq (a := (x &&& 128)) (b := 0) (by omega) (by omega)).mp c_1
    refine lv_iconst (v := nI 0) hx hb dX8_isLast_12 (by decide) ?_
    exact g_zret (Wd := fun _ => []) (v := nI 0) () hB hx hb hr hlocks rfl (narrow_z (Or.inl rfl)) (by rw [if_pos c_1]) dX8_isLast_13
  · have c_1 : ¬ (x &&& 128) = 0 := fun h9 => c_1 ((nI_eq (a := (x &&& 128)) (b := 0) (by omega) (by omega)).mpr h9)
    refine lv_iconst (v := nI 1) hx hb dX8_isLast_8 (by decide) ?_
    refine lv_goto (tgt := 13) hx hb dX8_isLast_9 (by decide) ?_
    exact g_zret (Wd := fun _ => []) (v := nI 1) () hB hx hb hr hlocks rfl (narrow_z (Or.inr rfl)) (by rw [if_neg c_1]) dX8_isLast_13
set_option maxRecDepth 100000 in
set_option maxHeartbeats 4000000 in
theorem k_Segment_number (l : Launch) (G : rG) (x : Nat) (hx2 : x < 256) : gM l G.1 (rT G) yX8_number wsX8_number { frames := 0, cells := 0, slots := 0, locals := 0 } [.int (nI x)] [] (gQi G.1 (rT G) (fun (r : Int32) (u : Unit) => r = nI (x % 64)) (fun _ => [])) 0 0 := by
  refine gM.of (cc := cX8_number) (maxL := 1) (ret := (some .int)) (by decide) rfl (Nat.le_of_ble_eq_true rfl) ?_
  intro p e s m below meth c A ls hx hb hr hml hown hts hlocks hnm hB hl
  have hl : lv_has ls 1 [(0, .int (nI x))] := hl
  refine lv_iload_n hx hb dX8_number_0 rfl (lv_at hl 0 rfl) ?_
  refine lv_bipush (v := nI 64) hx hb dX8_number_1 (by decide) ?_
  refine lv_irem hx hb dX8_number_3 (by decide) ?_
  refine g_top (y := nI (x % 64)) (pk_rem (by omega) (by decide) (by decide)) ?_
  exact g_iret (Wd := fun _ => []) (v := nI (x % 64)) () hB hx hb hr hlocks rfl rfl dX8_number_4
set_option maxRecDepth 100000 in
set_option maxHeartbeats 4000000 in
theorem k_Segment_after (l : Launch) (G : rG) (x : Nat) (hx2 : x < 256) : gM l G.1 (rT G) yX8_after wsX8_after { frames := 0, cells := 0, slots := 0, locals := 0 } [.int (nI x)] [] (gQi G.1 (rT G) (fun (r : Int32) (u : Unit) => r = nI ((x + 1) % 64)) (fun _ => [])) 0 0 := by
  refine gM.of (cc := cX8_after) (maxL := 1) (ret := (some .int)) (by decide) rfl (Nat.le_of_ble_eq_true rfl) ?_
  intro p e s m below meth c A ls hx hb hr hml hown hts hlocks hnm hB hl
  have hl : lv_has ls 1 [(0, .int (nI x))] := hl
  refine lv_iload_n hx hb dX8_after_0 rfl (lv_at hl 0 rfl) ?_
  refine lv_iconst (v := nI 1) hx hb dX8_after_1 (by decide) ?_
  refine lv_iadd hx hb dX8_after_2 ?_
  refine g_top (y := nI (x + 1)) (nI_add _ _) ?_
  refine lv_bipush (v := nI 64) hx hb dX8_after_3 (by decide) ?_
  refine lv_irem hx hb dX8_after_5 (by decide) ?_
  refine g_top (y := nI ((x + 1) % 64)) (pk_rem (by omega) (by decide) (by decide)) ?_
  exact g_iret (Wd := fun _ => []) (v := nI ((x + 1) % 64)) () hB hx hb hr hlocks rfl rfl dX8_after_6
set_option maxRecDepth 100000 in
set_option maxHeartbeats 4000000 in
theorem k_Events_waitNoMore (l : Launch) (G : rG) (ev po va ti : Nat) (fp fv ft : Nat → Int32) (E : List (Int32 × Int32 × Int32)) (hE : evC fp fv ft E) (hE8 : E.length ≤ 8) (wt : Nat) (hwt : wt ≤ E.length) : gM l G.1 (rT G) yX2_waitNoMore wsX2_waitNoMore { frames := 0, cells := 0, slots := 0, locals := 0 } [.ref ev] [(ev, .inr (1, [.ref po, .ref va, .ref ti, .int (nI E.length), .int (nI wt)])), (po, .inl (G.2.2.2.1, 8, .inl fp)), (va, .inl (G.2.2.2.1, 8, .inl fv)), (ti, .inl (G.2.2.2.1, 8, .inl ft))] (gQv G.1 (rT G) (fun u : Int32 × Int32 × (Nat → Int32) × (Nat → Int32) × (Nat → Int32) => u = (nI E.length, nI 0, fp, fv, ft)) (eW G ev po va ti)) 0 0 := by
  refine gM.of (cc := cX2_waitNoMore) (maxL := 1) (ret := none) (by decide) rfl (Nat.le_of_ble_eq_true rfl) ?_
  intro p e s m below meth c A ls hx hb hr hml hown hts hlocks hnm hB hl
  have hl : lv_has ls 1 [(0, .ref ev)] := hl
  refine lv_aload_n hx hb dX2_waitNoMore_0 rfl (lv_at hl 0 rfl) ?_
  refine lv_iconst (v := nI 0) hx hb dX2_waitNoMore_1 (by decide) ?_
  refine g_put (own := RX2) (C := RX2) (T := TX2) (N := 5) (ci := 1) (v := .int (nI 0)) hx hb ([(ev, .inr (1, [.ref po, .ref va, .ref ti, .int (nI E.length), .int (nI 0)])), (po, .inl (G.2.2.2.1, 8, .inl fp)), (va, .inl (G.2.2.2.1, 8, .inl fv)), (ti, .inl (G.2.2.2.1, 8, .inl ft))]) hts (fun _ h => List.mem_cons_of_mem _ (List.mem_append_right _ h)) tyX2 tyX2_ok nmX2 hown hB 0 rfl rfl 4 (by decide) (hts (.fieldLink RX2 29 "PointReports$Events" "waiting" "I") (by decide +kernel)) rfl rfl (ty := .int) rfl rfl rfl (Nat.le_of_ble_eq_true rfl) rfl dX2_waitNoMore_2 (fun H locs hB => ?_)
  exact g_vret (Wd := eW G ev po va ti) (nI E.length, nI 0, fp, fv, ft) hB hx hb hr hlocks rfl rfl dX2_waitNoMore_5
set_option maxRecDepth 100000 in
set_option maxHeartbeats 4000000 in
theorem k_Events_isEmpty (l : Launch) (G : rG) (ev po va ti : Nat) (fp fv ft : Nat → Int32) (E : List (Int32 × Int32 × Int32)) (hE : evC fp fv ft E) (hE8 : E.length ≤ 8) (wt : Nat) (hwt : wt ≤ E.length) : gM l G.1 (rT G) yX2_isEmpty wsX2_isEmpty { frames := 0, cells := 0, slots := 0, locals := 0 } [.ref ev] [(ev, .inr (1, [.ref po, .ref va, .ref ti, .int (nI E.length), .int (nI wt)])), (po, .inl (G.2.2.2.1, 8, .inl fp)), (va, .inl (G.2.2.2.1, 8, .inl fv)), (ti, .inl (G.2.2.2.1, 8, .inl ft))] (gQi G.1 (rT G) (fun (r : Int32) (u : Int32 × Int32 × (Nat → Int32) × (Nat → Int32) × (Nat → Int32)) => r = nI (if E.length = 0 then 1 else 0) ∧ u = (nI E.length, nI wt, fp, fv, ft)) (eW G ev po va ti)) 0 0 := by
  refine gM.of (cc := cX2_isEmpty) (maxL := 1) (ret := (some .boolean)) (by decide) rfl (Nat.le_of_ble_eq_true rfl) ?_
  intro p e s m below meth c A ls hx hb hr hml hown hts hlocks hnm hB hl
  have hl : lv_has ls 1 [(0, .ref ev)] := hl
  refine lv_aload_n hx hb dX2_isEmpty_0 rfl (lv_at hl 0 rfl) ?_
  refine g_get (own := RX2) (C := RX2) (T := TX2) (N := 5) (ci := 1) (v := .int (nI E.length)) hx hb hts (fun _ h => List.mem_cons_of_mem _ (List.mem_append_right _ h)) hown hB 0 rfl rfl 3 (by decide) (hts (.fieldLink RX2 21 "PointReports$Events" "size" "I") (by decide +kernel)) rfl rfl dX2_isEmpty_1 ?_
  refine lv_if_ne (tgt := 11) hx hb dX2_isEmpty_4 (by decide) (fun c_1 => ?_) (fun c_1 => ?_)
  · have c_1 : ¬ E.length = 0 := fun h9 => c_1 ((nI_eq (a := E.length) (b := 0) (by omega) (by omega)).mpr h9)
    refine lv_iconst (v := nI 0) hx hb dX2_isEmpty_11 (by decide) ?_
    exact g_zret (Wd := eW G ev po va ti) (v := nI 0) (nI E.length, nI wt, fp, fv, ft) hB hx hb hr hlocks rfl (narrow_z (Or.inl rfl)) ⟨by rw [if_neg c_1], rfl⟩ dX2_isEmpty_12
  · have c_1 : E.length = 0 := (nI_eq (a := E.length) (b := 0) (by omega) (by omega)).mp c_1
    refine lv_iconst (v := nI 1) hx hb dX2_isEmpty_7 (by decide) ?_
    refine lv_goto (tgt := 12) hx hb dX2_isEmpty_8 (by decide) ?_
    exact g_zret (Wd := eW G ev po va ti) (v := nI 1) (nI E.length, nI wt, fp, fv, ft) hB hx hb hr hlocks rfl (narrow_z (Or.inr rfl)) ⟨by rw [if_pos c_1], rfl⟩ dX2_isEmpty_12
set_option maxRecDepth 100000 in
set_option maxHeartbeats 4000000 in
theorem k_Events_hasOthers (l : Launch) (G : rG) (ev po va ti : Nat) (fp fv ft : Nat → Int32) (E : List (Int32 × Int32 × Int32)) (hE : evC fp fv ft E) (hE8 : E.length ≤ 8) (wt : Nat) (hwt : wt ≤ E.length) : gM l G.1 (rT G) yX2_hasOthers wsX2_hasOthers { frames := 0, cells := 0, slots := 0, locals := 0 } [.ref ev] [(ev, .inr (1, [.ref po, .ref va, .ref ti, .int (nI E.length), .int (nI wt)])), (po, .inl (G.2.2.2.1, 8, .inl fp)), (va, .inl (G.2.2.2.1, 8, .inl fv)), (ti, .inl (G.2.2.2.1, 8, .inl ft))] (gQi G.1 (rT G) (fun (r : Int32) (u : Int32 × Int32 × (Nat → Int32) × (Nat → Int32) × (Nat → Int32)) => r = nI (if wt < E.length then 1 else 0) ∧ u = (nI E.length, nI wt, fp, fv, ft)) (eW G ev po va ti)) 0 0 := by
  refine gM.of (cc := cX2_hasOthers) (maxL := 1) (ret := (some .boolean)) (by decide) rfl (Nat.le_of_ble_eq_true rfl) ?_
  intro p e s m below meth c A ls hx hb hr hml hown hts hlocks hnm hB hl
  have hl : lv_has ls 1 [(0, .ref ev)] := hl
  refine lv_aload_n hx hb dX2_hasOthers_0 rfl (lv_at hl 0 rfl) ?_
  refine g_get (own := RX2) (C := RX2) (T := TX2) (N := 5) (ci := 1) (v := .int (nI E.length)) hx hb hts (fun _ h => List.mem_cons_of_mem _ (List.mem_append_right _ h)) hown hB 0 rfl rfl 3 (by decide) (hts (.fieldLink RX2 21 "PointReports$Events" "size" "I") (by decide +kernel)) rfl rfl dX2_hasOthers_1 ?_
  refine lv_aload_n hx hb dX2_hasOthers_4 rfl (lv_at hl 0 rfl) ?_
  refine g_get (own := RX2) (C := RX2) (T := TX2) (N := 5) (ci := 1) (v := .int (nI wt)) hx hb hts (fun _ h => List.mem_cons_of_mem _ (List.mem_append_right _ h)) hown hB 0 rfl rfl 4 (by decide) (hts (.fieldLink RX2 29 "PointReports$Events" "waiting" "I") (by decide +kernel)) rfl rfl dX2_hasOthers_5 ?_
  refine lv_icmp_le (tgt := 15) hx hb dX2_hasOthers_8 (by decide) (fun c_1 => ?_) (fun c_1 => ?_)
  · have c_1 : E.length ≤ wt := (nI_leI (a := E.length) (b := wt) (by omega) (by omega)).mp c_1
    refine lv_iconst (v := nI 0) hx hb dX2_hasOthers_15 (by decide) ?_
    exact g_zret (Wd := eW G ev po va ti) (v := nI 0) (nI E.length, nI wt, fp, fv, ft) hB hx hb hr hlocks rfl (narrow_z (Or.inl rfl)) ⟨by rw [if_neg (by omega)], rfl⟩ dX2_hasOthers_16
  · have c_1 : ¬ E.length ≤ wt := fun h9 => c_1 ((nI_leI (a := E.length) (b := wt) (by omega) (by omega)).mpr h9)
    refine lv_iconst (v := nI 1) hx hb dX2_hasOthers_11 (by decide) ?_
    refine lv_goto (tgt := 16) hx hb dX2_hasOthers_12 (by decide) ?_
    exact g_zret (Wd := eW G ev po va ti) (v := nI 1) (nI E.length, nI wt, fp, fv, ft) hB hx hb hr hlocks rfl (narrow_z (Or.inr rfl)) ⟨by rw [if_pos (by omega)], rfl⟩ dX2_hasOthers_16
set_option maxRecDepth 100000 in
set_option maxHeartbeats 4000000 in
theorem k_Events_get (l : Launch) (G : rG) (ev po va ti : Nat) (fp fv ft : Nat → Int32) (E : List (Int32 × Int32 × Int32)) (hE : evC fp fv ft E) (hE8 : E.length ≤ 8) (wt : Nat) (hwt : wt ≤ E.length) (k0 w0 : Int32) : gM l G.1 (rT G) yX2_get wsX2_get { frames := 0, cells := 0, slots := 0, locals := 0 } [.ref ev, .int k0, .int w0] [(ev, .inr (1, [.ref po, .ref va, .ref ti, .int (nI E.length), .int (nI wt)])), (po, .inl (G.2.2.2.1, 8, .inl fp)), (va, .inl (G.2.2.2.1, 8, .inl fv)), (ti, .inl (G.2.2.2.1, 8, .inl ft))] (gQi G.1 (rT G) (fun (r : Int32) (u : Int32 × Int32 × (Nat → Int32) × (Nat → Int32) × (Nat → Int32)) => r = (if k0 < 0 ∨ nI E.length ≤ k0 then -1 else if w0 = 0 then (E.getD k0.toNatClampNeg (0, 0, 0)).1 else if w0 = 1 then (E.getD k0.toNatClampNeg (0, 0, 0)).2.1 else if w0 = 2 then (E.getD k0.toNatClampNeg (0, 0, 0)).2.2 else if w0 = 3 then (if k0.toNatClampNeg < wt then nI 1 else nI 0) else -1) ∧ u = (nI E.length, nI wt, fp, fv, ft)) (eW G ev po va ti)) 0 0 := by
  refine gM.of (cc := cX2_get) (maxL := 3) (ret := (some .int)) (by decide) rfl (Nat.le_of_ble_eq_true rfl) ?_
  intro p e s m below meth c A ls hx hb hr hml hown hts hlocks hnm hB hl
  have hl : lv_has ls 3 [(0, .ref ev), (1, .int k0), (2, .int w0)] := hl
  refine lv_iload_n hx hb dX2_get_0 rfl (lv_at hl 1 rfl) ?_
  refine lv_if_lt (tgt := 12) hx hb dX2_get_1 (by decide) (fun c_1 => ?_) (fun c_1 => ?_)
  · have c_1 := c_1
    refine lv_iconst (v := (-1)) hx hb dX2_get_12 (by decide) ?_
    exact g_iret (Wd := eW G ev po va ti) (v := (-1)) (nI E.length, nI wt, fp, fv, ft) hB hx hb hr hlocks rfl ⟨by rw [if_pos (Or.inl c_1)], rfl⟩ dX2_get_13
  · have c_1 := c_1
    refine lv_iload_n hx hb dX2_get_4 rfl (lv_at hl 1 rfl) ?_
    refine lv_aload_n hx hb dX2_get_5 rfl (lv_at hl 0 rfl) ?_
    refine g_get (own := RX2) (C := RX2) (T := TX2) (N := 5) (ci := 1) (v := .int (nI E.length)) hx hb hts (fun _ h => List.mem_cons_of_mem _ (List.mem_append_right _ h)) hown hB 0 rfl rfl 3 (by decide) (hts (.fieldLink RX2 21 "PointReports$Events" "size" "I") (by decide +kernel)) rfl rfl dX2_get_6 ?_
    refine lv_icmp_lt (tgt := 14) hx hb dX2_get_9 (by decide) (fun c_2 => ?_) (fun c_2 => ?_)
    · have c_2 := c_2
      obtain ⟨k, hk, ek⟩ : ∃ k : Nat, k < E.length ∧ k0 = nI k := by rcases pk_ix k0 (n := E.length) (by omega) with h | h | h; exact absurd h c_1; exact absurd c_2 (Int32.not_lt.mpr h); exact h
      have hs0 : (if k0 < 0 ∨ nI E.length ≤ k0 then -1 else if w0 = 0 then (E.getD k0.toNatClampNeg (0, 0, 0)).1 else if w0 = 1 then (E.getD k0.toNatClampNeg (0, 0, 0)).2.1 else if w0 = 2 then (E.getD k0.toNatClampNeg (0, 0, 0)).2.2 else if w0 = 3 then (if k0.toNatClampNeg < wt then nI 1 else nI 0) else -1) = (if w0 = 0 then (E.getD k (0, 0, 0)).1 else if w0 = 1 then (E.getD k (0, 0, 0)).2.1 else if w0 = 2 then (E.getD k (0, 0, 0)).2.2 else if w0 = 3 then (if k < wt then nI 1 else nI 0) else -1) := by rw [if_neg (by rintro (z | z); exact c_1 z; exact absurd c_2 (Int32.not_lt.mpr z)), ek, nI_clamp (by omega)]
      rw [hs0]
      subst ek
      obtain ⟨a1, a2, a3⟩ := evC_at hE hk
      refine lv_iload_n hx hb dX2_get_14 rfl (lv_at hl 2 rfl) ?_
      rcases pk_ix w0 (n := 4) (by decide) with hw | hw | ⟨m, hm, em⟩
      · refine lv_tableOut (tgt := 79) hx hb dX2_get_15 (sw_out (n := 3) (Or.inl hw) (by decide)) (by decide) ?_
        refine lv_iconst (v := (-1)) hx hb dX2_get_79 (by decide) ?_
        have hs1 : (if w0 = 0 then (E.getD k (0, 0, 0)).1 else if w0 = 1 then (E.getD k (0, 0, 0)).2.1 else if w0 = 2 then (E.getD k (0, 0, 0)).2.2 else if w0 = 3 then (if k < wt then nI 1 else nI 0) else -1) = -1 := by rw [if_neg (show ¬ w0 = 0 from ne_out (n := 3) (k := 0) (Or.inl hw) (by decide) (by decide)), if_neg (show ¬ w0 = 1 from ne_out (n := 3) (k := 1) (Or.inl hw) (by decide) (by decide)), if_neg (show ¬ w0 = 2 from ne_out (n := 3) (k := 2) (Or.inl hw) (by decide) (by decide)), if_neg (show ¬ w0 = 3 from ne_out (n := 3) (k := 3) (Or.inl hw) (by decide) (by decide))]
        exact g_iret (Wd := eW G ev po va ti) (v := (-1)) (nI E.length, nI wt, fp, fv, ft) hB hx hb hr hlocks rfl ⟨by rw [hs1], rfl⟩ dX2_get_80
      · refine lv_tableOut (tgt := 79) hx hb dX2_get_15 (sw_out (n := 3) (Or.inr hw) (by decide)) (by decide) ?_
        refine lv_iconst (v := (-1)) hx hb dX2_get_79 (by decide) ?_
        have hs1 : (if w0 = 0 then (E.getD k (0, 0, 0)).1 else if w0 = 1 then (E.getD k (0, 0, 0)).2.1 else if w0 = 2 then (E.getD k (0, 0, 0)).2.2 else if w0 = 3 then (if k < wt then nI 1 else nI 0) else -1) = -1 := by rw [if_neg (show ¬ w0 = 0 from ne_out (n := 3) (k := 0) (Or.inr hw) (by decide) (by decide)), if_neg (show ¬ w0 = 1 from ne_out (n := 3) (k := 1) (Or.inr hw) (by decide) (by decide)), if_neg (show ¬ w0 = 2 from ne_out (n := 3) (k := 2) (Or.inr hw) (by decide) (by decide)), if_neg (show ¬ w0 = 3 from ne_out (n := 3) (k := 3) (Or.inr hw) (by decide) (by decide))]
        exact g_iret (Wd := eW G ev po va ti) (v := (-1)) (nI E.length, nI wt, fp, fv, ft) hB hx hb hr hlocks rfl ⟨by rw [hs1], rfl⟩ dX2_get_80
      · subst em
        rcases (show m = 0 ∨ m = 1 ∨ m = 2 ∨ m = 3 by omega) with rfl | rfl | rfl | rfl
        · refine lv_tableIn (tgt := 44) (off := 29) hx hb dX2_get_15 (by decide) (by decide) (by decide) (by decide) ?_
          refine lv_aload_n hx hb dX2_get_44 rfl (lv_at hl 0 rfl) ?_
          refine g_get (own := RX2) (C := RX2) (T := TX2) (N := 5) (ci := 1) (v := .ref po) hx hb hts (fun _ h => List.mem_cons_of_mem _ (List.mem_append_right _ h)) hown hB 0 rfl rfl 0 (by decide) (hts (.fieldLink RX2 11 "PointReports$Events" "points" "[I") (by decide +kernel)) rfl rfl dX2_get_45 ?_
          refine lv_iload_n hx hb dX2_get_48 rfl (lv_at hl 1 rfl) ?_
          refine g_ald hx hb hB 1 0 rfl rfl k rfl (by omega) (by omega) dX2_get_49 ?_
          exact g_iret (Wd := eW G ev po va ti) (v := fp k) (nI E.length, nI wt, fp, fv, ft) hB hx hb hr hlocks rfl ⟨a1, rfl⟩ dX2_get_50
        · refine lv_tableIn (tgt := 51) (off := 36) hx hb dX2_get_15 (by decide) (by decide) (by decide) (by decide) ?_
          refine lv_aload_n hx hb dX2_get_51 rfl (lv_at hl 0 rfl) ?_
          refine g_get (own := RX2) (C := RX2) (T := TX2) (N := 5) (ci := 1) (v := .ref va) hx hb hts (fun _ h => List.mem_cons_of_mem _ (List.mem_append_right _ h)) hown hB 0 rfl rfl 1 (by decide) (hts (.fieldLink RX2 15 "PointReports$Events" "values" "[I") (by decide +kernel)) rfl rfl dX2_get_52 ?_
          refine lv_iload_n hx hb dX2_get_55 rfl (lv_at hl 1 rfl) ?_
          refine g_ald hx hb hB 2 0 rfl rfl k rfl (by omega) (by omega) dX2_get_56 ?_
          exact g_iret (Wd := eW G ev po va ti) (v := fv k) (nI E.length, nI wt, fp, fv, ft) hB hx hb hr hlocks rfl ⟨a2, rfl⟩ dX2_get_57
        · refine lv_tableIn (tgt := 58) (off := 43) hx hb dX2_get_15 (by decide) (by decide) (by decide) (by decide) ?_
          refine lv_aload_n hx hb dX2_get_58 rfl (lv_at hl 0 rfl) ?_
          refine g_get (own := RX2) (C := RX2) (T := TX2) (N := 5) (ci := 1) (v := .ref ti) hx hb hts (fun _ h => List.mem_cons_of_mem _ (List.mem_append_right _ h)) hown hB 0 rfl rfl 2 (by decide) (hts (.fieldLink RX2 18 "PointReports$Events" "times" "[I") (by decide +kernel)) rfl rfl dX2_get_59 ?_
          refine lv_iload_n hx hb dX2_get_62 rfl (lv_at hl 1 rfl) ?_
          refine g_ald hx hb hB 3 0 rfl rfl k rfl (by omega) (by omega) dX2_get_63 ?_
          exact g_iret (Wd := eW G ev po va ti) (v := ft k) (nI E.length, nI wt, fp, fv, ft) hB hx hb hr hlocks rfl ⟨a3, rfl⟩ dX2_get_64
        · refine lv_tableIn (tgt := 65) (off := 50) hx hb dX2_get_15 (by decide) (by decide) (by decide) (by decide) ?_
          refine lv_iload_n hx hb dX2_get_65 rfl (lv_at hl 1 rfl) ?_
          refine lv_aload_n hx hb dX2_get_66 rfl (lv_at hl 0 rfl) ?_
          refine g_get (own := RX2) (C := RX2) (T := TX2) (N := 5) (ci := 1) (v := .int (nI wt)) hx hb hts (fun _ h => List.mem_cons_of_mem _ (List.mem_append_right _ h)) hown hB 0 rfl rfl 4 (by decide) (hts (.fieldLink RX2 29 "PointReports$Events" "waiting" "I") (by decide +kernel)) rfl rfl dX2_get_67 ?_
          refine lv_icmp_ge (tgt := 77) hx hb dX2_get_70 (by decide) (fun c_3 => ?_) (fun c_3 => ?_)
          · have c_3 : wt ≤ k := (nI_leI (a := wt) (b := k) (by omega) (by omega)).mp c_3
            refine lv_iconst (v := nI 0) hx hb dX2_get_77 (by decide) ?_
            exact g_iret (Wd := eW G ev po va ti) (v := nI 0) (nI E.length, nI wt, fp, fv, ft) hB hx hb hr hlocks rfl ⟨by show nI 0 = if k < wt then nI 1 else nI 0; rw [if_neg (by omega)], rfl⟩ dX2_get_78
          · have c_3 : ¬ wt ≤ k := fun h9 => c_3 ((nI_leI (a := wt) (b := k) (by omega) (by omega)).mpr h9)
            refine lv_iconst (v := nI 1) hx hb dX2_get_73 (by decide) ?_
            refine lv_goto (tgt := 78) hx hb dX2_get_74 (by decide) ?_
            exact g_iret (Wd := eW G ev po va ti) (v := nI 1) (nI E.length, nI wt, fp, fv, ft) hB hx hb hr hlocks rfl ⟨by show nI 1 = if k < wt then nI 1 else nI 0; rw [if_pos (by omega)], rfl⟩ dX2_get_78
    · have c_2 := c_2
      refine lv_iconst (v := (-1)) hx hb dX2_get_12 (by decide) ?_
      exact g_iret (Wd := eW G ev po va ti) (v := (-1)) (nI E.length, nI wt, fp, fv, ft) hB hx hb hr hlocks rfl ⟨by rw [if_pos (Or.inr (Int32.not_lt.mp c_2))], rfl⟩ dX2_get_13
