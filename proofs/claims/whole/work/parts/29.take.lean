theorem spStation_le (a : aS) (rd : List Nat) : (spStation a rd).2 ≤ 1 := by
  unfold spStation
  split
  · exact Nat.zero_le _
  · split
    · exact Nat.le_refl _
    · split
      · exact Nat.le_refl _
      · exact Nat.zero_le _
theorem spMaster_le (a : aS) (rd : List Nat) : (spMaster a rd).2 ≤ 1 := by
  unfold spMaster
  split
  · exact Nat.le_refl _
  · exact Nat.zero_le _
/-- a fragment is dropped, if it was not taken -/
def spDrop (q : aS × Nat) : aS × Nat := (if q.2 = 0 then (va_up q.1.1 29 (q.1.1 29 + 1), q.1.2) else q.1, q.2)
/-- a fragment comes to a side -/
noncomputable def spTake (a : aS) (rd : List Nat) (sd : Nat) : aS × Nat := spDrop (if 2 ≤ rd.length ∧ (rd.getD 0 0 &&& 192) = 192 then (if sd = 1 then spStation a rd else spMaster a rd) else (a, 0))
def plF (bs : List Int32) : List Nat := (List.range (nF bs - 1)).map (fun k => crF bs (1 + k))
theorem plF_len (bs : List Int32) : (plF bs).length = nF bs - 1 := by unfold plF; rw [List.length_map, List.length_range]
def spRcv (a : aS) (sd : Nat) (l : List Nat) (head : Nat) : aS := (va_up (va_up a.1 (102 + sd) (head &&& 63)) (104 + sd) (if (head &&& 128) = 0 then 1 else 0), a.2.1, a.2.2.1, a.2.2.2.1, a.2.2.2.2.1, a.2.2.2.2.2.1, va_up a.2.2.2.2.2.2 sd l)
noncomputable def spGot (a : aS) (sd : Nat) (bs : List Int32) (old : List Nat) : aS := if (crF bs 0 &&& 128) = 0 then spRcv a sd (old ++ plF bs) (crF bs 0) else (spTake (spRcv a sd (old ++ plF bs) (crF bs 0)) (old ++ plF bs) sd).1
/-- a frame with the bytes bs comes to the side sd -/
noncomputable def spArr (a : aS) (sd : Nat) (bs : List Int32) : aS := @ite _ (okF sd bs) (Classical.propDecidable _) (if (crF bs 0 &&& 64) ≠ 0 then spGot a sd bs [] else if a.1 (104 + sd) ≠ 0 ∧ (crF bs 0 &&& 63) = (a.1 (102 + sd) + 1) % 64 ∧ (a.2.2.2.2.2.2 sd).length + (nF bs - 1) ≤ 400 then spGot a sd bs (a.2.2.2.2.2.2 sd) else (va_up a.1 (104 + sd) 0, a.2)) (va_up a.1 28 (a.1 28 + 1), a.2)
def spLine (a : aS) (L : List (Int32 × List Int32)) : aS := (a.1, a.2.1, a.2.2.1, a.2.2.2.1, L, a.2.2.2.2.2.1, a.2.2.2.2.2.2)
theorem rRep_mono {b b2 : Nat} {u : rSt} {a : aS} (h : rRep b u a) (hb : b ≤ b2) : rRep b2 u a := by
  obtain ⟨n0, n9, n10, n11, n12, n13, n14, n15, n16, n19, n20, n23, n25, n26, n27, n28, n29, f1, f2, f3, f21, f22, f24, rE, rW, rl1, rl2, rl3, rq0, rq1, rq2, rq3, ro1, ro2, ro3, rg1, rg2, rg3, rg4, rh4, rg5, rh5, rg6, rh6, rg7, rh7, rc1, rc2, rc3, rz1, rz2, rz3, rz4, rk, rV, rY, rA, rb⟩ := h
  exact ⟨n0, n9, n10, n11, n12, n13, n14, n15, n16, n19, n20, n23, n25, n26, n27, n28, n29, f1, f2, f3, f21, f22, f24, rE, rW, rl1, rl2, rl3, rq0, rq1, rq2, rq3, ro1, ro2, ro3, rg1, rg2, rg3, rg4, rh4, rg5, rh5, rg6, rh6, rg7, rh7, rc1, rc2, rc3, rz1, rz2, rz3, rz4, rk, rV, rY, rA, (fun k => Nat.le_trans (rb k) hb)⟩
theorem okF_n {sd : Nat} {bs : List Int32} (h : okF sd bs) : 2 ≤ nF bs ∧ nF bs ≤ 21 ∧ bs.length = 10 + nF bs + 2 * ((nF bs + 15) / 16) := by
  obtain ⟨-, -, h1, h2, -, -, -, -, -, h3, -⟩ := h
  refine ⟨by unfold nF; omega, by unfold nF; omega, h3⟩
theorem crF_lt {sd : Nat} {bs : List Int32} (h : okF sd bs) (hB : ∀ x ∈ bs, isB x) {j : Nat} (hj : j < nF bs) : crF bs j < 256 := by
  obtain ⟨h1, h2, h3⟩ := okF_n h
  unfold crF
  split
  · exact (bq_at hB (by omega)).2
  · exact (bq_at hB (by omega)).2
theorem lnR_erase_ok {L : List (Int32 × List Int32)} {i : Nat} (h : lnOk L) : lnOk (L.eraseIdx i) := fun q hq => h q (List.mem_of_mem_eraseIdx hq)
theorem getD_app {l1 l2 : List Nat} {j : Nat} : (l1 ++ l2).getD j 0 = if j < l1.length then l1.getD j 0 else l2.getD (j - l1.length) 0 := by
  split
  · rename_i h; rw [List.getD_eq_getElem?_getD, List.getD_eq_getElem?_getD, List.getElem?_append_left h]
  · rename_i h; rw [List.getD_eq_getElem?_getD, List.getD_eq_getElem?_getD, List.getElem?_append_right (by omega)]
theorem plF_at {bs : List Int32} {k : Nat} (h : k < nF bs - 1) : (plF bs).getD k 0 = crF bs (1 + k) := by
  unfold plF
  rw [List.getD_eq_getElem?_getD, List.getElem?_map, List.getElem?_range h]
  rfl
set_option maxRecDepth 100000 in
set_option maxHeartbeats 4000000 in
/-- take(side) -/
theorem c_take (l : Launch) (G : rG) (sc : Nat → Int32) (ar : Nat → Nat → Int32) (b : Nat) (hb9 : b ≤ 1000000) (a : aS) (hr0 : rRep b (sc, ar) a) (rd : List Nat) (hrd : pfxN (ar 41) rd) (h42 : sc 42 = nI rd.length) (hr4 : rd.length ≤ 400) (sd : Nat) (hsd : sd ≤ 1) : gM l G.1 (rT G) yX12_take wsX12_take ({ frames := 6, cells := 0, slots := 0, locals := 142 }) [.ref G.2.1, .int (nI sd)] (rWs G (sc, ar)) (gQi G.1 (rT G) (fun (r : Int32) (u : rSt) => r = nI (spTake a rd sd).2 ∧ rRep (b + 401) u (spTake a rd sd).1) (rWs G)) 0 0 := by
  refine gM.of (cc := cX12_take) (maxL := 3) (ret := (some .boolean)) (by decide) rfl (Nat.le_of_ble_eq_true rfl) ?_
  intro p e s m below meth c A ls hx hb hr hml hown hts hlocks hnm hB hl
  have hin : ∀ w ∈ wsX120, w ∈ wsX12_take := fun w h => List.mem_cons_of_mem _ (List.mem_append_right _ h)
  have hl : lv_has ls 3 [(0, .ref G.2.1), (1, .int (nI sd))] := hl
  have hr400 : rRep (b + 400) (sc, ar) a := rRep_mono hr0 (by omega)
  refine lv_aload_n hx hb dX12_take_0 rfl (lv_at hl 0 rfl) ?_
  refine r_get (u := (sc, ar)) (v := .int (sc 42)) hx hb hts hin hown hB 42 (by decide) (hts (.fieldLink RX12 127 "PointReportsModel" "readLength" "I") (by decide +kernel)) rfl rfl dX12_take_1 ?_
  refine g_top (y := nI rd.length) h42 ?_
  refine lv_iconst (v := nI 2) hx hb dX12_take_4 (by decide) ?_
  refine lv_icmp_lt (tgt := 50) hx hb dX12_take_5 (by decide) (fun c_1 => ?_) (fun c_1 => ?_)
  · have c_1 : rd.length < 2 := (nI_ltI (a := rd.length) (b := 2) (by omega) (by omega)).mp c_1
    have hs0 : spTake a rd sd = ((va_up a.1 29 (a.1 29 + 1), a.2), 0) := by rw [spTake, if_neg (fun z => by have := z.1; omega)]; rfl
    obtain ⟨n0, n9, n10, n11, n12, n13, n14, n15, n16, n19, n20, n23, n25, n26, n27, n28, n29, f1, f2, f3, f21, f22, f24, rE, rW, rl1, rl2, rl3, rq0, rq1, rq2, rq3, ro1, ro2, ro3, rg1, rg2, rg3, rg4, rh4, rg5, rh5, rg6, rh6, rg7, rh7, rc1, rc2, rc3, rz1, rz2, rz3, rz4, rk, rV, rY, rA, rb⟩ := id hr400
    have n29 : sc 29 = nI (a.1 29) := n29
    have b29 := rb 29
    refine lv_iconst (v := nI 0) hx hb dX12_take_50 (by decide) ?_
    refine lv_istore_n (lv' := [(2, .int (nI 0)), (0, .ref G.2.1), (1, .int (nI sd))]) hx hb dX12_take_51 rfl hl (by decide) rfl (fun ls hl => ?_)
    refine lv_aload_n hx hb dX12_take_52 rfl (lv_at hl 1 rfl) ?_
    refine lv_dup hx hb dX12_take_53 rfl ?_
    refine r_get (u := (sc, ar)) (v := .int (sc 29)) hx hb hts hin hown hB 29 (by decide) (hts (.fieldLink RX12 141 "PointReportsModel" "fragmentsDropped" "I") (by decide +kernel)) rfl rfl dX12_take_54 ?_
    refine g_top (y := nI (a.1 29)) n29 ?_
    refine lv_iload_n hx hb dX12_take_57 rfl (lv_at hl 0 rfl) ?_
    refine lv_if_eq (tgt := 65) hx hb dX12_take_58 (by decide) (fun c_2 => ?_) (fun c_2 => ?_)
    · have c_2 : 0 = 0 := (nI_eq (a := 0) (b := 0) (by omega) (by omega)).mp c_2
      refine lv_iconst (v := nI 1) hx hb dX12_take_65 (by decide) ?_
      refine lv_iadd hx hb dX12_take_66 ?_
      refine g_top (y := nI ((a.1 29) + 1)) (nI_add _ _) ?_
      refine r_put (u := (sc, ar)) (v := nI ((a.1 29) + 1)) (upd sc 29 (nI ((a.1 29) + 1))) hx hb hts hin hown hB 29 (by decide) (hts (.fieldLink RX12 141 "PointReportsModel" "fragmentsDropped" "I") (by decide +kernel)) rfl (ty := .int) rfl rfl rfl rfl rfl dX12_take_67 (fun H locs hB => ?_)
      refine lv_iload_n hx hb dX12_take_70 rfl (lv_at hl 0 rfl) ?_
      exact g_zret (Wd := rWs G) (v := nI 0) (upd sc 29 (nI ((a.1 29) + 1)), ar) hB hx hb hr hlocks rfl (narrow_z (Or.inl rfl)) ⟨by rw [hs0], by rw [hs0]; exact ⟨n0, n9, n10, n11, n12, n13, n14, n15, n16, n19, n20, n23, n25, n26, n27, n28, rfl, f1, f2, f3, f21, f22, f24, rE, rW, rl1, rl2, rl3, rq0, rq1, rq2, rq3, ro1, ro2, ro3, rg1, rg2, rg3, rg4, rh4, rg5, rh5, rg6, rh6, rg7, rh7, rc1, rc2, rc3, rz1, rz2, rz3, rz4, rk, rV, rY, rA, (va_up_le rb (Nat.le_succ _) (show a.1 29 + 1 ≤ b + 401 by omega))⟩⟩ dX12_take_71
    · have c_2 : ¬ 0 = 0 := fun h9 => c_2 ((nI_eq (a := 0) (b := 0) (by omega) (by omega)).mpr h9)
      exact absurd rfl c_2
  · have c_1 : ¬ rd.length < 2 := fun h9 => c_1 ((nI_ltI (a := rd.length) (b := 2) (by omega) (by omega)).mpr h9)
    refine lv_aload_n hx hb dX12_take_8 rfl (lv_at hl 0 rfl) ?_
    refine r_get (u := (sc, ar)) (v := .ref (G.2.2.1 41)) hx hb hts hin hown hB 41 (by decide) (hts (.fieldLink RX12 78 "PointReportsModel" "read" "[I") (by decide +kernel)) rfl rfl dX12_take_9 ?_
    refine lv_iconst (v := nI 0) hx hb dX12_take_12 (by decide) ?_
    refine r_ald (u := (sc, ar)) (f := ar 41) hx hb hB 22 rfl 0 rfl (by omega) (by decide) dX12_take_13 ?_
    have q14 := hrd (0) (by omega)
    refine g_top (y := nI (rd.getD (0) 0)) q14.1 ?_
    have q14 := q14.2
    refine lv_sipush (v := nI 192) hx hb dX12_take_14 (by decide) ?_
    refine lv_iand hx hb dX12_take_17 ?_
    refine g_top (y := nI (rd.getD 0 0 &&& 192)) (nx_and _ _) ?_
    have l192 := and_lt (rd.getD 0 0) 192
    refine lv_sipush (v := nI 192) hx hb dX12_take_18 (by decide) ?_
    refine lv_icmp_ne (tgt := 50) hx hb dX12_take_21 (by decide) (fun c_3 => ?_) (fun c_3 => ?_)
    · have c_3 : ¬ (rd.getD 0 0 &&& 192) = 192 := fun h9 => c_3 ((nI_eq (a := (rd.getD 0 0 &&& 192)) (b := 192) (by omega) (by omega)).mpr h9)
      have hs0 : spTake a rd sd = ((va_up a.1 29 (a.1 29 + 1), a.2), 0) := by rw [spTake, if_neg (fun z => c_3 z.2)]; rfl
      obtain ⟨n0, n9, n10, n11, n12, n13, n14, n15, n16, n19, n20, n23, n25, n26, n27, n28, n29, f1, f2, f3, f21, f22, f24, rE, rW, rl1, rl2, rl3, rq0, rq1, rq2, rq3, ro1, ro2, ro3, rg1, rg2, rg3, rg4, rh4, rg5, rh5, rg6, rh6, rg7, rh7, rc1, rc2, rc3, rz1, rz2, rz3, rz4, rk, rV, rY, rA, rb⟩ := id hr400
      have n29 : sc 29 = nI (a.1 29) := n29
      have b29 := rb 29
      refine lv_iconst (v := nI 0) hx hb dX12_take_50 (by decide) ?_
      refine lv_istore_n (lv' := [(2, .int (nI 0)), (0, .ref G.2.1), (1, .int (nI sd))]) hx hb dX12_take_51 rfl hl (by decide) rfl (fun ls hl => ?_)
      refine lv_aload_n hx hb dX12_take_52 rfl (lv_at hl 1 rfl) ?_
      refine lv_dup hx hb dX12_take_53 rfl ?_
      refine r_get (u := (sc, ar)) (v := .int (sc 29)) hx hb hts hin hown hB 29 (by decide) (hts (.fieldLink RX12 141 "PointReportsModel" "fragmentsDropped" "I") (by decide +kernel)) rfl rfl dX12_take_54 ?_
      refine g_top (y := nI (a.1 29)) n29 ?_
      refine lv_iload_n hx hb dX12_take_57 rfl (lv_at hl 0 rfl) ?_
      refine lv_if_eq (tgt := 65) hx hb dX12_take_58 (by decide) (fun c_4 => ?_) (fun c_4 => ?_)
      · have c_4 : 0 = 0 := (nI_eq (a := 0) (b := 0) (by omega) (by omega)).mp c_4
        refine lv_iconst (v := nI 1) hx hb dX12_take_65 (by decide) ?_
        refine lv_iadd hx hb dX12_take_66 ?_
        refine g_top (y := nI ((a.1 29) + 1)) (nI_add _ _) ?_
        refine r_put (u := (sc, ar)) (v := nI ((a.1 29) + 1)) (upd sc 29 (nI ((a.1 29) + 1))) hx hb hts hin hown hB 29 (by decide) (hts (.fieldLink RX12 141 "PointReportsModel" "fragmentsDropped" "I") (by decide +kernel)) rfl (ty := .int) rfl rfl rfl rfl rfl dX12_take_67 (fun H locs hB => ?_)
        refine lv_iload_n hx hb dX12_take_70 rfl (lv_at hl 0 rfl) ?_
        exact g_zret (Wd := rWs G) (v := nI 0) (upd sc 29 (nI ((a.1 29) + 1)), ar) hB hx hb hr hlocks rfl (narrow_z (Or.inl rfl)) ⟨by rw [hs0], by rw [hs0]; exact ⟨n0, n9, n10, n11, n12, n13, n14, n15, n16, n19, n20, n23, n25, n26, n27, n28, rfl, f1, f2, f3, f21, f22, f24, rE, rW, rl1, rl2, rl3, rq0, rq1, rq2, rq3, ro1, ro2, ro3, rg1, rg2, rg3, rg4, rh4, rg5, rh5, rg6, rh6, rg7, rh7, rc1, rc2, rc3, rz1, rz2, rz3, rz4, rk, rV, rY, rA, (va_up_le rb (Nat.le_succ _) (show a.1 29 + 1 ≤ b + 401 by omega))⟩⟩ dX12_take_71
      · have c_4 : ¬ 0 = 0 := fun h9 => c_4 ((nI_eq (a := 0) (b := 0) (by omega) (by omega)).mpr h9)
        exact absurd rfl c_4
    · have c_3 : (rd.getD 0 0 &&& 192) = 192 := (nI_eq (a := (rd.getD 0 0 &&& 192)) (b := 192) (by omega) (by omega)).mp c_3
      refine lv_iload_n hx hb dX12_take_24 rfl (lv_at hl 1 rfl) ?_
      refine lv_iconst (v := nI 1) hx hb dX12_take_25 (by decide) ?_
      refine lv_icmp_ne (tgt := 39) hx hb dX12_take_26 (by decide) (fun c_5 => ?_) (fun c_5 => ?_)
      · have c_5 : ¬ sd = 1 := fun h9 => c_5 ((nI_eq (a := sd) (b := 1) (by omega) (by omega)).mpr h9)
        refine lv_aload_n hx hb dX12_take_39 rfl (lv_at hl 0 rfl) ?_
        refine g_calli (av := []) (rest := []) ⟨hx, hb, hml, hown, hts⟩ (c_masterTakes l G sc ar b hb9 a hr0 rd hrd h42 hr4 (by omega)) (cwV 0 hts gX12_take_X12_masterTakes rfl rfl rfl (by decide +kernel) ⟨Nat.le_of_ble_eq_true rfl, Nat.le_of_ble_eq_true rfl⟩) hB (q0 := 0) (ci := 9) rfl rfl rfl rfl hl.1 rfl (Nat.le_of_ble_eq_true rfl) dX12_take_40 ⟨Nat.le_of_ble_eq_true rfl, Nat.le_of_ble_eq_true rfl⟩ (fun r9 u H locs hw hB => ?_)
        obtain ⟨sc2, ar2⟩ := u
        obtain ⟨er, hr2⟩ := hw
        have hB : gB G.1 (rT G) A s H locs (rWs G (sc2, ar2)) := hB
        have lq := spMaster_le a rd
        refine g_top (y := nI (spMaster a rd).2) er ?_
        refine lv_if_eq (tgt := 50) hx hb dX12_take_43 (by decide) (fun c_6 => ?_) (fun c_6 => ?_)
        · have c_6 : ((spMaster a rd).2) = 0 := (nI_eq (a := ((spMaster a rd).2)) (b := 0) (by omega) (by omega)).mp c_6
          have eq9 : spMaster a rd = ((spMaster a rd).1, 0) := by rw [← c_6]
          have hs0 : spTake a rd sd = ((va_up (spMaster a rd).1.1 29 ((spMaster a rd).1.1 29 + 1), (spMaster a rd).1.2), 0) := by rw [spTake, if_pos ⟨by omega, c_3⟩, if_neg c_5, eq9]; rfl
          obtain ⟨n0, n9, n10, n11, n12, n13, n14, n15, n16, n19, n20, n23, n25, n26, n27, n28, n29, f1, f2, f3, f21, f22, f24, rE, rW, rl1, rl2, rl3, rq0, rq1, rq2, rq3, ro1, ro2, ro3, rg1, rg2, rg3, rg4, rh4, rg5, rh5, rg6, rh6, rg7, rh7, rc1, rc2, rc3, rz1, rz2, rz3, rz4, rk, rV, rY, rA, rb⟩ := id hr2
          have n29 : sc2 29 = nI ((spMaster a rd).1.1 29) := n29
          have b29 := rb 29
          refine lv_iconst (v := nI 0) hx hb dX12_take_50 (by decide) ?_
          refine lv_istore_n (lv' := [(2, .int (nI 0)), (0, .ref G.2.1), (1, .int (nI sd))]) hx hb dX12_take_51 rfl hl (by decide) rfl (fun ls hl => ?_)
          refine lv_aload_n hx hb dX12_take_52 rfl (lv_at hl 1 rfl) ?_
          refine lv_dup hx hb dX12_take_53 rfl ?_
          refine r_get (u := (sc2, ar2)) (v := .int (sc2 29)) hx hb hts hin hown hB 29 (by decide) (hts (.fieldLink RX12 141 "PointReportsModel" "fragmentsDropped" "I") (by decide +kernel)) rfl rfl dX12_take_54 ?_
          refine g_top (y := nI ((spMaster a rd).1.1 29)) n29 ?_
          refine lv_iload_n hx hb dX12_take_57 rfl (lv_at hl 0 rfl) ?_
          refine lv_if_eq (tgt := 65) hx hb dX12_take_58 (by decide) (fun c_7 => ?_) (fun c_7 => ?_)
          · have c_7 : 0 = 0 := (nI_eq (a := 0) (b := 0) (by omega) (by omega)).mp c_7
            refine lv_iconst (v := nI 1) hx hb dX12_take_65 (by decide) ?_
            refine lv_iadd hx hb dX12_take_66 ?_
            refine g_top (y := nI (((spMaster a rd).1.1 29) + 1)) (nI_add _ _) ?_
            refine r_put (u := (sc2, ar2)) (v := nI (((spMaster a rd).1.1 29) + 1)) (upd sc2 29 (nI (((spMaster a rd).1.1 29) + 1))) hx hb hts hin hown hB 29 (by decide) (hts (.fieldLink RX12 141 "PointReportsModel" "fragmentsDropped" "I") (by decide +kernel)) rfl (ty := .int) rfl rfl rfl rfl rfl dX12_take_67 (fun H locs hB => ?_)
            refine lv_iload_n hx hb dX12_take_70 rfl (lv_at hl 0 rfl) ?_
            exact g_zret (Wd := rWs G) (v := nI 0) (upd sc2 29 (nI (((spMaster a rd).1.1 29) + 1)), ar2) hB hx hb hr hlocks rfl (narrow_z (Or.inl rfl)) ⟨by rw [hs0], by rw [hs0]; exact ⟨n0, n9, n10, n11, n12, n13, n14, n15, n16, n19, n20, n23, n25, n26, n27, n28, rfl, f1, f2, f3, f21, f22, f24, rE, rW, rl1, rl2, rl3, rq0, rq1, rq2, rq3, ro1, ro2, ro3, rg1, rg2, rg3, rg4, rh4, rg5, rh5, rg6, rh6, rg7, rh7, rc1, rc2, rc3, rz1, rz2, rz3, rz4, rk, rV, rY, rA, (va_up_le rb (Nat.le_succ _) (show (spMaster a rd).1.1 29 + 1 ≤ b + 401 by omega))⟩⟩ dX12_take_71
          · have c_7 : ¬ 0 = 0 := fun h9 => c_7 ((nI_eq (a := 0) (b := 0) (by omega) (by omega)).mpr h9)
            exact absurd rfl c_7
        · have c_6 : ¬ ((spMaster a rd).2) = 0 := fun h9 => c_6 ((nI_eq (a := ((spMaster a rd).2)) (b := 0) (by omega) (by omega)).mpr h9)
          have e1 : (spMaster a rd).2 = 1 := by omega
          have hs0 : spTake a rd sd = ((spMaster a rd).1, 1) := by rw [spTake, if_pos ⟨by omega, c_3⟩, if_neg c_5, spDrop, if_neg (by omega), e1]
          refine lv_iconst (v := nI 1) hx hb dX12_take_46 (by decide) ?_
          refine lv_goto (tgt := 51) hx hb dX12_take_47 (by decide) ?_
          refine lv_istore_n (lv' := [(2, .int (nI 1)), (0, .ref G.2.1), (1, .int (nI sd))]) hx hb dX12_take_51 rfl hl (by decide) rfl (fun ls hl => ?_)
          refine lv_aload_n hx hb dX12_take_52 rfl (lv_at hl 1 rfl) ?_
          refine lv_dup hx hb dX12_take_53 rfl ?_
          refine r_get (u := (sc2, ar2)) (v := .int (sc2 29)) hx hb hts hin hown hB 29 (by decide) (hts (.fieldLink RX12 141 "PointReportsModel" "fragmentsDropped" "I") (by decide +kernel)) rfl rfl dX12_take_54 ?_
          refine lv_iload_n hx hb dX12_take_57 rfl (lv_at hl 0 rfl) ?_
          refine lv_if_eq (tgt := 65) hx hb dX12_take_58 (by decide) (fun c_8 => ?_) (fun c_8 => ?_)
          · have c_8 : 1 = 0 := (nI_eq (a := 1) (b := 0) (by omega) (by omega)).mp c_8
            exact absurd c_8 (by decide)
          · have c_8 : ¬ 1 = 0 := fun h9 => c_8 ((nI_eq (a := 1) (b := 0) (by omega) (by omega)).mpr h9)
            obtain ⟨n0, n9, n10, n11, n12, n13, n14, n15, n16, n19, n20, n23, n25, n26, n27, n28, n29, f1, f2, f3, f21, f22, f24, rE, rW, rl1, rl2, rl3, rq0, rq1, rq2, rq3, ro1, ro2, ro3, rg1, rg2, rg3, rg4, rh4, rg5, rh5, rg6, rh6, rg7, rh7, rc1, rc2, rc3, rz1, rz2, rz3, rz4, rk, rV, rY, rA, rb⟩ := id hr2
            have n29 : sc2 29 = nI ((spMaster a rd).1.1 29) := n29
            refine lv_iconst (v := nI 0) hx hb dX12_take_61 (by decide) ?_
            refine lv_goto (tgt := 66) hx hb dX12_take_62 (by decide) ?_
            refine lv_iadd hx hb dX12_take_66 ?_
            refine r_put (u := (sc2, ar2)) (v := (sc2 29) + (nI 0)) (upd sc2 29 ((sc2 29) + (nI 0))) hx hb hts hin hown hB 29 (by decide) (hts (.fieldLink RX12 141 "PointReportsModel" "fragmentsDropped" "I") (by decide +kernel)) rfl (ty := .int) rfl rfl rfl rfl rfl dX12_take_67 (fun H locs hB => ?_)
            refine lv_iload_n hx hb dX12_take_70 rfl (lv_at hl 0 rfl) ?_
            exact g_zret (Wd := rWs G) (v := nI 1) (upd sc2 29 ((sc2 29) + (nI 0)), ar2) hB hx hb hr hlocks rfl (narrow_z (Or.inr rfl)) ⟨by rw [hs0], by rw [hs0]; exact ⟨n0, n9, n10, n11, n12, n13, n14, n15, n16, n19, n20, n23, n25, n26, n27, n28, (show sc2 29 + nI 0 = nI ((spMaster a rd).1.1 29) from by rw [n29]; exact nI_add _ 0), f1, f2, f3, f21, f22, f24, rE, rW, rl1, rl2, rl3, rq0, rq1, rq2, rq3, ro1, ro2, ro3, rg1, rg2, rg3, rg4, rh4, rg5, rh5, rg6, rh6, rg7, rh7, rc1, rc2, rc3, rz1, rz2, rz3, rz4, rk, rV, rY, rA, (fun k => Nat.le_succ_of_le (rb k))⟩⟩ dX12_take_71
      · have c_5 : sd = 1 := (nI_eq (a := sd) (b := 1) (by omega) (by omega)).mp c_5
        refine lv_aload_n hx hb dX12_take_29 rfl (lv_at hl 0 rfl) ?_
        refine g_calli (av := []) (rest := []) ⟨hx, hb, hml, hown, hts⟩ (c_stationTakes l G sc ar b hb9 a hr0 rd hrd h42 hr4 (by omega)) (cwV 0 hts gX12_take_X12_stationTakes rfl rfl rfl (by decide +kernel) ⟨Nat.le_of_ble_eq_true rfl, Nat.le_of_ble_eq_true rfl⟩) hB (q0 := 0) (ci := 9) rfl rfl rfl rfl hl.1 rfl (Nat.le_of_ble_eq_true rfl) dX12_take_30 ⟨Nat.le_of_ble_eq_true rfl, Nat.le_of_ble_eq_true rfl⟩ (fun r9 u H locs hw hB => ?_)
        obtain ⟨sc2, ar2⟩ := u
        obtain ⟨er, hr2⟩ := hw
        have hB : gB G.1 (rT G) A s H locs (rWs G (sc2, ar2)) := hB
        have lq := spStation_le a rd
        refine g_top (y := nI (spStation a rd).2) er ?_
        refine lv_if_eq (tgt := 50) hx hb dX12_take_33 (by decide) (fun c_9 => ?_) (fun c_9 => ?_)
        · have c_9 : ((spStation a rd).2) = 0 := (nI_eq (a := ((spStation a rd).2)) (b := 0) (by omega) (by omega)).mp c_9
          have eq9 : spStation a rd = ((spStation a rd).1, 0) := by rw [← c_9]
          have hs0 : spTake a rd sd = ((va_up (spStation a rd).1.1 29 ((spStation a rd).1.1 29 + 1), (spStation a rd).1.2), 0) := by rw [spTake, if_pos ⟨by omega, c_3⟩, if_pos c_5, eq9]; rfl
          obtain ⟨n0, n9, n10, n11, n12, n13, n14, n15, n16, n19, n20, n23, n25, n26, n27, n28, n29, f1, f2, f3, f21, f22, f24, rE, rW, rl1, rl2, rl3, rq0, rq1, rq2, rq3, ro1, ro2, ro3, rg1, rg2, rg3, rg4, rh4, rg5, rh5, rg6, rh6, rg7, rh7, rc1, rc2, rc3, rz1, rz2, rz3, rz4, rk, rV, rY, rA, rb⟩ := id hr2
          have n29 : sc2 29 = nI ((spStation a rd).1.1 29) := n29
          have b29 := rb 29
          refine lv_iconst (v := nI 0) hx hb dX12_take_50 (by decide) ?_
          refine lv_istore_n (lv' := [(2, .int (nI 0)), (0, .ref G.2.1), (1, .int (nI sd))]) hx hb dX12_take_51 rfl hl (by decide) rfl (fun ls hl => ?_)
          refine lv_aload_n hx hb dX12_take_52 rfl (lv_at hl 1 rfl) ?_
          refine lv_dup hx hb dX12_take_53 rfl ?_
          refine r_get (u := (sc2, ar2)) (v := .int (sc2 29)) hx hb hts hin hown hB 29 (by decide) (hts (.fieldLink RX12 141 "PointReportsModel" "fragmentsDropped" "I") (by decide +kernel)) rfl rfl dX12_take_54 ?_
          refine g_top (y := nI ((spStation a rd).1.1 29)) n29 ?_
          refine lv_iload_n hx hb dX12_take_57 rfl (lv_at hl 0 rfl) ?_
          refine lv_if_eq (tgt := 65) hx hb dX12_take_58 (by decide) (fun c_10 => ?_) (fun c_10 => ?_)
          · have c_10 : 0 = 0 := (nI_eq (a := 0) (b := 0) (by omega) (by omega)).mp c_10
            refine lv_iconst (v := nI 1) hx hb dX12_take_65 (by decide) ?_
            refine lv_iadd hx hb dX12_take_66 ?_
            refine g_top (y := nI (((spStation a rd).1.1 29) + 1)) (nI_add _ _) ?_
            refine r_put (u := (sc2, ar2)) (v := nI (((spStation a rd).1.1 29) + 1)) (upd sc2 29 (nI (((spStation a rd).1.1 29) + 1))) hx hb hts hin hown hB 29 (by decide) (hts (.fieldLink RX12 141 "PointReportsModel" "fragmentsDropped" "I") (by decide +kernel)) rfl (ty := .int) rfl rfl rfl rfl rfl dX12_take_67 (fun H locs hB => ?_)
            refine lv_iload_n hx hb dX12_take_70 rfl (lv_at hl 0 rfl) ?_
            exact g_zret (Wd := rWs G) (v := nI 0) (upd sc2 29 (nI (((spStation a rd).1.1 29) + 1)), ar2) hB hx hb hr hlocks rfl (narrow_z (Or.inl rfl)) ⟨by rw [hs0], by rw [hs0]; exact ⟨n0, n9, n10, n11, n12, n13, n14, n15, n16, n19, n20, n23, n25, n26, n27, n28, rfl, f1, f2, f3, f21, f22, f24, rE, rW, rl1, rl2, rl3, rq0, rq1, rq2, rq3, ro1, ro2, ro3, rg1, rg2, rg3, rg4, rh4, rg5, rh5, rg6, rh6, rg7, rh7, rc1, rc2, rc3, rz1, rz2, rz3, rz4, rk, rV, rY, rA, (va_up_le rb (Nat.le_succ _) (show (spStation a rd).1.1 29 + 1 ≤ b + 401 by omega))⟩⟩ dX12_take_71
          · have c_10 : ¬ 0 = 0 := fun h9 => c_10 ((nI_eq (a := 0) (b := 0) (by omega) (by omega)).mpr h9)
            exact absurd rfl c_10
        · have c_9 : ¬ ((spStation a rd).2) = 0 := fun h9 => c_9 ((nI_eq (a := ((spStation a rd).2)) (b := 0) (by omega) (by omega)).mpr h9)
          have e1 : (spStation a rd).2 = 1 := by omega
          have hs0 : spTake a rd sd = ((spStation a rd).1, 1) := by rw [spTake, if_pos ⟨by omega, c_3⟩, if_pos c_5, spDrop, if_neg (by omega), e1]
          refine lv_goto (tgt := 46) hx hb dX12_take_36 (by decide) ?_
          refine lv_iconst (v := nI 1) hx hb dX12_take_46 (by decide) ?_
          refine lv_goto (tgt := 51) hx hb dX12_take_47 (by decide) ?_
          refine lv_istore_n (lv' := [(2, .int (nI 1)), (0, .ref G.2.1), (1, .int (nI sd))]) hx hb dX12_take_51 rfl hl (by decide) rfl (fun ls hl => ?_)
          refine lv_aload_n hx hb dX12_take_52 rfl (lv_at hl 1 rfl) ?_
          refine lv_dup hx hb dX12_take_53 rfl ?_
          refine r_get (u := (sc2, ar2)) (v := .int (sc2 29)) hx hb hts hin hown hB 29 (by decide) (hts (.fieldLink RX12 141 "PointReportsModel" "fragmentsDropped" "I") (by decide +kernel)) rfl rfl dX12_take_54 ?_
          refine lv_iload_n hx hb dX12_take_57 rfl (lv_at hl 0 rfl) ?_
          refine lv_if_eq (tgt := 65) hx hb dX12_take_58 (by decide) (fun c_11 => ?_) (fun c_11 => ?_)
          · have c_11 : 1 = 0 := (nI_eq (a := 1) (b := 0) (by omega) (by omega)).mp c_11
            exact absurd c_11 (by decide)
          · have c_11 : ¬ 1 = 0 := fun h9 => c_11 ((nI_eq (a := 1) (b := 0) (by omega) (by omega)).mpr h9)
            obtain ⟨n0, n9, n10, n11, n12, n13, n14, n15, n16, n19, n20, n23, n25, n26, n27, n28, n29, f1, f2, f3, f21, f22, f24, rE, rW, rl1, rl2, rl3, rq0, rq1, rq2, rq3, ro1, ro2, ro3, rg1, rg2, rg3, rg4, rh4, rg5, rh5, rg6, rh6, rg7, rh7, rc1, rc2, rc3, rz1, rz2, rz3, rz4, rk, rV, rY, rA, rb⟩ := id hr2
            have n29 : sc2 29 = nI ((spStation a rd).1.1 29) := n29
            refine lv_iconst (v := nI 0) hx hb dX12_take_61 (by decide) ?_
            refine lv_goto (tgt := 66) hx hb dX12_take_62 (by decide) ?_
            refine lv_iadd hx hb dX12_take_66 ?_
            refine r_put (u := (sc2, ar2)) (v := (sc2 29) + (nI 0)) (upd sc2 29 ((sc2 29) + (nI 0))) hx hb hts hin hown hB 29 (by decide) (hts (.fieldLink RX12 141 "PointReportsModel" "fragmentsDropped" "I") (by decide +kernel)) rfl (ty := .int) rfl rfl rfl rfl rfl dX12_take_67 (fun H locs hB => ?_)
            refine lv_iload_n hx hb dX12_take_70 rfl (lv_at hl 0 rfl) ?_
            exact g_zret (Wd := rWs G) (v := nI 1) (upd sc2 29 ((sc2 29) + (nI 0)), ar2) hB hx hb hr hlocks rfl (narrow_z (Or.inr rfl)) ⟨by rw [hs0], by rw [hs0]; exact ⟨n0, n9, n10, n11, n12, n13, n14, n15, n16, n19, n20, n23, n25, n26, n27, n28, (show sc2 29 + nI 0 = nI ((spStation a rd).1.1 29) from by rw [n29]; exact nI_add _ 0), f1, f2, f3, f21, f22, f24, rE, rW, rl1, rl2, rl3, rq0, rq1, rq2, rq3, ro1, ro2, ro3, rg1, rg2, rg3, rg4, rh4, rg5, rh5, rg6, rh6, rg7, rh7, rc1, rc2, rc3, rz1, rz2, rz3, rz4, rk, rV, rY, rA, (fun k => Nat.le_succ_of_le (rb k))⟩⟩ dX12_take_71
