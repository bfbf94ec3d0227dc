/-! PointReports$Receiver -/
theorem carr_eq {bl : List Int32} {k : Nat} (hk : k < 32) : bq bl (10 + k + k / 16 * 2) = crF bl k := by
  unfold crF
  split
  · exact congrArg (bq bl) (by omega)
  · exact congrArg (bq bl) (by omega)
def plM (bl : List Int32) (m : Nat) : List Int32 := (List.range m).map (fun k => nI (crF bl (1 + k)))
theorem plM_s (bl : List Int32) (m : Nat) : plM bl (m + 1) = plM bl m ++ [nI (crF bl (1 + m))] := by
  unfold plM; rw [List.range_succ, List.map_append]; rfl
theorem plM_len (bl : List Int32) (m : Nat) : (plM bl m).length = m := by unfold plM; rw [List.length_map, List.length_range]
abbrev rvS : Type := Nat × Nat × Nat × List Int32
def rcG (v : rvS) (bl : List Int32) (old : List Int32) : rvS × Nat := ((if (crF bl 0 &&& 128) = 0 then 1 else 0, crF bl 0 % 64, v.2.2.1, old ++ plM bl (nF bl - 1)), if (crF bl 0 &&& 128) = 0 then 0 else 1)
/-- what a frame makes of what a side has gathered: open, the last number, the frames dropped, the bytes; and whether a fragment is there -/
noncomputable def rcC (v : rvS) (sd : Nat) (bl : List Int32) : rvS × Nat := @ite _ (okC sd bl) (Classical.propDecidable _) (if (crF bl 0 &&& 64) = 0 then (if v.1 = 1 ∧ crF bl 0 % 64 = (v.2.1 + 1) % 64 ∧ v.2.2.2.length + (nF bl - 1) ≤ 400 then rcG v bl v.2.2.2 else ((0, v.2), 0)) else rcG v bl []) ((v.1, v.2.1, v.2.2.1 + 1, v.2.2.2), 0)
def rvW (G : rG) (ra ga gr : Nat) (u : rvS × (Nat → Int32)) : va_W := [(ra, .inr (5, [.ref ga, .int (nI u.1.1), .int (nI u.1.2.1), .int (nI u.1.2.2.1)])), (ga, .inr (0, [.ref gr, .int (nI u.1.2.2.2.length)])), (gr, .inl (G.2.2.2.1, 400, .inl u.2))]
set_option maxRecDepth 100000 in
set_option maxHeartbeats 1000000 in
/-- Receiver.follows(first, many) -/
theorem k_Receiver_follows (l : Launch) (G : rG) (ra ga gr : Nat) (op la dr : Nat) (hop : op ≤ 1) (hla : la < 64) (gf : Nat → Int32) (gl : List Int32) (hgp : pfx gf gl) (hgl : gl.length ≤ 400) (hgB : ∀ x ∈ gl, isB x) (x mn : Nat) (hx2 : x < 256) (hmn : mn ≤ 400) : gM l G.1 (rT G) yX7_follows wsX7_follows { frames := 1, cells := 0, slots := 0, locals := 21 } [.ref ra, .int (nI x), .int (nI mn)] [(ra, .inr (5, [.ref ga, .int (nI op), .int (nI la), .int (nI dr)])), (ga, .inr (0, [.ref gr, .int (nI gl.length)])), (gr, .inl (G.2.2.2.1, 400, .inl gf))] (gQi G.1 (rT G) (fun (r : Int32) (u : rvS × (Nat → Int32)) => r = nI (if op = 1 ∧ x % 64 = (la + 1) % 64 ∧ gl.length + mn ≤ 400 then 1 else 0) ∧ u = ((op, la, dr, gl), gf)) (rvW G ra ga gr)) 0 0 := by
  refine gM.of (cc := cX7_follows) (maxL := 3) (ret := (some .boolean)) (by decide) rfl (Nat.le_of_ble_eq_true rfl) ?_
  intro p e s m below meth c A ls hx hb hr hml hown hts hlocks hnm hB hl
  have hl : lv_has ls 3 [(0, .ref ra), (1, .int (nI x)), (2, .int (nI mn))] := hl
  refine lv_aload_n hx hb dX7_follows_0 rfl (lv_at hl 0 rfl) ?_
  refine g_get (own := RX7) (C := RX7) (T := TX7) (N := 4) (ci := 5) (v := .int (nI op)) hx hb hts (fun _ h => List.mem_cons_of_mem _ (List.mem_append_left _ (List.mem_append_right _ h))) hown hB 0 rfl rfl 1 (by decide) (hts (.fieldLink RX7 49 "PointReports$Receiver" "open" "Z") (by decide +kernel)) rfl rfl dX7_follows_1 ?_
  refine lv_if_eq (tgt := 36) hx hb dX7_follows_4 (by decide) (fun c_1 => ?_) (fun c_1 => ?_)
  · have c_1 : op = 0 := (nI_eq (a := op) (b := 0) (by omega) (by omega)).mp c_1
    refine lv_iconst (v := nI 0) hx hb dX7_follows_36 (by decide) ?_
    exact g_zret (Wd := rvW G ra ga gr) (v := nI 0) ((op, la, dr, gl), gf) hB hx hb hr hlocks rfl (narrow_z (Or.inl rfl)) ⟨by rw [if_neg (fun z => by have := z.1; omega)], rfl⟩ dX7_follows_37
  · have c_1 : ¬ op = 0 := fun h9 => c_1 ((nI_eq (a := op) (b := 0) (by omega) (by omega)).mpr h9)
    refine lv_iload_n hx hb dX7_follows_7 rfl (lv_at hl 1 rfl) ?_
    refine g_callS0 (av := [.int (nI x)]) (rest := []) ⟨hx, hb, hml, hown, hts⟩ (k_Segment_number l G x hx2) (va_cwS 1 hts gX7_follows_X8_number rfl rfl rfl (by decide +kernel) ⟨Nat.le_of_ble_eq_true rfl, Nat.le_of_ble_eq_true rfl⟩) hB rfl hl.1 rfl (Nat.le_of_ble_eq_true rfl) dX7_follows_8 ⟨Nat.le_of_ble_eq_true rfl, Nat.le_of_ble_eq_true rfl⟩ (fun r9 H locs hw hB => ?_)
    have er := hw
    subst er
    refine lv_aload_n hx hb dX7_follows_11 rfl (lv_at hl 0 rfl) ?_
    refine g_get (own := RX7) (C := RX7) (T := TX7) (N := 4) (ci := 5) (v := .int (nI la)) hx hb hts (fun _ h => List.mem_cons_of_mem _ (List.mem_append_left _ (List.mem_append_right _ h))) hown hB 0 rfl rfl 2 (by decide) (hts (.fieldLink RX7 59 "PointReports$Receiver" "lastNumber" "I") (by decide +kernel)) rfl rfl dX7_follows_12 ?_
    refine g_callS0 (av := [.int (nI la)]) (rest := [.int (nI (x % 64))]) ⟨hx, hb, hml, hown, hts⟩ (k_Segment_after l G la (by omega)) (va_cwS 1 hts gX7_follows_X8_after rfl rfl rfl (by decide +kernel) ⟨Nat.le_of_ble_eq_true rfl, Nat.le_of_ble_eq_true rfl⟩) hB rfl hl.1 rfl (Nat.le_of_ble_eq_true rfl) dX7_follows_15 ⟨Nat.le_of_ble_eq_true rfl, Nat.le_of_ble_eq_true rfl⟩ (fun r9 H locs hw hB => ?_)
    have er := hw
    subst er
    refine lv_icmp_ne (tgt := 36) hx hb dX7_follows_18 (by decide) (fun c_2 => ?_) (fun c_2 => ?_)
    · have c_2 : ¬ (x % 64) = ((la + 1) % 64) := fun h9 => c_2 ((nI_eq (a := (x % 64)) (b := ((la + 1) % 64)) (by omega) (by omega)).mpr h9)
      refine lv_iconst (v := nI 0) hx hb dX7_follows_36 (by decide) ?_
      exact g_zret (Wd := rvW G ra ga gr) (v := nI 0) ((op, la, dr, gl), gf) hB hx hb hr hlocks rfl (narrow_z (Or.inl rfl)) ⟨by rw [if_neg (fun z => c_2 z.2.1)], rfl⟩ dX7_follows_37
    · have c_2 : (x % 64) = ((la + 1) % 64) := (nI_eq (a := (x % 64)) (b := ((la + 1) % 64)) (by omega) (by omega)).mp c_2
      refine lv_aload_n hx hb dX7_follows_21 rfl (lv_at hl 0 rfl) ?_
      refine g_get (own := RX7) (C := RX7) (T := TX7) (N := 4) (ci := 5) (v := .ref ga) hx hb hts (fun _ h => List.mem_cons_of_mem _ (List.mem_append_left _ (List.mem_append_right _ h))) hown hB 0 rfl rfl 0 (by decide) (hts (.fieldLink RX7 14 "PointReports$Receiver" "fragment" "LPointReports$Bytes;") (by decide +kernel)) rfl rfl dX7_follows_22 ?_
      refine lv_iload_n hx hb dX7_follows_25 rfl (lv_at hl 2 rfl) ?_
      refine g_calliA (wr := [(ra, .inr (5, [.ref ga, .int (nI op), .int (nI la), .int (nI dr)]))]) (wc := [(ga, .inr (0, [.ref gr, .int (nI gl.length)])), (gr, .inl (G.2.2.2.1, 400, .inl gf))]) (av := [.int (nI mn)]) (rest := []) ⟨hx, hb, hml, hown, hts⟩ (k_Bytes_hasRoomFor l G ga gr 400 gf gl hgp hgl (by decide) mn (by omega)) (cwV 1 hts gX7_follows_X1_hasRoomFor rfl rfl rfl (by decide +kernel) ⟨Nat.le_of_ble_eq_true rfl, Nat.le_of_ble_eq_true rfl⟩) hB (q0 := 0) (ci := 0) rfl rfl rfl rfl hl.1 rfl (Nat.le_of_ble_eq_true rfl) dX7_follows_26 ⟨Nat.le_of_ble_eq_true rfl, Nat.le_of_ble_eq_true rfl⟩ (fun r9 u H locs hw hB => ?_)
      obtain ⟨er, rfl⟩ := hw
      have hB : gB G.1 (rT G) A s H locs [(ra, .inr (5, [.ref ga, .int (nI op), .int (nI la), .int (nI dr)])), (ga, .inr (0, [.ref gr, .int (nI gl.length)])), (gr, .inl (G.2.2.2.1, 400, .inl gf))] := hB
      refine lv_if_eq (tgt := 36) hx hb dX7_follows_29 (by decide) (fun c_3 => ?_) (fun c_3 => ?_)
      · have c_3 := c_3
        have hno : ¬ gl.length + mn ≤ 400 := fun z => by rw [if_pos z] at er; exact absurd (er.symm.trans c_3) (by decide)
        refine lv_iconst (v := nI 0) hx hb dX7_follows_36 (by decide) ?_
        exact g_zret (Wd := rvW G ra ga gr) (v := nI 0) ((op, la, dr, gl), gf) hB hx hb hr hlocks rfl (narrow_z (Or.inl rfl)) ⟨by rw [if_neg (fun z => hno z.2.2)], rfl⟩ dX7_follows_37
      · have c_3 := c_3
        have hyes : gl.length + mn ≤ 400 := Classical.byContradiction (fun z => by rw [if_neg z] at er; exact c_3 er)
        refine lv_iconst (v := nI 1) hx hb dX7_follows_32 (by decide) ?_
        refine lv_goto (tgt := 37) hx hb dX7_follows_33 (by decide) ?_
        exact g_zret (Wd := rvW G ra ga gr) (v := nI 1) ((op, la, dr, gl), gf) hB hx hb hr hlocks rfl (narrow_z (Or.inr rfl)) ⟨by rw [if_pos ⟨by omega, c_2, hyes⟩], rfl⟩ dX7_follows_37
set_option maxRecDepth 100000 in
set_option maxHeartbeats 1000000 in
/-- Receiver.completes(frame) -/
theorem k_Receiver_completes (l : Launch) (G : rG) (ra ga gr : Nat) (op la dr : Nat) (hop : op ≤ 1) (hla : la < 64) (gf : Nat → Int32) (gl : List Int32) (hgp : pfx gf gl) (hgl : gl.length ≤ 400) (hgB : ∀ x ∈ gl, isB x) (xa xb xr sd : Nat) (hsd : sd ≤ 1) (xf : Nat → Int32) (bl : List Int32) (hp : pfx xf bl) (hle : bl.length ≤ 35) (hB9 : ∀ x ∈ bl, isB x) (h13 : 13 ≤ bl.length) : gM l G.1 (rT G) yX7_completes wsX7_completes { frames := 4, cells := 0, slots := 0, locals := 89 } [.ref ra, .ref xa] [(ra, .inr (5, [.ref ga, .int (nI op), .int (nI la), .int (nI dr)])), (ga, .inr (0, [.ref gr, .int (nI gl.length)])), (gr, .inl (G.2.2.2.1, 400, .inl gf)), (xa, .inr (2, [.ref xb, .int (nI (sd + 1))])), (xb, .inr (0, [.ref xr, .int (nI bl.length)])), (xr, .inl (G.2.2.2.1, 35, .inl xf))] (gQi G.1 (rT G) (fun (r : Int32) (u : rvS × (Nat → Int32)) => ∃ f2, pfx f2 (rcC (op, la, dr, gl) sd bl).1.2.2.2 ∧ (rcC (op, la, dr, gl) sd bl).1.2.2.2.length ≤ 400 ∧ (∀ x ∈ (rcC (op, la, dr, gl) sd bl).1.2.2.2, isB x) ∧ r = nI (rcC (op, la, dr, gl) sd bl).2 ∧ u = ((rcC (op, la, dr, gl) sd bl).1, f2)) (fun u => rvW G ra ga gr u ++ fW G xa xb xr 35 (nI (sd + 1), nI bl.length, xf))) 0 0 := by
  refine gM.of (cc := cX7_completes) (maxL := 4) (ret := (some .boolean)) (by decide) rfl (Nat.le_of_ble_eq_true rfl) ?_
  intro p e s m below meth c A ls hx hb hr hml hown hts hlocks hnm hB hl
  have hl : lv_has ls 4 [(0, .ref ra), (1, .ref xa)] := hl
  refine lv_aload_n hx hb dX7_completes_0 rfl (lv_at hl 1 rfl) ?_
  refine g_calliA (wr := [(ra, .inr (5, [.ref ga, .int (nI op), .int (nI la), .int (nI dr)])), (ga, .inr (0, [.ref gr, .int (nI gl.length)])), (gr, .inl (G.2.2.2.1, 400, .inl gf))]) (wc := [(xa, .inr (2, [.ref xb, .int (nI (sd + 1))])), (xb, .inr (0, [.ref xr, .int (nI bl.length)])), (xr, .inl (G.2.2.2.1, 35, .inl xf))]) (av := []) (rest := []) ⟨hx, hb, hml, hown, hts⟩ (k_Frame_isSound l G xa sd hsd xb xr 35 xf bl hp hle (by decide) hB9 h13) (cwV 0 hts gX7_completes_X3_isSound rfl rfl rfl (by decide +kernel) ⟨Nat.le_of_ble_eq_true rfl, Nat.le_of_ble_eq_true rfl⟩) hB (q0 := 0) (ci := 2) rfl rfl rfl rfl hl.1 rfl (Nat.le_of_ble_eq_true rfl) dX7_completes_1 ⟨Nat.le_of_ble_eq_true rfl, Nat.le_of_ble_eq_true rfl⟩ (fun r9 u H locs hw hB => ?_)
  obtain ⟨hh, rfl⟩ := hw
  have hB : gB G.1 (rT G) A s H locs [(ra, .inr (5, [.ref ga, .int (nI op), .int (nI la), .int (nI dr)])), (ga, .inr (0, [.ref gr, .int (nI gl.length)])), (gr, .inl (G.2.2.2.1, 400, .inl gf)), (xa, .inr (2, [.ref xb, .int (nI (sd + 1))])), (xb, .inr (0, [.ref xr, .int (nI bl.length)])), (xr, .inl (G.2.2.2.1, 35, .inl xf))] := hB
  refine lv_if_ne (tgt := 19) hx hb dX7_completes_4 (by decide) (fun c_1 => ?_) (fun c_1 => ?_)
  · have c_1 := c_1
    have hok : okC sd bl := by rcases hh with ⟨-, h1⟩ | ⟨h1, -⟩; exact h1; exact absurd h1 c_1
    have eok : (rcC (op, la, dr, gl) sd bl) = (if (crF bl 0 &&& 64) = 0 then (if op = 1 ∧ crF bl 0 % 64 = (la + 1) % 64 ∧ gl.length + (nF bl - 1) ≤ 400 then rcG (op, la, dr, gl) bl gl else ((0, la, dr, gl), 0)) else rcG (op, la, dr, gl) bl []) := if_pos hok
    obtain ⟨q7, q26, qlen, -, -⟩ := hok
    have hnF : nF bl = bq bl 2 - 5 := rfl
    have hcr : ∀ j, j < nF bl → crF bl j < 256 := fun j hj => by rw [← carr_eq (by omega)]; exact (bq_at hB9 (by omega)).2
    refine lv_aload_n hx hb dX7_completes_19 rfl (lv_at hl 1 rfl) ?_
    refine lv_iconst (v := nI 0) hx hb dX7_completes_20 (by decide) ?_
    refine g_calliA (wr := [(ra, .inr (5, [.ref ga, .int (nI op), .int (nI la), .int (nI dr)])), (ga, .inr (0, [.ref gr, .int (nI gl.length)])), (gr, .inl (G.2.2.2.1, 400, .inl gf))]) (wc := [(xa, .inr (2, [.ref xb, .int (nI (sd + 1))])), (xb, .inr (0, [.ref xr, .int (nI bl.length)])), (xr, .inl (G.2.2.2.1, 35, .inl xf))]) (av := [.int (nI 0)]) (rest := []) ⟨hx, hb, hml, hown, hts⟩ (k_Frame_carried l G xa sd hsd xb xr 35 xf bl hp hle (by decide) hB9 (0) (by omega)) (cwV 1 hts gX7_completes_X3_carried rfl rfl rfl (by decide +kernel) ⟨Nat.le_of_ble_eq_true rfl, Nat.le_of_ble_eq_true rfl⟩) hB (q0 := 0) (ci := 2) rfl rfl rfl rfl hl.1 rfl (Nat.le_of_ble_eq_true rfl) dX7_completes_21 ⟨Nat.le_of_ble_eq_true rfl, Nat.le_of_ble_eq_true rfl⟩ (fun r9 u H locs hw hB => ?_)
    obtain ⟨rfl, rfl⟩ := hw
    have hB : gB G.1 (rT G) A s H locs [(ra, .inr (5, [.ref ga, .int (nI op), .int (nI la), .int (nI dr)])), (ga, .inr (0, [.ref gr, .int (nI gl.length)])), (gr, .inl (G.2.2.2.1, 400, .inl gf)), (xa, .inr (2, [.ref xb, .int (nI (sd + 1))])), (xb, .inr (0, [.ref xr, .int (nI bl.length)])), (xr, .inl (G.2.2.2.1, 35, .inl xf))] := hB
    obtain ⟨hd, ehd⟩ : ∃ hd, hd = crF bl 0 := ⟨_, rfl⟩
    refine g_top (y := nI hd) (by rw [ehd]; exact congrArg nI (carr_eq (by omega))) ?_
    have hhd : hd < 256 := by rw [ehd]; exact hcr 0 (by omega)
    rw [← ehd] at eok
    refine lv_istore_n (lv' := [(2, .int (nI hd)), (0, .ref ra), (1, .ref xa)]) hx hb dX7_completes_24 rfl hl (by decide) rfl (fun ls hl => ?_)
    refine lv_iload_n hx hb dX7_completes_25 rfl (lv_at hl 0 rfl) ?_
    refine g_callS0 (av := [.int (nI hd)]) (rest := []) ⟨hx, hb, hml, hown, hts⟩ (k_Segment_isFirst l G hd hhd) (va_cwS 1 hts gX7_completes_X8_isFirst rfl rfl rfl (by decide +kernel) ⟨Nat.le_of_ble_eq_true rfl, Nat.le_of_ble_eq_true rfl⟩) hB rfl hl.1 rfl (Nat.le_of_ble_eq_true rfl) dX7_completes_26 ⟨Nat.le_of_ble_eq_true rfl, Nat.le_of_ble_eq_true rfl⟩ (fun r9 H locs hw hB => ?_)
    have er := hw
    refine lv_if_eq (tgt := 42) hx hb dX7_completes_29 (by decide) (fun c_2 => ?_) (fun c_2 => ?_)
    · have c_2 := c_2
      have h64 : (hd &&& 64) = 0 := Classical.byContradiction (fun z => by rw [if_neg z] at er; exact absurd (er.symm.trans c_2) (by decide))
      rw [if_pos h64] at eok
      refine lv_aload_n hx hb dX7_completes_42 rfl (lv_at hl 1 rfl) ?_
      refine lv_iload_n hx hb dX7_completes_43 rfl (lv_at hl 0 rfl) ?_
      refine lv_aload_n hx hb dX7_completes_44 rfl (lv_at hl 2 rfl) ?_
      refine g_calliA (wr := [(ra, .inr (5, [.ref ga, .int (nI op), .int (nI la), .int (nI dr)])), (ga, .inr (0, [.ref gr, .int (nI gl.length)])), (gr, .inl (G.2.2.2.1, 400, .inl gf))]) (wc := [(xa, .inr (2, [.ref xb, .int (nI (sd + 1))])), (xb, .inr (0, [.ref xr, .int (nI bl.length)])), (xr, .inl (G.2.2.2.1, 35, .inl xf))]) (av := []) (rest := [.int (nI hd), .ref ra]) ⟨hx, hb, hml, hown, hts⟩ (k_Frame_carries l G xa sd hsd xb xr 35 xf bl hp hle (by decide) hB9 h13) (cwV 0 hts gX7_completes_X3_carries rfl rfl rfl (by decide +kernel) ⟨Nat.le_of_ble_eq_true rfl, Nat.le_of_ble_eq_true rfl⟩) hB (q0 := 0) (ci := 2) rfl rfl rfl rfl hl.1 rfl (Nat.le_of_ble_eq_true rfl) dX7_completes_45 ⟨Nat.le_of_ble_eq_true rfl, Nat.le_of_ble_eq_true rfl⟩ (fun r9 u H locs hw hB => ?_)
      obtain ⟨rfl, rfl⟩ := hw
      have hB : gB G.1 (rT G) A s H locs [(ra, .inr (5, [.ref ga, .int (nI op), .int (nI la), .int (nI dr)])), (ga, .inr (0, [.ref gr, .int (nI gl.length)])), (gr, .inl (G.2.2.2.1, 400, .inl gf)), (xa, .inr (2, [.ref xb, .int (nI (sd + 1))])), (xb, .inr (0, [.ref xr, .int (nI bl.length)])), (xr, .inl (G.2.2.2.1, 35, .inl xf))] := hB
      refine g_top (y := nI (nF bl)) (pk_sub (by omega)) ?_
      refine lv_iconst (v := nI 1) hx hb dX7_completes_48 (by decide) ?_
      refine lv_isub hx hb dX7_completes_49 ?_
      refine g_top (y := nI (nF bl - 1)) (pk_sub (by omega)) ?_
      have hB : gB G.1 (rT G) A s H locs [(xa, .inr (2, [.ref xb, .int (nI (sd + 1))])), (xb, .inr (0, [.ref xr, .int (nI bl.length)])), (xr, .inl (G.2.2.2.1, 35, .inl xf)), (ra, .inr (5, [.ref ga, .int (nI op), .int (nI la), .int (nI dr)])), (ga, .inr (0, [.ref gr, .int (nI gl.length)])), (gr, .inl (G.2.2.2.1, 400, .inl gf))] := hB.order [3, 4, 5, 0, 1, 2] (by decide) rfl rfl
      refine g_calliA (wr := [(xa, .inr (2, [.ref xb, .int (nI (sd + 1))])), (xb, .inr (0, [.ref xr, .int (nI bl.length)])), (xr, .inl (G.2.2.2.1, 35, .inl xf))]) (wc := [(ra, .inr (5, [.ref ga, .int (nI op), .int (nI la), .int (nI dr)])), (ga, .inr (0, [.ref gr, .int (nI gl.length)])), (gr, .inl (G.2.2.2.1, 400, .inl gf))]) (av := [.int (nI hd), .int (nI (nF bl - 1))]) (rest := []) ⟨hx, hb, hml, hown, hts⟩ (k_Receiver_follows l G ra ga gr op la dr hop hla gf gl hgp hgl hgB hd (nF bl - 1) hhd (by omega)) (cwV 2 hts gX7_completes_X7_follows rfl rfl rfl (by decide +kernel) ⟨Nat.le_of_ble_eq_true rfl, Nat.le_of_ble_eq_true rfl⟩) hB (q0 := 0) (ci := 5) rfl rfl rfl rfl hl.1 rfl (Nat.le_of_ble_eq_true rfl) dX7_completes_50 ⟨Nat.le_of_ble_eq_true rfl, Nat.le_of_ble_eq_true rfl⟩ (fun r9 u H locs hw hB => ?_)
      obtain ⟨er2, rfl⟩ := hw
      have hB : gB G.1 (rT G) A s H locs [(xa, .inr (2, [.ref xb, .int (nI (sd + 1))])), (xb, .inr (0, [.ref xr, .int (nI bl.length)])), (xr, .inl (G.2.2.2.1, 35, .inl xf)), (ra, .inr (5, [.ref ga, .int (nI op), .int (nI la), .int (nI dr)])), (ga, .inr (0, [.ref gr, .int (nI gl.length)])), (gr, .inl (G.2.2.2.1, 400, .inl gf))] := hB
      refine lv_if_ne (tgt := 63) hx hb dX7_completes_53 (by decide) (fun c_3 => ?_) (fun c_3 => ?_)
      · have c_3 := c_3
        have hfl : op = 1 ∧ hd % 64 = (la + 1) % 64 ∧ gl.length + (nF bl - 1) ≤ 400 := Classical.byContradiction (fun z => by rw [if_neg z] at er2; exact c_3 er2)
        rw [if_pos hfl] at eok
        have hfl3 := hfl.2.2
        refine lv_iconst (v := nI 1) hx hb dX7_completes_63 (by decide) ?_
        refine lv_istore_n (lv' := [(3, .int (nI 1)), (2, .int (nI hd)), (0, .ref ra), (1, .ref xa)]) hx hb dX7_completes_64 rfl hl (by decide) rfl (fun ls hl => ?_)
        have hl : lv_has ls 4 [(3, .int (nI (0 + 1))), (2, .int (nI hd)), (0, .ref ra), (1, .ref xa)] := hl
        have hroom : gl.length + (nF bl - 1) ≤ 400 := by omega
        have hB : gB G.1 (rT G) A s H locs [(ra, .inr (5, [.ref ga, .int (nI op), .int (nI la), .int (nI dr)])), (ga, .inr (0, [.ref gr, .int (nI gl.length)])), (gr, .inl (G.2.2.2.1, 400, .inl gf)), (xa, .inr (2, [.ref xb, .int (nI (sd + 1))])), (xb, .inr (0, [.ref xr, .int (nI bl.length)])), (xr, .inl (G.2.2.2.1, 35, .inl xf))] := hB.order [3, 4, 5, 0, 1, 2] (by decide) rfl rfl
        have hl : lv_has ls 4 [(3, .int (nI (0 + 1))), (0, .ref ra), (1, .ref xa), (2, .int (nI hd))] := lv_sub hl [0, 2, 3, 1] rfl
        have hB : gB G.1 (rT G) A s H locs [(ra, .inr (5, [.ref ga, .int (nI op), .int (nI la), .int (nI dr)])), (ga, .inr (0, [.ref gr, .int (nI gl.length)])), (gr, .inl (G.2.2.2.1, 400, .inl gf)), (xa, .inr (2, [.ref xb, .int (nI (sd + 1))])), (xb, .inr (0, [.ref xr, .int (nI bl.length)])), (xr, .inl (G.2.2.2.1, 35, .inl xf))] := hB
        refine g_loop (σ := Nat × (Nat → Int32) × (List Int32)) (fun d xv H locs ls => (xv.1 + d = nF bl - 1) ∧ (pfx xv.2.1 xv.2.2) ∧ (xv.2.2 = gl ++ plM bl xv.1) ∧ (∀ x ∈ xv.2.2, isB x) ∧ gB G.1 (rT G) A s H locs [(ra, .inr (5, [.ref ga, .int (nI op), .int (nI la), .int (nI dr)])), (ga, .inr (0, [.ref gr, .int (nI xv.2.2.length)])), (gr, .inl (G.2.2.2.1, 400, .inl xv.2.1)), (xa, .inr (2, [.ref xb, .int (nI (sd + 1))])), (xb, .inr (0, [.ref xr, .int (nI bl.length)])), (xr, .inl (G.2.2.2.1, 35, .inl xf))] ∧ lv_has ls 4 [(3, .int (nI (xv.1 + 1))), (0, .ref ra), (1, .ref xa), (2, .int (nI hd))]) (nF bl - 1) (0, gf, gl) ⟨by omega, hgp, (List.append_nil _).symm, hgB, hB, hl⟩ ?_
        rintro d ⟨m, f1, L1⟩ H locs ls ⟨hm, hp1, hL, hB1, hB, hl⟩ ih_4
        have hm : m + d = nF bl - 1 := hm
        have hp1 : pfx f1 L1 := hp1
        have hL : L1 = gl ++ plM bl m := hL
        have hB1 : ∀ x ∈ L1, isB x := hB1
        have hB : gB G.1 (rT G) A s H locs [(ra, .inr (5, [.ref ga, .int (nI op), .int (nI la), .int (nI dr)])), (ga, .inr (0, [.ref gr, .int (nI L1.length)])), (gr, .inl (G.2.2.2.1, 400, .inl f1)), (xa, .inr (2, [.ref xb, .int (nI (sd + 1))])), (xb, .inr (0, [.ref xr, .int (nI bl.length)])), (xr, .inl (G.2.2.2.1, 35, .inl xf))] := hB
        have hl : lv_has ls 4 [(3, .int (nI (m + 1))), (0, .ref ra), (1, .ref xa), (2, .int (nI hd))] := hl
        have hlen1 : L1.length = gl.length + m := by rw [hL, List.length_append, plM_len]
        have hle1 : L1.length ≤ 400 := by omega
        refine lv_iload_n hx hb dX7_completes_65 rfl (lv_at hl 0 rfl) ?_
        refine lv_aload_n hx hb dX7_completes_66 rfl (lv_at hl 2 rfl) ?_
        refine g_calliA (wr := [(ra, .inr (5, [.ref ga, .int (nI op), .int (nI la), .int (nI dr)])), (ga, .inr (0, [.ref gr, .int (nI L1.length)])), (gr, .inl (G.2.2.2.1, 400, .inl f1))]) (wc := [(xa, .inr (2, [.ref xb, .int (nI (sd + 1))])), (xb, .inr (0, [.ref xr, .int (nI bl.length)])), (xr, .inl (G.2.2.2.1, 35, .inl xf))]) (av := []) (rest := [.int (nI (m + 1))]) ⟨hx, hb, hml, hown, hts⟩ (k_Frame_carries l G xa sd hsd xb xr 35 xf bl hp hle (by decide) hB9 h13) (cwV 0 hts gX7_completes_X3_carries rfl rfl rfl (by decide +kernel) ⟨Nat.le_of_ble_eq_true rfl, Nat.le_of_ble_eq_true rfl⟩) hB (q0 := 0) (ci := 2) rfl rfl rfl rfl hl.1 rfl (Nat.le_of_ble_eq_true rfl) dX7_completes_67 ⟨Nat.le_of_ble_eq_true rfl, Nat.le_of_ble_eq_true rfl⟩ (fun r9 u H locs hw hB => ?_)
        obtain ⟨rfl, rfl⟩ := hw
        have hB : gB G.1 (rT G) A s H locs [(ra, .inr (5, [.ref ga, .int (nI op), .int (nI la), .int (nI dr)])), (ga, .inr (0, [.ref gr, .int (nI L1.length)])), (gr, .inl (G.2.2.2.1, 400, .inl f1)), (xa, .inr (2, [.ref xb, .int (nI (sd + 1))])), (xb, .inr (0, [.ref xr, .int (nI bl.length)])), (xr, .inl (G.2.2.2.1, 35, .inl xf))] := hB
        refine g_top (y := nI (nF bl)) (pk_sub (by omega)) ?_
        refine lv_icmp_ge (tgt := 92) hx hb dX7_completes_70 (by decide) (fun c_5 => ?_) (fun c_5 => ?_)
        · have c_5 : (nF bl) ≤ (m + 1) := (nI_leI (a := (nF bl)) (b := (m + 1)) (by omega) (by omega)).mp c_5
          have hm9 : m = nF bl - 1 := by omega
          rw [hm9] at hL
          refine lv_aload_n hx hb dX7_completes_92 rfl (lv_at hl 1 rfl) ?_
          refine lv_iload_n hx hb dX7_completes_93 rfl (lv_at hl 3 rfl) ?_
          refine g_callS0 (av := [.int (nI hd)]) (rest := [.ref ra]) ⟨hx, hb, hml, hown, hts⟩ (k_Segment_number l G hd hhd) (va_cwS 1 hts gX7_completes_X8_number rfl rfl rfl (by decide +kernel) ⟨Nat.le_of_ble_eq_true rfl, Nat.le_of_ble_eq_true rfl⟩) hB rfl hl.1 rfl (Nat.le_of_ble_eq_true rfl) dX7_completes_94 ⟨Nat.le_of_ble_eq_true rfl, Nat.le_of_ble_eq_true rfl⟩ (fun r9 H locs hw hB => ?_)
          have er := hw
          subst er
          refine g_put (own := RX7) (C := RX7) (T := TX7) (N := 4) (ci := 5) (v := .int (nI (hd % 64))) hx hb ([(ra, .inr (5, [.ref ga, .int (nI op), .int (nI (hd % 64)), .int (nI dr)])), (ga, .inr (0, [.ref gr, .int (nI L1.length)])), (gr, .inl (G.2.2.2.1, 400, .inl f1)), (xa, .inr (2, [.ref xb, .int (nI (sd + 1))])), (xb, .inr (0, [.ref xr, .int (nI bl.length)])), (xr, .inl (G.2.2.2.1, 35, .inl xf))]) hts (fun _ h => List.mem_cons_of_mem _ (List.mem_append_left _ (List.mem_append_left _ (List.mem_append_right _ h)))) tyX7 tyX7_ok nmX7 hown hB 0 rfl rfl 2 (by decide) (hts (.fieldLink RX7 59 "PointReports$Receiver" "lastNumber" "I") (by decide +kernel)) rfl rfl (ty := .int) rfl rfl rfl (Nat.le_of_ble_eq_true rfl) rfl dX7_completes_97 (fun H locs hB => ?_)
          refine lv_aload_n hx hb dX7_completes_100 rfl (lv_at hl 1 rfl) ?_
          refine lv_iload_n hx hb dX7_completes_101 rfl (lv_at hl 3 rfl) ?_
          refine g_callS0 (av := [.int (nI hd)]) (rest := [.ref ra]) ⟨hx, hb, hml, hown, hts⟩ (k_Segment_isLast l G hd hhd) (va_cwS 1 hts gX7_completes_X8_isLast rfl rfl rfl (by decide +kernel) ⟨Nat.le_of_ble_eq_true rfl, Nat.le_of_ble_eq_true rfl⟩) hB rfl hl.1 rfl (Nat.le_of_ble_eq_true rfl) dX7_completes_102 ⟨Nat.le_of_ble_eq_true rfl, Nat.le_of_ble_eq_true rfl⟩ (fun r9 H locs hw hB => ?_)
          have er := hw
          by_cases h128 : (hd &&& 128) = 0
          · rw [if_pos h128] at er
            subst er
            refine lv_if_ne (tgt := 112) hx hb dX7_completes_105 (by decide) (fun c9 => absurd c9 (by decide)) (fun _ => ?_)
            refine lv_iconst (v := nI 1) hx hb dX7_completes_108 (by decide) ?_
            refine lv_goto (tgt := 113) hx hb dX7_completes_109 (by decide) ?_
            refine g_put (own := RX7) (C := RX7) (T := TX7) (N := 4) (ci := 5) (v := .int (nI 1)) hx hb ([(ra, .inr (5, [.ref ga, .int (nI 1), .int (nI (hd % 64)), .int (nI dr)])), (ga, .inr (0, [.ref gr, .int (nI L1.length)])), (gr, .inl (G.2.2.2.1, 400, .inl f1)), (xa, .inr (2, [.ref xb, .int (nI (sd + 1))])), (xb, .inr (0, [.ref xr, .int (nI bl.length)])), (xr, .inl (G.2.2.2.1, 35, .inl xf))]) hts (fun _ h => List.mem_cons_of_mem _ (List.mem_append_left _ (List.mem_append_left _ (List.mem_append_right _ h)))) tyX7 tyX7_ok nmX7 hown hB 0 rfl rfl 1 (by decide) (hts (.fieldLink RX7 49 "PointReports$Receiver" "open" "Z") (by decide +kernel)) rfl rfl (ty := .boolean) rfl (narrow_z (Or.inr rfl)) (fits_z (Or.inr rfl)) (Nat.le_of_ble_eq_true rfl) rfl dX7_completes_113 (fun H locs hB => ?_)
            refine lv_aload_n hx hb dX7_completes_116 rfl (lv_at hl 1 rfl) ?_
            refine g_get (own := RX7) (C := RX7) (T := TX7) (N := 4) (ci := 5) (v := .int (nI 1)) hx hb hts (fun _ h => List.mem_cons_of_mem _ (List.mem_append_left _ (List.mem_append_left _ (List.mem_append_right _ h)))) hown hB 0 rfl rfl 1 (by decide) (hts (.fieldLink RX7 49 "PointReports$Receiver" "open" "Z") (by decide +kernel)) rfl rfl dX7_completes_117 ?_
            refine lv_if_ne (tgt := 127) hx hb dX7_completes_120 (by decide) (fun _ => ?_) (fun c9 => absurd c9 (by decide))
            refine lv_iconst (v := nI 0) hx hb dX7_completes_127 (by decide) ?_
            exact g_zret (Wd := fun u => rvW G ra ga gr u ++ fW G xa xb xr 35 (nI (sd + 1), nI bl.length, xf)) (v := nI 0) ((1, hd % 64, dr, L1), f1) hB hx hb hr hlocks rfl (narrow_z (Or.inl rfl)) (by rw [eok, rcG, ← ehd, if_pos h128, if_pos h128, ← hL]; exact ⟨_, hp1, hle1, hB1, rfl, rfl⟩) dX7_completes_128
          · rw [if_neg h128] at er
            subst er
            refine lv_if_ne (tgt := 112) hx hb dX7_completes_105 (by decide) (fun _ => ?_) (fun c9 => absurd c9 (by decide))
            refine lv_iconst (v := nI 0) hx hb dX7_completes_112 (by decide) ?_
            refine g_put (own := RX7) (C := RX7) (T := TX7) (N := 4) (ci := 5) (v := .int (nI 0)) hx hb ([(ra, .inr (5, [.ref ga, .int (nI 0), .int (nI (hd % 64)), .int (nI dr)])), (ga, .inr (0, [.ref gr, .int (nI L1.length)])), (gr, .inl (G.2.2.2.1, 400, .inl f1)), (xa, .inr (2, [.ref xb, .int (nI (sd + 1))])), (xb, .inr (0, [.ref xr, .int (nI bl.length)])), (xr, .inl (G.2.2.2.1, 35, .inl xf))]) hts (fun _ h => List.mem_cons_of_mem _ (List.mem_append_left _ (List.mem_append_left _ (List.mem_append_right _ h)))) tyX7 tyX7_ok nmX7 hown hB 0 rfl rfl 1 (by decide) (hts (.fieldLink RX7 49 "PointReports$Receiver" "open" "Z") (by decide +kernel)) rfl rfl (ty := .boolean) rfl (narrow_z (Or.inl rfl)) (fits_z (Or.inl rfl)) (Nat.le_of_ble_eq_true rfl) rfl dX7_completes_113 (fun H locs hB => ?_)
            refine lv_aload_n hx hb dX7_completes_116 rfl (lv_at hl 1 rfl) ?_
            refine g_get (own := RX7) (C := RX7) (T := TX7) (N := 4) (ci := 5) (v := .int (nI 0)) hx hb hts (fun _ h => List.mem_cons_of_mem _ (List.mem_append_left _ (List.mem_append_left _ (List.mem_append_right _ h)))) hown hB 0 rfl rfl 1 (by decide) (hts (.fieldLink RX7 49 "PointReports$Receiver" "open" "Z") (by decide +kernel)) rfl rfl dX7_completes_117 ?_
            refine lv_if_ne (tgt := 127) hx hb dX7_completes_120 (by decide) (fun c9 => absurd c9 (by decide)) (fun _ => ?_)
            refine lv_iconst (v := nI 1) hx hb dX7_completes_123 (by decide) ?_
            refine lv_goto (tgt := 128) hx hb dX7_completes_124 (by decide) ?_
            exact g_zret (Wd := fun u => rvW G ra ga gr u ++ fW G xa xb xr 35 (nI (sd + 1), nI bl.length, xf)) (v := nI 1) ((0, hd % 64, dr, L1), f1) hB hx hb hr hlocks rfl (narrow_z (Or.inr rfl)) (by rw [eok, rcG, ← ehd, if_neg h128, if_neg h128, ← hL]; exact ⟨_, hp1, hle1, hB1, rfl, rfl⟩) dX7_completes_128
        · have c_5 : ¬ (nF bl) ≤ (m + 1) := fun h9 => c_5 ((nI_leI (a := (nF bl)) (b := (m + 1)) (by omega) (by omega)).mpr h9)
          have hm8 : m + 1 < nF bl := by omega
          refine lv_aload_n hx hb dX7_completes_73 rfl (lv_at hl 1 rfl) ?_
          refine g_get (own := RX7) (C := RX7) (T := TX7) (N := 4) (ci := 5) (v := .ref ga) hx hb hts (fun _ h => List.mem_cons_of_mem _ (List.mem_append_left _ (List.mem_append_left _ (List.mem_append_right _ h)))) hown hB 0 rfl rfl 0 (by decide) (hts (.fieldLink RX7 14 "PointReports$Receiver" "fragment" "LPointReports$Bytes;") (by decide +kernel)) rfl rfl dX7_completes_74 ?_
          refine lv_aload_n hx hb dX7_completes_77 rfl (lv_at hl 2 rfl) ?_
          refine lv_iload_n hx hb dX7_completes_78 rfl (lv_at hl 0 rfl) ?_
          refine g_calliA (wr := [(ra, .inr (5, [.ref ga, .int (nI op), .int (nI la), .int (nI dr)])), (ga, .inr (0, [.ref gr, .int (nI L1.length)])), (gr, .inl (G.2.2.2.1, 400, .inl f1))]) (wc := [(xa, .inr (2, [.ref xb, .int (nI (sd + 1))])), (xb, .inr (0, [.ref xr, .int (nI bl.length)])), (xr, .inl (G.2.2.2.1, 35, .inl xf))]) (av := [.int (nI (m + 1))]) (rest := [.ref ga]) ⟨hx, hb, hml, hown, hts⟩ (k_Frame_carried l G xa sd hsd xb xr 35 xf bl hp hle (by decide) hB9 (m + 1) (by omega)) (cwV 1 hts gX7_completes_X3_carried rfl rfl rfl (by decide +kernel) ⟨Nat.le_of_ble_eq_true rfl, Nat.le_of_ble_eq_true rfl⟩) hB (q0 := 0) (ci := 2) rfl rfl rfl rfl hl.1 rfl (Nat.le_of_ble_eq_true rfl) dX7_completes_79 ⟨Nat.le_of_ble_eq_true rfl, Nat.le_of_ble_eq_true rfl⟩ (fun r9 u H locs hw hB => ?_)
          obtain ⟨rfl, rfl⟩ := hw
          have hB : gB G.1 (rT G) A s H locs [(ra, .inr (5, [.ref ga, .int (nI op), .int (nI la), .int (nI dr)])), (ga, .inr (0, [.ref gr, .int (nI L1.length)])), (gr, .inl (G.2.2.2.1, 400, .inl f1)), (xa, .inr (2, [.ref xb, .int (nI (sd + 1))])), (xb, .inr (0, [.ref xr, .int (nI bl.length)])), (xr, .inl (G.2.2.2.1, 35, .inl xf))] := hB
          refine g_top (y := nI (crF bl (1 + m))) (congrArg nI ((carr_eq (by omega)).trans (by rw [Nat.add_comm]))) ?_
          have hB : gB G.1 (rT G) A s H locs [(ra, .inr (5, [.ref ga, .int (nI op), .int (nI la), .int (nI dr)])), (xa, .inr (2, [.ref xb, .int (nI (sd + 1))])), (xb, .inr (0, [.ref xr, .int (nI bl.length)])), (xr, .inl (G.2.2.2.1, 35, .inl xf)), (ga, .inr (0, [.ref gr, .int (nI L1.length)])), (gr, .inl (G.2.2.2.1, 400, .inl f1))] := hB.order [0, 3, 4, 5, 1, 2] (by decide) rfl rfl
          refine g_calliA (wr := [(ra, .inr (5, [.ref ga, .int (nI op), .int (nI la), .int (nI dr)])), (xa, .inr (2, [.ref xb, .int (nI (sd + 1))])), (xb, .inr (0, [.ref xr, .int (nI bl.length)])), (xr, .inl (G.2.2.2.1, 35, .inl xf))]) (wc := [(ga, .inr (0, [.ref gr, .int (nI L1.length)])), (gr, .inl (G.2.2.2.1, 400, .inl f1))]) (av := [.int (nI (crF bl (1 + m)))]) (rest := []) ⟨hx, hb, hml, hown, hts⟩ (k_Bytes_add l G ga gr 400 f1 L1 hp1 hle1 (by decide) (nI (crF bl (1 + m)))) (cwV 1 hts gX7_completes_X1_add rfl rfl rfl (by decide +kernel) ⟨Nat.le_of_ble_eq_true rfl, Nat.le_of_ble_eq_true rfl⟩) hB (q0 := 0) (ci := 0) rfl rfl rfl rfl hl.1 rfl (Nat.le_of_ble_eq_true rfl) dX7_completes_82 ⟨Nat.le_of_ble_eq_true rfl, Nat.le_of_ble_eq_true rfl⟩ (fun r9 u H locs hw hB => ?_)
          have hpo := hw
          have hB : gB G.1 (rT G) A s H locs [(ra, .inr (5, [.ref ga, .int (nI op), .int (nI la), .int (nI dr)])), (xa, .inr (2, [.ref xb, .int (nI (sd + 1))])), (xb, .inr (0, [.ref xr, .int (nI bl.length)])), (xr, .inl (G.2.2.2.1, 35, .inl xf)), (ga, .inr (0, [.ref gr, .int u.1])), (gr, .inl (G.2.2.2.1, 400, .inl u.2))] := hB
          rw [if_pos (show L1.length < 400 from by omega)] at hpo
          obtain ⟨-, f_14, q_14, rfl⟩ := hpo
          obtain ⟨L_14, eL_14⟩ : ∃ L9 : List Int32, L9 = L1 ++ [(nI (crF bl (1 + m))) &&& 255] := ⟨_, rfl⟩
          have hL_14 : pfx f_14 L_14 := by rw [eL_14]; exact q_14
          have nL_14 : L_14.length = L1.length + 1 := by rw [eL_14]; rw [List.length_append]; rfl
          have lL_14 : L_14.length ≤ 400 := by omega
          have bL_14 : ∀ x ∈ L_14, isB x := by rw [eL_14]; exact isB_app hB1 (fun x h => by rw [List.mem_singleton.mp h]; exact isB_and _)
          have hB : gB G.1 (rT G) A s H locs [(ra, .inr (5, [.ref ga, .int (nI op), .int (nI la), .int (nI dr)])), (xa, .inr (2, [.ref xb, .int (nI (sd + 1))])), (xb, .inr (0, [.ref xr, .int (nI bl.length)])), (xr, .inl (G.2.2.2.1, 35, .inl xf)), (ga, .inr (0, [.ref gr, .int (nI L_14.length)])), (gr, .inl (G.2.2.2.1, 400, .inl f_14))] := by rw [nL_14]; exact hB
          refine lv_pop hx hb dX7_completes_85 rfl ?_
          refine lv_iinc (v := nI (m + 1 + 1)) (lv' := [(3, .int (nI (m + 1 + 1))), (0, .ref ra), (1, .ref xa), (2, .int (nI hd))]) hx hb dX7_completes_86 hl (k := 0) rfl (nI_add _ _) (by decide) rfl (fun ls hl => ?_)
          refine lv_goto (tgt := 65) hx hb dX7_completes_89 (by decide) ?_
          have e5 : nI (crF bl (1 + m)) &&& 255 = nI (crF bl (1 + m)) := isB_255 ⟨_, hcr _ (by omega), rfl⟩
          have hB : gB G.1 (rT G) A s H locs [(ra, .inr (5, [.ref ga, .int (nI op), .int (nI la), .int (nI dr)])), (ga, .inr (0, [.ref gr, .int (nI L_14.length)])), (gr, .inl (G.2.2.2.1, 400, .inl f_14)), (xa, .inr (2, [.ref xb, .int (nI (sd + 1))])), (xb, .inr (0, [.ref xr, .int (nI bl.length)])), (xr, .inl (G.2.2.2.1, 35, .inl xf))] := hB.order [0, 4, 5, 1, 2, 3] (by decide) rfl rfl
          have hl : lv_has ls 4 [(3, .int (nI ((m + 1) + 1))), (0, .ref ra), (1, .ref xa), (2, .int (nI hd))] := lv_sub hl [0, 1, 2, 3] rfl
          have hB : gB G.1 (rT G) A s H locs [(ra, .inr (5, [.ref ga, .int (nI op), .int (nI la), .int (nI dr)])), (ga, .inr (0, [.ref gr, .int (nI L_14.length)])), (gr, .inl (G.2.2.2.1, 400, .inl f_14)), (xa, .inr (2, [.ref xb, .int (nI (sd + 1))])), (xb, .inr (0, [.ref xr, .int (nI bl.length)])), (xr, .inl (G.2.2.2.1, 35, .inl xf))] := hB
          have b_6 : (m + 1) + (d - 1) = nF bl - 1 := by omega
          have b_7 : pfx f_14 L_14 := hL_14
          have b_8 : L_14 = gl ++ plM bl (m + 1) := by rw [eL_14, e5, hL, plM_s, List.append_assoc]
          have b_9 : ∀ x ∈ L_14, isB x := bL_14
          exact ih_4 (d - 1) (m + 1, f_14, L_14) H locs ls (by omega) ⟨b_6, b_7, b_8, b_9, hB, hl⟩
      · have c_3 := c_3
        have hfl : ¬ (op = 1 ∧ hd % 64 = (la + 1) % 64 ∧ gl.length + (nF bl - 1) ≤ 400) := fun z => by rw [if_pos z] at er2; exact absurd (er2.symm.trans c_3) (by decide)
        rw [if_neg hfl] at eok
        refine lv_aload_n hx hb dX7_completes_56 rfl (lv_at hl 1 rfl) ?_
        refine lv_iconst (v := nI 0) hx hb dX7_completes_57 (by decide) ?_
        refine g_put (own := RX7) (C := RX7) (T := TX7) (N := 4) (ci := 5) (v := .int (nI 0)) hx hb ([(xa, .inr (2, [.ref xb, .int (nI (sd + 1))])), (xb, .inr (0, [.ref xr, .int (nI bl.length)])), (xr, .inl (G.2.2.2.1, 35, .inl xf)), (ra, .inr (5, [.ref ga, .int (nI 0), .int (nI la), .int (nI dr)])), (ga, .inr (0, [.ref gr, .int (nI gl.length)])), (gr, .inl (G.2.2.2.1, 400, .inl gf))]) hts (fun _ h => List.mem_cons_of_mem _ (List.mem_append_left _ (List.mem_append_left _ (List.mem_append_right _ h)))) tyX7 tyX7_ok nmX7 hown hB 3 rfl rfl 1 (by decide) (hts (.fieldLink RX7 49 "PointReports$Receiver" "open" "Z") (by decide +kernel)) rfl rfl (ty := .boolean) rfl (narrow_z (Or.inl rfl)) (fits_z (Or.inl rfl)) (Nat.le_of_ble_eq_true rfl) rfl dX7_completes_58 (fun H locs hB => ?_)
        refine lv_iconst (v := nI 0) hx hb dX7_completes_61 (by decide) ?_
        have hB : gB G.1 (rT G) A s H locs [(ra, .inr (5, [.ref ga, .int (nI 0), .int (nI la), .int (nI dr)])), (ga, .inr (0, [.ref gr, .int (nI gl.length)])), (gr, .inl (G.2.2.2.1, 400, .inl gf)), (xa, .inr (2, [.ref xb, .int (nI (sd + 1))])), (xb, .inr (0, [.ref xr, .int (nI bl.length)])), (xr, .inl (G.2.2.2.1, 35, .inl xf))] := hB.order [3, 4, 5, 0, 1, 2] (by decide) rfl rfl
        exact g_zret (Wd := fun u => rvW G ra ga gr u ++ fW G xa xb xr 35 (nI (sd + 1), nI bl.length, xf)) (v := nI 0) ((0, la, dr, gl), gf) hB hx hb hr hlocks rfl (narrow_z (Or.inl rfl)) (by rw [eok]; exact ⟨_, hgp, hgl, hgB, rfl, rfl⟩) dX7_completes_62
    · have c_2 := c_2
      have h64 : ¬ (hd &&& 64) = 0 := fun z => by rw [if_pos z] at er; exact c_2 er
      rw [if_neg h64] at eok
      refine lv_aload_n hx hb dX7_completes_32 rfl (lv_at hl 1 rfl) ?_
      refine g_get (own := RX7) (C := RX7) (T := TX7) (N := 4) (ci := 5) (v := .ref ga) hx hb hts (fun _ h => List.mem_cons_of_mem _ (List.mem_append_left _ (List.mem_append_left _ (List.mem_append_right _ h)))) hown hB 0 rfl rfl 0 (by decide) (hts (.fieldLink RX7 14 "PointReports$Receiver" "fragment" "LPointReports$Bytes;") (by decide +kernel)) rfl rfl dX7_completes_33 ?_
      have hB : gB G.1 (rT G) A s H locs [(ra, .inr (5, [.ref ga, .int (nI op), .int (nI la), .int (nI dr)])), (xa, .inr (2, [.ref xb, .int (nI (sd + 1))])), (xb, .inr (0, [.ref xr, .int (nI bl.length)])), (xr, .inl (G.2.2.2.1, 35, .inl xf)), (ga, .inr (0, [.ref gr, .int (nI gl.length)])), (gr, .inl (G.2.2.2.1, 400, .inl gf))] := hB.order [0, 3, 4, 5, 1, 2] (by decide) rfl rfl
      refine g_callvA (wr := [(ra, .inr (5, [.ref ga, .int (nI op), .int (nI la), .int (nI dr)])), (xa, .inr (2, [.ref xb, .int (nI (sd + 1))])), (xb, .inr (0, [.ref xr, .int (nI bl.length)])), (xr, .inl (G.2.2.2.1, 35, .inl xf))]) (wc := [(ga, .inr (0, [.ref gr, .int (nI gl.length)])), (gr, .inl (G.2.2.2.1, 400, .inl gf))]) (av := []) (rest := []) ⟨hx, hb, hml, hown, hts⟩ (k_Bytes_clear l G ga gr 400 gf gl hgp hgl (by decide)) (cwV 0 hts gX7_completes_X1_clear rfl rfl rfl (by decide +kernel) ⟨Nat.le_of_ble_eq_true rfl, Nat.le_of_ble_eq_true rfl⟩) hB (q0 := 0) (ci := 0) rfl rfl rfl rfl hl.1 rfl (Nat.le_of_ble_eq_true rfl) dX7_completes_36 ⟨Nat.le_of_ble_eq_true rfl, Nat.le_of_ble_eq_true rfl⟩ (fun u H locs hw hB => ?_)
      obtain rfl := hw
      have hB : gB G.1 (rT G) A s H locs [(ra, .inr (5, [.ref ga, .int (nI op), .int (nI la), .int (nI dr)])), (xa, .inr (2, [.ref xb, .int (nI (sd + 1))])), (xb, .inr (0, [.ref xr, .int (nI bl.length)])), (xr, .inl (G.2.2.2.1, 35, .inl xf)), (ga, .inr (0, [.ref gr, .int (nI 0)])), (gr, .inl (G.2.2.2.1, 400, .inl gf))] := hB
      obtain ⟨L_15, eL_15⟩ : ∃ L9 : List Int32, L9 = [] := ⟨_, rfl⟩
      have hL_15 : pfx gf L_15 := by rw [eL_15]; exact pfx_nil _
      have nL_15 : L_15.length = 0 := by rw [eL_15]; rfl
      have lL_15 : L_15.length ≤ 400 := by omega
      have bL_15 : ∀ x ∈ L_15, isB x := by rw [eL_15]; exact fun _ h => absurd h List.not_mem_nil
      have hB : gB G.1 (rT G) A s H locs [(ra, .inr (5, [.ref ga, .int (nI op), .int (nI la), .int (nI dr)])), (xa, .inr (2, [.ref xb, .int (nI (sd + 1))])), (xb, .inr (0, [.ref xr, .int (nI bl.length)])), (xr, .inl (G.2.2.2.1, 35, .inl xf)), (ga, .inr (0, [.ref gr, .int (nI L_15.length)])), (gr, .inl (G.2.2.2.1, 400, .inl gf))] := by rw [nL_15]; exact hB
      have el0 : ([] : List Int32).length = 0 := rfl
      refine lv_goto (tgt := 63) hx hb dX7_completes_39 (by decide) ?_
      refine lv_iconst (v := nI 1) hx hb dX7_completes_63 (by decide) ?_
      refine lv_istore_n (lv' := [(3, .int (nI 1)), (2, .int (nI hd)), (0, .ref ra), (1, .ref xa)]) hx hb dX7_completes_64 rfl hl (by decide) rfl (fun ls hl => ?_)
      have hl : lv_has ls 4 [(3, .int (nI (0 + 1))), (2, .int (nI hd)), (0, .ref ra), (1, .ref xa)] := hl
      have hroom : ([] : List Int32).length + (nF bl - 1) ≤ 400 := by omega
      have hB : gB G.1 (rT G) A s H locs [(ra, .inr (5, [.ref ga, .int (nI op), .int (nI la), .int (nI dr)])), (ga, .inr (0, [.ref gr, .int (nI L_15.length)])), (gr, .inl (G.2.2.2.1, 400, .inl gf)), (xa, .inr (2, [.ref xb, .int (nI (sd + 1))])), (xb, .inr (0, [.ref xr, .int (nI bl.length)])), (xr, .inl (G.2.2.2.1, 35, .inl xf))] := hB.order [0, 4, 5, 1, 2, 3] (by decide) rfl rfl
      have hl : lv_has ls 4 [(3, .int (nI (0 + 1))), (0, .ref ra), (1, .ref xa), (2, .int (nI hd))] := lv_sub hl [0, 2, 3, 1] rfl
      have hB : gB G.1 (rT G) A s H locs [(ra, .inr (5, [.ref ga, .int (nI op), .int (nI la), .int (nI dr)])), (ga, .inr (0, [.ref gr, .int (nI L_15.length)])), (gr, .inl (G.2.2.2.1, 400, .inl gf)), (xa, .inr (2, [.ref xb, .int (nI (sd + 1))])), (xb, .inr (0, [.ref xr, .int (nI bl.length)])), (xr, .inl (G.2.2.2.1, 35, .inl xf))] := hB
      refine g_loop (σ := Nat × (Nat → Int32) × (List Int32)) (fun d xv H locs ls => (xv.1 + d = nF bl - 1) ∧ (pfx xv.2.1 xv.2.2) ∧ (xv.2.2 = ([] : List Int32) ++ plM bl xv.1) ∧ (∀ x ∈ xv.2.2, isB x) ∧ gB G.1 (rT G) A s H locs [(ra, .inr (5, [.ref ga, .int (nI op), .int (nI la), .int (nI dr)])), (ga, .inr (0, [.ref gr, .int (nI xv.2.2.length)])), (gr, .inl (G.2.2.2.1, 400, .inl xv.2.1)), (xa, .inr (2, [.ref xb, .int (nI (sd + 1))])), (xb, .inr (0, [.ref xr, .int (nI bl.length)])), (xr, .inl (G.2.2.2.1, 35, .inl xf))] ∧ lv_has ls 4 [(3, .int (nI (xv.1 + 1))), (0, .ref ra), (1, .ref xa), (2, .int (nI hd))]) (nF bl - 1) (0, gf, L_15) ⟨by omega, hL_15, eL_15, bL_15, hB, hl⟩ ?_
      rintro d ⟨m, f1, L1⟩ H locs ls ⟨hm, hp1, hL, hB1, hB, hl⟩ ih_10
      have hm : m + d = nF bl - 1 := hm
      have hp1 : pfx f1 L1 := hp1
      have hL : L1 = ([] : List Int32) ++ plM bl m := hL
      have hB1 : ∀ x ∈ L1, isB x := hB1
      have hB : gB G.1 (rT G) A s H locs [(ra, .inr (5, [.ref ga, .int (nI op), .int (nI la), .int (nI dr)])), (ga, .inr (0, [.ref gr, .int (nI L1.length)])), (gr, .inl (G.2.2.2.1, 400, .inl f1)), (xa, .inr (2, [.ref xb, .int (nI (sd + 1))])), (xb, .inr (0, [.ref xr, .int (nI bl.length)])), (xr, .inl (G.2.2.2.1, 35, .inl xf))] := hB
      have hl : lv_has ls 4 [(3, .int (nI (m + 1))), (0, .ref ra), (1, .ref xa), (2, .int (nI hd))] := hl
      have hlen1 : L1.length = ([] : List Int32).length + m := by rw [hL, List.length_append, plM_len]
      have hle1 : L1.length ≤ 400 := by omega
      refine lv_iload_n hx hb dX7_completes_65 rfl (lv_at hl 0 rfl) ?_
      refine lv_aload_n hx hb dX7_completes_66 rfl (lv_at hl 2 rfl) ?_
      refine g_calliA (wr := [(ra, .inr (5, [.ref ga, .int (nI op), .int (nI la), .int (nI dr)])), (ga, .inr (0, [.ref gr, .int (nI L1.length)])), (gr, .inl (G.2.2.2.1, 400, .inl f1))]) (wc := [(xa, .inr (2, [.ref xb, .int (nI (sd + 1))])), (xb, .inr (0, [.ref xr, .int (nI bl.length)])), (xr, .inl (G.2.2.2.1, 35, .inl xf))]) (av := []) (rest := [.int (nI (m + 1))]) ⟨hx, hb, hml, hown, hts⟩ (k_Frame_carries l G xa sd hsd xb xr 35 xf bl hp hle (by decide) hB9 h13) (cwV 0 hts gX7_completes_X3_carries rfl rfl rfl (by decide +kernel) ⟨Nat.le_of_ble_eq_true rfl, Nat.le_of_ble_eq_true rfl⟩) hB (q0 := 0) (ci := 2) rfl rfl rfl rfl hl.1 rfl (Nat.le_of_ble_eq_true rfl) dX7_completes_67 ⟨Nat.le_of_ble_eq_true rfl, Nat.le_of_ble_eq_true rfl⟩ (fun r9 u H locs hw hB => ?_)
      obtain ⟨rfl, rfl⟩ := hw
      have hB : gB G.1 (rT G) A s H locs [(ra, .inr (5, [.ref ga, .int (nI op), .int (nI la), .int (nI dr)])), (ga, .inr (0, [.ref gr, .int (nI L1.length)])), (gr, .inl (G.2.2.2.1, 400, .inl f1)), (xa, .inr (2, [.ref xb, .int (nI (sd + 1))])), (xb, .inr (0, [.ref xr, .int (nI bl.length)])), (xr, .inl (G.2.2.2.1, 35, .inl xf))] := hB
      refine g_top (y := nI (nF bl)) (pk_sub (by omega)) ?_
      refine lv_icmp_ge (tgt := 92) hx hb dX7_completes_70 (by decide) (fun c_11 => ?_) (fun c_11 => ?_)
      · have c_11 : (nF bl) ≤ (m + 1) := (nI_leI (a := (nF bl)) (b := (m + 1)) (by omega) (by omega)).mp c_11
        have hm9 : m = nF bl - 1 := by omega
        rw [hm9] at hL
        refine lv_aload_n hx hb dX7_completes_92 rfl (lv_at hl 1 rfl) ?_
        refine lv_iload_n hx hb dX7_completes_93 rfl (lv_at hl 3 rfl) ?_
        refine g_callS0 (av := [.int (nI hd)]) (rest := [.ref ra]) ⟨hx, hb, hml, hown, hts⟩ (k_Segment_number l G hd hhd) (va_cwS 1 hts gX7_completes_X8_number rfl rfl rfl (by decide +kernel) ⟨Nat.le_of_ble_eq_true rfl, Nat.le_of_ble_eq_true rfl⟩) hB rfl hl.1 rfl (Nat.le_of_ble_eq_true rfl) dX7_completes_94 ⟨Nat.le_of_ble_eq_true rfl, Nat.le_of_ble_eq_true rfl⟩ (fun r9 H locs hw hB => ?_)
        have er := hw
        subst er
        refine g_put (own := RX7) (C := RX7) (T := TX7) (N := 4) (ci := 5) (v := .int (nI (hd % 64))) hx hb ([(ra, .inr (5, [.ref ga, .int (nI op), .int (nI (hd % 64)), .int (nI dr)])), (ga, .inr (0, [.ref gr, .int (nI L1.length)])), (gr, .inl (G.2.2.2.1, 400, .inl f1)), (xa, .inr (2, [.ref xb, .int (nI (sd + 1))])), (xb, .inr (0, [.ref xr, .int (nI bl.length)])), (xr, .inl (G.2.2.2.1, 35, .inl xf))]) hts (fun _ h => List.mem_cons_of_mem _ (List.mem_append_left _ (List.mem_append_left _ (List.mem_append_right _ h)))) tyX7 tyX7_ok nmX7 hown hB 0 rfl rfl 2 (by decide) (hts (.fieldLink RX7 59 "PointReports$Receiver" "lastNumber" "I") (by decide +kernel)) rfl rfl (ty := .int) rfl rfl rfl (Nat.le_of_ble_eq_true rfl) rfl dX7_completes_97 (fun H locs hB => ?_)
        refine lv_aload_n hx hb dX7_completes_100 rfl (lv_at hl 1 rfl) ?_
        refine lv_iload_n hx hb dX7_completes_101 rfl (lv_at hl 3 rfl) ?_
        refine g_callS0 (av := [.int (nI hd)]) (rest := [.ref ra]) ⟨hx, hb, hml, hown, hts⟩ (k_Segment_isLast l G hd hhd) (va_cwS 1 hts gX7_completes_X8_isLast rfl rfl rfl (by decide +kernel) ⟨Nat.le_of_ble_eq_true rfl, Nat.le_of_ble_eq_true rfl⟩) hB rfl hl.1 rfl (Nat.le_of_ble_eq_true rfl) dX7_completes_102 ⟨Nat.le_of_ble_eq_true rfl, Nat.le_of_ble_eq_true rfl⟩ (fun r9 H locs hw hB => ?_)
        have er := hw
        by_cases h128 : (hd &&& 128) = 0
        · rw [if_pos h128] at er
          subst er
          refine lv_if_ne (tgt := 112) hx hb dX7_completes_105 (by decide) (fun c9 => absurd c9 (by decide)) (fun _ => ?_)
          refine lv_iconst (v := nI 1) hx hb dX7_completes_108 (by decide) ?_
          refine lv_goto (tgt := 113) hx hb dX7_completes_109 (by decide) ?_
          refine g_put (own := RX7) (C := RX7) (T := TX7) (N := 4) (ci := 5) (v := .int (nI 1)) hx hb ([(ra, .inr (5, [.ref ga, .int (nI 1), .int (nI (hd % 64)), .int (nI dr)])), (ga, .inr (0, [.ref gr, .int (nI L1.length)])), (gr, .inl (G.2.2.2.1, 400, .inl f1)), (xa, .inr (2, [.ref xb, .int (nI (sd + 1))])), (xb, .inr (0, [.ref xr, .int (nI bl.length)])), (xr, .inl (G.2.2.2.1, 35, .inl xf))]) hts (fun _ h => List.mem_cons_of_mem _ (List.mem_append_left _ (List.mem_append_left _ (List.mem_append_right _ h)))) tyX7 tyX7_ok nmX7 hown hB 0 rfl rfl 1 (by decide) (hts (.fieldLink RX7 49 "PointReports$Receiver" "open" "Z") (by decide +kernel)) rfl rfl (ty := .boolean) rfl (narrow_z (Or.inr rfl)) (fits_z (Or.inr rfl)) (Nat.le_of_ble_eq_true rfl) rfl dX7_completes_113 (fun H locs hB => ?_)
          refine lv_aload_n hx hb dX7_completes_116 rfl (lv_at hl 1 rfl) ?_
          refine g_get (own := RX7) (C := RX7) (T := TX7) (N := 4) (ci := 5) (v := .int (nI 1)) hx hb hts (fun _ h => List.mem_cons_of_mem _ (List.mem_append_left _ (List.mem_append_left _ (List.mem_append_right _ h)))) hown hB 0 rfl rfl 1 (by decide) (hts (.fieldLink RX7 49 "PointReports$Receiver" "open" "Z") (by decide +kernel)) rfl rfl dX7_completes_117 ?_
          refine lv_if_ne (tgt := 127) hx hb dX7_completes_120 (by decide) (fun _ => ?_) (fun c9 => absurd c9 (by decide))
          refine lv_iconst (v := nI 0) hx hb dX7_completes_127 (by decide) ?_
          exact g_zret (Wd := fun u => rvW G ra ga gr u ++ fW G xa xb xr 35 (nI (sd + 1), nI bl.length, xf)) (v := nI 0) ((1, hd % 64, dr, L1), f1) hB hx hb hr hlocks rfl (narrow_z (Or.inl rfl)) (by rw [eok, rcG, ← ehd, if_pos h128, if_pos h128, ← hL]; exact ⟨_, hp1, hle1, hB1, rfl, rfl⟩) dX7_completes_128
        · rw [if_neg h128] at er
          subst er
          refine lv_if_ne (tgt := 112) hx hb dX7_completes_105 (by decide) (fun _ => ?_) (fun c9 => absurd c9 (by decide))
          refine lv_iconst (v := nI 0) hx hb dX7_completes_112 (by decide) ?_
          refine g_put (own := RX7) (C := RX7) (T := TX7) (N := 4) (ci := 5) (v := .int (nI 0)) hx hb ([(ra, .inr (5, [.ref ga, .int (nI 0), .int (nI (hd % 64)), .int (nI dr)])), (ga, .inr (0, [.ref gr, .int (nI L1.length)])), (gr, .inl (G.2.2.2.1, 400, .inl f1)), (xa, .inr (2, [.ref xb, .int (nI (sd + 1))])), (xb, .inr (0, [.ref xr, .int (nI bl.length)])), (xr, .inl (G.2.2.2.1, 35, .inl xf))]) hts (fun _ h => List.mem_cons_of_mem _ (List.mem_append_left _ (List.mem_append_left _ (List.mem_append_right _ h)))) tyX7 tyX7_ok nmX7 hown hB 0 rfl rfl 1 (by decide) (hts (.fieldLink RX7 49 "PointReports$Receiver" "open" "Z") (by decide +kernel)) rfl rfl (ty := .boolean) rfl (narrow_z (Or.inl rfl)) (fits_z (Or.inl rfl)) (Nat.le_of_ble_eq_true rfl) rfl dX7_completes_113 (fun H locs hB => ?_)
          refine lv_aload_n hx hb dX7_completes_116 rfl (lv_at hl 1 rfl) ?_
          refine g_get (own := RX7) (C := RX7) (T := TX7) (N := 4) (ci := 5) (v := .int (nI 0)) hx hb hts (fun _ h => List.mem_cons_of_mem _ (List.mem_append_left _ (List.mem_append_left _ (List.mem_append_right _ h)))) hown hB 0 rfl rfl 1 (by decide) (hts (.fieldLink RX7 49 "PointReports$Receiver" "open" "Z") (by decide +kernel)) rfl rfl dX7_completes_117 ?_
          refine lv_if_ne (tgt := 127) hx hb dX7_completes_120 (by decide) (fun c9 => absurd c9 (by decide)) (fun _ => ?_)
          refine lv_iconst (v := nI 1) hx hb dX7_completes_123 (by decide) ?_
          refine lv_goto (tgt := 128) hx hb dX7_completes_124 (by decide) ?_
          exact g_zret (Wd := fun u => rvW G ra ga gr u ++ fW G xa xb xr 35 (nI (sd + 1), nI bl.length, xf)) (v := nI 1) ((0, hd % 64, dr, L1), f1) hB hx hb hr hlocks rfl (narrow_z (Or.inr rfl)) (by rw [eok, rcG, ← ehd, if_neg h128, if_neg h128, ← hL]; exact ⟨_, hp1, hle1, hB1, rfl, rfl⟩) dX7_completes_128
      · have c_11 : ¬ (nF bl) ≤ (m + 1) := fun h9 => c_11 ((nI_leI (a := (nF bl)) (b := (m + 1)) (by omega) (by omega)).mpr h9)
        have hm8 : m + 1 < nF bl := by omega
        refine lv_aload_n hx hb dX7_completes_73 rfl (lv_at hl 1 rfl) ?_
        refine g_get (own := RX7) (C := RX7) (T := TX7) (N := 4) (ci := 5) (v := .ref ga) hx hb hts (fun _ h => List.mem_cons_of_mem _ (List.mem_append_left _ (List.mem_append_left _ (List.mem_append_right _ h)))) hown hB 0 rfl rfl 0 (by decide) (hts (.fieldLink RX7 14 "PointReports$Receiver" "fragment" "LPointReports$Bytes;") (by decide +kernel)) rfl rfl dX7_completes_74 ?_
        refine lv_aload_n hx hb dX7_completes_77 rfl (lv_at hl 2 rfl) ?_
        refine lv_iload_n hx hb dX7_completes_78 rfl (lv_at hl 0 rfl) ?_
        refine g_calliA (wr := [(ra, .inr (5, [.ref ga, .int (nI op), .int (nI la), .int (nI dr)])), (ga, .inr (0, [.ref gr, .int (nI L1.length)])), (gr, .inl (G.2.2.2.1, 400, .inl f1))]) (wc := [(xa, .inr (2, [.ref xb, .int (nI (sd + 1))])), (xb, .inr (0, [.ref xr, .int (nI bl.length)])), (xr, .inl (G.2.2.2.1, 35, .inl xf))]) (av := [.int (nI (m + 1))]) (rest := [.ref ga]) ⟨hx, hb, hml, hown, hts⟩ (k_Frame_carried l G xa sd hsd xb xr 35 xf bl hp hle (by decide) hB9 (m + 1) (by omega)) (cwV 1 hts gX7_completes_X3_carried rfl rfl rfl (by decide +kernel) ⟨Nat.le_of_ble_eq_true rfl, Nat.le_of_ble_eq_true rfl⟩) hB (q0 := 0) (ci := 2) rfl rfl rfl rfl hl.1 rfl (Nat.le_of_ble_eq_true rfl) dX7_completes_79 ⟨Nat.le_of_ble_eq_true rfl, Nat.le_of_ble_eq_true rfl⟩ (fun r9 u H locs hw hB => ?_)
        obtain ⟨rfl, rfl⟩ := hw
        have hB : gB G.1 (rT G) A s H locs [(ra, .inr (5, [.ref ga, .int (nI op), .int (nI la), .int (nI dr)])), (ga, .inr (0, [.ref gr, .int (nI L1.length)])), (gr, .inl (G.2.2.2.1, 400, .inl f1)), (xa, .inr (2, [.ref xb, .int (nI (sd + 1))])), (xb, .inr (0, [.ref xr, .int (nI bl.length)])), (xr, .inl (G.2.2.2.1, 35, .inl xf))] := hB
        refine g_top (y := nI (crF bl (1 + m))) (congrArg nI ((carr_eq (by omega)).trans (by rw [Nat.add_comm]))) ?_
        have hB : gB G.1 (rT G) A s H locs [(ra, .inr (5, [.ref ga, .int (nI op), .int (nI la), .int (nI dr)])), (xa, .inr (2, [.ref xb, .int (nI (sd + 1))])), (xb, .inr (0, [.ref xr, .int (nI bl.length)])), (xr, .inl (G.2.2.2.1, 35, .inl xf)), (ga, .inr (0, [.ref gr, .int (nI L1.length)])), (gr, .inl (G.2.2.2.1, 400, .inl f1))] := hB.order [0, 3, 4, 5, 1, 2] (by decide) rfl rfl
        refine g_calliA (wr := [(ra, .inr (5, [.ref ga, .int (nI op), .int (nI la), .int (nI dr)])), (xa, .inr (2, [.ref xb, .int (nI (sd + 1))])), (xb, .inr (0, [.ref xr, .int (nI bl.length)])), (xr, .inl (G.2.2.2.1, 35, .inl xf))]) (wc := [(ga, .inr (0, [.ref gr, .int (nI L1.length)])), (gr, .inl (G.2.2.2.1, 400, .inl f1))]) (av := [.int (nI (crF bl (1 + m)))]) (rest := []) ⟨hx, hb, hml, hown, hts⟩ (k_Bytes_add l G ga gr 400 f1 L1 hp1 hle1 (by decide) (nI (crF bl (1 + m)))) (cwV 1 hts gX7_completes_X1_add rfl rfl rfl (by decide +kernel) ⟨Nat.le_of_ble_eq_true rfl, Nat.le_of_ble_eq_true rfl⟩) hB (q0 := 0) (ci := 0) rfl rfl rfl rfl hl.1 rfl (Nat.le_of_ble_eq_true rfl) dX7_completes_82 ⟨Nat.le_of_ble_eq_true rfl, Nat.le_of_ble_eq_true rfl⟩ (fun r9 u H locs hw hB => ?_)
        have hpo := hw
        have hB : gB G.1 (rT G) A s H locs [(ra, .inr (5, [.ref ga, .int (nI op), .int (nI la), .int (nI dr)])), (xa, .inr (2, [.ref xb, .int (nI (sd + 1))])), (xb, .inr (0, [.ref xr, .int (nI bl.length)])), (xr, .inl (G.2.2.2.1, 35, .inl xf)), (ga, .inr (0, [.ref gr, .int u.1])), (gr, .inl (G.2.2.2.1, 400, .inl u.2))] := hB
        rw [if_pos (show L1.length < 400 from by omega)] at hpo
        obtain ⟨-, f_16, q_16, rfl⟩ := hpo
        obtain ⟨L_16, eL_16⟩ : ∃ L9 : List Int32, L9 = L1 ++ [(nI (crF bl (1 + m))) &&& 255] := ⟨_, rfl⟩
        have hL_16 : pfx f_16 L_16 := by rw [eL_16]; exact q_16
        have nL_16 : L_16.length = L1.length + 1 := by rw [eL_16]; rw [List.length_append]; rfl
        have lL_16 : L_16.length ≤ 400 := by omega
        have bL_16 : ∀ x ∈ L_16, isB x := by rw [eL_16]; exact isB_app hB1 (fun x h => by rw [List.mem_singleton.mp h]; exact isB_and _)
        have hB : gB G.1 (rT G) A s H locs [(ra, .inr (5, [.ref ga, .int (nI op), .int (nI la), .int (nI dr)])), (xa, .inr (2, [.ref xb, .int (nI (sd + 1))])), (xb, .inr (0, [.ref xr, .int (nI bl.length)])), (xr, .inl (G.2.2.2.1, 35, .inl xf)), (ga, .inr (0, [.ref gr, .int (nI L_16.length)])), (gr, .inl (G.2.2.2.1, 400, .inl f_16))] := by rw [nL_16]; exact hB
        refine lv_pop hx hb dX7_completes_85 rfl ?_
        refine lv_iinc (v := nI (m + 1 + 1)) (lv' := [(3, .int (nI (m + 1 + 1))), (0, .ref ra), (1, .ref xa), (2, .int (nI hd))]) hx hb dX7_completes_86 hl (k := 0) rfl (nI_add _ _) (by decide) rfl (fun ls hl => ?_)
        refine lv_goto (tgt := 65) hx hb dX7_completes_89 (by decide) ?_
        have e5 : nI (crF bl (1 + m)) &&& 255 = nI (crF bl (1 + m)) := isB_255 ⟨_, hcr _ (by omega), rfl⟩
        have hB : gB G.1 (rT G) A s H locs [(ra, .inr (5, [.ref ga, .int (nI op), .int (nI la), .int (nI dr)])), (ga, .inr (0, [.ref gr, .int (nI L_16.length)])), (gr, .inl (G.2.2.2.1, 400, .inl f_16)), (xa, .inr (2, [.ref xb, .int (nI (sd + 1))])), (xb, .inr (0, [.ref xr, .int (nI bl.length)])), (xr, .inl (G.2.2.2.1, 35, .inl xf))] := hB.order [0, 4, 5, 1, 2, 3] (by decide) rfl rfl
        have hl : lv_has ls 4 [(3, .int (nI ((m + 1) + 1))), (0, .ref ra), (1, .ref xa), (2, .int (nI hd))] := lv_sub hl [0, 1, 2, 3] rfl
        have hB : gB G.1 (rT G) A s H locs [(ra, .inr (5, [.ref ga, .int (nI op), .int (nI la), .int (nI dr)])), (ga, .inr (0, [.ref gr, .int (nI L_16.length)])), (gr, .inl (G.2.2.2.1, 400, .inl f_16)), (xa, .inr (2, [.ref xb, .int (nI (sd + 1))])), (xb, .inr (0, [.ref xr, .int (nI bl.length)])), (xr, .inl (G.2.2.2.1, 35, .inl xf))] := hB
        have b_12 : (m + 1) + (d - 1) = nF bl - 1 := by omega
        have b_13 : pfx f_16 L_16 := hL_16
        have b_14 : L_16 = ([] : List Int32) ++ plM bl (m + 1) := by rw [eL_16, e5, hL, plM_s, List.append_assoc]
        have b_15 : ∀ x ∈ L_16, isB x := bL_16
        exact ih_10 (d - 1) (m + 1, f_16, L_16) H locs ls (by omega) ⟨b_12, b_13, b_14, b_15, hB, hl⟩
  · have c_1 := c_1
    have hok : ¬ okC sd bl := by rcases hh with ⟨h1, -⟩ | ⟨-, h1⟩; exact fun _ => absurd (h1.symm.trans c_1) (by decide); exact h1
    have eok : (rcC (op, la, dr, gl) sd bl) = ((op, la, dr + 1, gl), 0) := if_neg hok
    refine lv_aload_n hx hb dX7_completes_7 rfl (lv_at hl 0 rfl) ?_
    refine lv_dup hx hb dX7_completes_8 rfl ?_
    refine g_get (own := RX7) (C := RX7) (T := TX7) (N := 4) (ci := 5) (v := .int (nI dr)) hx hb hts (fun _ h => List.mem_cons_of_mem _ (List.mem_append_left _ (List.mem_append_left _ (List.mem_append_right _ h)))) hown hB 0 rfl rfl 3 (by decide) (hts (.fieldLink RX7 24 "PointReports$Receiver" "framesDropped" "I") (by decide +kernel)) rfl rfl dX7_completes_9 ?_
    refine lv_iconst (v := nI 1) hx hb dX7_completes_12 (by decide) ?_
    refine lv_iadd hx hb dX7_completes_13 ?_
    refine g_top (y := nI (dr + 1)) (nI_add _ _) ?_
    refine g_put (own := RX7) (C := RX7) (T := TX7) (N := 4) (ci := 5) (v := .int (nI (dr + 1))) hx hb ([(ra, .inr (5, [.ref ga, .int (nI op), .int (nI la), .int (nI (dr + 1))])), (ga, .inr (0, [.ref gr, .int (nI gl.length)])), (gr, .inl (G.2.2.2.1, 400, .inl gf)), (xa, .inr (2, [.ref xb, .int (nI (sd + 1))])), (xb, .inr (0, [.ref xr, .int (nI bl.length)])), (xr, .inl (G.2.2.2.1, 35, .inl xf))]) hts (fun _ h => List.mem_cons_of_mem _ (List.mem_append_left _ (List.mem_append_left _ (List.mem_append_right _ h)))) tyX7 tyX7_ok nmX7 hown hB 0 rfl rfl 3 (by decide) (hts (.fieldLink RX7 24 "PointReports$Receiver" "framesDropped" "I") (by decide +kernel)) rfl rfl (ty := .int) rfl rfl rfl (Nat.le_of_ble_eq_true rfl) rfl dX7_completes_14 (fun H locs hB => ?_)
    refine lv_iconst (v := nI 0) hx hb dX7_completes_17 (by decide) ?_
    exact g_zret (Wd := fun u => rvW G ra ga gr u ++ fW G xa xb xr 35 (nI (sd + 1), nI bl.length, xf)) (v := nI 0) ((op, la, dr + 1, gl), gf) hB hx hb hr hlocks rfl (narrow_z (Or.inl rfl)) (by rw [eok]; exact ⟨_, hgp, hgl, hgB, rfl, rfl⟩) dX7_completes_18
