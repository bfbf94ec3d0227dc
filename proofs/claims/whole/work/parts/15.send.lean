/-- a fragment goes onto the line, by its segments: d steps, from place a on -/
def sndS (to : Nat) (md : List Int32) : Nat → Nat → List (Int32 × List Int32) → Nat → List (Int32 × List Int32) × Nat
  | 0, _, L, q => (L, q)
  | d + 1, a, L, q => if a < md.length then sndS to md d (a + 20) (pushL L (nI to, frm to (nI (fbN a (if md.length - a < 20 then md.length - a else 20) md.length q)) (sub md a (if md.length - a < 20 then md.length - a else 20)))) ((q + 1) % 64) else (L, q)
theorem sndS_end {to : Nat} {md : List Int32} {d a : Nat} {L : List (Int32 × List Int32)} {q : Nat} (h : ¬ a < md.length) : sndS to md d a L q = (L, q) := by
  cases d with
  | zero => rfl
  | succ d => rw [sndS, if_neg h]
/-- a fragment of at most 400 bytes onto the line -/
def sndF (to : Nat) (md : List Int32) (L : List (Int32 × List Int32)) (q : Nat) : List (Int32 × List Int32) × Nat := sndS to md 21 0 L q
set_option maxRecDepth 100000 in
set_option maxHeartbeats 4000000 in
/-- send(to): what is made goes onto the line -/
theorem c_send (l : Launch) (G : rG) (sc : Nat → Int32) (ar : Nat → Nat → Int32) (to : Nat) (hto : to ≤ 1) (md : List Int32) (hmd : pfx (ar 39) md) (h40 : sc 40 = nI md.length) (hml2 : md.length ≤ 400) (L : List (Int32 × List Int32)) (hR : lnR (ar 31) (ar 32) (ar 33) L) (h30 : sc 30 = nI L.length) (hL : L.length ≤ 40) (q : Nat) (hq : ar 34 (1 - to) = nI q) (hq64 : q < 64) : gM l G.1 (rT G) yX12_send wsX12_send ({ frames := 3, cells := 0, slots := 0, locals := 74 }) [.ref G.2.1, .int (nI to)] (rWs G (sc, ar)) (gQv G.1 (rT G) (fun u : rSt => ∃ fr le si nu, lnR fr le si (sndF to md L q).1 ∧ (sndF to md L q).1.length ≤ 40 ∧ (sndF to md L q).2 < 64 ∧ nu (1 - to) = nI (sndF to md L q).2 ∧ nu to = ar 34 to ∧ u = (upd sc 30 (nI (sndF to md L q).1.length), va_up (va_up (va_up (va_up ar 31 fr) 32 le) 33 si) 34 nu)) (rWs G)) 0 0 := by
  refine gM.of (cc := cX12_send) (maxL := 3) (ret := none) (by decide) rfl (Nat.le_of_ble_eq_true rfl) ?_
  intro p e s m below meth c A ls hx hb hr hml hown hts hlocks hnm hB hl
  have hin : ∀ w ∈ wsX120, w ∈ wsX12_send := fun w h => List.mem_cons_of_mem _ (List.mem_append_right _ h)
  have hl : lv_has ls 3 [(0, .ref G.2.1), (1, .int (nI to))] := hl
  refine lv_iconst (v := nI 0) hx hb dX12_send_0 (by decide) ?_
  refine lv_istore_n (lv' := [(2, .int (nI 0)), (0, .ref G.2.1), (1, .int (nI to))]) hx hb dX12_send_1 rfl hl (by decide) rfl (fun ls hl => ?_)
  have hl : lv_has ls 3 [(2, .int (nI 0)), (0, .ref G.2.1), (1, .int (nI to))] := lv_sub hl [0, 1, 2] rfl
  have hB : gB G.1 (rT G) A s s.heap [] (rWs G (upd sc 30 (nI L.length), va_up (va_up (va_up (va_up ar 31 (ar 31)) 32 (ar 32)) 33 (ar 33)) 34 (ar 34))) := by rw [← h30]; exact hB
  refine g_loop (σ := Nat × (List (Int32 × List Int32)) × Nat × (Nat → Int32) × (Nat → Int32) × (Nat → Int32) × (Nat → Int32)) (fun d xv H locs ls => (sndS to md d xv.1 xv.2.1 xv.2.2.1 = sndF to md L q) ∧ (md.length ≤ xv.1 + 20 * d) ∧ (xv.1 + 20 * d ≤ 420) ∧ (lnR xv.2.2.2.1 xv.2.2.2.2.1 xv.2.2.2.2.2.1 xv.2.1) ∧ (xv.2.1.length ≤ 40) ∧ (xv.2.2.1 < 64) ∧ (xv.2.2.2.2.2.2 (1 - to) = nI xv.2.2.1) ∧ (xv.2.2.2.2.2.2 to = ar 34 to) ∧ gB G.1 (rT G) A s H locs (rWs G (upd sc 30 (nI xv.2.1.length), va_up (va_up (va_up (va_up ar 31 xv.2.2.2.1) 32 xv.2.2.2.2.1) 33 xv.2.2.2.2.2.1) 34 xv.2.2.2.2.2.2)) ∧ lv_has ls 3 [(2, .int (nI xv.1)), (0, .ref G.2.1), (1, .int (nI to))]) 21 (0, L, q, ar 31, ar 32, ar 33, ar 34) ⟨rfl, by omega, by omega, hR, hL, hq64, hq, rfl, hB, hl⟩ ?_
  rintro d ⟨a, L1, q1, fr, le, si, nu⟩ H locs ls ⟨hs, ha, ha2, hR1, hL1, hq1, hn1, hn2, hB, hl⟩ ih_1
  have hs : sndS to md d a L1 q1 = sndF to md L q := hs
  have ha : md.length ≤ a + 20 * d := ha
  have ha2 : a + 20 * d ≤ 420 := ha2
  have hR1 : lnR fr le si L1 := hR1
  have hL1 : L1.length ≤ 40 := hL1
  have hq1 : q1 < 64 := hq1
  have hn1 : nu (1 - to) = nI q1 := hn1
  have hn2 : nu to = ar 34 to := hn2
  have hB : gB G.1 (rT G) A s H locs (rWs G (upd sc 30 (nI L1.length), va_up (va_up (va_up (va_up ar 31 fr) 32 le) 33 si) 34 nu)) := hB
  have hl : lv_has ls 3 [(2, .int (nI a)), (0, .ref G.2.1), (1, .int (nI to))] := hl
  refine lv_iload_n hx hb dX12_send_2 rfl (lv_at hl 0 rfl) ?_
  refine lv_aload_n hx hb dX12_send_3 rfl (lv_at hl 1 rfl) ?_
  refine r_get (u := (upd sc 30 (nI L1.length), va_up (va_up (va_up (va_up ar 31 fr) 32 le) 33 si) 34 nu)) (v := .int (sc 40)) hx hb hts hin hown hB 40 (by decide) (hts (.fieldLink RX12 104 "PointReportsModel" "madeLength" "I") (by decide +kernel)) rfl rfl dX12_send_4 ?_
  refine g_top (y := nI md.length) h40 ?_
  refine lv_icmp_ge (tgt := 44) hx hb dX12_send_7 (by decide) (fun c_2 => ?_) (fun c_2 => ?_)
  · have c_2 : md.length ≤ a := (nI_leI (a := md.length) (b := a) (by omega) (by omega)).mp c_2
    rw [sndS_end (by omega)] at hs
    rw [← hs]
    exact g_vret (Wd := rWs G) (upd sc 30 (nI L1.length), va_up (va_up (va_up (va_up ar 31 fr) 32 le) 33 si) 34 nu) hB hx hb hr hlocks rfl ⟨fr, le, si, nu, hR1, hL1, hq1, hn1, hn2, rfl⟩ dX12_send_44
  · have c_2 : ¬ md.length ≤ a := fun h9 => c_2 ((nI_leI (a := md.length) (b := a) (by omega) (by omega)).mpr h9)
    obtain ⟨d9, rfl⟩ : ∃ z, d = z + 1 := ⟨d - 1, by omega⟩
    rw [sndS, if_pos (by omega)] at hs
    refine lv_aload_n hx hb dX12_send_10 rfl (lv_at hl 1 rfl) ?_
    refine lv_iload_n hx hb dX12_send_11 rfl (lv_at hl 2 rfl) ?_
    refine lv_iload_n hx hb dX12_send_12 rfl (lv_at hl 0 rfl) ?_
    refine lv_aload_n hx hb dX12_send_13 rfl (lv_at hl 1 rfl) ?_
    refine r_get (u := (upd sc 30 (nI L1.length), va_up (va_up (va_up (va_up ar 31 fr) 32 le) 33 si) 34 nu)) (v := .int (sc 40)) hx hb hts hin hown hB 40 (by decide) (hts (.fieldLink RX12 104 "PointReportsModel" "madeLength" "I") (by decide +kernel)) rfl rfl dX12_send_14 ?_
    refine g_top (y := nI md.length) h40 ?_
    refine lv_iload_n hx hb dX12_send_17 rfl (lv_at hl 0 rfl) ?_
    refine lv_isub hx hb dX12_send_18 ?_
    refine g_top (y := nI (md.length - a)) (pk_sub (by omega)) ?_
    refine lv_bipush (v := nI 20) hx hb dX12_send_19 (by decide) ?_
    refine g_cut (σ := Unit) 35 (fun _ H locs ls => gB G.1 (rT G) A s H locs (rWs G (upd sc 30 (nI L1.length), va_up (va_up (va_up (va_up ar 31 fr) 32 le) 33 si) 34 nu)) ∧ lv_has ls 3 [(2, .int (nI a)), (0, .ref G.2.1), (1, .int (nI to))]) (fun _ => [.int (nI (if md.length - a < 20 then md.length - a else 20)), .int (nI a), .int (nI to), .ref G.2.1]) ?_ (fun cut => ?_)
    rotate_left
    · refine lv_icmp_ge (tgt := 33) hx hb dX12_send_21 (by decide) (fun c_3 => ?_) (fun c_3 => ?_)
      · have c_3 : 20 ≤ (md.length - a) := (nI_leI (a := 20) (b := (md.length - a)) (by omega) (by omega)).mp c_3
        refine lv_bipush (v := nI 20) hx hb dX12_send_33 (by decide) ?_
        refine g_top (y := nI (if md.length - a < 20 then md.length - a else 20)) (by rw [if_neg (by omega)]) ?_
        exact cut () H locs ls ⟨hB, hl⟩
      · have c_3 : ¬ 20 ≤ (md.length - a) := fun h9 => c_3 ((nI_leI (a := 20) (b := (md.length - a)) (by omega) (by omega)).mpr h9)
        refine lv_aload_n hx hb dX12_send_24 rfl (lv_at hl 1 rfl) ?_
        refine r_get (u := (upd sc 30 (nI L1.length), va_up (va_up (va_up (va_up ar 31 fr) 32 le) 33 si) 34 nu)) (v := .int (sc 40)) hx hb hts hin hown hB 40 (by decide) (hts (.fieldLink RX12 104 "PointReportsModel" "madeLength" "I") (by decide +kernel)) rfl rfl dX12_send_25 ?_
        refine g_top (y := nI md.length) h40 ?_
        refine lv_iload_n hx hb dX12_send_28 rfl (lv_at hl 0 rfl) ?_
        refine lv_isub hx hb dX12_send_29 ?_
        refine g_top (y := nI (md.length - a)) (pk_sub (by omega)) ?_
        refine lv_goto (tgt := 35) hx hb dX12_send_30 (by decide) ?_
        refine g_top (y := nI (if md.length - a < 20 then md.length - a else 20)) (by rw [if_pos (by omega)]) ?_
        exact cut () H locs ls ⟨hB, hl⟩
    rintro - H locs ls ⟨hB, hl⟩
    have hnn : (if md.length - a < 20 then md.length - a else 20) ≤ 20 ∧ a + (if md.length - a < 20 then md.length - a else 20) ≤ md.length := by split <;> omega
    refine g_callv (av := [.int (nI to), .int (nI a), .int (nI (if md.length - a < 20 then md.length - a else 20))]) (rest := []) ⟨hx, hb, hml, hown, hts⟩ (c_fly l G (upd sc 30 (nI L1.length)) (va_up (va_up (va_up (va_up ar 31 fr) 32 le) 33 si) 34 nu) to a (if md.length - a < 20 then md.length - a else 20) hto hnn.1 md hmd h40 hnn.2 hml2 L1 hR1 rfl hL1 q1 hn1 hq1) (cwV 3 hts gX12_send_X12_fly rfl rfl rfl (by decide +kernel) ⟨Nat.le_of_ble_eq_true rfl, Nat.le_of_ble_eq_true rfl⟩) hB (q0 := 0) (ci := 9) rfl rfl rfl rfl hl.1 rfl (Nat.le_of_ble_eq_true rfl) dX12_send_35 ⟨Nat.le_of_ble_eq_true rfl, Nat.le_of_ble_eq_true rfl⟩ (fun u H locs hw hB => ?_)
    obtain ⟨fr2, le2, si2, nu2, hR2, hn3, hn4, rfl⟩ := hw
    have hB : gB G.1 (rT G) A s H locs (rWs G (upd sc 30 (nI ((pushL L1 (nI to, frm to (nI (fbN a (if md.length - a < 20 then md.length - a else 20) md.length q1)) (sub md a (if md.length - a < 20 then md.length - a else 20)))).length)), va_up (va_up (va_up (va_up ar 31 fr2) 32 le2) 33 si2) 34 nu2)) := hB
    refine lv_iinc (v := nI (a + 20)) (lv' := [(2, .int (nI (a + 20))), (0, .ref G.2.1), (1, .int (nI to))]) hx hb dX12_send_38 hl (k := 0) rfl (nI_add _ _) (by decide) rfl (fun ls hl => ?_)
    refine lv_goto (tgt := 2) hx hb dX12_send_41 (by decide) ?_
    have hl : lv_has ls 3 [(2, .int (nI (a + 20))), (0, .ref G.2.1), (1, .int (nI to))] := lv_sub hl [0, 1, 2] rfl
    have hB : gB G.1 (rT G) A s H locs (rWs G (upd sc 30 (nI (pushL L1 (nI to, frm to (nI (fbN a (if md.length - a < 20 then md.length - a else 20) md.length q1)) (sub md a (if md.length - a < 20 then md.length - a else 20)))).length), va_up (va_up (va_up (va_up ar 31 fr2) 32 le2) 33 si2) 34 nu2)) := hB
    have b_4 : sndS to md d9 (a + 20) (pushL L1 (nI to, frm to (nI (fbN a (if md.length - a < 20 then md.length - a else 20) md.length q1)) (sub md a (if md.length - a < 20 then md.length - a else 20)))) ((q1 + 1) % 64) = sndF to md L q := hs
    have b_5 : md.length ≤ (a + 20) + 20 * d9 := by omega
    have b_6 : (a + 20) + 20 * d9 ≤ 420 := by omega
    have b_7 : lnR fr2 le2 si2 (pushL L1 (nI to, frm to (nI (fbN a (if md.length - a < 20 then md.length - a else 20) md.length q1)) (sub md a (if md.length - a < 20 then md.length - a else 20)))) := hR2
    have b_8 : (pushL L1 (nI to, frm to (nI (fbN a (if md.length - a < 20 then md.length - a else 20) md.length q1)) (sub md a (if md.length - a < 20 then md.length - a else 20)))).length ≤ 40 := pushL_le hL1
    have b_9 : ((q1 + 1) % 64) < 64 := Nat.mod_lt _ (by decide)
    have b_10 : nu2 (1 - to) = nI ((q1 + 1) % 64) := hn3
    have b_11 : nu2 to = ar 34 to := hn4.trans hn2
    exact ih_1 d9 (a + 20, (pushL L1 (nI to, frm to (nI (fbN a (if md.length - a < 20 then md.length - a else 20) md.length q1)) (sub md a (if md.length - a < 20 then md.length - a else 20)))), (q1 + 1) % 64, fr2, le2, si2, nu2) H locs ls (by omega) ⟨b_4, b_5, b_6, b_7, b_8, b_9, b_10, b_11, hB, hl⟩
