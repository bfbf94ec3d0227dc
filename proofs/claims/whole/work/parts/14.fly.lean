/-- a frame's first eight bytes -/
def hdF (to n : Nat) : List Int32 := [nI 5 &&& 255, nI 100 &&& 255, nI (6 + n) &&& 255, (if to = 1 then nI 196 else nI 68) &&& 255, nI (1 + to) &&& 255, nI 0 &&& 255, nI (2 - to) &&& 255, nI 0 &&& 255]
/-- what a frame carries, by 16 bytes with their checks: what stands there, and the block that has no check yet -/
def pkN (first : Int32) (f : Nat → Int32) (a : Nat) : Nat → List Int32 × List Int32
  | 0 => ([first &&& 255], [first &&& 255])
  | n + 1 => if (pkN first f a n).2.length = 16 then ((pkN first f a n).1 ++ ck2 (pkN first f a n).2 ++ [f (a + n) &&& 255], [f (a + n) &&& 255]) else ((pkN first f a n).1 ++ [f (a + n) &&& 255], (pkN first f a n).2 ++ [f (a + n) &&& 255])
theorem pkN_len (first : Int32) (f : Nat → Int32) (a n : Nat) (hn : n ≤ 20) : (pkN first f a n).2.length = (if n < 16 then n + 1 else n - 15) ∧ (pkN first f a n).1.length = n + 1 + (if n < 16 then 0 else 2) ∧ ∃ z, (pkN first f a n).1 = z ++ (pkN first f a n).2 := by
  induction n with
  | zero => exact ⟨rfl, rfl, [], rfl⟩
  | succ n ih =>
    obtain ⟨h1, h2, z, h3⟩ := ih (by omega)
    rw [pkN]
    by_cases h : (pkN first f a n).2.length = 16
    · rw [if_pos h]
      rw [h] at h1
      have hn15 : n = 15 := by
        by_cases h9 : n < 16
        · rw [if_pos h9] at h1; omega
        · rw [if_neg h9] at h1; omega
      subst hn15
      refine ⟨rfl, ?_, _, rfl⟩
      rw [List.length_append, List.length_append, ck2_len, h2]
      rfl
    · rw [if_neg h]
      have hn15 : n ≠ 15 := fun e => h (by rw [h1, e]; rfl)
      refine ⟨?_, ?_, z, by dsimp only; rw [h3, List.append_assoc]⟩
      · rw [List.length_append, h1, List.length_singleton]
        by_cases h9 : n < 16
        · rw [if_pos h9, if_pos (by omega)]
        · rw [if_neg h9, if_neg (by omega)]; omega
      · rw [List.length_append, h2, List.length_singleton]
        by_cases h9 : n < 16
        · rw [if_pos h9, if_pos (by omega)]
        · rw [if_neg h9, if_neg (by omega)]
theorem pkN_ext {first : Int32} {f g : Nat → Int32} {a b n : Nat} (h : ∀ j, j < n → f (a + j) = g (b + j)) : pkN first f a n = pkN first g b n := by
  induction n with
  | zero => rfl
  | succ n ih => rw [pkN, pkN, ih (fun j hj => h j (by omega)), h n (by omega)]
/-- a frame to a side, with a segment's first byte and its bytes -/
def frm (to : Nat) (first : Int32) (l : List Int32) : List Int32 := hdF to l.length ++ ck2 (hdF to l.length) ++ (pkN first (fun j => l.getD j 0) 0 l.length).1 ++ ck2 (pkN first (fun j => l.getD j 0) 0 l.length).2
/-- a segment's first byte -/
def fbN (a n len q : Nat) : Nat := (if a + n = len then 128 else 0) + (if a = 0 then 64 else 0) + q
/-- a frame more on the line; of more than 40 the oldest is lost -/
def pushL (L : List (Int32 × List Int32)) (x : Int32 × List Int32) : List (Int32 × List Int32) := if L.length + 1 ≤ 40 then L ++ [x] else (L ++ [x]).eraseIdx 0
theorem pushL_le {L : List (Int32 × List Int32)} {x : Int32 × List Int32} (h : L.length ≤ 40) : (pushL L x).length ≤ 40 := by
  unfold pushL
  by_cases h1 : L.length + 1 ≤ 40
  · rw [if_pos h1, List.length_append]; exact h1
  · rw [if_neg h1, List.length_eraseIdx_of_lt (by rw [List.length_append, List.length_singleton]; omega), List.length_append, List.length_singleton]; omega
theorem seg_getD (f : Nat → Int32) (a n j : Nat) (h : j < n) : (seg f a n).getD j 0 = f (a + j) := by
  induction n with
  | zero => exact absurd h (Nat.not_lt_zero j)
  | succ n ih =>
    rw [seg, List.getD_eq_getElem?_getD]
    by_cases hj : j < n
    · rw [List.getElem?_append_left (by rw [seg_len]; exact hj), ← List.getD_eq_getElem?_getD, ih hj]
    · have e : j = n := by omega
      subst e
      rw [List.getElem?_append_right (by rw [seg_len]; exact Nat.le_refl _), seg_len, Nat.sub_self]
      rfl
set_option maxRecDepth 100000 in
set_option maxHeartbeats 4000000 in
/-- fly(to, a, n): a frame more -/
theorem c_fly (l : Launch) (G : rG) (sc : Nat → Int32) (ar : Nat → Nat → Int32) (to a n : Nat) (hto : to ≤ 1) (hn : n ≤ 20) (md : List Int32) (hmd : pfx (ar 39) md) (h40 : sc 40 = nI md.length) (han : a + n ≤ md.length) (hml2 : md.length ≤ 400) (L : List (Int32 × List Int32)) (hR : lnR (ar 31) (ar 32) (ar 33) L) (h30 : sc 30 = nI L.length) (hL : L.length ≤ 40) (q : Nat) (hq : ar 34 (1 - to) = nI q) (hq64 : q < 64) : gM l G.1 (rT G) yX12_fly wsX12_fly ({ frames := 2, cells := 0, slots := 0, locals := 47 }) [.ref G.2.1, .int (nI to), .int (nI a), .int (nI n)] (rWs G (sc, ar)) (gQv G.1 (rT G) (fun u : rSt => ∃ fr le si nu, lnR fr le si (pushL L (nI to, frm to (nI (fbN a n md.length q)) (sub md a n))) ∧ nu (1 - to) = nI ((q + 1) % 64) ∧ nu to = ar 34 to ∧ u = (upd sc 30 (nI (pushL L (nI to, frm to (nI (fbN a n md.length q)) (sub md a n))).length), va_up (va_up (va_up (va_up ar 31 fr) 32 le) 33 si) 34 nu)) (rWs G)) 0 0 := by
  refine gM.of (cc := cX12_fly) (maxL := 8) (ret := none) (by decide) rfl (Nat.le_of_ble_eq_true rfl) ?_
  intro p e s m below meth c A ls hx hb hr hml hown hts hlocks hnm hB hl
  have hin : ∀ w ∈ wsX120, w ∈ wsX12_fly := fun w h => List.mem_cons_of_mem _ (List.mem_append_right _ h)
  have hl : lv_has ls 8 [(0, .ref G.2.1), (1, .int (nI to)), (2, .int (nI a)), (3, .int (nI n))] := hl
  refine lv_aload_n hx hb dX12_fly_0 rfl (lv_at hl 0 rfl) ?_
  refine r_get (u := (sc, ar)) (v := .ref (G.2.2.1 32)) hx hb hts hin hown hB 32 (by decide) (hts (.fieldLink RX12 54 "PointReportsModel" "lengths" "[I") (by decide +kernel)) rfl rfl dX12_fly_1 ?_
  refine lv_aload_n hx hb dX12_fly_4 rfl (lv_at hl 0 rfl) ?_
  refine r_get (u := (sc, ar)) (v := .int (sc 30)) hx hb hts hin hown hB 30 (by decide) (hts (.fieldLink RX12 89 "PointReportsModel" "flying" "I") (by decide +kernel)) rfl rfl dX12_fly_5 ?_
  refine g_top (y := nI L.length) h30 ?_
  refine lv_iconst (v := nI 0) hx hb dX12_fly_8 (by decide) ?_
  refine r_ast (u := (sc, ar)) (f := ar 32) (x := nI 0) (va_up ar 32 (upd (ar 32) L.length (nI 0))) hx hb hB 14 rfl L.length rfl (by omega) (by decide) rfl dX12_fly_9 (fun H locs hB => ?_)
  refine lv_aload_n hx hb dX12_fly_10 rfl (lv_at hl 0 rfl) ?_
  refine r_get (u := (sc, va_up ar 32 (upd (ar 32) L.length (nI 0)))) (v := .ref (G.2.2.1 33)) hx hb hts hin hown hB 33 (by decide) (hts (.fieldLink RX12 57 "PointReportsModel" "sides" "[I") (by decide +kernel)) rfl rfl dX12_fly_11 ?_
  refine lv_aload_n hx hb dX12_fly_14 rfl (lv_at hl 0 rfl) ?_
  refine r_get (u := (sc, va_up ar 32 (upd (ar 32) L.length (nI 0)))) (v := .int (sc 30)) hx hb hts hin hown hB 30 (by decide) (hts (.fieldLink RX12 89 "PointReportsModel" "flying" "I") (by decide +kernel)) rfl rfl dX12_fly_15 ?_
  refine g_top (y := nI L.length) h30 ?_
  refine lv_iload_n hx hb dX12_fly_18 rfl (lv_at hl 1 rfl) ?_
  refine r_ast (u := (sc, va_up ar 32 (upd (ar 32) L.length (nI 0)))) (f := ar 33) (x := nI to) (va_up (va_up ar 32 (upd (ar 32) L.length (nI 0))) 33 (upd (ar 33) L.length (nI to))) hx hb hB 15 rfl L.length rfl (by omega) (by decide) rfl dX12_fly_19 (fun H locs hB => ?_)
  have hR0 := lnR_new (sd := nI to) hR
  refine lv_aload_n hx hb dX12_fly_20 rfl (lv_at hl 0 rfl) ?_
  refine lv_iconst (v := nI 5) hx hb dX12_fly_21 (by decide) ?_
  refine g_callv (av := [.int (nI 5)]) (rest := []) ⟨hx, hb, hml, hown, hts⟩ (c_putByte l G sc (va_up (va_up ar 32 (upd (ar 32) L.length (nI 0))) 33 (upd (ar 33) L.length (nI to))) (nI 5) L (nI to) [] hR0 h30 hL (Nat.le_of_ble_eq_true rfl)) (cwV 1 hts gX12_fly_X12_putByte rfl rfl rfl (by decide +kernel) ⟨Nat.le_of_ble_eq_true rfl, Nat.le_of_ble_eq_true rfl⟩) hB (q0 := 0) (ci := 9) rfl rfl rfl rfl hl.1 rfl (Nat.le_of_ble_eq_true rfl) dX12_fly_22 ⟨Nat.le_of_ble_eq_true rfl, Nat.le_of_ble_eq_true rfl⟩ (fun u H locs hw hB => ?_)
  obtain ⟨fr1, le1, hR1, rfl⟩ := hw
  have hB : gB G.1 (rT G) A s H locs (rWs G (sc, va_up (va_up (va_up ar 31 fr1) 32 le1) 33 (upd (ar 33) L.length (nI to)))) := hB
  refine lv_aload_n hx hb dX12_fly_25 rfl (lv_at hl 0 rfl) ?_
  refine lv_bipush (v := nI 100) hx hb dX12_fly_26 (by decide) ?_
  refine g_callv (av := [.int (nI 100)]) (rest := []) ⟨hx, hb, hml, hown, hts⟩ (c_putByte l G sc (va_up (va_up (va_up ar 31 fr1) 32 le1) 33 (upd (ar 33) L.length (nI to))) (nI 100) L (nI to) [nI 5 &&& 255] hR1 h30 hL (Nat.le_of_ble_eq_true rfl)) (cwV 1 hts gX12_fly_X12_putByte rfl rfl rfl (by decide +kernel) ⟨Nat.le_of_ble_eq_true rfl, Nat.le_of_ble_eq_true rfl⟩) hB (q0 := 0) (ci := 9) rfl rfl rfl rfl hl.1 rfl (Nat.le_of_ble_eq_true rfl) dX12_fly_28 ⟨Nat.le_of_ble_eq_true rfl, Nat.le_of_ble_eq_true rfl⟩ (fun u H locs hw hB => ?_)
  obtain ⟨fr2, le2, hR2, rfl⟩ := hw
  have hB : gB G.1 (rT G) A s H locs (rWs G (sc, va_up (va_up (va_up ar 31 fr2) 32 le2) 33 (upd (ar 33) L.length (nI to)))) := hB
  refine lv_aload_n hx hb dX12_fly_31 rfl (lv_at hl 0 rfl) ?_
  refine lv_bipush (v := nI 6) hx hb dX12_fly_32 (by decide) ?_
  refine lv_iload_n hx hb dX12_fly_34 rfl (lv_at hl 3 rfl) ?_
  refine lv_iadd hx hb dX12_fly_35 ?_
  refine g_top (y := nI (6 + n)) (nI_add _ _) ?_
  refine g_callv (av := [.int (nI (6 + n))]) (rest := []) ⟨hx, hb, hml, hown, hts⟩ (c_putByte l G sc (va_up (va_up (va_up ar 31 fr2) 32 le2) 33 (upd (ar 33) L.length (nI to))) (nI (6 + n)) L (nI to) [nI 5 &&& 255, nI 100 &&& 255] hR2 h30 hL (Nat.le_of_ble_eq_true rfl)) (cwV 1 hts gX12_fly_X12_putByte rfl rfl rfl (by decide +kernel) ⟨Nat.le_of_ble_eq_true rfl, Nat.le_of_ble_eq_true rfl⟩) hB (q0 := 0) (ci := 9) rfl rfl rfl rfl hl.1 rfl (Nat.le_of_ble_eq_true rfl) dX12_fly_36 ⟨Nat.le_of_ble_eq_true rfl, Nat.le_of_ble_eq_true rfl⟩ (fun u H locs hw hB => ?_)
  obtain ⟨fr3, le3, hR3, rfl⟩ := hw
  have hB : gB G.1 (rT G) A s H locs (rWs G (sc, va_up (va_up (va_up ar 31 fr3) 32 le3) 33 (upd (ar 33) L.length (nI to)))) := hB
  refine lv_aload_n hx hb dX12_fly_39 rfl (lv_at hl 0 rfl) ?_
  refine lv_iload_n hx hb dX12_fly_40 rfl (lv_at hl 1 rfl) ?_
  refine lv_iconst (v := nI 1) hx hb dX12_fly_41 (by decide) ?_
  refine g_cut (σ := Unit) 53 (fun _ H locs ls => gB G.1 (rT G) A s H locs (rWs G (sc, va_up (va_up (va_up ar 31 fr3) 32 le3) 33 (upd (ar 33) L.length (nI to)))) ∧ lv_has ls 8 [(0, .ref G.2.1), (1, .int (nI to)), (2, .int (nI a)), (3, .int (nI n))]) (fun _ => [.int (if to = 1 then nI 196 else nI 68), .ref G.2.1]) ?_ (fun cut => ?_)
  rotate_left
  · refine lv_icmp_ne (tgt := 51) hx hb dX12_fly_42 (by decide) (fun c_1 => ?_) (fun c_1 => ?_)
    · have c_1 : ¬ to = 1 := fun h9 => c_1 ((nI_eq (a := to) (b := 1) (by omega) (by omega)).mpr h9)
      refine lv_bipush (v := nI 68) hx hb dX12_fly_51 (by decide) ?_
      refine g_top (y := if to = 1 then nI 196 else nI 68) (by rw [if_neg c_1]) ?_
      exact cut () H locs ls ⟨hB, hl⟩
    · have c_1 : to = 1 := (nI_eq (a := to) (b := 1) (by omega) (by omega)).mp c_1
      refine lv_sipush (v := nI 196) hx hb dX12_fly_45 (by decide) ?_
      refine lv_goto (tgt := 53) hx hb dX12_fly_48 (by decide) ?_
      refine g_top (y := if to = 1 then nI 196 else nI 68) (by rw [if_pos c_1]) ?_
      exact cut () H locs ls ⟨hB, hl⟩
  rintro - H locs ls ⟨hB, hl⟩
  refine g_callv (av := [.int (if to = 1 then nI 196 else nI 68)]) (rest := []) ⟨hx, hb, hml, hown, hts⟩ (c_putByte l G sc (va_up (va_up (va_up ar 31 fr3) 32 le3) 33 (upd (ar 33) L.length (nI to))) (if to = 1 then nI 196 else nI 68) L (nI to) [nI 5 &&& 255, nI 100 &&& 255, nI (6 + n) &&& 255] hR3 h30 hL (Nat.le_of_ble_eq_true rfl)) (cwV 1 hts gX12_fly_X12_putByte rfl rfl rfl (by decide +kernel) ⟨Nat.le_of_ble_eq_true rfl, Nat.le_of_ble_eq_true rfl⟩) hB (q0 := 0) (ci := 9) rfl rfl rfl rfl hl.1 rfl (Nat.le_of_ble_eq_true rfl) dX12_fly_53 ⟨Nat.le_of_ble_eq_true rfl, Nat.le_of_ble_eq_true rfl⟩ (fun u H locs hw hB => ?_)
  obtain ⟨fr4, le4, hR4, rfl⟩ := hw
  have hB : gB G.1 (rT G) A s H locs (rWs G (sc, va_up (va_up (va_up ar 31 fr4) 32 le4) 33 (upd (ar 33) L.length (nI to)))) := hB
  refine lv_aload_n hx hb dX12_fly_56 rfl (lv_at hl 0 rfl) ?_
  refine lv_iconst (v := nI 1) hx hb dX12_fly_57 (by decide) ?_
  refine lv_iload_n hx hb dX12_fly_58 rfl (lv_at hl 1 rfl) ?_
  refine lv_iadd hx hb dX12_fly_59 ?_
  refine g_top (y := nI (1 + to)) (nI_add _ _) ?_
  refine g_callv (av := [.int (nI (1 + to))]) (rest := []) ⟨hx, hb, hml, hown, hts⟩ (c_putByte l G sc (va_up (va_up (va_up ar 31 fr4) 32 le4) 33 (upd (ar 33) L.length (nI to))) (nI (1 + to)) L (nI to) [nI 5 &&& 255, nI 100 &&& 255, nI (6 + n) &&& 255, (if to = 1 then nI 196 else nI 68) &&& 255] hR4 h30 hL (Nat.le_of_ble_eq_true rfl)) (cwV 1 hts gX12_fly_X12_putByte rfl rfl rfl (by decide +kernel) ⟨Nat.le_of_ble_eq_true rfl, Nat.le_of_ble_eq_true rfl⟩) hB (q0 := 0) (ci := 9) rfl rfl rfl rfl hl.1 rfl (Nat.le_of_ble_eq_true rfl) dX12_fly_60 ⟨Nat.le_of_ble_eq_true rfl, Nat.le_of_ble_eq_true rfl⟩ (fun u H locs hw hB => ?_)
  obtain ⟨fr5, le5, hR5, rfl⟩ := hw
  have hB : gB G.1 (rT G) A s H locs (rWs G (sc, va_up (va_up (va_up ar 31 fr5) 32 le5) 33 (upd (ar 33) L.length (nI to)))) := hB
  refine lv_aload_n hx hb dX12_fly_63 rfl (lv_at hl 0 rfl) ?_
  refine lv_iconst (v := nI 0) hx hb dX12_fly_64 (by decide) ?_
  refine g_callv (av := [.int (nI 0)]) (rest := []) ⟨hx, hb, hml, hown, hts⟩ (c_putByte l G sc (va_up (va_up (va_up ar 31 fr5) 32 le5) 33 (upd (ar 33) L.length (nI to))) (nI 0) L (nI to) [nI 5 &&& 255, nI 100 &&& 255, nI (6 + n) &&& 255, (if to = 1 then nI 196 else nI 68) &&& 255, nI (1 + to) &&& 255] hR5 h30 hL (Nat.le_of_ble_eq_true rfl)) (cwV 1 hts gX12_fly_X12_putByte rfl rfl rfl (by decide +kernel) ⟨Nat.le_of_ble_eq_true rfl, Nat.le_of_ble_eq_true rfl⟩) hB (q0 := 0) (ci := 9) rfl rfl rfl rfl hl.1 rfl (Nat.le_of_ble_eq_true rfl) dX12_fly_65 ⟨Nat.le_of_ble_eq_true rfl, Nat.le_of_ble_eq_true rfl⟩ (fun u H locs hw hB => ?_)
  obtain ⟨fr6, le6, hR6, rfl⟩ := hw
  have hB : gB G.1 (rT G) A s H locs (rWs G (sc, va_up (va_up (va_up ar 31 fr6) 32 le6) 33 (upd (ar 33) L.length (nI to)))) := hB
  refine lv_aload_n hx hb dX12_fly_68 rfl (lv_at hl 0 rfl) ?_
  refine lv_iconst (v := nI 2) hx hb dX12_fly_69 (by decide) ?_
  refine lv_iload_n hx hb dX12_fly_70 rfl (lv_at hl 1 rfl) ?_
  refine lv_isub hx hb dX12_fly_71 ?_
  refine g_top (y := nI (2 - to)) (pk_sub (by omega)) ?_
  refine g_callv (av := [.int (nI (2 - to))]) (rest := []) ⟨hx, hb, hml, hown, hts⟩ (c_putByte l G sc (va_up (va_up (va_up ar 31 fr6) 32 le6) 33 (upd (ar 33) L.length (nI to))) (nI (2 - to)) L (nI to) [nI 5 &&& 255, nI 100 &&& 255, nI (6 + n) &&& 255, (if to = 1 then nI 196 else nI 68) &&& 255, nI (1 + to) &&& 255, nI 0 &&& 255] hR6 h30 hL (Nat.le_of_ble_eq_true rfl)) (cwV 1 hts gX12_fly_X12_putByte rfl rfl rfl (by decide +kernel) ⟨Nat.le_of_ble_eq_true rfl, Nat.le_of_ble_eq_true rfl⟩) hB (q0 := 0) (ci := 9) rfl rfl rfl rfl hl.1 rfl (Nat.le_of_ble_eq_true rfl) dX12_fly_72 ⟨Nat.le_of_ble_eq_true rfl, Nat.le_of_ble_eq_true rfl⟩ (fun u H locs hw hB => ?_)
  obtain ⟨fr7, le7, hR7, rfl⟩ := hw
  have hB : gB G.1 (rT G) A s H locs (rWs G (sc, va_up (va_up (va_up ar 31 fr7) 32 le7) 33 (upd (ar 33) L.length (nI to)))) := hB
  refine lv_aload_n hx hb dX12_fly_75 rfl (lv_at hl 0 rfl) ?_
  refine lv_iconst (v := nI 0) hx hb dX12_fly_76 (by decide) ?_
  refine g_callv (av := [.int (nI 0)]) (rest := []) ⟨hx, hb, hml, hown, hts⟩ (c_putByte l G sc (va_up (va_up (va_up ar 31 fr7) 32 le7) 33 (upd (ar 33) L.length (nI to))) (nI 0) L (nI to) [nI 5 &&& 255, nI 100 &&& 255, nI (6 + n) &&& 255, (if to = 1 then nI 196 else nI 68) &&& 255, nI (1 + to) &&& 255, nI 0 &&& 255, nI (2 - to) &&& 255] hR7 h30 hL (Nat.le_of_ble_eq_true rfl)) (cwV 1 hts gX12_fly_X12_putByte rfl rfl rfl (by decide +kernel) ⟨Nat.le_of_ble_eq_true rfl, Nat.le_of_ble_eq_true rfl⟩) hB (q0 := 0) (ci := 9) rfl rfl rfl rfl hl.1 rfl (Nat.le_of_ble_eq_true rfl) dX12_fly_77 ⟨Nat.le_of_ble_eq_true rfl, Nat.le_of_ble_eq_true rfl⟩ (fun u H locs hw hB => ?_)
  obtain ⟨fr8, le8, hR8, rfl⟩ := hw
  have hB : gB G.1 (rT G) A s H locs (rWs G (sc, va_up (va_up (va_up ar 31 fr8) 32 le8) 33 (upd (ar 33) L.length (nI to)))) := hB
  refine lv_aload_n hx hb dX12_fly_80 rfl (lv_at hl 0 rfl) ?_
  refine lv_bipush (v := nI 8) hx hb dX12_fly_81 (by decide) ?_
  have hh : hdF to n = [nI 5 &&& 255, nI 100 &&& 255, nI (6 + n) &&& 255, (if to = 1 then nI 196 else nI 68) &&& 255, nI (1 + to) &&& 255, nI 0 &&& 255, nI (2 - to) &&& 255, nI 0 &&& 255] := rfl
  have hR8 : lnR fr8 le8 (upd (ar 33) L.length (nI to)) (L ++ [(nI to, [] ++ hdF to n)]) := hR8
  refine g_top (y := nI ((hdF to n).length)) rfl ?_
  refine g_callv (av := [.int (nI ((hdF to n).length))]) (rest := []) ⟨hx, hb, hml, hown, hts⟩ (c_putCheck l G sc (va_up (va_up (va_up ar 31 fr8) 32 le8) 33 (upd (ar 33) L.length (nI to))) L (nI to) [] (hdF to n) hR8 h30 hL (Nat.le_of_ble_eq_true rfl)) (cwV 1 hts gX12_fly_X12_putCheck rfl rfl rfl (by decide +kernel) ⟨Nat.le_of_ble_eq_true rfl, Nat.le_of_ble_eq_true rfl⟩) hB (q0 := 0) (ci := 9) rfl rfl rfl rfl hl.1 rfl (Nat.le_of_ble_eq_true rfl) dX12_fly_83 ⟨Nat.le_of_ble_eq_true rfl, Nat.le_of_ble_eq_true rfl⟩ (fun u H locs hw hB => ?_)
  obtain ⟨fr9, le9, hR9, rfl⟩ := hw
  have hB : gB G.1 (rT G) A s H locs (rWs G (sc, va_up (va_up (va_up ar 31 fr9) 32 le9) 33 (upd (ar 33) L.length (nI to)))) := hB
  have hR9 : lnR fr9 le9 (upd (ar 33) L.length (nI to)) (L ++ [(nI to, hdF to n ++ ck2 (hdF to n))]) := hR9
  refine lv_iload_n hx hb dX12_fly_86 rfl (lv_at hl 2 rfl) ?_
  refine lv_iload_n hx hb dX12_fly_87 rfl (lv_at hl 3 rfl) ?_
  refine lv_iadd hx hb dX12_fly_88 ?_
  refine g_top (y := nI (a + n)) (nI_add _ _) ?_
  refine lv_aload_n hx hb dX12_fly_89 rfl (lv_at hl 0 rfl) ?_
  refine r_get (u := (sc, va_up (va_up (va_up ar 31 fr9) 32 le9) 33 (upd (ar 33) L.length (nI to)))) (v := .int (sc 40)) hx hb hts hin hown hB 40 (by decide) (hts (.fieldLink RX12 104 "PointReportsModel" "madeLength" "I") (by decide +kernel)) rfl rfl dX12_fly_90 ?_
  refine g_top (y := nI md.length) h40 ?_
  have hl9 : (if a + n = md.length then 1 else 0) ≤ 1 := by split <;> omega
  refine g_cut (σ := Unit) 101 (fun _ H locs ls => gB G.1 (rT G) A s H locs (rWs G (sc, va_up (va_up (va_up ar 31 fr9) 32 le9) 33 (upd (ar 33) L.length (nI to)))) ∧ lv_has ls 8 [(0, .ref G.2.1), (1, .int (nI to)), (2, .int (nI a)), (3, .int (nI n))]) (fun _ => [.int (nI (if a + n = md.length then 1 else 0))]) ?_ (fun cut => ?_)
  rotate_left
  · refine lv_icmp_ne (tgt := 100) hx hb dX12_fly_93 (by decide) (fun c_2 => ?_) (fun c_2 => ?_)
    · have c_2 : ¬ (a + n) = md.length := fun h9 => c_2 ((nI_eq (a := (a + n)) (b := md.length) (by omega) (by omega)).mpr h9)
      refine lv_iconst (v := nI 0) hx hb dX12_fly_100 (by decide) ?_
      refine g_top (y := nI (if a + n = md.length then 1 else 0)) (by rw [if_neg c_2]) ?_
      exact cut () H locs ls ⟨hB, hl⟩
    · have c_2 : (a + n) = md.length := (nI_eq (a := (a + n)) (b := md.length) (by omega) (by omega)).mp c_2
      refine lv_iconst (v := nI 1) hx hb dX12_fly_96 (by decide) ?_
      refine lv_goto (tgt := 101) hx hb dX12_fly_97 (by decide) ?_
      refine g_top (y := nI (if a + n = md.length then 1 else 0)) (by rw [if_pos c_2]) ?_
      exact cut () H locs ls ⟨hB, hl⟩
  rintro - H locs ls ⟨hB, hl⟩
  refine lv_istore (lv' := [(4, .int (nI (if a + n = md.length then 1 else 0))), (0, .ref G.2.1), (1, .int (nI to)), (2, .int (nI a)), (3, .int (nI n))]) hx hb dX12_fly_101 hl (by decide) rfl (fun ls hl => ?_)
  refine lv_iconst (v := nI 1) hx hb dX12_fly_103 (by decide) ?_
  refine lv_iload_n hx hb dX12_fly_104 rfl (lv_at hl 2 rfl) ?_
  refine lv_isub hx hb dX12_fly_105 ?_
  refine g_top (y := nI (1 - to)) (pk_sub (by omega)) ?_
  refine lv_istore (lv' := [(5, .int (nI (1 - to))), (4, .int (nI (if a + n = md.length then 1 else 0))), (0, .ref G.2.1), (1, .int (nI to)), (2, .int (nI a)), (3, .int (nI n))]) hx hb dX12_fly_106 hl (by decide) rfl (fun ls hl => ?_)
  refine lv_aload_n hx hb dX12_fly_108 rfl (lv_at hl 2 rfl) ?_
  refine lv_iload hx hb dX12_fly_109 (lv_at hl 1 rfl) ?_
  refine g_cut (σ := Unit) 121 (fun _ H locs ls => gB G.1 (rT G) A s H locs (rWs G (sc, va_up (va_up (va_up ar 31 fr9) 32 le9) 33 (upd (ar 33) L.length (nI to)))) ∧ lv_has ls 8 [(5, .int (nI (1 - to))), (4, .int (nI (if a + n = md.length then 1 else 0))), (0, .ref G.2.1), (1, .int (nI to)), (2, .int (nI a)), (3, .int (nI n))]) (fun _ => [.int (nI (if a + n = md.length then 128 else 0)), .ref G.2.1]) ?_ (fun cut => ?_)
  rotate_left
  · refine lv_if_eq (tgt := 120) hx hb dX12_fly_111 (by decide) (fun c_3 => ?_) (fun c_3 => ?_)
    · have c_3 : (if a + n = md.length then 1 else 0) = 0 := (nI_eq (a := (if a + n = md.length then 1 else 0)) (b := 0) (by omega) (by omega)).mp c_3
      refine lv_iconst (v := nI 0) hx hb dX12_fly_120 (by decide) ?_
      refine g_top (y := nI (if a + n = md.length then 128 else 0)) (by rw [if_neg (fun h9 => by rw [if_pos h9] at c_3; omega)]) ?_
      exact cut () H locs ls ⟨hB, hl⟩
    · have c_3 : ¬ (if a + n = md.length then 1 else 0) = 0 := fun h9 => c_3 ((nI_eq (a := (if a + n = md.length then 1 else 0)) (b := 0) (by omega) (by omega)).mpr h9)
      refine lv_sipush (v := nI 128) hx hb dX12_fly_114 (by decide) ?_
      refine lv_goto (tgt := 121) hx hb dX12_fly_117 (by decide) ?_
      refine g_top (y := nI (if a + n = md.length then 128 else 0)) (by rw [if_pos (Classical.byContradiction (fun h9 => c_3 (by rw [if_neg h9])))]) ?_
      exact cut () H locs ls ⟨hB, hl⟩
  rintro - H locs ls ⟨hB, hl⟩
  refine lv_iload_n hx hb dX12_fly_121 rfl (lv_at hl 4 rfl) ?_
  refine g_cut (σ := Unit) 131 (fun _ H locs ls => gB G.1 (rT G) A s H locs (rWs G (sc, va_up (va_up (va_up ar 31 fr9) 32 le9) 33 (upd (ar 33) L.length (nI to)))) ∧ lv_has ls 8 [(5, .int (nI (1 - to))), (4, .int (nI (if a + n = md.length then 1 else 0))), (0, .ref G.2.1), (1, .int (nI to)), (2, .int (nI a)), (3, .int (nI n))]) (fun _ => [.int (nI (if a = 0 then 64 else 0)), .int (nI (if a + n = md.length then 128 else 0)), .ref G.2.1]) ?_ (fun cut => ?_)
  rotate_left
  · refine lv_if_ne (tgt := 130) hx hb dX12_fly_122 (by decide) (fun c_4 => ?_) (fun c_4 => ?_)
    · have c_4 : ¬ a = 0 := fun h9 => c_4 ((nI_eq (a := a) (b := 0) (by omega) (by omega)).mpr h9)
      refine lv_iconst (v := nI 0) hx hb dX12_fly_130 (by decide) ?_
      refine g_top (y := nI (if a = 0 then 64 else 0)) (by rw [if_neg c_4]) ?_
      exact cut () H locs ls ⟨hB, hl⟩
    · have c_4 : a = 0 := (nI_eq (a := a) (b := 0) (by omega) (by omega)).mp c_4
      refine lv_bipush (v := nI 64) hx hb dX12_fly_125 (by decide) ?_
      refine lv_goto (tgt := 131) hx hb dX12_fly_127 (by decide) ?_
      refine g_top (y := nI (if a = 0 then 64 else 0)) (by rw [if_pos c_4]) ?_
      exact cut () H locs ls ⟨hB, hl⟩
  rintro - H locs ls ⟨hB, hl⟩
  refine lv_iadd hx hb dX12_fly_131 ?_
  refine g_top (y := nI ((if a + n = md.length then 128 else 0) + (if a = 0 then 64 else 0))) (nI_add _ _) ?_
  refine lv_aload_n hx hb dX12_fly_132 rfl (lv_at hl 2 rfl) ?_
  refine r_get (u := (sc, va_up (va_up (va_up ar 31 fr9) 32 le9) 33 (upd (ar 33) L.length (nI to)))) (v := .ref (G.2.2.1 34)) hx hb hts hin hown hB 34 (by decide) (hts (.fieldLink RX12 60 "PointReportsModel" "numbers" "[I") (by decide +kernel)) rfl rfl dX12_fly_133 ?_
  refine lv_iload hx hb dX12_fly_136 (lv_at hl 0 rfl) ?_
  refine r_ald (u := (sc, va_up (va_up (va_up ar 31 fr9) 32 le9) 33 (upd (ar 33) L.length (nI to)))) (f := ar 34) hx hb hB 16 rfl (1 - to) rfl (by omega) (by decide) dX12_fly_138 ?_
  refine g_top (y := nI q) hq ?_
  refine lv_iadd hx hb dX12_fly_139 ?_
  refine g_top (y := nI (((if a + n = md.length then 128 else 0) + (if a = 0 then 64 else 0)) + q)) (nI_add _ _) ?_
  refine g_top (y := nI (fbN a n md.length q)) rfl ?_
  refine g_callv (av := [.int (nI (fbN a n md.length q))]) (rest := []) ⟨hx, hb, hml, hown, hts⟩ (c_putByte l G sc (va_up (va_up (va_up ar 31 fr9) 32 le9) 33 (upd (ar 33) L.length (nI to))) (nI (fbN a n md.length q)) L (nI to) (hdF to n ++ ck2 (hdF to n)) hR9 h30 hL (Nat.le_of_ble_eq_true rfl)) (cwV 1 hts gX12_fly_X12_putByte rfl rfl rfl (by decide +kernel) ⟨Nat.le_of_ble_eq_true rfl, Nat.le_of_ble_eq_true rfl⟩) hB (q0 := 0) (ci := 9) rfl rfl rfl rfl hl.1 rfl (Nat.le_of_ble_eq_true rfl) dX12_fly_140 ⟨Nat.le_of_ble_eq_true rfl, Nat.le_of_ble_eq_true rfl⟩ (fun u H locs hw hB => ?_)
  obtain ⟨frA, leA, hRA, rfl⟩ := hw
  have hB : gB G.1 (rT G) A s H locs (rWs G (sc, va_up (va_up (va_up ar 31 frA) 32 leA) 33 (upd (ar 33) L.length (nI to)))) := hB
  refine lv_aload_n hx hb dX12_fly_143 rfl (lv_at hl 2 rfl) ?_
  refine r_get (u := (sc, va_up (va_up (va_up ar 31 frA) 32 leA) 33 (upd (ar 33) L.length (nI to)))) (v := .ref (G.2.2.1 34)) hx hb hts hin hown hB 34 (by decide) (hts (.fieldLink RX12 60 "PointReportsModel" "numbers" "[I") (by decide +kernel)) rfl rfl dX12_fly_144 ?_
  refine lv_iload hx hb dX12_fly_147 (lv_at hl 0 rfl) ?_
  refine lv_aload_n hx hb dX12_fly_149 rfl (lv_at hl 2 rfl) ?_
  refine r_get (u := (sc, va_up (va_up (va_up ar 31 frA) 32 leA) 33 (upd (ar 33) L.length (nI to)))) (v := .ref (G.2.2.1 34)) hx hb hts hin hown hB 34 (by decide) (hts (.fieldLink RX12 60 "PointReportsModel" "numbers" "[I") (by decide +kernel)) rfl rfl dX12_fly_150 ?_
  refine lv_iload hx hb dX12_fly_153 (lv_at hl 0 rfl) ?_
  refine r_ald (u := (sc, va_up (va_up (va_up ar 31 frA) 32 leA) 33 (upd (ar 33) L.length (nI to)))) (f := ar 34) hx hb hB 16 rfl (1 - to) rfl (by omega) (by decide) dX12_fly_155 ?_
  refine g_top (y := nI q) hq ?_
  refine lv_iconst (v := nI 1) hx hb dX12_fly_156 (by decide) ?_
  refine lv_iadd hx hb dX12_fly_157 ?_
  refine g_top (y := nI (q + 1)) (nI_add _ _) ?_
  refine lv_bipush (v := nI 64) hx hb dX12_fly_158 (by decide) ?_
  refine lv_irem hx hb dX12_fly_160 (by decide) ?_
  refine g_top (y := nI ((q + 1) % 64)) (pk_rem (by omega) (by decide) (by decide)) ?_
  refine r_ast (u := (sc, va_up (va_up (va_up ar 31 frA) 32 leA) 33 (upd (ar 33) L.length (nI to)))) (f := ar 34) (x := nI ((q + 1) % 64)) (va_up (va_up (va_up (va_up ar 31 frA) 32 leA) 33 (upd (ar 33) L.length (nI to))) 34 (upd (ar 34) (1 - to) (nI ((q + 1) % 64)))) hx hb hB 16 rfl (1 - to) rfl (by omega) (by decide) rfl dX12_fly_161 (fun H locs hB => ?_)
  refine lv_iconst (v := nI 1) hx hb dX12_fly_162 (by decide) ?_
  refine lv_istore (lv' := [(6, .int (nI 1)), (5, .int (nI (1 - to))), (4, .int (nI (if a + n = md.length then 1 else 0))), (0, .ref G.2.1), (1, .int (nI to)), (2, .int (nI a)), (3, .int (nI n))]) hx hb dX12_fly_163 hl (by decide) rfl (fun ls hl => ?_)
  refine lv_iconst (v := nI 0) hx hb dX12_fly_165 (by decide) ?_
  refine lv_istore (lv' := [(7, .int (nI 0)), (6, .int (nI 1)), (5, .int (nI (1 - to))), (4, .int (nI (if a + n = md.length then 1 else 0))), (0, .ref G.2.1), (1, .int (nI to)), (2, .int (nI a)), (3, .int (nI n))]) hx hb dX12_fly_166 hl (by decide) rfl (fun ls hl => ?_)
  have hl : lv_has ls 8 [(7, .int (nI 0)), (6, .int (nI ((pkN (nI (fbN a n md.length q)) (ar 39) a 0).2.length))), (0, .ref G.2.1), (1, .int (nI to)), (2, .int (nI a)), (3, .int (nI n))] := lv_sub hl [0, 1, 4, 5, 6, 7] rfl
  have hB : gB G.1 (rT G) A s H locs (rWs G (sc, va_up (va_up (va_up (va_up ar 31 frA) 32 leA) 33 (upd (ar 33) L.length (nI to))) 34 (upd (ar 34) (1 - to) (nI ((q + 1) % 64))))) := hB
  refine g_loop (σ := Nat × (Nat → Int32) × (Nat → Int32)) (fun d xv H locs ls => (xv.1 + d = n) ∧ (lnR xv.2.1 xv.2.2 (upd (ar 33) L.length (nI to)) (L ++ [(nI to, hdF to n ++ ck2 (hdF to n) ++ (pkN (nI (fbN a n md.length q)) (ar 39) a xv.1).1)])) ∧ gB G.1 (rT G) A s H locs (rWs G (sc, va_up (va_up (va_up (va_up ar 31 xv.2.1) 32 xv.2.2) 33 (upd (ar 33) L.length (nI to))) 34 (upd (ar 34) (1 - to) (nI ((q + 1) % 64))))) ∧ lv_has ls 8 [(7, .int (nI xv.1)), (6, .int (nI ((pkN (nI (fbN a n md.length q)) (ar 39) a xv.1).2.length))), (0, .ref G.2.1), (1, .int (nI to)), (2, .int (nI a)), (3, .int (nI n))]) n (0, frA, leA) ⟨by omega, hRA, hB, hl⟩ ?_
  rintro d ⟨k, fr, le⟩ H locs ls ⟨hk, hF, hB, hl⟩ ih_5
  have hk : k + d = n := hk
  have hF : lnR fr le (upd (ar 33) L.length (nI to)) (L ++ [(nI to, hdF to n ++ ck2 (hdF to n) ++ (pkN (nI (fbN a n md.length q)) (ar 39) a k).1)]) := hF
  have hB : gB G.1 (rT G) A s H locs (rWs G (sc, va_up (va_up (va_up (va_up ar 31 fr) 32 le) 33 (upd (ar 33) L.length (nI to))) 34 (upd (ar 34) (1 - to) (nI ((q + 1) % 64))))) := hB
  have hl : lv_has ls 8 [(7, .int (nI k)), (6, .int (nI ((pkN (nI (fbN a n md.length q)) (ar 39) a k).2.length))), (0, .ref G.2.1), (1, .int (nI to)), (2, .int (nI a)), (3, .int (nI n))] := hl
  obtain ⟨p1, p2, z, p3⟩ := pkN_len (nI (fbN a n md.length q)) (ar 39) a k (by omega)
  have p4 : (pkN (nI (fbN a n md.length q)) (ar 39) a k).2.length ≤ 16 := by rw [p1]; split <;> omega
  have p5 : (pkN (nI (fbN a n md.length q)) (ar 39) a k).1.length ≤ k + 3 := by rw [p2]; split <;> omega
  have p6 : z.length + (pkN (nI (fbN a n md.length q)) (ar 39) a k).2.length = (pkN (nI (fbN a n md.length q)) (ar 39) a k).1.length := by rw [p3, List.length_append]
  have p7 : (hdF to n ++ ck2 (hdF to n)).length = 10 := rfl
  have hF2 : lnR fr le (upd (ar 33) L.length (nI to)) (L ++ [(nI to, (hdF to n ++ ck2 (hdF to n) ++ z) ++ (pkN (nI (fbN a n md.length q)) (ar 39) a k).2)]) := by rw [List.append_assoc, ← p3]; exact hF
  refine lv_iload hx hb dX12_fly_168 (lv_at hl 0 rfl) ?_
  refine lv_iload_n hx hb dX12_fly_170 rfl (lv_at hl 5 rfl) ?_
  refine lv_icmp_ge (tgt := 212) hx hb dX12_fly_171 (by decide) (fun c_6 => ?_) (fun c_6 => ?_)
  · have c_6 : n ≤ k := (nI_leI (a := n) (b := k) (by omega) (by omega)).mp c_6
    have hk9 : k = n := by omega
    subst hk9
    refine lv_aload_n hx hb dX12_fly_212 rfl (lv_at hl 2 rfl) ?_
    refine lv_iload hx hb dX12_fly_213 (lv_at hl 1 rfl) ?_
    -- the last block
    refine g_callv (av := [.int (nI ((pkN (nI (fbN a k md.length q)) (ar 39) a k).2.length))]) (rest := []) ⟨hx, hb, hml, hown, hts⟩ (c_putCheck l G sc (va_up (va_up (va_up (va_up ar 31 fr) 32 le) 33 (upd (ar 33) L.length (nI to))) 34 (upd (ar 34) (1 - to) (nI ((q + 1) % 64)))) L (nI to) (hdF to k ++ ck2 (hdF to k) ++ z) (pkN (nI (fbN a k md.length q)) (ar 39) a k).2 hF2 h30 hL (by rw [List.length_append, p7]; omega)) (cwV 1 hts gX12_fly_X12_putCheck rfl rfl rfl (by decide +kernel) ⟨Nat.le_of_ble_eq_true rfl, Nat.le_of_ble_eq_true rfl⟩) hB (q0 := 0) (ci := 9) rfl rfl rfl rfl hl.1 rfl (Nat.le_of_ble_eq_true rfl) dX12_fly_215 ⟨Nat.le_of_ble_eq_true rfl, Nat.le_of_ble_eq_true rfl⟩ (fun u H locs hw hB => ?_)
    obtain ⟨frZ, leZ, hRZ, rfl⟩ := hw
    have hB : gB G.1 (rT G) A s H locs (rWs G (sc, va_up (va_up (va_up (va_up ar 31 frZ) 32 leZ) 33 (upd (ar 33) L.length (nI to))) 34 (upd (ar 34) (1 - to) (nI ((q + 1) % 64))))) := hB
    have ef : hdF to k ++ ck2 (hdF to k) ++ z ++ (pkN (nI (fbN a k md.length q)) (ar 39) a k).2 ++ ck2 (pkN (nI (fbN a k md.length q)) (ar 39) a k).2 = frm to (nI (fbN a k md.length q)) (sub md a k) := by
      have e1 : (pkN (nI (fbN a k md.length q)) (ar 39) a k) = pkN (nI (fbN a k md.length q)) (fun j => (sub md a k).getD j 0) 0 k := pkN_ext (fun j hj => by rw [Nat.zero_add, sub, seg_getD _ _ _ _ hj]; exact hmd _ (by omega))
      rw [frm, sub_len, ← e1, List.append_assoc (hdF to k ++ ck2 (hdF to k)) z, ← p3]
    rw [ef] at hRZ
    refine lv_aload_n hx hb dX12_fly_218 rfl (lv_at hl 2 rfl) ?_
    refine lv_dup hx hb dX12_fly_219 rfl ?_
    refine r_get (u := (sc, va_up (va_up (va_up (va_up ar 31 frZ) 32 leZ) 33 (upd (ar 33) L.length (nI to))) 34 (upd (ar 34) (1 - to) (nI ((q + 1) % 64))))) (v := .int (sc 30)) hx hb hts hin hown hB 30 (by decide) (hts (.fieldLink RX12 89 "PointReportsModel" "flying" "I") (by decide +kernel)) rfl rfl dX12_fly_220 ?_
    refine g_top (y := nI L.length) h30 ?_
    refine lv_iconst (v := nI 1) hx hb dX12_fly_223 (by decide) ?_
    refine lv_iadd hx hb dX12_fly_224 ?_
    refine g_top (y := nI (L.length + 1)) (nI_add _ _) ?_
    have eL : (L ++ [(nI to, frm to (nI (fbN a k md.length q)) (sub md a k))]).length = L.length + 1 := by rw [List.length_append]; rfl
    refine r_put (u := (sc, va_up (va_up (va_up (va_up ar 31 frZ) 32 leZ) 33 (upd (ar 33) L.length (nI to))) 34 (upd (ar 34) (1 - to) (nI ((q + 1) % 64))))) (v := nI (L.length + 1)) (upd sc 30 (nI (L.length + 1))) hx hb hts hin hown hB 30 (by decide) (hts (.fieldLink RX12 89 "PointReportsModel" "flying" "I") (by decide +kernel)) rfl (ty := .int) rfl rfl rfl rfl rfl dX12_fly_225 (fun H locs hB => ?_)
    refine lv_aload_n hx hb dX12_fly_228 rfl (lv_at hl 2 rfl) ?_
    refine r_get (u := (upd sc 30 (nI (L.length + 1)), va_up (va_up (va_up (va_up ar 31 frZ) 32 leZ) 33 (upd (ar 33) L.length (nI to))) 34 (upd (ar 34) (1 - to) (nI ((q + 1) % 64))))) (v := .int (nI (L.length + 1))) hx hb hts hin hown hB 30 (by decide) (hts (.fieldLink RX12 89 "PointReportsModel" "flying" "I") (by decide +kernel)) rfl rfl dX12_fly_229 ?_
    refine lv_bipush (v := nI 40) hx hb dX12_fly_232 (by decide) ?_
    refine lv_icmp_le (tgt := 242) hx hb dX12_fly_234 (by decide) (fun c_7 => ?_) (fun c_7 => ?_)
    · have c_7 : (L.length + 1) ≤ 40 := (nI_leI (a := (L.length + 1)) (b := 40) (by omega) (by omega)).mp c_7
      have ep : pushL L (nI to, frm to (nI (fbN a k md.length q)) (sub md a k)) = L ++ [(nI to, frm to (nI (fbN a k md.length q)) (sub md a k))] := by rw [pushL, if_pos c_7]
      rw [← ep] at hRZ eL
      exact g_vret (Wd := rWs G) (upd sc 30 (nI (L.length + 1)), va_up (va_up (va_up (va_up ar 31 frZ) 32 leZ) 33 (upd (ar 33) L.length (nI to))) 34 (upd (ar 34) (1 - to) (nI ((q + 1) % 64)))) hB hx hb hr hlocks rfl ⟨frZ, leZ, upd (ar 33) L.length (nI to), upd (ar 34) (1 - to) (nI ((q + 1) % 64)), hRZ, upd_self, upd_ne (by omega), by rw [eL]⟩ dX12_fly_242
    · have c_7 : ¬ (L.length + 1) ≤ 40 := fun h9 => c_7 ((nI_leI (a := (L.length + 1)) (b := 40) (by omega) (by omega)).mpr h9)
      refine lv_aload_n hx hb dX12_fly_237 rfl (lv_at hl 2 rfl) ?_
      refine lv_iconst (v := nI 0) hx hb dX12_fly_238 (by decide) ?_
      have ep : pushL L (nI to, frm to (nI (fbN a k md.length q)) (sub md a k)) = (L ++ [(nI to, frm to (nI (fbN a k md.length q)) (sub md a k))]).eraseIdx 0 := by rw [pushL, if_neg c_7]
      refine g_callv (av := [.int (nI 0)]) (rest := []) ⟨hx, hb, hml, hown, hts⟩ (c_removeFrame l G (upd sc 30 (nI (L.length + 1))) (va_up (va_up (va_up (va_up ar 31 frZ) 32 leZ) 33 (upd (ar 33) L.length (nI to))) 34 (upd (ar 34) (1 - to) (nI ((q + 1) % 64)))) 0 (L ++ [(nI to, frm to (nI (fbN a k md.length q)) (sub md a k))]) hRZ (by rw [eL]; rfl) (by omega) (by omega)) (cwV 1 hts gX12_fly_X12_removeFrame rfl rfl rfl (by decide +kernel) ⟨Nat.le_of_ble_eq_true rfl, Nat.le_of_ble_eq_true rfl⟩) hB (q0 := 0) (ci := 9) rfl rfl rfl rfl hl.1 rfl (Nat.le_of_ble_eq_true rfl) dX12_fly_239 ⟨Nat.le_of_ble_eq_true rfl, Nat.le_of_ble_eq_true rfl⟩ (fun u H locs hw hB => ?_)
      obtain ⟨frY, leY, siY, hRY, rfl⟩ := hw
      rw [eL] at hB
      have hB : gB G.1 (rT G) A s H locs (rWs G (upd sc 30 (nI (L.length + 1 - 1)), va_up (va_up (va_up (va_up ar 31 frY) 32 leY) 33 siY) 34 (upd (ar 34) (1 - to) (nI ((q + 1) % 64))))) := hB
      rw [← ep] at hRY
      have eL2 : (pushL L (nI to, frm to (nI (fbN a k md.length q)) (sub md a k))).length = L.length + 1 - 1 := by rw [ep, List.length_eraseIdx_of_lt (by omega), eL]
      exact g_vret (Wd := rWs G) (upd sc 30 (nI (L.length + 1 - 1)), va_up (va_up (va_up (va_up ar 31 frY) 32 leY) 33 siY) 34 (upd (ar 34) (1 - to) (nI ((q + 1) % 64)))) hB hx hb hr hlocks rfl ⟨frY, leY, siY, upd (ar 34) (1 - to) (nI ((q + 1) % 64)), hRY, upd_self, upd_ne (by omega), by rw [eL2]⟩ dX12_fly_242
  · have c_6 : ¬ n ≤ k := fun h9 => c_6 ((nI_leI (a := n) (b := k) (by omega) (by omega)).mpr h9)
    refine lv_iload hx hb dX12_fly_174 (lv_at hl 1 rfl) ?_
    refine lv_bipush (v := nI 16) hx hb dX12_fly_176 (by decide) ?_
    refine lv_icmp_ne (tgt := 190) hx hb dX12_fly_178 (by decide) (fun c_8 => ?_) (fun c_8 => ?_)
    · have c_8 : ¬ ((pkN (nI (fbN a n md.length q)) (ar 39) a k).2.length) = 16 := fun h9 => c_8 ((nI_eq (a := ((pkN (nI (fbN a n md.length q)) (ar 39) a k).2.length)) (b := 16) (by omega) (by omega)).mpr h9)
      refine lv_aload_n hx hb dX12_fly_190 rfl (lv_at hl 2 rfl) ?_
      refine lv_aload_n hx hb dX12_fly_191 rfl (lv_at hl 2 rfl) ?_
      refine r_get (u := (sc, va_up (va_up (va_up (va_up ar 31 fr) 32 le) 33 (upd (ar 33) L.length (nI to))) 34 (upd (ar 34) (1 - to) (nI ((q + 1) % 64))))) (v := .ref (G.2.2.1 39)) hx hb hts hin hown hB 39 (by decide) (hts (.fieldLink RX12 75 "PointReportsModel" "made" "[I") (by decide +kernel)) rfl rfl dX12_fly_192 ?_
      refine lv_iload_n hx hb dX12_fly_195 rfl (lv_at hl 4 rfl) ?_
      refine lv_iload hx hb dX12_fly_196 (lv_at hl 0 rfl) ?_
      refine lv_iadd hx hb dX12_fly_198 ?_
      refine g_top (y := nI (a + k)) (nI_add _ _) ?_
      refine r_ald (u := (sc, va_up (va_up (va_up (va_up ar 31 fr) 32 le) 33 (upd (ar 33) L.length (nI to))) 34 (upd (ar 34) (1 - to) (nI ((q + 1) % 64))))) (f := ar 39) hx hb hB 21 rfl (a + k) rfl (by omega) (by decide) dX12_fly_199 ?_
      refine g_callv (av := [.int ((ar 39) (a + k))]) (rest := []) ⟨hx, hb, hml, hown, hts⟩ (c_putByte l G sc (va_up (va_up (va_up (va_up ar 31 fr) 32 le) 33 (upd (ar 33) L.length (nI to))) 34 (upd (ar 34) (1 - to) (nI ((q + 1) % 64)))) (ar 39 (a + k)) L (nI to) (hdF to n ++ ck2 (hdF to n) ++ (pkN (nI (fbN a n md.length q)) (ar 39) a k).1) hF h30 hL (by rw [List.length_append, p7]; omega)) (cwV 1 hts gX12_fly_X12_putByte rfl rfl rfl (by decide +kernel) ⟨Nat.le_of_ble_eq_true rfl, Nat.le_of_ble_eq_true rfl⟩) hB (q0 := 0) (ci := 9) rfl rfl rfl rfl hl.1 rfl (Nat.le_of_ble_eq_true rfl) dX12_fly_200 ⟨Nat.le_of_ble_eq_true rfl, Nat.le_of_ble_eq_true rfl⟩ (fun u H locs hw hB => ?_)
      obtain ⟨frC, leC, hRC, rfl⟩ := hw
      have hB : gB G.1 (rT G) A s H locs (rWs G (sc, va_up (va_up (va_up (va_up ar 31 frC) 32 leC) 33 (upd (ar 33) L.length (nI to))) 34 (upd (ar 34) (1 - to) (nI ((q + 1) % 64))))) := hB
      refine lv_iinc (v := nI ((pkN (nI (fbN a n md.length q)) (ar 39) a k).2.length + 1)) (lv' := [(6, .int (nI ((pkN (nI (fbN a n md.length q)) (ar 39) a k).2.length + 1))), (7, .int (nI k)), (0, .ref G.2.1), (1, .int (nI to)), (2, .int (nI a)), (3, .int (nI n))]) hx hb dX12_fly_203 hl (k := 1) rfl (nI_add _ _) (by decide) rfl (fun ls hl => ?_)
      refine lv_iinc (v := nI (k + 1)) (lv' := [(7, .int (nI (k + 1))), (6, .int (nI ((pkN (nI (fbN a n md.length q)) (ar 39) a k).2.length + 1))), (0, .ref G.2.1), (1, .int (nI to)), (2, .int (nI a)), (3, .int (nI n))]) hx hb dX12_fly_206 hl (k := 1) rfl (nI_add _ _) (by decide) rfl (fun ls hl => ?_)
      refine lv_goto (tgt := 168) hx hb dX12_fly_209 (by decide) ?_
      have e2 : (pkN (nI (fbN a n md.length q)) (ar 39) a (k + 1)) = ((pkN (nI (fbN a n md.length q)) (ar 39) a k).1 ++ [ar 39 (a + k) &&& 255], (pkN (nI (fbN a n md.length q)) (ar 39) a k).2 ++ [ar 39 (a + k) &&& 255]) := by rw [pkN, if_neg c_8]
      have e3 : nI ((pkN (nI (fbN a n md.length q)) (ar 39) a k).2.length + 1) = nI (pkN (nI (fbN a n md.length q)) (ar 39) a (k + 1)).2.length := by rw [e2, List.length_append]; rfl
      rw [e3] at hl
      have e4 : lnR frC leC (upd (ar 33) L.length (nI to)) (L ++ [(nI to, hdF to n ++ ck2 (hdF to n) ++ (pkN (nI (fbN a n md.length q)) (ar 39) a (k + 1)).1)]) := by rw [e2]; simp only [List.append_assoc] at hRC ⊢; exact hRC
      have hl : lv_has ls 8 [(7, .int (nI (k + 1))), (6, .int (nI ((pkN (nI (fbN a n md.length q)) (ar 39) a (k + 1)).2.length))), (0, .ref G.2.1), (1, .int (nI to)), (2, .int (nI a)), (3, .int (nI n))] := lv_sub hl [0, 1, 2, 3, 4, 5] rfl
      have hB : gB G.1 (rT G) A s H locs (rWs G (sc, va_up (va_up (va_up (va_up ar 31 frC) 32 leC) 33 (upd (ar 33) L.length (nI to))) 34 (upd (ar 34) (1 - to) (nI ((q + 1) % 64))))) := hB
      have b_9 : (k + 1) + (n - (k + 1)) = n := by omega
      have b_10 : lnR frC leC (upd (ar 33) L.length (nI to)) (L ++ [(nI to, hdF to n ++ ck2 (hdF to n) ++ (pkN (nI (fbN a n md.length q)) (ar 39) a (k + 1)).1)]) := e4
      exact ih_5 (n - (k + 1)) (k + 1, frC, leC) H locs ls (by omega) ⟨b_9, b_10, hB, hl⟩
    · have c_8 : ((pkN (nI (fbN a n md.length q)) (ar 39) a k).2.length) = 16 := (nI_eq (a := ((pkN (nI (fbN a n md.length q)) (ar 39) a k).2.length)) (b := 16) (by omega) (by omega)).mp c_8
      refine lv_aload_n hx hb dX12_fly_181 rfl (lv_at hl 2 rfl) ?_
      refine lv_bipush (v := nI 16) hx hb dX12_fly_182 (by decide) ?_
      refine g_top (y := nI ((pkN (nI (fbN a n md.length q)) (ar 39) a k).2.length)) (by rw [c_8]) ?_
      refine g_callv (av := [.int (nI ((pkN (nI (fbN a n md.length q)) (ar 39) a k).2.length))]) (rest := []) ⟨hx, hb, hml, hown, hts⟩ (c_putCheck l G sc (va_up (va_up (va_up (va_up ar 31 fr) 32 le) 33 (upd (ar 33) L.length (nI to))) 34 (upd (ar 34) (1 - to) (nI ((q + 1) % 64)))) L (nI to) (hdF to n ++ ck2 (hdF to n) ++ z) (pkN (nI (fbN a n md.length q)) (ar 39) a k).2 hF2 h30 hL (by rw [List.length_append, p7]; omega)) (cwV 1 hts gX12_fly_X12_putCheck rfl rfl rfl (by decide +kernel) ⟨Nat.le_of_ble_eq_true rfl, Nat.le_of_ble_eq_true rfl⟩) hB (q0 := 0) (ci := 9) rfl rfl rfl rfl hl.1 rfl (Nat.le_of_ble_eq_true rfl) dX12_fly_184 ⟨Nat.le_of_ble_eq_true rfl, Nat.le_of_ble_eq_true rfl⟩ (fun u H locs hw hB => ?_)
      obtain ⟨frB, leB, hRB, rfl⟩ := hw
      have hB : gB G.1 (rT G) A s H locs (rWs G (sc, va_up (va_up (va_up (va_up ar 31 frB) 32 leB) 33 (upd (ar 33) L.length (nI to))) 34 (upd (ar 34) (1 - to) (nI ((q + 1) % 64))))) := hB
      refine lv_iconst (v := nI 0) hx hb dX12_fly_187 (by decide) ?_
      refine lv_istore (lv' := [(6, .int (nI 0)), (7, .int (nI k)), (0, .ref G.2.1), (1, .int (nI to)), (2, .int (nI a)), (3, .int (nI n))]) hx hb dX12_fly_188 hl (by decide) rfl (fun ls hl => ?_)
      refine lv_aload_n hx hb dX12_fly_190 rfl (lv_at hl 2 rfl) ?_
      refine lv_aload_n hx hb dX12_fly_191 rfl (lv_at hl 2 rfl) ?_
      refine r_get (u := (sc, va_up (va_up (va_up (va_up ar 31 frB) 32 leB) 33 (upd (ar 33) L.length (nI to))) 34 (upd (ar 34) (1 - to) (nI ((q + 1) % 64))))) (v := .ref (G.2.2.1 39)) hx hb hts hin hown hB 39 (by decide) (hts (.fieldLink RX12 75 "PointReportsModel" "made" "[I") (by decide +kernel)) rfl rfl dX12_fly_192 ?_
      refine lv_iload_n hx hb dX12_fly_195 rfl (lv_at hl 4 rfl) ?_
      refine lv_iload hx hb dX12_fly_196 (lv_at hl 1 rfl) ?_
      refine lv_iadd hx hb dX12_fly_198 ?_
      refine g_top (y := nI (a + k)) (nI_add _ _) ?_
      refine r_ald (u := (sc, va_up (va_up (va_up (va_up ar 31 frB) 32 leB) 33 (upd (ar 33) L.length (nI to))) 34 (upd (ar 34) (1 - to) (nI ((q + 1) % 64))))) (f := ar 39) hx hb hB 21 rfl (a + k) rfl (by omega) (by decide) dX12_fly_199 ?_
      refine g_callv (av := [.int ((ar 39) (a + k))]) (rest := []) ⟨hx, hb, hml, hown, hts⟩ (c_putByte l G sc (va_up (va_up (va_up (va_up ar 31 frB) 32 leB) 33 (upd (ar 33) L.length (nI to))) 34 (upd (ar 34) (1 - to) (nI ((q + 1) % 64)))) (ar 39 (a + k)) L (nI to) (hdF to n ++ ck2 (hdF to n) ++ z ++ (pkN (nI (fbN a n md.length q)) (ar 39) a k).2 ++ ck2 (pkN (nI (fbN a n md.length q)) (ar 39) a k).2) hRB h30 hL (by rw [List.length_append, List.length_append, List.length_append, p7, ck2_len]; omega)) (cwV 1 hts gX12_fly_X12_putByte rfl rfl rfl (by decide +kernel) ⟨Nat.le_of_ble_eq_true rfl, Nat.le_of_ble_eq_true rfl⟩) hB (q0 := 0) (ci := 9) rfl rfl rfl rfl hl.1 rfl (Nat.le_of_ble_eq_true rfl) dX12_fly_200 ⟨Nat.le_of_ble_eq_true rfl, Nat.le_of_ble_eq_true rfl⟩ (fun u H locs hw hB => ?_)
      obtain ⟨frC, leC, hRC, rfl⟩ := hw
      have hB : gB G.1 (rT G) A s H locs (rWs G (sc, va_up (va_up (va_up (va_up ar 31 frC) 32 leC) 33 (upd (ar 33) L.length (nI to))) 34 (upd (ar 34) (1 - to) (nI ((q + 1) % 64))))) := hB
      refine lv_iinc (v := nI (0 + 1)) (lv' := [(6, .int (nI (0 + 1))), (7, .int (nI k)), (0, .ref G.2.1), (1, .int (nI to)), (2, .int (nI a)), (3, .int (nI n))]) hx hb dX12_fly_203 hl (k := 0) rfl (nI_add _ _) (by decide) rfl (fun ls hl => ?_)
      refine lv_iinc (v := nI (k + 1)) (lv' := [(7, .int (nI (k + 1))), (6, .int (nI (0 + 1))), (0, .ref G.2.1), (1, .int (nI to)), (2, .int (nI a)), (3, .int (nI n))]) hx hb dX12_fly_206 hl (k := 1) rfl (nI_add _ _) (by decide) rfl (fun ls hl => ?_)
      refine lv_goto (tgt := 168) hx hb dX12_fly_209 (by decide) ?_
      have e2 : (pkN (nI (fbN a n md.length q)) (ar 39) a (k + 1)) = ((pkN (nI (fbN a n md.length q)) (ar 39) a k).1 ++ ck2 (pkN (nI (fbN a n md.length q)) (ar 39) a k).2 ++ [ar 39 (a + k) &&& 255], [ar 39 (a + k) &&& 255]) := by rw [pkN, if_pos c_8]
      have e3 : nI (0 + 1) = nI (pkN (nI (fbN a n md.length q)) (ar 39) a (k + 1)).2.length := by rw [e2]; rfl
      rw [e3] at hl
      have e4 : lnR frC leC (upd (ar 33) L.length (nI to)) (L ++ [(nI to, hdF to n ++ ck2 (hdF to n) ++ (pkN (nI (fbN a n md.length q)) (ar 39) a (k + 1)).1)]) := by rw [e2, p3]; simp only [List.append_assoc] at hRC ⊢; exact hRC
      have hl : lv_has ls 8 [(7, .int (nI (k + 1))), (6, .int (nI ((pkN (nI (fbN a n md.length q)) (ar 39) a (k + 1)).2.length))), (0, .ref G.2.1), (1, .int (nI to)), (2, .int (nI a)), (3, .int (nI n))] := lv_sub hl [0, 1, 2, 3, 4, 5] rfl
      have hB : gB G.1 (rT G) A s H locs (rWs G (sc, va_up (va_up (va_up (va_up ar 31 frC) 32 leC) 33 (upd (ar 33) L.length (nI to))) 34 (upd (ar 34) (1 - to) (nI ((q + 1) % 64))))) := hB
      have b_11 : (k + 1) + (n - (k + 1)) = n := by omega
      have b_12 : lnR frC leC (upd (ar 33) L.length (nI to)) (L ++ [(nI to, hdF to n ++ ck2 (hdF to n) ++ (pkN (nI (fbN a n md.length q)) (ar 39) a (k + 1)).1)]) := e4
      exact ih_5 (n - (k + 1)) (k + 1, frC, leC) H locs ls (by omega) ⟨b_11, b_12, hB, hl⟩
