/-! THE LINE: frames in flight, from the oldest on: the side that each goes to, and its bytes. -/
def lnF (fr le si : Nat → Int32) (E : Nat → Option (Int32 × List Int32)) : Prop := ∀ (i : Nat) (q : Int32 × List Int32), E i = some q → si i = q.1 ∧ le i = nI q.2.length ∧ q.2.length ≤ 40 ∧ ∀ j : Nat, j < q.2.length → fr (40 * i + j) = q.2.getD j 0
def lnR (fr le si : Nat → Int32) (L : List (Int32 × List Int32)) : Prop := lnF fr le si (fun i => L[i]?)
theorem lnR_last {fr le si : Nat → Int32} {L : List (Int32 × List Int32)} {sd : Int32} {b : List Int32} (h : lnR fr le si (L ++ [(sd, b)])) : si L.length = sd ∧ le L.length = nI b.length ∧ b.length ≤ 40 ∧ ∀ j : Nat, j < b.length → fr (40 * L.length + j) = b.getD j 0 :=
  h L.length (sd, b) (by dsimp only; rw [List.getElem?_append_right (Nat.le_refl _), Nat.sub_self]; rfl)
theorem lnR_init {fr le si : Nat → Int32} {L : List (Int32 × List Int32)} {q : Int32 × List Int32} (h : lnR fr le si (L ++ [q])) : lnR fr le si L := fun i x hx => h i x (by
  have hl := (List.getElem?_eq_some_iff.mp hx).1
  dsimp only at hx ⊢
  rw [List.getElem?_append_left hl]; exact hx)
/-- a new last one -/
theorem lnR_new {fr le si : Nat → Int32} {L : List (Int32 × List Int32)} {sd : Int32} (h : lnR fr le si L) : lnR fr (upd le L.length (nI 0)) (upd si L.length sd) (L ++ [(sd, [])]) := by
  intro i q hq
  dsimp only at hq
  by_cases hi : i < L.length
  · rw [List.getElem?_append_left hi] at hq
    rw [upd_ne (by omega), upd_ne (by omega)]
    exact h i q hq
  · rw [List.getElem?_append_right (by omega)] at hq
    have hz : i - L.length < 1 := (List.getElem?_eq_some_iff.mp hq).1
    have hi2 : i = L.length := by omega
    subst hi2
    rw [Nat.sub_self] at hq
    cases hq
    rw [upd_self, upd_self]
    exact ⟨rfl, rfl, Nat.zero_le _, fun j hj => absurd hj (Nat.not_lt_zero j)⟩
theorem lnR_put {fr le si : Nat → Int32} {L : List (Int32 × List Int32)} {sd x : Int32} {b : List Int32} (h : lnR fr le si (L ++ [(sd, b)])) (hb : b.length < 40) : lnR (upd fr (40 * L.length + b.length) x) (upd le L.length (nI (b.length + 1))) si (L ++ [(sd, b ++ [x])]) := by
  intro i q hq
  dsimp only at hq
  by_cases hi : i < L.length
  · rw [List.getElem?_append_left hi] at hq
    obtain ⟨h1, h2, h3, h4⟩ := h i q (by show (L ++ [(sd, b)])[i]? = _; rw [List.getElem?_append_left hi]; exact hq)
    refine ⟨h1, by rw [upd_ne (by omega)]; exact h2, h3, fun j hj => ?_⟩
    rw [upd_ne (by omega)]
    exact h4 j hj
  · rw [List.getElem?_append_right (by omega)] at hq
    have hz : i - L.length < 1 := (List.getElem?_eq_some_iff.mp hq).1
    have hi2 : i = L.length := by omega
    subst hi2
    rw [Nat.sub_self] at hq
    cases hq
    obtain ⟨h1, h2, h3, h4⟩ := lnR_last h
    refine ⟨h1, by rw [upd_self, List.length_append]; rfl, by rw [List.length_append, List.length_singleton]; omega, fun j hj => ?_⟩
    rw [List.length_append, List.length_singleton] at hj
    by_cases hjb : j = b.length
    · subst hjb
      rw [upd_self, List.getD_eq_getElem?_getD, List.getElem?_append_right (Nat.le_refl _), Nat.sub_self]
      rfl
    · rw [upd_ne (by omega), h4 j (by omega), List.getD_eq_getElem?_getD, List.getD_eq_getElem?_getD, List.getElem?_append_left (by omega)]
/-- n of a list's places from a on -/
def sub (l : List Int32) (a n : Nat) : List Int32 := seg (fun j => l.getD j 0) a n
theorem sub_len (l : List Int32) (a n : Nat) : (sub l a n).length = n := seg_len _ _ _
theorem seg_ext {f g : Nat → Int32} {a b n : Nat} (h : ∀ j, j < n → f (a + j) = g (b + j)) : seg f a n = seg g b n := by
  induction n with
  | zero => rfl
  | succ n ih => rw [seg, seg, ih (fun j hj => h j (by omega)), h n (by omega)]
theorem seg_pfx {f : Nat → Int32} {l : List Int32} {a n : Nat} (h : pfx f l) (hn : a + n ≤ l.length) : seg f a n = sub l a n := seg_ext (fun j hj => h (a + j) (by omega))
theorem sub_end (b1 b2 : List Int32) : sub (b1 ++ b2) b1.length b2.length = b2 := by
  have key : ∀ n, n ≤ b2.length → seg (fun j => (b1 ++ b2).getD j 0) b1.length n = b2.take n := by
    intro n
    induction n with
    | zero => intro _; rfl
    | succ n ih =>
      intro hn
      rw [seg, ih (by omega), List.getD_eq_getElem?_getD, List.getElem?_append_right (by omega), Nat.add_sub_cancel_left, List.take_add_one, List.getElem?_eq_getElem (by omega)]
      rfl
  rw [sub, key _ (Nat.le_refl _), List.take_length]
/-- the two bytes of a check -/
def ck2 (x : List Int32) : List Int32 := [ck x &&& 255, (ck x >>> (8 &&& 31)) &&& 255]
theorem ck2_len (x : List Int32) : (ck2 x).length = 2 := rfl
set_option maxRecDepth 100000 in
set_option maxHeartbeats 4000000 in
/-- putByte(v): a byte more in the frame that is made -/
theorem c_putByte (l : Launch) (G : rG) (sc : Nat → Int32) (ar : Nat → Nat → Int32) (v : Int32) (L : List (Int32 × List Int32)) (sd : Int32) (b : List Int32) (hR : lnR (ar 31) (ar 32) (ar 33) (L ++ [(sd, b)])) (h30 : sc 30 = nI L.length) (hL : L.length ≤ 40) (hlt : b.length < 40) : gM l G.1 (rT G) yX12_putByte wsX12_putByte ({ frames := 0, cells := 0, slots := 0, locals := 0 }) [.ref G.2.1, .int v] (rWs G (sc, ar)) (gQv G.1 (rT G) (fun u : rSt => ∃ fr le, lnR fr le (ar 33) (L ++ [(sd, b ++ [v &&& 255])]) ∧ u = (sc, va_up (va_up ar 31 fr) 32 le)) (rWs G)) 0 0 := by
  refine gM.of (cc := cX12_putByte) (maxL := 2) (ret := none) (by decide) rfl (Nat.le_of_ble_eq_true rfl) ?_
  intro p e s m below meth c A ls hx hb hr hml hown hts hlocks hnm hB hl
  have hin : ∀ w ∈ wsX120, w ∈ wsX12_putByte := fun w h => List.mem_cons_of_mem _ (List.mem_append_right _ h)
  have hl : lv_has ls 2 [(0, .ref G.2.1), (1, .int v)] := hl
  refine lv_aload_n hx hb dX12_putByte_0 rfl (lv_at hl 0 rfl) ?_
  refine r_get (u := (sc, ar)) (v := .ref (G.2.2.1 31)) hx hb hts hin hown hB 31 (by decide) (hts (.fieldLink RX12 51 "PointReportsModel" "frames" "[I") (by decide +kernel)) rfl rfl dX12_putByte_1 ?_
  refine lv_bipush (v := nI 40) hx hb dX12_putByte_4 (by decide) ?_
  refine lv_aload_n hx hb dX12_putByte_6 rfl (lv_at hl 0 rfl) ?_
  refine r_get (u := (sc, ar)) (v := .int (sc 30)) hx hb hts hin hown hB 30 (by decide) (hts (.fieldLink RX12 89 "PointReportsModel" "flying" "I") (by decide +kernel)) rfl rfl dX12_putByte_7 ?_
  refine g_top (y := nI L.length) h30 ?_
  refine lv_imul hx hb dX12_putByte_10 ?_
  refine g_top (y := nI (40 * L.length)) (pk_mul _ _) ?_
  refine lv_aload_n hx hb dX12_putByte_11 rfl (lv_at hl 0 rfl) ?_
  refine r_get (u := (sc, ar)) (v := .ref (G.2.2.1 32)) hx hb hts hin hown hB 32 (by decide) (hts (.fieldLink RX12 54 "PointReportsModel" "lengths" "[I") (by decide +kernel)) rfl rfl dX12_putByte_12 ?_
  refine lv_aload_n hx hb dX12_putByte_15 rfl (lv_at hl 0 rfl) ?_
  refine r_get (u := (sc, ar)) (v := .int (sc 30)) hx hb hts hin hown hB 30 (by decide) (hts (.fieldLink RX12 89 "PointReportsModel" "flying" "I") (by decide +kernel)) rfl rfl dX12_putByte_16 ?_
  refine g_top (y := nI L.length) h30 ?_
  refine r_ald (u := (sc, ar)) (f := ar 32) hx hb hB 14 rfl L.length rfl (by omega) (by decide) dX12_putByte_19 ?_
  refine g_top (y := nI b.length) (lnR_last hR).2.1 ?_
  refine lv_iadd hx hb dX12_putByte_20 ?_
  refine g_top (y := nI ((40 * L.length) + b.length)) (nI_add _ _) ?_
  refine lv_iload_n hx hb dX12_putByte_21 rfl (lv_at hl 1 rfl) ?_
  refine lv_sipush (v := nI 255) hx hb dX12_putByte_22 (by decide) ?_
  refine lv_iand hx hb dX12_putByte_25 ?_
  refine r_ast (u := (sc, ar)) (f := ar 31) (x := v &&& (nI 255)) (va_up ar 31 (upd (ar 31) ((40 * L.length) + b.length) (v &&& (nI 255)))) hx hb hB 13 rfl ((40 * L.length) + b.length) rfl (by omega) (by decide) rfl dX12_putByte_26 (fun H locs hB => ?_)
  refine lv_aload_n hx hb dX12_putByte_27 rfl (lv_at hl 0 rfl) ?_
  refine r_get (u := (sc, va_up ar 31 (upd (ar 31) ((40 * L.length) + b.length) (v &&& (nI 255))))) (v := .ref (G.2.2.1 32)) hx hb hts hin hown hB 32 (by decide) (hts (.fieldLink RX12 54 "PointReportsModel" "lengths" "[I") (by decide +kernel)) rfl rfl dX12_putByte_28 ?_
  refine lv_aload_n hx hb dX12_putByte_31 rfl (lv_at hl 0 rfl) ?_
  refine r_get (u := (sc, va_up ar 31 (upd (ar 31) ((40 * L.length) + b.length) (v &&& (nI 255))))) (v := .int (sc 30)) hx hb hts hin hown hB 30 (by decide) (hts (.fieldLink RX12 89 "PointReportsModel" "flying" "I") (by decide +kernel)) rfl rfl dX12_putByte_32 ?_
  refine g_top (y := nI L.length) h30 ?_
  refine lv_dup2_11 hx hb dX12_putByte_35 rfl rfl ?_
  refine r_ald (u := (sc, va_up ar 31 (upd (ar 31) ((40 * L.length) + b.length) (v &&& (nI 255))))) (f := ar 32) hx hb hB 14 rfl L.length rfl (by omega) (by decide) dX12_putByte_36 ?_
  refine g_top (y := nI b.length) (lnR_last hR).2.1 ?_
  refine lv_iconst (v := nI 1) hx hb dX12_putByte_37 (by decide) ?_
  refine lv_iadd hx hb dX12_putByte_38 ?_
  refine g_top (y := nI (b.length + 1)) (nI_add _ _) ?_
  refine r_ast (u := (sc, va_up ar 31 (upd (ar 31) ((40 * L.length) + b.length) (v &&& (nI 255))))) (f := ar 32) (x := nI (b.length + 1)) (va_up (va_up ar 31 (upd (ar 31) ((40 * L.length) + b.length) (v &&& (nI 255)))) 32 (upd (ar 32) L.length (nI (b.length + 1)))) hx hb hB 14 rfl L.length rfl (by omega) (by decide) rfl dX12_putByte_39 (fun H locs hB => ?_)
  exact g_vret (Wd := rWs G) (sc, va_up (va_up ar 31 (upd (ar 31) ((40 * L.length) + b.length) (v &&& (nI 255)))) 32 (upd (ar 32) L.length (nI (b.length + 1)))) hB hx hb hr hlocks rfl ⟨_, _, lnR_put hR hlt, rfl⟩ dX12_putByte_40
set_option maxRecDepth 100000 in
set_option maxHeartbeats 4000000 in
/-- putCheck(n): the check of the last n bytes -/
theorem c_putCheck (l : Launch) (G : rG) (sc : Nat → Int32) (ar : Nat → Nat → Int32) (L : List (Int32 × List Int32)) (sd : Int32) (b1 b2 : List Int32) (hR : lnR (ar 31) (ar 32) (ar 33) (L ++ [(sd, b1 ++ b2)])) (h30 : sc 30 = nI L.length) (hL : L.length ≤ 40) (hlt : b1.length + b2.length < 39) : gM l G.1 (rT G) yX12_putCheck wsX12_putCheck ({ frames := 1, cells := 0, slots := 0, locals := 25 }) [.ref G.2.1, .int (nI b2.length)] (rWs G (sc, ar)) (gQv G.1 (rT G) (fun u : rSt => ∃ fr le, lnR fr le (ar 33) (L ++ [(sd, b1 ++ b2 ++ ck2 b2)]) ∧ u = (sc, va_up (va_up ar 31 fr) 32 le)) (rWs G)) 0 0 := by
  refine gM.of (cc := cX12_putCheck) (maxL := 3) (ret := none) (by decide) rfl (Nat.le_of_ble_eq_true rfl) ?_
  intro p e s m below meth c A ls hx hb hr hml hown hts hlocks hnm hB hl
  have hin : ∀ w ∈ wsX120, w ∈ wsX12_putCheck := fun w h => List.mem_cons_of_mem _ (List.mem_append_right _ h)
  have hl : lv_has ls 3 [(0, .ref G.2.1), (1, .int (nI b2.length))] := hl
  refine lv_aload_n hx hb dX12_putCheck_0 rfl (lv_at hl 0 rfl) ?_
  refine lv_bipush (v := nI 40) hx hb dX12_putCheck_1 (by decide) ?_
  refine lv_aload_n hx hb dX12_putCheck_3 rfl (lv_at hl 0 rfl) ?_
  refine r_get (u := (sc, ar)) (v := .int (sc 30)) hx hb hts hin hown hB 30 (by decide) (hts (.fieldLink RX12 89 "PointReportsModel" "flying" "I") (by decide +kernel)) rfl rfl dX12_putCheck_4 ?_
  refine g_top (y := nI L.length) h30 ?_
  refine lv_imul hx hb dX12_putCheck_7 ?_
  refine g_top (y := nI (40 * L.length)) (pk_mul _ _) ?_
  refine lv_aload_n hx hb dX12_putCheck_8 rfl (lv_at hl 0 rfl) ?_
  refine r_get (u := (sc, ar)) (v := .ref (G.2.2.1 32)) hx hb hts hin hown hB 32 (by decide) (hts (.fieldLink RX12 54 "PointReportsModel" "lengths" "[I") (by decide +kernel)) rfl rfl dX12_putCheck_9 ?_
  refine lv_aload_n hx hb dX12_putCheck_12 rfl (lv_at hl 0 rfl) ?_
  refine r_get (u := (sc, ar)) (v := .int (sc 30)) hx hb hts hin hown hB 30 (by decide) (hts (.fieldLink RX12 89 "PointReportsModel" "flying" "I") (by decide +kernel)) rfl rfl dX12_putCheck_13 ?_
  refine g_top (y := nI L.length) h30 ?_
  refine r_ald (u := (sc, ar)) (f := ar 32) hx hb hB 14 rfl L.length rfl (by omega) (by decide) dX12_putCheck_16 ?_
  refine g_top (y := nI (b1.length + b2.length)) ((lnR_last hR).2.1.trans (by rw [List.length_append])) ?_
  refine lv_iadd hx hb dX12_putCheck_17 ?_
  refine g_top (y := nI ((40 * L.length) + (b1.length + b2.length))) (nI_add _ _) ?_
  refine lv_iload_n hx hb dX12_putCheck_18 rfl (lv_at hl 1 rfl) ?_
  refine lv_isub hx hb dX12_putCheck_19 ?_
  refine g_top (y := nI (40 * L.length + b1.length)) ((pk_sub (by omega)).trans (by congr 1; omega)) ?_
  refine lv_iload_n hx hb dX12_putCheck_20 rfl (lv_at hl 1 rfl) ?_
  refine g_calli (av := [.int (nI (40 * L.length + b1.length)), .int (nI b2.length)]) (rest := []) ⟨hx, hb, hml, hown, hts⟩ (c_checkOf l G sc ar (40 * L.length + b1.length) b2.length (by omega)) (cwV 2 hts gX12_putCheck_X12_checkOf rfl rfl rfl (by decide +kernel) ⟨Nat.le_of_ble_eq_true rfl, Nat.le_of_ble_eq_true rfl⟩) hB (q0 := 0) (ci := 9) rfl rfl rfl rfl hl.1 rfl (Nat.le_of_ble_eq_true rfl) dX12_putCheck_21 ⟨Nat.le_of_ble_eq_true rfl, Nat.le_of_ble_eq_true rfl⟩ (fun r9 u H locs hw hB => ?_)
  obtain ⟨er, rfl⟩ := hw
  have hB : gB G.1 (rT G) A s H locs (rWs G (sc, ar)) := hB
  have er : r9 = ck b2 := by
    rw [er, seg_ext (g := fun j => (b1 ++ b2).getD j 0) (b := b1.length) (fun j hj => ?_)]
    · rw [← sub, sub_end]
    · rw [Nat.add_assoc]; exact (lnR_last hR).2.2.2 _ (by rw [List.length_append]; omega)
  subst er
  refine lv_istore_n (lv' := [(2, .int (ck b2)), (0, .ref G.2.1), (1, .int (nI b2.length))]) hx hb dX12_putCheck_24 rfl hl (by decide) rfl (fun ls hl => ?_)
  refine lv_aload_n hx hb dX12_putCheck_25 rfl (lv_at hl 1 rfl) ?_
  refine lv_iload_n hx hb dX12_putCheck_26 rfl (lv_at hl 0 rfl) ?_
  refine g_callv (av := [.int (ck b2)]) (rest := []) ⟨hx, hb, hml, hown, hts⟩ (c_putByte l G sc ar (ck b2) L sd (b1 ++ b2) hR h30 hL (by rw [List.length_append]; omega)) (cwV 1 hts gX12_putCheck_X12_putByte rfl rfl rfl (by decide +kernel) ⟨Nat.le_of_ble_eq_true rfl, Nat.le_of_ble_eq_true rfl⟩) hB (q0 := 0) (ci := 9) rfl rfl rfl rfl hl.1 rfl (Nat.le_of_ble_eq_true rfl) dX12_putCheck_27 ⟨Nat.le_of_ble_eq_true rfl, Nat.le_of_ble_eq_true rfl⟩ (fun u H locs hw hB => ?_)
  obtain ⟨fr1, le1, hR1, rfl⟩ := hw
  have hB : gB G.1 (rT G) A s H locs (rWs G (sc, va_up (va_up ar 31 fr1) 32 le1)) := hB
  refine lv_aload_n hx hb dX12_putCheck_30 rfl (lv_at hl 1 rfl) ?_
  refine lv_iload_n hx hb dX12_putCheck_31 rfl (lv_at hl 0 rfl) ?_
  refine lv_bipush (v := nI 8) hx hb dX12_putCheck_32 (by decide) ?_
  refine lv_ishr hx hb dX12_putCheck_34 ?_
  refine g_callv (av := [.int ((ck b2) >>> ((nI 8) &&& 31))]) (rest := []) ⟨hx, hb, hml, hown, hts⟩ (c_putByte l G sc (va_up (va_up ar 31 fr1) 32 le1) (ck b2 >>> (nI 8 &&& 31)) L sd (b1 ++ b2 ++ [ck b2 &&& 255]) hR1 h30 hL (by rw [List.length_append, List.length_append, List.length_singleton]; omega)) (cwV 1 hts gX12_putCheck_X12_putByte rfl rfl rfl (by decide +kernel) ⟨Nat.le_of_ble_eq_true rfl, Nat.le_of_ble_eq_true rfl⟩) hB (q0 := 0) (ci := 9) rfl rfl rfl rfl hl.1 rfl (Nat.le_of_ble_eq_true rfl) dX12_putCheck_35 ⟨Nat.le_of_ble_eq_true rfl, Nat.le_of_ble_eq_true rfl⟩ (fun u H locs hw hB => ?_)
  obtain ⟨fr2, le2, hR2, rfl⟩ := hw
  have hB : gB G.1 (rT G) A s H locs (rWs G (sc, va_up (va_up ar 31 fr2) 32 le2)) := hB
  exact g_vret (Wd := rWs G) (sc, va_up (va_up ar 31 fr2) 32 le2) hB hx hb hr hlocks rfl ⟨_, _, by rw [List.append_assoc] at hR2; exact hR2, rfl⟩ dX12_putCheck_38
