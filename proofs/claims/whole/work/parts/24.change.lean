/-- what the master asks: the bytes of a READ behind k bits -/
def plL (seq : Nat) (w : Int32) : Nat → List Int32
  | 0 => [(nI 192 + nI seq) &&& 255, nI 1 &&& 255]
  | k + 1 => plL seq w k ++ (if (w >>> (nI k &&& 31)) &&& nI 1 = nI 1 then [nI 60 &&& 255, nI (k + 1) &&& 255, nI 6 &&& 255] else [])
theorem plL_len (seq : Nat) (w : Int32) : ∀ k, (plL seq w k).length ≤ 2 + 3 * k := by
  intro k
  induction k with
  | zero => exact Nat.le_refl _
  | succ k ih =>
    rw [plL, List.length_append]
    by_cases h : (w >>> (nI k &&& 31)) &&& nI 1 = nI 1
    · rw [if_pos h]; show _ + 3 ≤ _; omega
    · rw [if_neg h]; show _ + 0 ≤ _; omega
def spPoll (a : aS) (w : Int32) : aS × Int32 := if w < nI 1 ∨ nI 15 < w then (a, -1) else ((va_up (va_up (va_up a.1 19 (a.1 19 + 1)) 20 0) 100 (sndF 1 (plL (a.1 19 % 16) w 4) a.2.2.2.2.1 (a.1 100)).2, a.2.1, a.2.2.1, a.2.2.2.1, (sndF 1 (plL (a.1 19 % 16) w 4) a.2.2.2.2.1 (a.1 100)).1, a.2.2.2.2.2.1, a.2.2.2.2.2.2), nI (a.1 19 % 16))
theorem evR_push {ke po va ti : Nat → Int32} {E : evL} {c : Nat} {q : Int32 × Int32 × Int32} (h : evR ke po va ti E) (h1 : 1 ≤ c) (h3 : c ≤ 3) (hl : (E c).length < 8) : evR (upd ke c (nI ((E c).length + 1))) (upd po (8 * c + (E c).length) q.1) (upd va (8 * c + (E c).length) q.2.1) (upd ti (8 * c + (E c).length) q.2.2) (va_up E c (E c ++ [q])) := by
  intro x hx1 hx3
  obtain ⟨e1, e2, e3⟩ := h x hx1 hx3
  by_cases hx : x = c
  · subst hx
    have e : va_up E x (E x ++ [q]) x = E x ++ [q] := by simp [va_up]
    rw [e]
    refine ⟨by rw [upd_self, List.length_append]; rfl, by rw [List.length_append, List.length_singleton]; omega, fun k z hz => ?_⟩
    by_cases hk : k < (E x).length
    · rw [List.getElem?_append_left hk] at hz
      rw [upd_ne (by omega), upd_ne (by omega), upd_ne (by omega)]
      exact e3 k z hz
    · rw [List.getElem?_append_right (by omega)] at hz
      have hz2 : k - (E x).length < 1 := (List.getElem?_eq_some_iff.mp hz).1
      have hk2 : k = (E x).length := by omega
      subst hk2
      rw [Nat.sub_self] at hz
      cases hz
      rw [upd_self, upd_self, upd_self]
      exact ⟨rfl, rfl, rfl⟩
  · have e : va_up E c (E c ++ [q]) x = E x := by simp [va_up, hx]
    rw [e]
    refine ⟨by rw [upd_ne hx]; exact e1, e2, fun k z hz => ?_⟩
    have hk := (List.getElem?_eq_some_iff.mp hz).1
    rw [upd_ne (by omega), upd_ne (by omega), upd_ne (by omega)]
    exact e3 k z hz
theorem wtR_push {wa : Nat → Int32} {E : evL} {Wt : Nat → Nat} {c : Nat} {q : Int32 × Int32 × Int32} (h : wtR wa E Wt) (hW : Wt c ≤ (E c).length) (hl : (E c).length < 8) (h8 : ∀ x, 1 ≤ x → x ≤ 3 → (E x).length ≤ 8) : wtR (upd wa (8 * c + (E c).length) (nI 0)) (va_up E c (E c ++ [q])) Wt := by
  intro x hx1 hx3 k hk
  have l8 := h8 x hx1 hx3
  by_cases hx : x = c
  · subst hx
    have e : va_up E x (E x ++ [q]) x = E x ++ [q] := by simp [va_up]
    rw [e, List.length_append, List.length_singleton] at hk
    by_cases hk2 : k = (E x).length
    · subst hk2; rw [upd_self, if_neg (by omega)]; rfl
    · rw [upd_ne (by omega)]; exact h x hx1 hx3 k (by omega)
  · have e : va_up E c (E c ++ [q]) x = E x := by simp [va_up, hx]
    rw [e] at hk
    rw [upd_ne (by omega)]
    exact h x hx1 hx3 k hk
theorem va_self {α : Type} {f : Nat → α} {k : Nat} {v : α} : va_up f k v k = v := by simp [va_up]
theorem va_ne {α : Type} {f : Nat → α} {k j : Nat} {v : α} (h : j ≠ k) : va_up f k v j = f j := by simp [va_up, h]
theorem wtR_shift {wa wb : Nat → Int32} {E : evL} {Wt : Nat → Nat} {c : Nat} (h : wtR wa E Wt) (hb : ∀ z, wb z = if 8 * c ≤ z ∧ z < 8 * c + ((E c).length - 1) then wa (z + 1) else wa z) (h8 : ∀ x, 1 ≤ x → x ≤ 3 → (E x).length ≤ 8) (hc8 : (E c).length ≤ 8) : wtR wb (va_up E c ((E c).drop 1)) (va_up Wt c (Wt c - 1)) := by
  intro x hx1 hx3 k hk
  have l8 := h8 x hx1 hx3
  by_cases hx : x = c
  · subst hx
    rw [va_self, List.length_drop] at hk
    rw [va_self, hb, if_pos (by omega), Nat.add_assoc, h x hx1 hx3 (k + 1) (by omega)]
    by_cases hw : k + 1 < Wt x
    · rw [if_pos hw, if_pos (by omega)]
    · rw [if_neg hw, if_neg (by omega)]
  · rw [va_ne hx] at hk
    rw [va_ne hx, hb, if_neg (by omega)]
    exact h x hx1 hx3 k hk
/-- of a class with 8 events the oldest is lost -/
def spRoom (a : aS) (c : Nat) : aS := if (a.2.2.1 c).length = 8 then (va_up (va_up a.1 9 1) 10 (a.1 10 + 1), a.2.1, va_up a.2.2.1 c ((a.2.2.1 c).drop 1), va_up a.2.2.2.1 c (a.2.2.2.1 c - 1), a.2.2.2.2) else a
/-- an event more -/
def spEvent (a : aS) (c : Nat) (q : Int32 × Int32 × Int32) : aS := (a.1, a.2.1, va_up a.2.2.1 c (a.2.2.1 c ++ [q]), a.2.2.2)
/-- point j has the value v now -/
def spVal (a : aS) (j : Nat) (v : Int32) : aS := (a.1, va_up (va_up a.2.1 2 (upd (a.2.1 2) j v)) 3 (upd (a.2.1 3) j (nI (a.1 0))), a.2.2)
def spChange (a : aS) (p v : Int32) : aS × Nat := if p < 0 ∨ nI 10 ≤ p ∨ v < 0 ∨ 65535 < v ∨ a.2.1 3 p.toNatClampNeg = nI (a.1 0) then (a, 0) else if (a.2.1 1 p.toNatClampNeg).toNatClampNeg = 0 then (spVal a p.toNatClampNeg v, 1) else (spEvent (spRoom (spVal a p.toNatClampNeg v) (a.2.1 1 p.toNatClampNeg).toNatClampNeg) (a.2.1 1 p.toNatClampNeg).toNatClampNeg (p, v, nI (a.1 0)), 1)
set_option maxRecDepth 100000 in
set_option maxHeartbeats 4000000 in
/-- poll(w) -/
theorem c_poll (l : Launch) (G : rG) (sc : Nat → Int32) (ar : Nat → Nat → Int32) (b : Nat) (hb9 : b ≤ 1000000) (a : aS) (hr0 : rRep b (sc, ar) a) (w0 : Int32) : gM l G.1 (rT G) yX12_poll wsX12_poll ({ frames := 4, cells := 0, slots := 0, locals := 96 }) [.ref G.2.1, .int w0] (rWs G (sc, ar)) (gQi G.1 (rT G) (fun (r : Int32) (u : rSt) => r = (spPoll a w0).2 ∧ rRep (b + 400) u (spPoll a w0).1) (rWs G)) 0 0 := by
  refine gM.of (cc := cX12_poll) (maxL := 4) (ret := (some .int)) (by decide) rfl (Nat.le_of_ble_eq_true rfl) ?_
  intro p e s m below meth c A ls hx hb hr hml hown hts hlocks hnm hB hl
  have hin : ∀ w ∈ wsX120, w ∈ wsX12_poll := fun w h => List.mem_cons_of_mem _ (List.mem_append_right _ h)
  have hl : lv_has ls 4 [(0, .ref G.2.1), (1, .int w0)] := hl
  obtain ⟨n0, n9, n10, n11, n12, n13, n14, n15, n16, n19, n20, n23, n25, n26, n27, n28, n29, f1, f2, f3, f21, f22, f24, rE, rW, rl1, rl2, rl3, rq0, rq1, rq2, rq3, ro1, ro2, ro3, rg1, rg2, rg3, rg4, rh4, rg5, rh5, rg6, rh6, rg7, rh7, rc1, rc2, rc3, rz1, rz2, rz3, rz4, rk, rV, rY, rA, rb⟩ := id hr0
  have n0 : sc 0 = nI (a.1 0) := n0
  have n9 : sc 9 = nI (a.1 9) := n9
  have n10 : sc 10 = nI (a.1 10) := n10
  have n11 : sc 11 = nI (a.1 11) := n11
  have n12 : sc 12 = nI (a.1 12) := n12
  have n13 : sc 13 = nI (a.1 13) := n13
  have n14 : sc 14 = nI (a.1 14) := n14
  have n15 : sc 15 = nI (a.1 15) := n15
  have n16 : sc 16 = nI (a.1 16) := n16
  have n19 : sc 19 = nI (a.1 19) := n19
  have n20 : sc 20 = nI (a.1 20) := n20
  have n23 : sc 23 = nI (a.1 23) := n23
  have n25 : sc 25 = nI (a.1 25) := n25
  have n26 : sc 26 = nI (a.1 26) := n26
  have n27 : sc 27 = nI (a.1 27) := n27
  have n28 : sc 28 = nI (a.1 28) := n28
  have n29 : sc 29 = nI (a.1 29) := n29
  have f1 : ar 1 = a.2.1 1 := f1
  have f2 : ar 2 = a.2.1 2 := f2
  have f3 : ar 3 = a.2.1 3 := f3
  have f21 : ar 21 = a.2.1 21 := f21
  have f22 : ar 22 = a.2.1 22 := f22
  have f24 : ar 24 = a.2.1 24 := f24
  have rE : evR (ar 4) (ar 5) (ar 6) (ar 7) a.2.2.1 := rE
  have rW : wtR (ar 8) a.2.2.1 a.2.2.2.1 := rW
  have rl1 : sc 30 = nI a.2.2.2.2.1.length := rl1
  have rl3 : lnR (ar 31) (ar 32) (ar 33) a.2.2.2.2.1 := rl3
  have rq0 : ar 34 0 = nI (a.1 100) := rq0
  have rq1 : ar 34 1 = nI (a.1 101) := rq1
  have ro1 : pfx (ar 17) a.2.2.2.2.2.1 := ro1
  have ro2 : sc 18 = nI a.2.2.2.2.2.1.length := ro2
  have rg1 : ∀ x, x < 2 → ar 36 x = nI (a.2.2.2.2.2.2 x).length := rg1
  have rg3 : ∀ x, x < 2 → ∀ j, j < (a.2.2.2.2.2.2 x).length → ar 35 (400 * x + j) = nI ((a.2.2.2.2.2.2 x).getD j 0) ∧ (a.2.2.2.2.2.2 x).getD j 0 < 256 := rg3
  have rg4 : ar 37 0 = nI (a.1 102) := rg4
  have rh4 : ar 37 1 = nI (a.1 103) := rh4
  have rg5 : ar 38 0 = nI (a.1 104) := rg5
  have rh5 : ar 38 1 = nI (a.1 105) := rh5
  have rc1 : pfxN (ar 43) (a.2.2.2.2.2.2 2) := rc1
  have rc2 : sc 44 = nI (a.2.2.2.2.2.2 2).length := rc2
  have rb2 : ∀ k, a.1 k ≤ b + 400 := fun k => Nat.le_trans (rb k) (by omega)
  have hsame : rRep (b + 400) (sc, ar) a := ⟨n0, n9, n10, n11, n12, n13, n14, n15, n16, n19, n20, n23, n25, n26, n27, n28, n29, f1, f2, f3, f21, f22, f24, rE, rW, rl1, rl2, rl3, rq0, rq1, rq2, rq3, ro1, ro2, ro3, rg1, rg2, rg3, rg4, rh4, rg5, rh5, rg6, rh6, rg7, rh7, rc1, rc2, rc3, rz1, rz2, rz3, rz4, rk, rV, rY, rA, rb2⟩
  have b0 := rb 0
  have b11 := rb 11
  have b14 := rb 14
  have b15 := rb 15
  have b16 := rb 16
  have b19 := rb 19
  have b23 := rb 23
  refine lv_iload_n hx hb dX12_poll_0 rfl (lv_at hl 1 rfl) ?_
  refine lv_iconst (v := nI 1) hx hb dX12_poll_1 (by decide) ?_
  refine lv_icmp_lt (tgt := 11) hx hb dX12_poll_2 (by decide) (fun c_1 => ?_) (fun c_1 => ?_)
  · have c_1 := c_1
    have hs0 : spPoll a w0 = (a, -1) := by rw [spPoll, if_pos (Or.inl c_1)]
    refine lv_iconst (v := (-1)) hx hb dX12_poll_11 (by decide) ?_
    exact g_iret (Wd := rWs G) (v := (-1)) (sc, ar) hB hx hb hr hlocks rfl ⟨by rw [hs0], by rw [hs0]; exact hsame⟩ dX12_poll_12
  · have c_1 := c_1
    refine lv_iload_n hx hb dX12_poll_5 rfl (lv_at hl 1 rfl) ?_
    refine lv_bipush (v := nI 15) hx hb dX12_poll_6 (by decide) ?_
    refine lv_icmp_le (tgt := 13) hx hb dX12_poll_8 (by decide) (fun c_2 => ?_) (fun c_2 => ?_)
    · have c_2 := c_2
      have hs0 : spPoll a w0 = ((va_up (va_up (va_up a.1 19 (a.1 19 + 1)) 20 0) 100 (sndF 1 (plL (a.1 19 % 16) w0 4) a.2.2.2.2.1 (a.1 100)).2, a.2.1, a.2.2.1, a.2.2.2.1, (sndF 1 (plL (a.1 19 % 16) w0 4) a.2.2.2.2.1 (a.1 100)).1, a.2.2.2.2.2.1, a.2.2.2.2.2.2), nI (a.1 19 % 16)) := by rw [spPoll, if_neg (fun z => by rcases z with z | z; exact c_1 z; exact absurd c_2 (Int32.not_le.mpr z))]
      refine lv_aload_n hx hb dX12_poll_13 rfl (lv_at hl 0 rfl) ?_
      refine r_get (u := (sc, ar)) (v := .int (sc 19)) hx hb hts hin hown hB 19 (by decide) (hts (.fieldLink RX12 226 "PointReportsModel" "readings" "I") (by decide +kernel)) rfl rfl dX12_poll_14 ?_
      refine g_top (y := nI (a.1 19)) n19 ?_
      refine lv_bipush (v := nI 16) hx hb dX12_poll_17 (by decide) ?_
      refine lv_irem hx hb dX12_poll_19 (by decide) ?_
      refine g_top (y := nI (a.1 19 % 16)) (pk_rem (by omega) (by decide) (by decide)) ?_
      refine lv_istore_n (lv' := [(2, .int (nI (a.1 19 % 16))), (0, .ref G.2.1), (1, .int w0)]) hx hb dX12_poll_20 rfl hl (by decide) rfl (fun ls hl => ?_)
      refine lv_aload_n hx hb dX12_poll_21 rfl (lv_at hl 1 rfl) ?_
      refine lv_dup hx hb dX12_poll_22 rfl ?_
      refine r_get (u := (sc, ar)) (v := .int (sc 19)) hx hb hts hin hown hB 19 (by decide) (hts (.fieldLink RX12 226 "PointReportsModel" "readings" "I") (by decide +kernel)) rfl rfl dX12_poll_23 ?_
      refine g_top (y := nI (a.1 19)) n19 ?_
      refine lv_iconst (v := nI 1) hx hb dX12_poll_26 (by decide) ?_
      refine lv_iadd hx hb dX12_poll_27 ?_
      refine g_top (y := nI ((a.1 19) + 1)) (nI_add _ _) ?_
      refine r_put (u := (sc, ar)) (v := nI ((a.1 19) + 1)) (upd sc 19 (nI ((a.1 19) + 1))) hx hb hts hin hown hB 19 (by decide) (hts (.fieldLink RX12 226 "PointReportsModel" "readings" "I") (by decide +kernel)) rfl (ty := .int) rfl rfl rfl rfl rfl dX12_poll_28 (fun H locs hB => ?_)
      refine lv_aload_n hx hb dX12_poll_31 rfl (lv_at hl 1 rfl) ?_
      refine lv_iconst (v := nI 0) hx hb dX12_poll_32 (by decide) ?_
      refine r_put (u := (upd sc 19 (nI ((a.1 19) + 1)), ar)) (v := nI 0) (upd (upd sc 19 (nI ((a.1 19) + 1))) 20 (nI 0)) hx hb hts hin hown hB 20 (by decide) (hts (.fieldLink RX12 38 "PointReportsModel" "answered" "Z") (by decide +kernel)) rfl (ty := .boolean) rfl rfl (narrow_z (Or.inl rfl)) (fits_z (Or.inl rfl)) rfl dX12_poll_33 (fun H locs hB => ?_)
      refine lv_aload_n hx hb dX12_poll_36 rfl (lv_at hl 1 rfl) ?_
      refine lv_iload_n hx hb dX12_poll_37 rfl (lv_at hl 0 rfl) ?_
      refine lv_iconst (v := nI 1) hx hb dX12_poll_38 (by decide) ?_
      refine g_callv (av := [.int (nI (a.1 19 % 16)), .int (nI 1)]) (rest := []) ⟨hx, hb, hml, hown, hts⟩ (c_begin l G (upd (upd sc 19 (nI ((a.1 19) + 1))) 20 (nI 0)) ar (nI (a.1 19 % 16)) (nI 1)) (cwV 2 hts gX12_poll_X12_begin rfl rfl rfl (by decide +kernel) ⟨Nat.le_of_ble_eq_true rfl, Nat.le_of_ble_eq_true rfl⟩) hB (q0 := 0) (ci := 9) rfl rfl rfl rfl hl.1 rfl (Nat.le_of_ble_eq_true rfl) dX12_poll_39 ⟨Nat.le_of_ble_eq_true rfl, Nat.le_of_ble_eq_true rfl⟩ (fun u H locs hw hB => ?_)
      obtain ⟨f1z, hf1, rfl⟩ := hw
      have hB : gB G.1 (rT G) A s H locs (rWs G (upd (upd (upd sc 19 (nI ((a.1 19) + 1))) 20 (nI 0)) 40 (nI 2), va_up ar 39 f1z)) := hB
      refine lv_iconst (v := nI 1) hx hb dX12_poll_42 (by decide) ?_
      refine lv_istore_n (lv' := [(3, .int (nI 1)), (2, .int (nI (a.1 19 % 16))), (0, .ref G.2.1), (1, .int w0)]) hx hb dX12_poll_43 rfl hl (by decide) rfl (fun ls hl => ?_)
      have hl : lv_has ls 4 [(3, .int (nI (0 + 1))), (2, .int (nI (a.1 19 % 16))), (0, .ref G.2.1), (1, .int w0)] := lv_sub hl [0, 1, 2, 3] rfl
      have hB : gB G.1 (rT G) A s H locs (rWs G (upd (upd (upd sc 19 (nI ((a.1 19) + 1))) 20 (nI 0)) 40 (nI ((plL (a.1 19 % 16) w0 0).length)), va_up ar 39 f1z)) := hB
      refine g_loop (σ := Nat × (Nat → Int32)) (fun d xv H locs ls => (xv.1 + d = 4) ∧ (pfx xv.2 (plL (a.1 19 % 16) w0 xv.1)) ∧ gB G.1 (rT G) A s H locs (rWs G (upd (upd (upd sc 19 (nI ((a.1 19) + 1))) 20 (nI 0)) 40 (nI ((plL (a.1 19 % 16) w0 xv.1).length)), va_up ar 39 xv.2)) ∧ lv_has ls 4 [(3, .int (nI (xv.1 + 1))), (2, .int (nI (a.1 19 % 16))), (0, .ref G.2.1), (1, .int w0)]) 4 (0, f1z) ⟨by omega, hf1, hB, hl⟩ ?_
      rintro d ⟨k, f⟩ H locs ls ⟨hk, hf, hB, hl⟩ ih_3
      have hk : k + d = 4 := hk
      have hf : pfx f (plL (a.1 19 % 16) w0 k) := hf
      have hB : gB G.1 (rT G) A s H locs (rWs G (upd (upd (upd sc 19 (nI ((a.1 19) + 1))) 20 (nI 0)) 40 (nI ((plL (a.1 19 % 16) w0 k).length)), va_up ar 39 f)) := hB
      have hl : lv_has ls 4 [(3, .int (nI (k + 1))), (2, .int (nI (a.1 19 % 16))), (0, .ref G.2.1), (1, .int w0)] := hl
      have lm := plL_len (a.1 19 % 16) w0 k
      refine lv_iload_n hx hb dX12_poll_44 rfl (lv_at hl 0 rfl) ?_
      refine lv_iconst (v := nI 4) hx hb dX12_poll_45 (by decide) ?_
      refine lv_icmp_gt (tgt := 83) hx hb dX12_poll_46 (by decide) (fun c_4 => ?_) (fun c_4 => ?_)
      · have c_4 : 4 < (k + 1) := (nI_ltI (a := 4) (b := (k + 1)) (by omega) (by omega)).mp c_4
        have hk9 : k = 4 := by omega
        rw [hk9] at hf hB
        refine lv_aload_n hx hb dX12_poll_83 rfl (lv_at hl 2 rfl) ?_
        refine lv_iconst (v := nI 1) hx hb dX12_poll_84 (by decide) ?_
        refine g_callv (av := [.int (nI 1)]) (rest := []) ⟨hx, hb, hml, hown, hts⟩ (c_send l G (upd (upd (upd sc 19 (nI ((a.1 19) + 1))) 20 (nI 0)) 40 (nI ((plL (a.1 19 % 16) w0 4).length))) (va_up ar 39 f) 1 (by decide) (plL (a.1 19 % 16) w0 4) hf rfl (by have := plL_len (a.1 19 % 16) w0 4; omega) a.2.2.2.2.1 rl3 rl1 rl2 (a.1 100) rq0 rq2) (cwV 1 hts gX12_poll_X12_send rfl rfl rfl (by decide +kernel) ⟨Nat.le_of_ble_eq_true rfl, Nat.le_of_ble_eq_true rfl⟩) hB (q0 := 0) (ci := 9) rfl rfl rfl rfl hl.1 rfl (Nat.le_of_ble_eq_true rfl) dX12_poll_85 ⟨Nat.le_of_ble_eq_true rfl, Nat.le_of_ble_eq_true rfl⟩ (fun u H locs hw hB => ?_)
        obtain ⟨fr, le, si, nu, s2, s3, s4, s5, s6, rfl⟩ := hw
        have hB : gB G.1 (rT G) A s H locs (rWs G (upd (upd (upd (upd sc 19 (nI ((a.1 19) + 1))) 20 (nI 0)) 30 (nI ((sndF 1 (plL (a.1 19 % 16) w0 4) a.2.2.2.2.1 (a.1 100)).1.length))) 40 (nI ((plL (a.1 19 % 16) w0 4).length)), va_up (va_up (va_up (va_up (va_up ar 31 fr) 32 le) 33 si) 34 nu) 39 f)) := hB
        refine lv_iload_n hx hb dX12_poll_88 rfl (lv_at hl 1 rfl) ?_
        exact g_iret (Wd := rWs G) (v := nI (a.1 19 % 16)) (upd (upd (upd (upd sc 19 (nI ((a.1 19) + 1))) 20 (nI 0)) 30 (nI ((sndF 1 (plL (a.1 19 % 16) w0 4) a.2.2.2.2.1 (a.1 100)).1.length))) 40 (nI ((plL (a.1 19 % 16) w0 4).length)), va_up (va_up (va_up (va_up (va_up ar 31 fr) 32 le) 33 si) 34 nu) 39 f) hB hx hb hr hlocks rfl ⟨by rw [hs0], by rw [hs0]; exact ⟨n0, n9, n10, n11, n12, n13, n14, n15, n16, rfl, rfl, n23, n25, n26, n27, n28, n29, f1, f2, f3, f21, f22, f24, rE, rW, rfl, s3, s2, s5, (s6.trans rq1), s4, rq3, ro1, ro2, ro3, rg1, rg2, rg3, rg4, rh4, rg5, rh5, rg6, rh6, rg7, rh7, rc1, rc2, rc3, rz1, rz2, rz3, (Nat.zero_le 1), rk, rV, (sndF_ok (by decide) rY), (fun _ => Nat.le_add_left 1 _), (va_up_le (va_up_le (va_up_le rb2 (Nat.le_refl _) (show a.1 19 + 1 ≤ b + 400 by omega)) (Nat.le_refl _) (Nat.zero_le _)) (Nat.le_refl _) (show (sndF 1 (plL (a.1 19 % 16) w0 4) a.2.2.2.2.1 (a.1 100)).2 ≤ b + 400 by omega))⟩⟩ dX12_poll_89
      · have c_4 : ¬ 4 < (k + 1) := fun h9 => c_4 ((nI_ltI (a := 4) (b := (k + 1)) (by omega) (by omega)).mpr h9)
        refine lv_iload_n hx hb dX12_poll_49 rfl (lv_at hl 3 rfl) ?_
        refine lv_iload_n hx hb dX12_poll_50 rfl (lv_at hl 0 rfl) ?_
        refine lv_iconst (v := nI 1) hx hb dX12_poll_51 (by decide) ?_
        refine lv_isub hx hb dX12_poll_52 ?_
        refine g_top (y := nI k) (nI_pred k) ?_
        refine lv_ishr hx hb dX12_poll_53 ?_
        refine lv_iconst (v := nI 1) hx hb dX12_poll_54 (by decide) ?_
        refine lv_iand hx hb dX12_poll_55 ?_
        refine lv_iconst (v := nI 1) hx hb dX12_poll_56 (by decide) ?_
        refine lv_icmp_ne (tgt := 77) hx hb dX12_poll_57 (by decide) (fun c_5 => ?_) (fun c_5 => ?_)
        · have c_5 := c_5
          have eN : (plL (a.1 19 % 16) w0 (k + 1)) = (plL (a.1 19 % 16) w0 k) := by rw [plL, if_neg c_5, List.append_nil]
          refine lv_iinc (v := nI (k + 1 + 1)) (lv' := [(3, .int (nI (k + 1 + 1))), (2, .int (nI (a.1 19 % 16))), (0, .ref G.2.1), (1, .int w0)]) hx hb dX12_poll_77 hl (k := 0) rfl (nI_add _ _) (by decide) rfl (fun ls hl => ?_)
          refine lv_goto (tgt := 44) hx hb dX12_poll_80 (by decide) ?_
          have hB : gB G.1 (rT G) A s H locs (rWs G (upd (upd (upd sc 19 (nI ((a.1 19) + 1))) 20 (nI 0)) 40 (nI ((plL (a.1 19 % 16) w0 (k + 1)).length)), va_up ar 39 f)) := by rw [eN]; exact hB
          have hl : lv_has ls 4 [(3, .int (nI ((k + 1) + 1))), (2, .int (nI (a.1 19 % 16))), (0, .ref G.2.1), (1, .int w0)] := lv_sub hl [0, 1, 2, 3] rfl
          have hB : gB G.1 (rT G) A s H locs (rWs G (upd (upd (upd sc 19 (nI ((a.1 19) + 1))) 20 (nI 0)) 40 (nI ((plL (a.1 19 % 16) w0 (k + 1)).length)), va_up ar 39 f)) := hB
          have b_6 : (k + 1) + (4 - (k + 1)) = 4 := by omega
          have b_7 : pfx f (plL (a.1 19 % 16) w0 (k + 1)) := by rw [eN]; exact hf
          exact ih_3 (4 - (k + 1)) (k + 1, f) H locs ls (by omega) ⟨b_6, b_7, hB, hl⟩
        · have c_5 := c_5
          have eN : (plL (a.1 19 % 16) w0 (k + 1)) = (plL (a.1 19 % 16) w0 k) ++ [nI 60 &&& 255, nI (k + 1) &&& 255, nI 6 &&& 255] := by rw [plL, if_pos c_5]
          refine lv_aload_n hx hb dX12_poll_60 rfl (lv_at hl 2 rfl) ?_
          refine lv_bipush (v := nI 60) hx hb dX12_poll_61 (by decide) ?_
          refine g_callv (av := [.int (nI 60)]) (rest := []) ⟨hx, hb, hml, hown, hts⟩ (c_put l G (upd (upd (upd sc 19 (nI ((a.1 19) + 1))) 20 (nI 0)) 40 (nI ((plL (a.1 19 % 16) w0 k).length))) (va_up ar 39 f) (nI 60) ((plL (a.1 19 % 16) w0 k)) hf (by rfl) (by first | omega | (simp; omega))) (cwV 1 hts gX12_poll_X12_put rfl rfl rfl (by decide +kernel) ⟨Nat.le_of_ble_eq_true rfl, Nat.le_of_ble_eq_true rfl⟩) hB (q0 := 0) (ci := 9) rfl rfl rfl rfl hl.1 rfl (Nat.le_of_ble_eq_true rfl) dX12_poll_63 ⟨Nat.le_of_ble_eq_true rfl, Nat.le_of_ble_eq_true rfl⟩ (fun u H locs hw hB => ?_)
          obtain ⟨g1, hg1, rfl⟩ := hw
          have hB : gB G.1 (rT G) A s H locs (rWs G (upd (upd (upd sc 19 (nI ((a.1 19) + 1))) 20 (nI 0)) 40 (nI ((plL (a.1 19 % 16) w0 k).length + 1)), va_up ar 39 g1)) := hB
          refine lv_aload_n hx hb dX12_poll_66 rfl (lv_at hl 2 rfl) ?_
          refine lv_iload_n hx hb dX12_poll_67 rfl (lv_at hl 0 rfl) ?_
          have hg1 : pfx g1 ((plL (a.1 19 % 16) w0 k) ++ [nI 60 &&& 255]) := by simpa using hg1
          refine g_callv (av := [.int (nI (k + 1))]) (rest := []) ⟨hx, hb, hml, hown, hts⟩ (c_put l G (upd (upd (upd sc 19 (nI ((a.1 19) + 1))) 20 (nI 0)) 40 (nI ((plL (a.1 19 % 16) w0 k).length + 1))) (va_up ar 39 g1) (nI (k + 1)) ((plL (a.1 19 % 16) w0 k) ++ [nI 60 &&& 255]) hg1 (by rw [List.length_append]; rfl) (by first | omega | (simp; omega))) (cwV 1 hts gX12_poll_X12_put rfl rfl rfl (by decide +kernel) ⟨Nat.le_of_ble_eq_true rfl, Nat.le_of_ble_eq_true rfl⟩) hB (q0 := 0) (ci := 9) rfl rfl rfl rfl hl.1 rfl (Nat.le_of_ble_eq_true rfl) dX12_poll_68 ⟨Nat.le_of_ble_eq_true rfl, Nat.le_of_ble_eq_true rfl⟩ (fun u H locs hw hB => ?_)
          obtain ⟨g2, hg2, rfl⟩ := hw
          have hB : gB G.1 (rT G) A s H locs (rWs G (upd (upd (upd sc 19 (nI ((a.1 19) + 1))) 20 (nI 0)) 40 (nI ((plL (a.1 19 % 16) w0 k).length + 2)), va_up ar 39 g2)) := by have e9 : ((plL (a.1 19 % 16) w0 k) ++ [nI 60 &&& 255]).length + 1 = (plL (a.1 19 % 16) w0 k).length + 2 := (by rw [List.length_append]; rfl); rw [e9] at hB; exact hB
          refine lv_aload_n hx hb dX12_poll_71 rfl (lv_at hl 2 rfl) ?_
          refine lv_bipush (v := nI 6) hx hb dX12_poll_72 (by decide) ?_
          have hg2 : pfx g2 ((plL (a.1 19 % 16) w0 k) ++ [nI 60 &&& 255, nI (k + 1) &&& 255]) := by simpa using hg2
          refine g_callv (av := [.int (nI 6)]) (rest := []) ⟨hx, hb, hml, hown, hts⟩ (c_put l G (upd (upd (upd sc 19 (nI ((a.1 19) + 1))) 20 (nI 0)) 40 (nI ((plL (a.1 19 % 16) w0 k).length + 2))) (va_up ar 39 g2) (nI 6) ((plL (a.1 19 % 16) w0 k) ++ [nI 60 &&& 255, nI (k + 1) &&& 255]) hg2 (by rw [List.length_append]; rfl) (by first | omega | (simp; omega))) (cwV 1 hts gX12_poll_X12_put rfl rfl rfl (by decide +kernel) ⟨Nat.le_of_ble_eq_true rfl, Nat.le_of_ble_eq_true rfl⟩) hB (q0 := 0) (ci := 9) rfl rfl rfl rfl hl.1 rfl (Nat.le_of_ble_eq_true rfl) dX12_poll_74 ⟨Nat.le_of_ble_eq_true rfl, Nat.le_of_ble_eq_true rfl⟩ (fun u H locs hw hB => ?_)
          obtain ⟨g3, hg3, rfl⟩ := hw
          have hB : gB G.1 (rT G) A s H locs (rWs G (upd (upd (upd sc 19 (nI ((a.1 19) + 1))) 20 (nI 0)) 40 (nI ((plL (a.1 19 % 16) w0 k).length + 3)), va_up ar 39 g3)) := by have e9 : ((plL (a.1 19 % 16) w0 k) ++ [nI 60 &&& 255, nI (k + 1) &&& 255]).length + 1 = (plL (a.1 19 % 16) w0 k).length + 3 := (by rw [List.length_append]; rfl); rw [e9] at hB; exact hB
          refine lv_iinc (v := nI (k + 1 + 1)) (lv' := [(3, .int (nI (k + 1 + 1))), (2, .int (nI (a.1 19 % 16))), (0, .ref G.2.1), (1, .int w0)]) hx hb dX12_poll_77 hl (k := 0) rfl (nI_add _ _) (by decide) rfl (fun ls hl => ?_)
          refine lv_goto (tgt := 44) hx hb dX12_poll_80 (by decide) ?_
          have hB : gB G.1 (rT G) A s H locs (rWs G (upd (upd (upd sc 19 (nI ((a.1 19) + 1))) 20 (nI 0)) 40 (nI ((plL (a.1 19 % 16) w0 (k + 1)).length)), va_up ar 39 g3)) := by rw [eN, List.length_append]; exact hB
          have hl : lv_has ls 4 [(3, .int (nI ((k + 1) + 1))), (2, .int (nI (a.1 19 % 16))), (0, .ref G.2.1), (1, .int w0)] := lv_sub hl [0, 1, 2, 3] rfl
          have hB : gB G.1 (rT G) A s H locs (rWs G (upd (upd (upd sc 19 (nI ((a.1 19) + 1))) 20 (nI 0)) 40 (nI ((plL (a.1 19 % 16) w0 (k + 1)).length)), va_up ar 39 g3)) := hB
          have b_8 : (k + 1) + (4 - (k + 1)) = 4 := by omega
          have b_9 : pfx g3 (plL (a.1 19 % 16) w0 (k + 1)) := by rw [eN]; simpa using hg3
          exact ih_3 (4 - (k + 1)) (k + 1, g3) H locs ls (by omega) ⟨b_8, b_9, hB, hl⟩
    · have c_2 := c_2
      have hs0 : spPoll a w0 = (a, -1) := by rw [spPoll, if_pos (Or.inr (Int32.not_le.mp c_2))]
      refine lv_iconst (v := (-1)) hx hb dX12_poll_11 (by decide) ?_
      exact g_iret (Wd := rWs G) (v := (-1)) (sc, ar) hB hx hb hr hlocks rfl ⟨by rw [hs0], by rw [hs0]; exact hsame⟩ dX12_poll_12
set_option maxRecDepth 100000 in
set_option maxHeartbeats 4000000 in
/-- change(p, v) -/
theorem c_change (l : Launch) (G : rG) (sc : Nat → Int32) (ar : Nat → Nat → Int32) (b : Nat) (hb9 : b ≤ 1000000) (a : aS) (hr0 : rRep b (sc, ar) a) (p0 v0 : Int32) : gM l G.1 (rT G) yX12_change wsX12_change ({ frames := 1, cells := 0, slots := 0, locals := 22 }) [.ref G.2.1, .int p0, .int v0] (rWs G (sc, ar)) (gQi G.1 (rT G) (fun (r : Int32) (u : rSt) => r = nI (spChange a p0 v0).2 ∧ rRep (b + 400) u (spChange a p0 v0).1) (rWs G)) 0 0 := by
  refine gM.of (cc := cX12_change) (maxL := 5) (ret := (some .boolean)) (by decide) rfl (Nat.le_of_ble_eq_true rfl) ?_
  intro p e s m below meth c A ls hx hb hr hml hown hts hlocks hnm hB hl
  have hin : ∀ w ∈ wsX120, w ∈ wsX12_change := fun w h => List.mem_cons_of_mem _ (List.mem_append_right _ h)
  have hl : lv_has ls 5 [(0, .ref G.2.1), (1, .int p0), (2, .int v0)] := hl
  obtain ⟨n0, n9, n10, n11, n12, n13, n14, n15, n16, n19, n20, n23, n25, n26, n27, n28, n29, f1, f2, f3, f21, f22, f24, rE, rW, rl1, rl2, rl3, rq0, rq1, rq2, rq3, ro1, ro2, ro3, rg1, rg2, rg3, rg4, rh4, rg5, rh5, rg6, rh6, rg7, rh7, rc1, rc2, rc3, rz1, rz2, rz3, rz4, rk, rV, rY, rA, rb⟩ := id hr0
  have n0 : sc 0 = nI (a.1 0) := n0
  have n9 : sc 9 = nI (a.1 9) := n9
  have n10 : sc 10 = nI (a.1 10) := n10
  have n11 : sc 11 = nI (a.1 11) := n11
  have n12 : sc 12 = nI (a.1 12) := n12
  have n13 : sc 13 = nI (a.1 13) := n13
  have n14 : sc 14 = nI (a.1 14) := n14
  have n15 : sc 15 = nI (a.1 15) := n15
  have n16 : sc 16 = nI (a.1 16) := n16
  have n19 : sc 19 = nI (a.1 19) := n19
  have n20 : sc 20 = nI (a.1 20) := n20
  have n23 : sc 23 = nI (a.1 23) := n23
  have n25 : sc 25 = nI (a.1 25) := n25
  have n26 : sc 26 = nI (a.1 26) := n26
  have n27 : sc 27 = nI (a.1 27) := n27
  have n28 : sc 28 = nI (a.1 28) := n28
  have n29 : sc 29 = nI (a.1 29) := n29
  have f1 : ar 1 = a.2.1 1 := f1
  have f2 : ar 2 = a.2.1 2 := f2
  have f3 : ar 3 = a.2.1 3 := f3
  have f21 : ar 21 = a.2.1 21 := f21
  have f22 : ar 22 = a.2.1 22 := f22
  have f24 : ar 24 = a.2.1 24 := f24
  have rE : evR (ar 4) (ar 5) (ar 6) (ar 7) a.2.2.1 := rE
  have rW : wtR (ar 8) a.2.2.1 a.2.2.2.1 := rW
  have rl1 : sc 30 = nI a.2.2.2.2.1.length := rl1
  have rl3 : lnR (ar 31) (ar 32) (ar 33) a.2.2.2.2.1 := rl3
  have rq0 : ar 34 0 = nI (a.1 100) := rq0
  have rq1 : ar 34 1 = nI (a.1 101) := rq1
  have ro1 : pfx (ar 17) a.2.2.2.2.2.1 := ro1
  have ro2 : sc 18 = nI a.2.2.2.2.2.1.length := ro2
  have rg1 : ∀ x, x < 2 → ar 36 x = nI (a.2.2.2.2.2.2 x).length := rg1
  have rg3 : ∀ x, x < 2 → ∀ j, j < (a.2.2.2.2.2.2 x).length → ar 35 (400 * x + j) = nI ((a.2.2.2.2.2.2 x).getD j 0) ∧ (a.2.2.2.2.2.2 x).getD j 0 < 256 := rg3
  have rg4 : ar 37 0 = nI (a.1 102) := rg4
  have rh4 : ar 37 1 = nI (a.1 103) := rh4
  have rg5 : ar 38 0 = nI (a.1 104) := rg5
  have rh5 : ar 38 1 = nI (a.1 105) := rh5
  have rc1 : pfxN (ar 43) (a.2.2.2.2.2.2 2) := rc1
  have rc2 : sc 44 = nI (a.2.2.2.2.2.2 2).length := rc2
  have rb2 : ∀ k, a.1 k ≤ b + 400 := fun k => Nat.le_trans (rb k) (by omega)
  have hsame : rRep (b + 400) (sc, ar) a := ⟨n0, n9, n10, n11, n12, n13, n14, n15, n16, n19, n20, n23, n25, n26, n27, n28, n29, f1, f2, f3, f21, f22, f24, rE, rW, rl1, rl2, rl3, rq0, rq1, rq2, rq3, ro1, ro2, ro3, rg1, rg2, rg3, rg4, rh4, rg5, rh5, rg6, rh6, rg7, rh7, rc1, rc2, rc3, rz1, rz2, rz3, rz4, rk, rV, rY, rA, rb2⟩
  have b0 := rb 0
  have b11 := rb 11
  have b14 := rb 14
  have b15 := rb 15
  have b16 := rb 16
  have b19 := rb 19
  have b23 := rb 23
  have b10 := rb 10
  refine lv_iload_n hx hb dX12_change_0 rfl (lv_at hl 1 rfl) ?_
  refine g_callS0 (av := [.int p0]) (rest := []) ⟨hx, hb, hml, hown, hts⟩ (c_isPoint l G p0) (va_cwS 1 hts gX12_change_X12_isPoint rfl rfl rfl (by decide +kernel) ⟨Nat.le_of_ble_eq_true rfl, Nat.le_of_ble_eq_true rfl⟩) hB rfl hl.1 rfl (Nat.le_of_ble_eq_true rfl) dX12_change_1 ⟨Nat.le_of_ble_eq_true rfl, Nat.le_of_ble_eq_true rfl⟩ (fun r9 H locs hw hB => ?_)
  have hpt := hw
  refine lv_if_eq (tgt := 30) hx hb dX12_change_4 (by decide) (fun c_1 => ?_) (fun c_1 => ?_)
  · have c_1 := c_1
    have hq : p0 < 0 ∨ nI 10 ≤ p0 := by rcases hpt with ⟨h1, h2⟩ | ⟨h1, h2⟩; exact absurd (h1.symm.trans c_1) (by decide); exact h2
    have hs0 : spChange a p0 v0 = (a, 0) := by rw [spChange, if_pos (by rcases hq with h | h; exact Or.inl h; exact Or.inr (Or.inl h))]
    refine lv_iconst (v := nI 0) hx hb dX12_change_30 (by decide) ?_
    exact g_zret (Wd := rWs G) (v := nI 0) (sc, ar) hB hx hb hr hlocks rfl (narrow_z (Or.inl rfl)) ⟨by rw [hs0], by rw [hs0]; exact hsame⟩ dX12_change_31
  · have c_1 := c_1
    have hq : ¬ p0 < 0 ∧ ¬ nI 10 ≤ p0 := by rcases hpt with ⟨h1, h2⟩ | ⟨h1, h2⟩; exact h2; exact absurd h1 c_1
    refine lv_iload_n hx hb dX12_change_7 rfl (lv_at hl 2 rfl) ?_
    refine lv_if_lt (tgt := 30) hx hb dX12_change_8 (by decide) (fun c_2 => ?_) (fun c_2 => ?_)
    · have c_2 := c_2
      have hs0 : spChange a p0 v0 = (a, 0) := by rw [spChange, if_pos (Or.inr (Or.inr (Or.inl c_2)))]
      refine lv_iconst (v := nI 0) hx hb dX12_change_30 (by decide) ?_
      exact g_zret (Wd := rWs G) (v := nI 0) (sc, ar) hB hx hb hr hlocks rfl (narrow_z (Or.inl rfl)) ⟨by rw [hs0], by rw [hs0]; exact hsame⟩ dX12_change_31
    · have c_2 := c_2
      refine lv_iload_n hx hb dX12_change_11 rfl (lv_at hl 2 rfl) ?_
      refine lv_ldc (v := (65535)) hx hb hown (hts (.constant RX12 88 (65535)) (by decide +kernel)) dX12_change_12 ?_
      refine lv_icmp_gt (tgt := 30) hx hb dX12_change_14 (by decide) (fun c_3 => ?_) (fun c_3 => ?_)
      · have c_3 := c_3
        have hs0 : spChange a p0 v0 = (a, 0) := by rw [spChange, if_pos (Or.inr (Or.inr (Or.inr (Or.inl c_3))))]
        refine lv_iconst (v := nI 0) hx hb dX12_change_30 (by decide) ?_
        exact g_zret (Wd := rWs G) (v := nI 0) (sc, ar) hB hx hb hr hlocks rfl (narrow_z (Or.inl rfl)) ⟨by rw [hs0], by rw [hs0]; exact hsame⟩ dX12_change_31
      · have c_3 := c_3
        obtain ⟨j, hj, ej⟩ : ∃ j : Nat, j < 10 ∧ p0 = nI j := by rcases pk_ix p0 (n := 10) (by decide) with h | h | h; exact absurd h hq.1; exact absurd h hq.2; exact h
        subst ej
        have ej : (nI j).toNatClampNeg = j := nI_clamp (by omega)
        refine lv_aload_n hx hb dX12_change_17 rfl (lv_at hl 0 rfl) ?_
        refine r_get (u := (sc, ar)) (v := .ref (G.2.2.1 3)) hx hb hts hin hown hB 3 (by decide) (hts (.fieldLink RX12 16 "PointReportsModel" "changed" "[I") (by decide +kernel)) rfl rfl dX12_change_18 ?_
        refine lv_iload_n hx hb dX12_change_21 rfl (lv_at hl 1 rfl) ?_
        refine r_ald (u := (sc, ar)) (f := ar 3) hx hb hB 3 rfl j rfl (by omega) (by decide) dX12_change_22 ?_
        refine lv_aload_n hx hb dX12_change_23 rfl (lv_at hl 0 rfl) ?_
        refine r_get (u := (sc, ar)) (v := .int (sc 0)) hx hb hts hin hown hB 0 (by decide) (hts (.fieldLink RX12 196 "PointReportsModel" "time" "I") (by decide +kernel)) rfl rfl dX12_change_24 ?_
        refine g_top (y := nI (a.1 0)) n0 ?_
        refine lv_icmp_ne (tgt := 32) hx hb dX12_change_27 (by decide) (fun c_4 => ?_) (fun c_4 => ?_)
        · have c_4 := c_4
          obtain ⟨cl, hcl, ecl⟩ := rk j hj
          have hs0 : spChange a (nI j) v0 = if cl = 0 then (spVal a j v0, 1) else (spEvent (spRoom (spVal a j v0) cl) cl (nI j, v0, nI (a.1 0)), 1) := by
            rw [spChange, if_neg (fun z => ?_), ej, ecl, nI_clamp (by omega)]
            rcases z with z | z | z | z | z
            · exact hq.1 z
            · exact hq.2 z
            · exact c_2 z
            · exact c_3 z
            · rw [ej, ← f3] at z; exact c_4 z
          refine lv_aload_n hx hb dX12_change_32 rfl (lv_at hl 0 rfl) ?_
          refine r_get (u := (sc, ar)) (v := .ref (G.2.2.1 3)) hx hb hts hin hown hB 3 (by decide) (hts (.fieldLink RX12 16 "PointReportsModel" "changed" "[I") (by decide +kernel)) rfl rfl dX12_change_33 ?_
          refine lv_iload_n hx hb dX12_change_36 rfl (lv_at hl 1 rfl) ?_
          refine lv_aload_n hx hb dX12_change_37 rfl (lv_at hl 0 rfl) ?_
          refine r_get (u := (sc, ar)) (v := .int (sc 0)) hx hb hts hin hown hB 0 (by decide) (hts (.fieldLink RX12 196 "PointReportsModel" "time" "I") (by decide +kernel)) rfl rfl dX12_change_38 ?_
          refine g_top (y := nI (a.1 0)) n0 ?_
          refine r_ast (u := (sc, ar)) (f := ar 3) (x := nI (a.1 0)) (va_up ar 3 (upd (ar 3) j (nI (a.1 0)))) hx hb hB 3 rfl j rfl (by omega) (by decide) rfl dX12_change_41 (fun H locs hB => ?_)
          refine lv_aload_n hx hb dX12_change_42 rfl (lv_at hl 0 rfl) ?_
          refine r_get (u := (sc, va_up ar 3 (upd (ar 3) j (nI (a.1 0))))) (v := .ref (G.2.2.1 2)) hx hb hts hin hown hB 2 (by decide) (hts (.fieldLink RX12 13 "PointReportsModel" "values" "[I") (by decide +kernel)) rfl rfl dX12_change_43 ?_
          refine lv_iload_n hx hb dX12_change_46 rfl (lv_at hl 1 rfl) ?_
          refine lv_iload_n hx hb dX12_change_47 rfl (lv_at hl 2 rfl) ?_
          refine r_ast (u := (sc, va_up ar 3 (upd (ar 3) j (nI (a.1 0))))) (f := ar 2) (x := v0) (va_up (va_up ar 2 (upd (ar 2) j v0)) 3 (upd (ar 3) j (nI (a.1 0)))) hx hb hB 2 rfl j rfl (by omega) (by decide) rfl dX12_change_48 (fun H locs hB => ?_)
          refine lv_aload_n hx hb dX12_change_49 rfl (lv_at hl 0 rfl) ?_
          refine r_get (u := (sc, va_up (va_up ar 2 (upd (ar 2) j v0)) 3 (upd (ar 3) j (nI (a.1 0))))) (v := .ref (G.2.2.1 1)) hx hb hts hin hown hB 1 (by decide) (hts (.fieldLink RX12 7 "PointReportsModel" "classes" "[I") (by decide +kernel)) rfl rfl dX12_change_50 ?_
          refine lv_iload_n hx hb dX12_change_53 rfl (lv_at hl 1 rfl) ?_
          refine r_ald (u := (sc, va_up (va_up ar 2 (upd (ar 2) j v0)) 3 (upd (ar 3) j (nI (a.1 0))))) (f := ar 1) hx hb hB 1 rfl j rfl (by omega) (by decide) dX12_change_54 ?_
          refine g_top (y := nI cl) ((congrFun f1 j).trans ecl) ?_
          refine lv_istore_n (lv' := [(3, .int (nI cl)), (0, .ref G.2.1), (1, .int (nI j)), (2, .int v0)]) hx hb dX12_change_55 rfl hl (by decide) rfl (fun ls hl => ?_)
          refine lv_iload_n hx hb dX12_change_56 rfl (lv_at hl 0 rfl) ?_
          refine lv_if_le (tgt := 190) hx hb dX12_change_57 (by decide) (fun c_5 => ?_) (fun c_5 => ?_)
          · have c_5 : cl ≤ 0 := (nI_leI (a := cl) (b := 0) (by omega) (by omega)).mp c_5
            refine lv_iconst (v := nI 1) hx hb dX12_change_190 (by decide) ?_
            rw [if_pos (by omega)] at hs0
            exact g_zret (Wd := rWs G) (v := nI 1) (sc, va_up (va_up ar 2 (upd (ar 2) j v0)) 3 (upd (ar 3) j (nI (a.1 0)))) hB hx hb hr hlocks rfl (narrow_z (Or.inr rfl)) ⟨by rw [hs0], by rw [hs0]; exact ⟨n0, n9, n10, n11, n12, n13, n14, n15, n16, n19, n20, n23, n25, n26, n27, n28, n29, f1, (by show upd (ar 2) j v0 = upd (a.2.1 2) j v0; rw [f2]), (by show upd (ar 3) j (nI (a.1 0)) = upd (a.2.1 3) j (nI (a.1 0)); rw [f3]), f21, f22, f24, rE, rW, rl1, rl2, rl3, rq0, rq1, rq2, rq3, ro1, ro2, ro3, rg1, rg2, rg3, rg4, rh4, rg5, rh5, rg6, rh6, rg7, rh7, rc1, rc2, rc3, rz1, rz2, rz3, rz4, rk, rV, rY, rA, rb2⟩⟩ dX12_change_191
          · have c_5 : ¬ cl ≤ 0 := fun h9 => c_5 ((nI_leI (a := cl) (b := 0) (by omega) (by omega)).mpr h9)
            rw [if_neg (by omega)] at hs0
            obtain ⟨k1, k2, k3⟩ := id (rE cl (by omega) hcl)
            have k8 : ∀ x, 1 ≤ x → x ≤ 3 → (a.2.2.1 x).length ≤ 8 := fun x h1 h3 => (rE x h1 h3).2.1
            refine lv_aload_n hx hb dX12_change_60 rfl (lv_at hl 1 rfl) ?_
            refine r_get (u := (sc, va_up (va_up ar 2 (upd (ar 2) j v0)) 3 (upd (ar 3) j (nI (a.1 0))))) (v := .ref (G.2.2.1 4)) hx hb hts hin hown hB 4 (by decide) (hts (.fieldLink RX12 19 "PointReportsModel" "kept" "[I") (by decide +kernel)) rfl rfl dX12_change_61 ?_
            refine lv_iload_n hx hb dX12_change_64 rfl (lv_at hl 0 rfl) ?_
            refine r_ald (u := (sc, va_up (va_up ar 2 (upd (ar 2) j v0)) 3 (upd (ar 3) j (nI (a.1 0))))) (f := ar 4) hx hb hB 4 rfl cl rfl (by omega) (by decide) dX12_change_65 ?_
            refine g_top (y := nI ((a.2.2.1 cl).length)) k1 ?_
            refine lv_bipush (v := nI 8) hx hb dX12_change_66 (by decide) ?_
            refine lv_icmp_ne (tgt := 132) hx hb dX12_change_68 (by decide) (fun c_6 => ?_) (fun c_6 => ?_)
            · have c_6 : ¬ ((a.2.2.1 cl).length) = 8 := fun h9 => c_6 ((nI_eq (a := ((a.2.2.1 cl).length)) (b := 8) (by omega) (by omega)).mpr h9)
              have hsr : spRoom (spVal a j v0) cl = spVal a j v0 := by rw [spRoom, if_neg (show ¬ ((spVal a j v0).2.2.1 cl).length = 8 from c_6)]
              rw [hsr] at hs0
              refine lv_bipush (v := nI 8) hx hb dX12_change_132 (by decide) ?_
              refine lv_iload_n hx hb dX12_change_134 rfl (lv_at hl 0 rfl) ?_
              refine lv_imul hx hb dX12_change_135 ?_
              refine g_top (y := nI (8 * cl)) (pk_mul _ _) ?_
              refine lv_aload_n hx hb dX12_change_136 rfl (lv_at hl 1 rfl) ?_
              refine r_get (u := (sc, va_up (va_up ar 2 (upd (ar 2) j v0)) 3 (upd (ar 3) j (nI (a.1 0))))) (v := .ref (G.2.2.1 4)) hx hb hts hin hown hB 4 (by decide) (hts (.fieldLink RX12 19 "PointReportsModel" "kept" "[I") (by decide +kernel)) rfl rfl dX12_change_137 ?_
              refine lv_iload_n hx hb dX12_change_140 rfl (lv_at hl 0 rfl) ?_
              refine r_ald (u := (sc, va_up (va_up ar 2 (upd (ar 2) j v0)) 3 (upd (ar 3) j (nI (a.1 0))))) (f := ar 4) hx hb hB 4 rfl cl rfl (by omega) (by decide) dX12_change_141 ?_
              refine g_top (y := nI ((a.2.2.1 cl).length)) (by exact k1) ?_
              refine lv_iadd hx hb dX12_change_142 ?_
              refine g_top (y := nI ((8 * cl) + ((a.2.2.1 cl).length))) (nI_add _ _) ?_
              refine lv_istore (lv' := [(4, .int (nI ((8 * cl) + ((a.2.2.1 cl).length)))), (3, .int (nI cl)), (0, .ref G.2.1), (1, .int (nI j)), (2, .int v0)]) hx hb dX12_change_143 hl (by decide) rfl (fun ls hl => ?_)
              refine lv_aload_n hx hb dX12_change_145 rfl (lv_at hl 2 rfl) ?_
              refine r_get (u := (sc, va_up (va_up ar 2 (upd (ar 2) j v0)) 3 (upd (ar 3) j (nI (a.1 0))))) (v := .ref (G.2.2.1 5)) hx hb hts hin hown hB 5 (by decide) (hts (.fieldLink RX12 22 "PointReportsModel" "points" "[I") (by decide +kernel)) rfl rfl dX12_change_146 ?_
              refine lv_iload hx hb dX12_change_149 (lv_at hl 0 rfl) ?_
              refine lv_iload_n hx hb dX12_change_151 rfl (lv_at hl 3 rfl) ?_
              refine r_ast (u := (sc, va_up (va_up ar 2 (upd (ar 2) j v0)) 3 (upd (ar 3) j (nI (a.1 0))))) (f := ar 5) (x := nI j) (va_up (va_up (va_up ar 2 (upd (ar 2) j v0)) 3 (upd (ar 3) j (nI (a.1 0)))) 5 (upd (ar 5) ((8 * cl) + ((a.2.2.1 cl).length)) (nI j))) hx hb hB 5 rfl ((8 * cl) + ((a.2.2.1 cl).length)) rfl (by omega) (by decide) rfl dX12_change_152 (fun H locs hB => ?_)
              refine lv_aload_n hx hb dX12_change_153 rfl (lv_at hl 2 rfl) ?_
              refine r_get (u := (sc, va_up (va_up (va_up ar 2 (upd (ar 2) j v0)) 3 (upd (ar 3) j (nI (a.1 0)))) 5 (upd (ar 5) ((8 * cl) + ((a.2.2.1 cl).length)) (nI j)))) (v := .ref (G.2.2.1 6)) hx hb hts hin hown hB 6 (by decide) (hts (.fieldLink RX12 25 "PointReportsModel" "eventValues" "[I") (by decide +kernel)) rfl rfl dX12_change_154 ?_
              refine lv_iload hx hb dX12_change_157 (lv_at hl 0 rfl) ?_
              refine lv_iload_n hx hb dX12_change_159 rfl (lv_at hl 4 rfl) ?_
              refine r_ast (u := (sc, va_up (va_up (va_up ar 2 (upd (ar 2) j v0)) 3 (upd (ar 3) j (nI (a.1 0)))) 5 (upd (ar 5) ((8 * cl) + ((a.2.2.1 cl).length)) (nI j)))) (f := ar 6) (x := v0) (va_up (va_up (va_up (va_up ar 2 (upd (ar 2) j v0)) 3 (upd (ar 3) j (nI (a.1 0)))) 5 (upd (ar 5) ((8 * cl) + ((a.2.2.1 cl).length)) (nI j))) 6 (upd (ar 6) ((8 * cl) + ((a.2.2.1 cl).length)) v0)) hx hb hB 6 rfl ((8 * cl) + ((a.2.2.1 cl).length)) rfl (by omega) (by decide) rfl dX12_change_160 (fun H locs hB => ?_)
              refine lv_aload_n hx hb dX12_change_161 rfl (lv_at hl 2 rfl) ?_
              refine r_get (u := (sc, va_up (va_up (va_up (va_up ar 2 (upd (ar 2) j v0)) 3 (upd (ar 3) j (nI (a.1 0)))) 5 (upd (ar 5) ((8 * cl) + ((a.2.2.1 cl).length)) (nI j))) 6 (upd (ar 6) ((8 * cl) + ((a.2.2.1 cl).length)) v0))) (v := .ref (G.2.2.1 7)) hx hb hts hin hown hB 7 (by decide) (hts (.fieldLink RX12 28 "PointReportsModel" "times" "[I") (by decide +kernel)) rfl rfl dX12_change_162 ?_
              refine lv_iload hx hb dX12_change_165 (lv_at hl 0 rfl) ?_
              refine lv_aload_n hx hb dX12_change_167 rfl (lv_at hl 2 rfl) ?_
              refine r_get (u := (sc, va_up (va_up (va_up (va_up ar 2 (upd (ar 2) j v0)) 3 (upd (ar 3) j (nI (a.1 0)))) 5 (upd (ar 5) ((8 * cl) + ((a.2.2.1 cl).length)) (nI j))) 6 (upd (ar 6) ((8 * cl) + ((a.2.2.1 cl).length)) v0))) (v := .int (sc 0)) hx hb hts hin hown hB 0 (by decide) (hts (.fieldLink RX12 196 "PointReportsModel" "time" "I") (by decide +kernel)) rfl rfl dX12_change_168 ?_
              refine g_top (y := nI (a.1 0)) n0 ?_
              refine r_ast (u := (sc, va_up (va_up (va_up (va_up ar 2 (upd (ar 2) j v0)) 3 (upd (ar 3) j (nI (a.1 0)))) 5 (upd (ar 5) ((8 * cl) + ((a.2.2.1 cl).length)) (nI j))) 6 (upd (ar 6) ((8 * cl) + ((a.2.2.1 cl).length)) v0))) (f := ar 7) (x := nI (a.1 0)) (va_up (va_up (va_up (va_up (va_up ar 2 (upd (ar 2) j v0)) 3 (upd (ar 3) j (nI (a.1 0)))) 5 (upd (ar 5) ((8 * cl) + ((a.2.2.1 cl).length)) (nI j))) 6 (upd (ar 6) ((8 * cl) + ((a.2.2.1 cl).length)) v0)) 7 (upd (ar 7) ((8 * cl) + ((a.2.2.1 cl).length)) (nI (a.1 0)))) hx hb hB 7 rfl ((8 * cl) + ((a.2.2.1 cl).length)) rfl (by omega) (by decide) rfl dX12_change_171 (fun H locs hB => ?_)
              refine lv_aload_n hx hb dX12_change_172 rfl (lv_at hl 2 rfl) ?_
              refine r_get (u := (sc, va_up (va_up (va_up (va_up (va_up ar 2 (upd (ar 2) j v0)) 3 (upd (ar 3) j (nI (a.1 0)))) 5 (upd (ar 5) ((8 * cl) + ((a.2.2.1 cl).length)) (nI j))) 6 (upd (ar 6) ((8 * cl) + ((a.2.2.1 cl).length)) v0)) 7 (upd (ar 7) ((8 * cl) + ((a.2.2.1 cl).length)) (nI (a.1 0))))) (v := .ref (G.2.2.1 8)) hx hb hts hin hown hB 8 (by decide) (hts (.fieldLink RX12 31 "PointReportsModel" "waits" "[Z") (by decide +kernel)) rfl rfl dX12_change_173 ?_
              refine lv_iload hx hb dX12_change_176 (lv_at hl 0 rfl) ?_
              refine lv_iconst (v := nI 0) hx hb dX12_change_178 (by decide) ?_
              refine r_zast (u := (sc, va_up (va_up (va_up (va_up (va_up ar 2 (upd (ar 2) j v0)) 3 (upd (ar 3) j (nI (a.1 0)))) 5 (upd (ar 5) ((8 * cl) + ((a.2.2.1 cl).length)) (nI j))) 6 (upd (ar 6) ((8 * cl) + ((a.2.2.1 cl).length)) v0)) 7 (upd (ar 7) ((8 * cl) + ((a.2.2.1 cl).length)) (nI (a.1 0))))) (f := ar 8) (x := nI 0) (va_up (va_up (va_up (va_up (va_up (va_up ar 2 (upd (ar 2) j v0)) 3 (upd (ar 3) j (nI (a.1 0)))) 5 (upd (ar 5) ((8 * cl) + ((a.2.2.1 cl).length)) (nI j))) 6 (upd (ar 6) ((8 * cl) + ((a.2.2.1 cl).length)) v0)) 7 (upd (ar 7) ((8 * cl) + ((a.2.2.1 cl).length)) (nI (a.1 0)))) 8 (upd (ar 8) ((8 * cl) + ((a.2.2.1 cl).length)) (nI 0))) hx hb hB 8 rfl ((8 * cl) + ((a.2.2.1 cl).length)) rfl (by omega) (by decide) (Or.inl rfl) rfl dX12_change_179 (fun H locs hB => ?_)
              refine lv_aload_n hx hb dX12_change_180 rfl (lv_at hl 2 rfl) ?_
              refine r_get (u := (sc, va_up (va_up (va_up (va_up (va_up (va_up ar 2 (upd (ar 2) j v0)) 3 (upd (ar 3) j (nI (a.1 0)))) 5 (upd (ar 5) ((8 * cl) + ((a.2.2.1 cl).length)) (nI j))) 6 (upd (ar 6) ((8 * cl) + ((a.2.2.1 cl).length)) v0)) 7 (upd (ar 7) ((8 * cl) + ((a.2.2.1 cl).length)) (nI (a.1 0)))) 8 (upd (ar 8) ((8 * cl) + ((a.2.2.1 cl).length)) (nI 0)))) (v := .ref (G.2.2.1 4)) hx hb hts hin hown hB 4 (by decide) (hts (.fieldLink RX12 19 "PointReportsModel" "kept" "[I") (by decide +kernel)) rfl rfl dX12_change_181 ?_
              refine lv_iload_n hx hb dX12_change_184 rfl (lv_at hl 1 rfl) ?_
              refine lv_dup2_11 hx hb dX12_change_185 rfl rfl ?_
              refine r_ald (u := (sc, va_up (va_up (va_up (va_up (va_up (va_up ar 2 (upd (ar 2) j v0)) 3 (upd (ar 3) j (nI (a.1 0)))) 5 (upd (ar 5) ((8 * cl) + ((a.2.2.1 cl).length)) (nI j))) 6 (upd (ar 6) ((8 * cl) + ((a.2.2.1 cl).length)) v0)) 7 (upd (ar 7) ((8 * cl) + ((a.2.2.1 cl).length)) (nI (a.1 0)))) 8 (upd (ar 8) ((8 * cl) + ((a.2.2.1 cl).length)) (nI 0)))) (f := ar 4) hx hb hB 4 rfl cl rfl (by omega) (by decide) dX12_change_186 ?_
              refine g_top (y := nI ((a.2.2.1 cl).length)) (by exact k1) ?_
              refine lv_iconst (v := nI 1) hx hb dX12_change_187 (by decide) ?_
              refine lv_iadd hx hb dX12_change_188 ?_
              refine g_top (y := nI (((a.2.2.1 cl).length) + 1)) (nI_add _ _) ?_
              refine r_ast (u := (sc, va_up (va_up (va_up (va_up (va_up (va_up ar 2 (upd (ar 2) j v0)) 3 (upd (ar 3) j (nI (a.1 0)))) 5 (upd (ar 5) ((8 * cl) + ((a.2.2.1 cl).length)) (nI j))) 6 (upd (ar 6) ((8 * cl) + ((a.2.2.1 cl).length)) v0)) 7 (upd (ar 7) ((8 * cl) + ((a.2.2.1 cl).length)) (nI (a.1 0)))) 8 (upd (ar 8) ((8 * cl) + ((a.2.2.1 cl).length)) (nI 0)))) (f := ar 4) (x := nI (((a.2.2.1 cl).length) + 1)) (va_up (va_up (va_up (va_up (va_up (va_up (va_up ar 2 (upd (ar 2) j v0)) 3 (upd (ar 3) j (nI (a.1 0)))) 4 (upd (ar 4) cl (nI (((a.2.2.1 cl).length) + 1)))) 5 (upd (ar 5) ((8 * cl) + ((a.2.2.1 cl).length)) (nI j))) 6 (upd (ar 6) ((8 * cl) + ((a.2.2.1 cl).length)) v0)) 7 (upd (ar 7) ((8 * cl) + ((a.2.2.1 cl).length)) (nI (a.1 0)))) 8 (upd (ar 8) ((8 * cl) + ((a.2.2.1 cl).length)) (nI 0))) hx hb hB 4 rfl cl rfl (by omega) (by decide) rfl dX12_change_189 (fun H locs hB => ?_)
              refine lv_iconst (v := nI 1) hx hb dX12_change_190 (by decide) ?_
              have hEp := evR_push (q := (nI j, v0, nI (a.1 0))) rE (by omega) hcl (by omega)
              have hWp := wtR_push (q := (nI j, v0, nI (a.1 0))) rW (rV cl) (by omega) k8
              have hV3 : ∀ c, a.2.2.2.1 c ≤ (va_up a.2.2.1 cl (a.2.2.1 cl ++ [(nI j, v0, nI (a.1 0))]) c).length := fun c => by
                have h2 := rV c
                by_cases hc : c = cl
                · subst hc; rw [va_self, List.length_append]; exact Nat.le_trans h2 (Nat.le_add_right _ _)
                · rw [va_ne hc]; exact h2
              exact g_zret (Wd := rWs G) (v := nI 1) (sc, va_up (va_up (va_up (va_up (va_up (va_up (va_up ar 2 (upd (ar 2) j v0)) 3 (upd (ar 3) j (nI (a.1 0)))) 4 (upd (ar 4) cl (nI (((a.2.2.1 cl).length) + 1)))) 5 (upd (ar 5) ((8 * cl) + ((a.2.2.1 cl).length)) (nI j))) 6 (upd (ar 6) ((8 * cl) + ((a.2.2.1 cl).length)) v0)) 7 (upd (ar 7) ((8 * cl) + ((a.2.2.1 cl).length)) (nI (a.1 0)))) 8 (upd (ar 8) ((8 * cl) + ((a.2.2.1 cl).length)) (nI 0))) hB hx hb hr hlocks rfl (narrow_z (Or.inr rfl)) ⟨by rw [hs0], by rw [hs0]; exact ⟨n0, n9, n10, n11, n12, n13, n14, n15, n16, n19, n20, n23, n25, n26, n27, n28, n29, f1, (by show upd (ar 2) j v0 = upd (a.2.1 2) j v0; rw [f2]), (by show upd (ar 3) j (nI (a.1 0)) = upd (a.2.1 3) j (nI (a.1 0)); rw [f3]), f21, f22, f24, hEp, hWp, rl1, rl2, rl3, rq0, rq1, rq2, rq3, ro1, ro2, ro3, rg1, rg2, rg3, rg4, rh4, rg5, rh5, rg6, rh6, rg7, rh7, rc1, rc2, rc3, rz1, rz2, rz3, rz4, rk, hV3, rY, rA, rb2⟩⟩ dX12_change_191
            · have c_6 : ((a.2.2.1 cl).length) = 8 := (nI_eq (a := ((a.2.2.1 cl).length)) (b := 8) (by omega) (by omega)).mp c_6
              refine lv_bipush (v := nI 8) hx hb dX12_change_71 (by decide) ?_
              refine lv_iload_n hx hb dX12_change_73 rfl (lv_at hl 0 rfl) ?_
              refine lv_imul hx hb dX12_change_74 ?_
              refine g_top (y := nI (8 * cl)) (pk_mul _ _) ?_
              refine lv_istore (lv' := [(4, .int (nI (8 * cl))), (3, .int (nI cl)), (0, .ref G.2.1), (1, .int (nI j)), (2, .int v0)]) hx hb dX12_change_75 hl (by decide) rfl (fun ls hl => ?_)
              have hl : lv_has ls 5 [(4, .int (nI (8 * cl + 0))), (3, .int (nI cl)), (0, .ref G.2.1), (1, .int (nI j)), (2, .int v0)] := lv_sub hl [0, 1, 2, 3, 4] rfl
              have hB : gB G.1 (rT G) A s H locs (rWs G (sc, va_up (va_up (va_up (va_up (va_up (va_up ar 2 (upd (ar 2) j v0)) 3 (upd (ar 3) j (nI (a.1 0)))) 5 (ar 5)) 6 (ar 6)) 7 (ar 7)) 8 (ar 8))) := hB
              refine g_loop (σ := Nat × (Nat → Int32) × (Nat → Int32) × (Nat → Int32) × (Nat → Int32)) (fun d xv H locs ls => (xv.1 + d = 7) ∧ (∀ z, xv.2.1 z = if 8 * cl ≤ z ∧ z < 8 * cl + xv.1 then ar 5 (z + 1) else ar 5 z) ∧ (∀ z, xv.2.2.1 z = if 8 * cl ≤ z ∧ z < 8 * cl + xv.1 then ar 6 (z + 1) else ar 6 z) ∧ (∀ z, xv.2.2.2.1 z = if 8 * cl ≤ z ∧ z < 8 * cl + xv.1 then ar 7 (z + 1) else ar 7 z) ∧ (∀ z, xv.2.2.2.2 z = if 8 * cl ≤ z ∧ z < 8 * cl + xv.1 then ar 8 (z + 1) else ar 8 z) ∧ gB G.1 (rT G) A s H locs (rWs G (sc, va_up (va_up (va_up (va_up (va_up (va_up ar 2 (upd (ar 2) j v0)) 3 (upd (ar 3) j (nI (a.1 0)))) 5 xv.2.1) 6 xv.2.2.1) 7 xv.2.2.2.1) 8 xv.2.2.2.2)) ∧ lv_has ls 5 [(4, .int (nI (8 * cl + xv.1))), (3, .int (nI cl)), (0, .ref G.2.1), (1, .int (nI j)), (2, .int v0)]) 7 (0, ar 5, ar 6, ar 7, ar 8) ⟨by omega, fun z => by rw [if_neg (by omega)], fun z => by rw [if_neg (by omega)], fun z => by rw [if_neg (by omega)], fun z => by rw [if_neg (by omega)], hB, hl⟩ ?_
              rintro d ⟨k, po2, va2, ti2, wa2⟩ H locs ls ⟨hk, g0, g1, g2, g3, hB, hl⟩ ih_7
              have hk : k + d = 7 := hk
              have g0 : ∀ z, po2 z = if 8 * cl ≤ z ∧ z < 8 * cl + k then ar 5 (z + 1) else ar 5 z := g0
              have g1 : ∀ z, va2 z = if 8 * cl ≤ z ∧ z < 8 * cl + k then ar 6 (z + 1) else ar 6 z := g1
              have g2 : ∀ z, ti2 z = if 8 * cl ≤ z ∧ z < 8 * cl + k then ar 7 (z + 1) else ar 7 z := g2
              have g3 : ∀ z, wa2 z = if 8 * cl ≤ z ∧ z < 8 * cl + k then ar 8 (z + 1) else ar 8 z := g3
              have hB : gB G.1 (rT G) A s H locs (rWs G (sc, va_up (va_up (va_up (va_up (va_up (va_up ar 2 (upd (ar 2) j v0)) 3 (upd (ar 3) j (nI (a.1 0)))) 5 po2) 6 va2) 7 ti2) 8 wa2)) := hB
              have hl : lv_has ls 5 [(4, .int (nI (8 * cl + k))), (3, .int (nI cl)), (0, .ref G.2.1), (1, .int (nI j)), (2, .int v0)] := hl
              refine lv_iload hx hb dX12_change_77 (lv_at hl 0 rfl) ?_
              refine lv_bipush (v := nI 8) hx hb dX12_change_79 (by decide) ?_
              refine lv_iload_n hx hb dX12_change_81 rfl (lv_at hl 1 rfl) ?_
              refine lv_imul hx hb dX12_change_82 ?_
              refine g_top (y := nI (8 * cl)) (pk_mul _ _) ?_
              refine lv_bipush (v := nI 8) hx hb dX12_change_83 (by decide) ?_
              refine lv_iadd hx hb dX12_change_85 ?_
              refine g_top (y := nI ((8 * cl) + 8)) (nI_add _ _) ?_
              refine lv_iconst (v := nI 1) hx hb dX12_change_86 (by decide) ?_
              refine lv_isub hx hb dX12_change_87 ?_
              refine g_top (y := nI (8 * cl + 7)) ((pk_sub (by omega)).trans (by congr 1)) ?_
              refine lv_icmp_ge (tgt := 107) hx hb dX12_change_88 (by decide) (fun c_8 => ?_) (fun c_8 => ?_)
              · have c_8 : (8 * cl + 7) ≤ (8 * cl + k) := (nI_leI (a := (8 * cl + 7)) (b := (8 * cl + k)) (by omega) (by omega)).mp c_8
                have hk9 : k = 7 := by omega
                have hk7 : (a.2.2.1 cl).length - 1 = 7 := by omega
                rw [hk9] at g0 g1 g2 g3
                refine lv_aload_n hx hb dX12_change_107 rfl (lv_at hl 2 rfl) ?_
                refine r_get (u := (sc, va_up (va_up (va_up (va_up (va_up (va_up ar 2 (upd (ar 2) j v0)) 3 (upd (ar 3) j (nI (a.1 0)))) 5 po2) 6 va2) 7 ti2) 8 wa2)) (v := .ref (G.2.2.1 4)) hx hb hts hin hown hB 4 (by decide) (hts (.fieldLink RX12 19 "PointReportsModel" "kept" "[I") (by decide +kernel)) rfl rfl dX12_change_108 ?_
                refine lv_iload_n hx hb dX12_change_111 rfl (lv_at hl 1 rfl) ?_
                refine lv_dup2_11 hx hb dX12_change_112 rfl rfl ?_
                refine r_ald (u := (sc, va_up (va_up (va_up (va_up (va_up (va_up ar 2 (upd (ar 2) j v0)) 3 (upd (ar 3) j (nI (a.1 0)))) 5 po2) 6 va2) 7 ti2) 8 wa2)) (f := ar 4) hx hb hB 4 rfl cl rfl (by omega) (by decide) dX12_change_113 ?_
                refine g_top (y := nI 8) (by show ar 4 cl = nI 8; rw [k1, c_6]) ?_
                refine lv_iconst (v := nI 1) hx hb dX12_change_114 (by decide) ?_
                refine lv_isub hx hb dX12_change_115 ?_
                refine g_top (y := nI 7) rfl ?_
                refine r_ast (u := (sc, va_up (va_up (va_up (va_up (va_up (va_up ar 2 (upd (ar 2) j v0)) 3 (upd (ar 3) j (nI (a.1 0)))) 5 po2) 6 va2) 7 ti2) 8 wa2)) (f := ar 4) (x := nI 7) (va_up (va_up (va_up (va_up (va_up (va_up (va_up ar 2 (upd (ar 2) j v0)) 3 (upd (ar 3) j (nI (a.1 0)))) 4 (upd (ar 4) cl (nI 7))) 5 po2) 6 va2) 7 ti2) 8 wa2) hx hb hB 4 rfl cl rfl (by omega) (by decide) rfl dX12_change_116 (fun H locs hB => ?_)
                refine lv_aload_n hx hb dX12_change_117 rfl (lv_at hl 2 rfl) ?_
                refine lv_iconst (v := nI 1) hx hb dX12_change_118 (by decide) ?_
                refine r_put (u := (sc, va_up (va_up (va_up (va_up (va_up (va_up (va_up ar 2 (upd (ar 2) j v0)) 3 (upd (ar 3) j (nI (a.1 0)))) 4 (upd (ar 4) cl (nI 7))) 5 po2) 6 va2) 7 ti2) 8 wa2)) (v := nI 1) (upd sc 9 (nI 1)) hx hb hts hin hown hB 9 (by decide) (hts (.fieldLink RX12 154 "PointReportsModel" "lost" "Z") (by decide +kernel)) rfl (ty := .boolean) rfl rfl (narrow_z (Or.inr rfl)) (fits_z (Or.inr rfl)) rfl dX12_change_119 (fun H locs hB => ?_)
                refine lv_aload_n hx hb dX12_change_122 rfl (lv_at hl 2 rfl) ?_
                refine lv_dup hx hb dX12_change_123 rfl ?_
                refine r_get (u := (upd sc 9 (nI 1), va_up (va_up (va_up (va_up (va_up (va_up (va_up ar 2 (upd (ar 2) j v0)) 3 (upd (ar 3) j (nI (a.1 0)))) 4 (upd (ar 4) cl (nI 7))) 5 po2) 6 va2) 7 ti2) 8 wa2)) (v := .int (sc 10)) hx hb hts hin hown hB 10 (by decide) (hts (.fieldLink RX12 223 "PointReportsModel" "lostInAll" "I") (by decide +kernel)) rfl rfl dX12_change_124 ?_
                refine g_top (y := nI (a.1 10)) n10 ?_
                refine lv_iconst (v := nI 1) hx hb dX12_change_127 (by decide) ?_
                refine lv_iadd hx hb dX12_change_128 ?_
                refine g_top (y := nI ((a.1 10) + 1)) (nI_add _ _) ?_
                refine r_put (u := (upd sc 9 (nI 1), va_up (va_up (va_up (va_up (va_up (va_up (va_up ar 2 (upd (ar 2) j v0)) 3 (upd (ar 3) j (nI (a.1 0)))) 4 (upd (ar 4) cl (nI 7))) 5 po2) 6 va2) 7 ti2) 8 wa2)) (v := nI ((a.1 10) + 1)) (upd (upd sc 9 (nI 1)) 10 (nI ((a.1 10) + 1))) hx hb hts hin hown hB 10 (by decide) (hts (.fieldLink RX12 223 "PointReportsModel" "lostInAll" "I") (by decide +kernel)) rfl (ty := .int) rfl rfl rfl rfl rfl dX12_change_129 (fun H locs hB => ?_)
                have hsr : spRoom (spVal a j v0) cl = (va_up (va_up a.1 9 1) 10 (a.1 10 + 1), (spVal a j v0).2.1, (va_up a.2.2.1 cl ((a.2.2.1 cl).drop 1)), va_up a.2.2.2.1 cl (a.2.2.2.1 cl - 1), a.2.2.2.2) := by rw [spRoom, if_pos (show ((spVal a j v0).2.2.1 cl).length = 8 from c_6)]; rfl
                rw [hsr] at hs0
                have hE2 : evR (upd (ar 4) cl (nI 7)) po2 va2 ti2 (va_up a.2.2.1 cl ((a.2.2.1 cl).drop 1)) := evR_ext (evR_drop (ke2 := upd (ar 4) cl (nI 7)) (po2 := po2) (va2 := va2) (ti2 := ti2) (c := cl) (w := 1) rE (by omega) hcl (fun x => by
                    by_cases h9 : x = cl
                    · subst h9; rw [upd_self, if_pos rfl, hk7]
                    · rw [upd_ne h9, if_neg h9]) (fun z => by rw [hk7]; exact g0 z) (fun z => by rw [hk7]; exact g1 z) (fun z => by rw [hk7]; exact g2 z)) (fun x h1 h3 => by
                    by_cases h9 : x = cl
                    · subst h9; rw [if_pos rfl, va_self]
                    · rw [if_neg h9, va_ne h9])
                have hW2 := wtR_shift (wb := wa2) rW (fun z => by rw [hk7]; exact g3 z) k8 k2
                have l7 : ((va_up a.2.2.1 cl ((a.2.2.1 cl).drop 1)) cl).length = 7 := by rw [va_self, List.length_drop]; omega
                refine lv_bipush (v := nI 8) hx hb dX12_change_132 (by decide) ?_
                refine lv_iload_n hx hb dX12_change_134 rfl (lv_at hl 1 rfl) ?_
                refine lv_imul hx hb dX12_change_135 ?_
                refine g_top (y := nI (8 * cl)) (pk_mul _ _) ?_
                refine lv_aload_n hx hb dX12_change_136 rfl (lv_at hl 2 rfl) ?_
                refine r_get (u := (upd (upd sc 9 (nI 1)) 10 (nI ((a.1 10) + 1)), va_up (va_up (va_up (va_up (va_up (va_up (va_up ar 2 (upd (ar 2) j v0)) 3 (upd (ar 3) j (nI (a.1 0)))) 4 (upd (ar 4) cl (nI 7))) 5 po2) 6 va2) 7 ti2) 8 wa2)) (v := .ref (G.2.2.1 4)) hx hb hts hin hown hB 4 (by decide) (hts (.fieldLink RX12 19 "PointReportsModel" "kept" "[I") (by decide +kernel)) rfl rfl dX12_change_137 ?_
                refine lv_iload_n hx hb dX12_change_140 rfl (lv_at hl 1 rfl) ?_
                refine r_ald (u := (upd (upd sc 9 (nI 1)) 10 (nI ((a.1 10) + 1)), va_up (va_up (va_up (va_up (va_up (va_up (va_up ar 2 (upd (ar 2) j v0)) 3 (upd (ar 3) j (nI (a.1 0)))) 4 (upd (ar 4) cl (nI 7))) 5 po2) 6 va2) 7 ti2) 8 wa2)) (f := upd (ar 4) cl (nI 7)) hx hb hB 4 rfl cl rfl (by omega) (by decide) dX12_change_141 ?_
                refine g_top (y := nI 7) (by show upd (ar 4) cl (nI 7) cl = nI 7; exact upd_self) ?_
                refine lv_iadd hx hb dX12_change_142 ?_
                refine g_top (y := nI ((8 * cl) + 7)) (nI_add _ _) ?_
                refine lv_istore (lv' := [(4, .int (nI ((8 * cl) + 7))), (3, .int (nI cl)), (0, .ref G.2.1), (1, .int (nI j)), (2, .int v0)]) hx hb dX12_change_143 hl (by decide) rfl (fun ls hl => ?_)
                refine lv_aload_n hx hb dX12_change_145 rfl (lv_at hl 2 rfl) ?_
                refine r_get (u := (upd (upd sc 9 (nI 1)) 10 (nI ((a.1 10) + 1)), va_up (va_up (va_up (va_up (va_up (va_up (va_up ar 2 (upd (ar 2) j v0)) 3 (upd (ar 3) j (nI (a.1 0)))) 4 (upd (ar 4) cl (nI 7))) 5 po2) 6 va2) 7 ti2) 8 wa2)) (v := .ref (G.2.2.1 5)) hx hb hts hin hown hB 5 (by decide) (hts (.fieldLink RX12 22 "PointReportsModel" "points" "[I") (by decide +kernel)) rfl rfl dX12_change_146 ?_
                refine lv_iload hx hb dX12_change_149 (lv_at hl 0 rfl) ?_
                refine lv_iload_n hx hb dX12_change_151 rfl (lv_at hl 3 rfl) ?_
                refine r_ast (u := (upd (upd sc 9 (nI 1)) 10 (nI ((a.1 10) + 1)), va_up (va_up (va_up (va_up (va_up (va_up (va_up ar 2 (upd (ar 2) j v0)) 3 (upd (ar 3) j (nI (a.1 0)))) 4 (upd (ar 4) cl (nI 7))) 5 po2) 6 va2) 7 ti2) 8 wa2)) (f := po2) (x := nI j) (va_up (va_up (va_up (va_up (va_up (va_up (va_up ar 2 (upd (ar 2) j v0)) 3 (upd (ar 3) j (nI (a.1 0)))) 4 (upd (ar 4) cl (nI 7))) 5 (upd po2 ((8 * cl) + 7) (nI j))) 6 va2) 7 ti2) 8 wa2) hx hb hB 5 rfl ((8 * cl) + 7) rfl (by omega) (by decide) rfl dX12_change_152 (fun H locs hB => ?_)
                refine lv_aload_n hx hb dX12_change_153 rfl (lv_at hl 2 rfl) ?_
                refine r_get (u := (upd (upd sc 9 (nI 1)) 10 (nI ((a.1 10) + 1)), va_up (va_up (va_up (va_up (va_up (va_up (va_up ar 2 (upd (ar 2) j v0)) 3 (upd (ar 3) j (nI (a.1 0)))) 4 (upd (ar 4) cl (nI 7))) 5 (upd po2 ((8 * cl) + 7) (nI j))) 6 va2) 7 ti2) 8 wa2)) (v := .ref (G.2.2.1 6)) hx hb hts hin hown hB 6 (by decide) (hts (.fieldLink RX12 25 "PointReportsModel" "eventValues" "[I") (by decide +kernel)) rfl rfl dX12_change_154 ?_
                refine lv_iload hx hb dX12_change_157 (lv_at hl 0 rfl) ?_
                refine lv_iload_n hx hb dX12_change_159 rfl (lv_at hl 4 rfl) ?_
                refine r_ast (u := (upd (upd sc 9 (nI 1)) 10 (nI ((a.1 10) + 1)), va_up (va_up (va_up (va_up (va_up (va_up (va_up ar 2 (upd (ar 2) j v0)) 3 (upd (ar 3) j (nI (a.1 0)))) 4 (upd (ar 4) cl (nI 7))) 5 (upd po2 ((8 * cl) + 7) (nI j))) 6 va2) 7 ti2) 8 wa2)) (f := va2) (x := v0) (va_up (va_up (va_up (va_up (va_up (va_up (va_up ar 2 (upd (ar 2) j v0)) 3 (upd (ar 3) j (nI (a.1 0)))) 4 (upd (ar 4) cl (nI 7))) 5 (upd po2 ((8 * cl) + 7) (nI j))) 6 (upd va2 ((8 * cl) + 7) v0)) 7 ti2) 8 wa2) hx hb hB 6 rfl ((8 * cl) + 7) rfl (by omega) (by decide) rfl dX12_change_160 (fun H locs hB => ?_)
                refine lv_aload_n hx hb dX12_change_161 rfl (lv_at hl 2 rfl) ?_
                refine r_get (u := (upd (upd sc 9 (nI 1)) 10 (nI ((a.1 10) + 1)), va_up (va_up (va_up (va_up (va_up (va_up (va_up ar 2 (upd (ar 2) j v0)) 3 (upd (ar 3) j (nI (a.1 0)))) 4 (upd (ar 4) cl (nI 7))) 5 (upd po2 ((8 * cl) + 7) (nI j))) 6 (upd va2 ((8 * cl) + 7) v0)) 7 ti2) 8 wa2)) (v := .ref (G.2.2.1 7)) hx hb hts hin hown hB 7 (by decide) (hts (.fieldLink RX12 28 "PointReportsModel" "times" "[I") (by decide +kernel)) rfl rfl dX12_change_162 ?_
                refine lv_iload hx hb dX12_change_165 (lv_at hl 0 rfl) ?_
                refine lv_aload_n hx hb dX12_change_167 rfl (lv_at hl 2 rfl) ?_
                refine r_get (u := (upd (upd sc 9 (nI 1)) 10 (nI ((a.1 10) + 1)), va_up (va_up (va_up (va_up (va_up (va_up (va_up ar 2 (upd (ar 2) j v0)) 3 (upd (ar 3) j (nI (a.1 0)))) 4 (upd (ar 4) cl (nI 7))) 5 (upd po2 ((8 * cl) + 7) (nI j))) 6 (upd va2 ((8 * cl) + 7) v0)) 7 ti2) 8 wa2)) (v := .int (sc 0)) hx hb hts hin hown hB 0 (by decide) (hts (.fieldLink RX12 196 "PointReportsModel" "time" "I") (by decide +kernel)) rfl rfl dX12_change_168 ?_
                refine g_top (y := nI (a.1 0)) n0 ?_
                refine r_ast (u := (upd (upd sc 9 (nI 1)) 10 (nI ((a.1 10) + 1)), va_up (va_up (va_up (va_up (va_up (va_up (va_up ar 2 (upd (ar 2) j v0)) 3 (upd (ar 3) j (nI (a.1 0)))) 4 (upd (ar 4) cl (nI 7))) 5 (upd po2 ((8 * cl) + 7) (nI j))) 6 (upd va2 ((8 * cl) + 7) v0)) 7 ti2) 8 wa2)) (f := ti2) (x := nI (a.1 0)) (va_up (va_up (va_up (va_up (va_up (va_up (va_up ar 2 (upd (ar 2) j v0)) 3 (upd (ar 3) j (nI (a.1 0)))) 4 (upd (ar 4) cl (nI 7))) 5 (upd po2 ((8 * cl) + 7) (nI j))) 6 (upd va2 ((8 * cl) + 7) v0)) 7 (upd ti2 ((8 * cl) + 7) (nI (a.1 0)))) 8 wa2) hx hb hB 7 rfl ((8 * cl) + 7) rfl (by omega) (by decide) rfl dX12_change_171 (fun H locs hB => ?_)
                refine lv_aload_n hx hb dX12_change_172 rfl (lv_at hl 2 rfl) ?_
                refine r_get (u := (upd (upd sc 9 (nI 1)) 10 (nI ((a.1 10) + 1)), va_up (va_up (va_up (va_up (va_up (va_up (va_up ar 2 (upd (ar 2) j v0)) 3 (upd (ar 3) j (nI (a.1 0)))) 4 (upd (ar 4) cl (nI 7))) 5 (upd po2 ((8 * cl) + 7) (nI j))) 6 (upd va2 ((8 * cl) + 7) v0)) 7 (upd ti2 ((8 * cl) + 7) (nI (a.1 0)))) 8 wa2)) (v := .ref (G.2.2.1 8)) hx hb hts hin hown hB 8 (by decide) (hts (.fieldLink RX12 31 "PointReportsModel" "waits" "[Z") (by decide +kernel)) rfl rfl dX12_change_173 ?_
                refine lv_iload hx hb dX12_change_176 (lv_at hl 0 rfl) ?_
                refine lv_iconst (v := nI 0) hx hb dX12_change_178 (by decide) ?_
                refine r_zast (u := (upd (upd sc 9 (nI 1)) 10 (nI ((a.1 10) + 1)), va_up (va_up (va_up (va_up (va_up (va_up (va_up ar 2 (upd (ar 2) j v0)) 3 (upd (ar 3) j (nI (a.1 0)))) 4 (upd (ar 4) cl (nI 7))) 5 (upd po2 ((8 * cl) + 7) (nI j))) 6 (upd va2 ((8 * cl) + 7) v0)) 7 (upd ti2 ((8 * cl) + 7) (nI (a.1 0)))) 8 wa2)) (f := wa2) (x := nI 0) (va_up (va_up (va_up (va_up (va_up (va_up (va_up ar 2 (upd (ar 2) j v0)) 3 (upd (ar 3) j (nI (a.1 0)))) 4 (upd (ar 4) cl (nI 7))) 5 (upd po2 ((8 * cl) + 7) (nI j))) 6 (upd va2 ((8 * cl) + 7) v0)) 7 (upd ti2 ((8 * cl) + 7) (nI (a.1 0)))) 8 (upd wa2 ((8 * cl) + 7) (nI 0))) hx hb hB 8 rfl ((8 * cl) + 7) rfl (by omega) (by decide) (Or.inl rfl) rfl dX12_change_179 (fun H locs hB => ?_)
                refine lv_aload_n hx hb dX12_change_180 rfl (lv_at hl 2 rfl) ?_
                refine r_get (u := (upd (upd sc 9 (nI 1)) 10 (nI ((a.1 10) + 1)), va_up (va_up (va_up (va_up (va_up (va_up (va_up ar 2 (upd (ar 2) j v0)) 3 (upd (ar 3) j (nI (a.1 0)))) 4 (upd (ar 4) cl (nI 7))) 5 (upd po2 ((8 * cl) + 7) (nI j))) 6 (upd va2 ((8 * cl) + 7) v0)) 7 (upd ti2 ((8 * cl) + 7) (nI (a.1 0)))) 8 (upd wa2 ((8 * cl) + 7) (nI 0)))) (v := .ref (G.2.2.1 4)) hx hb hts hin hown hB 4 (by decide) (hts (.fieldLink RX12 19 "PointReportsModel" "kept" "[I") (by decide +kernel)) rfl rfl dX12_change_181 ?_
                refine lv_iload_n hx hb dX12_change_184 rfl (lv_at hl 1 rfl) ?_
                refine lv_dup2_11 hx hb dX12_change_185 rfl rfl ?_
                refine r_ald (u := (upd (upd sc 9 (nI 1)) 10 (nI ((a.1 10) + 1)), va_up (va_up (va_up (va_up (va_up (va_up (va_up ar 2 (upd (ar 2) j v0)) 3 (upd (ar 3) j (nI (a.1 0)))) 4 (upd (ar 4) cl (nI 7))) 5 (upd po2 ((8 * cl) + 7) (nI j))) 6 (upd va2 ((8 * cl) + 7) v0)) 7 (upd ti2 ((8 * cl) + 7) (nI (a.1 0)))) 8 (upd wa2 ((8 * cl) + 7) (nI 0)))) (f := upd (ar 4) cl (nI 7)) hx hb hB 4 rfl cl rfl (by omega) (by decide) dX12_change_186 ?_
                refine g_top (y := nI 7) (by show upd (ar 4) cl (nI 7) cl = nI 7; exact upd_self) ?_
                refine lv_iconst (v := nI 1) hx hb dX12_change_187 (by decide) ?_
                refine lv_iadd hx hb dX12_change_188 ?_
                refine g_top (y := nI (7 + 1)) (nI_add _ _) ?_
                refine r_ast (u := (upd (upd sc 9 (nI 1)) 10 (nI ((a.1 10) + 1)), va_up (va_up (va_up (va_up (va_up (va_up (va_up ar 2 (upd (ar 2) j v0)) 3 (upd (ar 3) j (nI (a.1 0)))) 4 (upd (ar 4) cl (nI 7))) 5 (upd po2 ((8 * cl) + 7) (nI j))) 6 (upd va2 ((8 * cl) + 7) v0)) 7 (upd ti2 ((8 * cl) + 7) (nI (a.1 0)))) 8 (upd wa2 ((8 * cl) + 7) (nI 0)))) (f := upd (ar 4) cl (nI 7)) (x := nI (7 + 1)) (va_up (va_up (va_up (va_up (va_up (va_up (va_up ar 2 (upd (ar 2) j v0)) 3 (upd (ar 3) j (nI (a.1 0)))) 4 (upd (upd (ar 4) cl (nI 7)) cl (nI (7 + 1)))) 5 (upd po2 ((8 * cl) + 7) (nI j))) 6 (upd va2 ((8 * cl) + 7) v0)) 7 (upd ti2 ((8 * cl) + 7) (nI (a.1 0)))) 8 (upd wa2 ((8 * cl) + 7) (nI 0))) hx hb hB 4 rfl cl rfl (by omega) (by decide) rfl dX12_change_189 (fun H locs hB => ?_)
                refine lv_iconst (v := nI 1) hx hb dX12_change_190 (by decide) ?_
                have hEp := evR_push (q := (nI j, v0, nI (a.1 0))) hE2 (by omega) hcl (by rw [l7]; decide)
                have hV2 : ∀ c, va_up a.2.2.2.1 cl (a.2.2.2.1 cl - 1) c ≤ ((va_up a.2.2.1 cl ((a.2.2.1 cl).drop 1)) c).length := fun c => by
                  have h1 := rV c
                  by_cases hc : c = cl
                  · subst hc; rw [va_self, va_self, List.length_drop]; omega
                  · rw [va_ne hc, va_ne hc]; exact h1
                have hWp := wtR_push (q := (nI j, v0, nI (a.1 0))) hW2 (hV2 cl) (by rw [l7]; decide) (fun x h1 h3 => (hE2 x h1 h3).2.1)
                rw [l7] at hEp hWp
                have hEp : evR (upd (upd (ar 4) cl (nI 7)) cl (nI (7 + 1))) (upd po2 (8 * cl + 7) (nI j)) (upd va2 (8 * cl + 7) v0) (upd ti2 (8 * cl + 7) (nI (a.1 0))) (va_up (va_up a.2.2.1 cl ((a.2.2.1 cl).drop 1)) cl ((va_up a.2.2.1 cl ((a.2.2.1 cl).drop 1)) cl ++ [(nI j, v0, nI (a.1 0))])) := hEp
                have hV3 : ∀ c, va_up a.2.2.2.1 cl (a.2.2.2.1 cl - 1) c ≤ (va_up (va_up a.2.2.1 cl ((a.2.2.1 cl).drop 1)) cl ((va_up a.2.2.1 cl ((a.2.2.1 cl).drop 1)) cl ++ [(nI j, v0, nI (a.1 0))]) c).length := fun c => by
                  have h2 := hV2 c
                  by_cases hc : c = cl
                  · subst hc; rw [va_self (f := (va_up a.2.2.1 c ((a.2.2.1 c).drop 1))), List.length_append]; exact Nat.le_trans h2 (Nat.le_add_right _ _)
                  · rw [va_ne (f := (va_up a.2.2.1 cl ((a.2.2.1 cl).drop 1))) hc]; exact h2
                exact g_zret (Wd := rWs G) (v := nI 1) (upd (upd sc 9 (nI 1)) 10 (nI ((a.1 10) + 1)), va_up (va_up (va_up (va_up (va_up (va_up (va_up ar 2 (upd (ar 2) j v0)) 3 (upd (ar 3) j (nI (a.1 0)))) 4 (upd (upd (ar 4) cl (nI 7)) cl (nI (7 + 1)))) 5 (upd po2 ((8 * cl) + 7) (nI j))) 6 (upd va2 ((8 * cl) + 7) v0)) 7 (upd ti2 ((8 * cl) + 7) (nI (a.1 0)))) 8 (upd wa2 ((8 * cl) + 7) (nI 0))) hB hx hb hr hlocks rfl (narrow_z (Or.inr rfl)) ⟨by rw [hs0], by rw [hs0]; exact ⟨n0, rfl, rfl, n11, n12, n13, n14, n15, n16, n19, n20, n23, n25, n26, n27, n28, n29, f1, (by show upd (ar 2) j v0 = upd (a.2.1 2) j v0; rw [f2]), (by show upd (ar 3) j (nI (a.1 0)) = upd (a.2.1 3) j (nI (a.1 0)); rw [f3]), f21, f22, f24, hEp, hWp, rl1, rl2, rl3, rq0, rq1, rq2, rq3, ro1, ro2, ro3, rg1, rg2, rg3, rg4, rh4, rg5, rh5, rg6, rh6, rg7, rh7, rc1, rc2, rc3, (Nat.le_refl 1), rz2, rz3, rz4, rk, hV3, rY, rA, (va_up_le (va_up_le rb2 (Nat.le_refl _) (by omega)) (Nat.le_refl _) (show a.1 10 + 1 ≤ b + 400 by omega))⟩⟩ dX12_change_191
              · have c_8 : ¬ (8 * cl + 7) ≤ (8 * cl + k) := fun h9 => c_8 ((nI_leI (a := (8 * cl + 7)) (b := (8 * cl + k)) (by omega) (by omega)).mpr h9)
                refine lv_aload_n hx hb dX12_change_91 rfl (lv_at hl 2 rfl) ?_
                refine lv_iload hx hb dX12_change_92 (lv_at hl 0 rfl) ?_
                refine lv_iload hx hb dX12_change_94 (lv_at hl 0 rfl) ?_
                refine lv_iconst (v := nI 1) hx hb dX12_change_96 (by decide) ?_
                refine lv_iadd hx hb dX12_change_97 ?_
                refine g_top (y := nI ((8 * cl + k) + 1)) (nI_add _ _) ?_
                have ew : wa2 (8 * cl + k + 1) = if k + 1 < a.2.2.2.1 cl then 1 else 0 := by rw [g3, if_neg (by omega), Nat.add_assoc, rW cl (by omega) hcl (k + 1) (by omega)]
                refine g_callv (av := [.int (nI (8 * cl + k)), .int (nI ((8 * cl + k) + 1))]) (rest := []) ⟨hx, hb, hml, hown, hts⟩ (c_moveEvent l G sc (va_up (va_up (va_up (va_up (va_up (va_up ar 2 (upd (ar 2) j v0)) 3 (upd (ar 3) j (nI (a.1 0)))) 5 po2) 6 va2) 7 ti2) 8 wa2) (8 * cl + k) (8 * cl + k + 1) (by omega) (by omega) (by show wa2 _ = 0 ∨ wa2 _ = 1; rw [ew]; split; exact Or.inr rfl; exact Or.inl rfl)) (cwV 2 hts gX12_change_X12_moveEvent rfl rfl rfl (by decide +kernel) ⟨Nat.le_of_ble_eq_true rfl, Nat.le_of_ble_eq_true rfl⟩) hB (q0 := 0) (ci := 9) rfl rfl rfl rfl hl.1 rfl (Nat.le_of_ble_eq_true rfl) dX12_change_98 ⟨Nat.le_of_ble_eq_true rfl, Nat.le_of_ble_eq_true rfl⟩ (fun u H locs hw hB => ?_)
                obtain rfl := hw
                have hB : gB G.1 (rT G) A s H locs (rWs G (sc, va_up (va_up (va_up (va_up (va_up (va_up ar 2 (upd (ar 2) j v0)) 3 (upd (ar 3) j (nI (a.1 0)))) 5 (upd po2 (8 * cl + k) (po2 (8 * cl + k + 1)))) 6 (upd va2 (8 * cl + k) (va2 (8 * cl + k + 1)))) 7 (upd ti2 (8 * cl + k) (ti2 (8 * cl + k + 1)))) 8 (upd wa2 (8 * cl + k) (wa2 (8 * cl + k + 1))))) := hB
                refine lv_iinc (v := nI (8 * cl + k + 1)) (lv' := [(4, .int (nI (8 * cl + k + 1))), (3, .int (nI cl)), (0, .ref G.2.1), (1, .int (nI j)), (2, .int v0)]) hx hb dX12_change_101 hl (k := 0) rfl (nI_add _ _) (by decide) rfl (fun ls hl => ?_)
                refine lv_goto (tgt := 77) hx hb dX12_change_104 (by decide) ?_
                have hl : lv_has ls 5 [(4, .int (nI (8 * cl + (k + 1)))), (3, .int (nI cl)), (0, .ref G.2.1), (1, .int (nI j)), (2, .int v0)] := lv_sub hl [0, 1, 2, 3, 4] rfl
                have hB : gB G.1 (rT G) A s H locs (rWs G (sc, va_up (va_up (va_up (va_up (va_up (va_up ar 2 (upd (ar 2) j v0)) 3 (upd (ar 3) j (nI (a.1 0)))) 5 (upd po2 (8 * cl + k) (po2 (8 * cl + k + 1)))) 6 (upd va2 (8 * cl + k) (va2 (8 * cl + k + 1)))) 7 (upd ti2 (8 * cl + k) (ti2 (8 * cl + k + 1)))) 8 (upd wa2 (8 * cl + k) (wa2 (8 * cl + k + 1))))) := hB
                have b_9 : (k + 1) + (7 - (k + 1)) = 7 := by omega
                have b_10 : ∀ z, (upd po2 (8 * cl + k) (po2 (8 * cl + k + 1))) z = if 8 * cl ≤ z ∧ z < 8 * cl + (k + 1) then ar 5 (z + 1) else ar 5 z := fun z => by
                    by_cases hz : z = 8 * cl + k
                    · subst hz; rw [upd_self, if_pos (by omega), g0, if_neg (by omega)]
                    · rw [upd_ne hz, g0]
                      by_cases hz2 : 8 * cl ≤ z ∧ z < 8 * cl + k
                      · rw [if_pos hz2, if_pos (by omega)]
                      · rw [if_neg hz2, if_neg (by omega)]
                have b_11 : ∀ z, (upd va2 (8 * cl + k) (va2 (8 * cl + k + 1))) z = if 8 * cl ≤ z ∧ z < 8 * cl + (k + 1) then ar 6 (z + 1) else ar 6 z := fun z => by
                    by_cases hz : z = 8 * cl + k
                    · subst hz; rw [upd_self, if_pos (by omega), g1, if_neg (by omega)]
                    · rw [upd_ne hz, g1]
                      by_cases hz2 : 8 * cl ≤ z ∧ z < 8 * cl + k
                      · rw [if_pos hz2, if_pos (by omega)]
                      · rw [if_neg hz2, if_neg (by omega)]
                have b_12 : ∀ z, (upd ti2 (8 * cl + k) (ti2 (8 * cl + k + 1))) z = if 8 * cl ≤ z ∧ z < 8 * cl + (k + 1) then ar 7 (z + 1) else ar 7 z := fun z => by
                    by_cases hz : z = 8 * cl + k
                    · subst hz; rw [upd_self, if_pos (by omega), g2, if_neg (by omega)]
                    · rw [upd_ne hz, g2]
                      by_cases hz2 : 8 * cl ≤ z ∧ z < 8 * cl + k
                      · rw [if_pos hz2, if_pos (by omega)]
                      · rw [if_neg hz2, if_neg (by omega)]
                have b_13 : ∀ z, (upd wa2 (8 * cl + k) (wa2 (8 * cl + k + 1))) z = if 8 * cl ≤ z ∧ z < 8 * cl + (k + 1) then ar 8 (z + 1) else ar 8 z := fun z => by
                    by_cases hz : z = 8 * cl + k
                    · subst hz; rw [upd_self, if_pos (by omega), g3, if_neg (by omega)]
                    · rw [upd_ne hz, g3]
                      by_cases hz2 : 8 * cl ≤ z ∧ z < 8 * cl + k
                      · rw [if_pos hz2, if_pos (by omega)]
                      · rw [if_neg hz2, if_neg (by omega)]
                exact ih_7 (7 - (k + 1)) (k + 1, upd po2 (8 * cl + k) (po2 (8 * cl + k + 1)), upd va2 (8 * cl + k) (va2 (8 * cl + k + 1)), upd ti2 (8 * cl + k) (ti2 (8 * cl + k + 1)), upd wa2 (8 * cl + k) (wa2 (8 * cl + k + 1))) H locs ls (by omega) ⟨b_9, b_10, b_11, b_12, b_13, hB, hl⟩
        · have c_4 := c_4
          have hs0 : spChange a (nI j) v0 = (a, 0) := by rw [spChange, if_pos (Or.inr (Or.inr (Or.inr (Or.inr (by rw [ej, ← f3]; exact c_4)))))]
          refine lv_iconst (v := nI 0) hx hb dX12_change_30 (by decide) ?_
          exact g_zret (Wd := rWs G) (v := nI 0) (sc, ar) hB hx hb hr hlocks rfl (narrow_z (Or.inl rfl)) ⟨by rw [hs0], by rw [hs0]; exact hsame⟩ dX12_change_31
