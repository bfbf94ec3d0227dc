def spFeed (a : aS) (x : Int32) : aS × Nat := if x < 0 ∨ nI 255 < x ∨ (a.2.2.2.2.2.2 2).length = 60 then (a, 0) else ((a.1, a.2.1, a.2.2.1, a.2.2.2.1, a.2.2.2.2.1, a.2.2.2.2.2.1, va_up a.2.2.2.2.2.2 2 (a.2.2.2.2.2.2 2 ++ [x.toNatClampNeg])), 1)
def spEmpty (a : aS) : aS := (a.1, a.2.1, a.2.2.1, a.2.2.2.1, a.2.2.2.2.1, a.2.2.2.2.2.1, va_up a.2.2.2.2.2.2 2 [])
noncomputable def spInject (a : aS) (x : Int32) : aS × Nat := if x < 0 ∨ nI 1 < x then (a, 0) else spTake (spEmpty a) (a.2.2.2.2.2.2 2) x.toNatClampNeg
def spView (a : aS) (p w : Int32) : Int32 := if p < 0 ∨ nI 10 ≤ p ∨ w < 0 ∨ nI 1 < w then -1 else if w = 0 then a.2.1 21 p.toNatClampNeg else a.2.1 22 p.toNatClampNeg
def spTaken (a : aS) (k w : Int32) : Int32 := if k < 0 ∨ nI (a.1 23) ≤ k ∨ nI 200 ≤ k ∨ w < 0 ∨ nI 3 < w then -1 else a.2.1 24 (4 * k.toNatClampNeg + w.toNatClampNeg)
def spEvq (a : aS) (c k w : Int32) : Int32 := if c < nI 1 ∨ nI 3 < c ∨ k < 0 ∨ nI (a.2.2.1 c.toNatClampNeg).length ≤ k then -1 else if w = 0 then ((a.2.2.1 c.toNatClampNeg).getD k.toNatClampNeg (0, 0, 0)).1 else if w = 1 then ((a.2.2.1 c.toNatClampNeg).getD k.toNatClampNeg (0, 0, 0)).2.1 else if w = 2 then ((a.2.2.1 c.toNatClampNeg).getD k.toNatClampNeg (0, 0, 0)).2.2 else if w = 3 then (if k.toNatClampNeg < a.2.2.2.1 c.toNatClampNeg then nI 1 else nI 0) else -1
def spCount (a : aS) (w : Int32) : Int32 := if w = 0 then nI (a.1 0) else if w = 1 then nI (a.1 23) else if w = 2 then nI (a.1 25) else if w = 3 then nI (a.1 28) else if w = 4 then nI (a.1 29) else if w = 5 then nI (a.1 19) else if w = 6 then nI (a.1 14) else if w = 7 then nI (a.1 10) else if w = 8 then nI (a.1 26) else if w = 9 then nI (a.1 27) else if w = 10 then (if a.1 11 = 0 then nI 0 else nI 1) else if w = 11 then nI (a.2.2.2.2.2.2 2).length else -1
theorem sw_out {x : Int32} {n : Nat} (h : x < 0 ∨ nI (n + 1) ≤ x) (hn : n < 1000) : x.toInt < 0 ∨ (n : Int) < x.toInt := by
  rcases h with h | h
  · exact Or.inl (Int32.lt_iff_toInt_lt.mp h)
  · have h1 := Int32.le_iff_toInt_le.mp h
    rw [nI_toInt (by omega)] at h1
    exact Or.inr (by omega)
theorem ne_out {x : Int32} {n k : Nat} (h : x < 0 ∨ nI (n + 1) ≤ x) (hk : k ≤ n) (hn : n < 1000) : ¬ x = nI k := fun e => by
  subst e
  rcases h with h | h
  · exact nI_pos (by omega) h
  · have := (nI_leI (by omega) (by omega)).mp h
    omega
set_option maxRecDepth 100000 in
set_option maxHeartbeats 4000000 in
/-- feed(b) -/
theorem c_feed (l : Launch) (G : rG) (sc : Nat → Int32) (ar : Nat → Nat → Int32) (b : Nat) (hb9 : b ≤ 900000) (a : aS) (hr0 : rRep b (sc, ar) a) (x0 : Int32) : gM l G.1 (rT G) yX12_feed wsX12_feed ({ frames := 0, cells := 0, slots := 0, locals := 0 }) [.ref G.2.1, .int x0] (rWs G (sc, ar)) (gQi G.1 (rT G) (fun (r : Int32) (u : rSt) => r = nI (spFeed a x0).2 ∧ rRep (b + 500) u (spFeed a x0).1) (rWs G)) 0 0 := by
  refine gM.of (cc := cX12_feed) (maxL := 2) (ret := (some .boolean)) (by decide) rfl (Nat.le_of_ble_eq_true rfl) ?_
  intro p e s m below meth c A ls hx hb hr hml hown hts hlocks hnm hB hl
  have hin : ∀ w ∈ wsX120, w ∈ wsX12_feed := fun w h => List.mem_cons_of_mem _ (List.mem_append_right _ h)
  have hl : lv_has ls 2 [(0, .ref G.2.1), (1, .int x0)] := hl
  obtain ⟨n0, n9, n10, n11, n12, n13, n14, n15, n16, n19, n20, n23, n25, n26, n27, n28, n29, f1, f2, f3, f21, f22, f24, rE, rW, rl1, rl2, rl3, rq0, rq1, rq2, rq3, ro1, ro2, ro3, rg1, rg2, rg3, rg4, rh4, rg5, rh5, rg6, rh6, rg7, rh7, rc1, rc2, rc3, rz1, rz2, rz3, rz4, rk, rV, rY, rA, rb⟩ := id hr0
  have n0 : sc 0 = nI (a.1 0) := n0
  have n9 : sc 9 = nI (a.1 9) := n9
  have n10 : sc 10 = nI (a.1 10) := n10
  have n11 : sc 11 = nI (a.1 11) := n11
  have n12 : sc 12 = nI (a.1 12) := n12
  have n13 : sc 13 = nI (a.1 13) := n13
  have n14 : sc 14 = nI (a.1 14) := n14
  have n15 : sc 15 = nI (a.1 15) := n15
  have n16 : sc 16 = nI (a.1 16) := n16
  have n19 : sc 19 = nI (a.1 19) := n19
  have n20 : sc 20 = nI (a.1 20) := n20
  have n23 : sc 23 = nI (a.1 23) := n23
  have n25 : sc 25 = nI (a.1 25) := n25
  have n26 : sc 26 = nI (a.1 26) := n26
  have n27 : sc 27 = nI (a.1 27) := n27
  have n28 : sc 28 = nI (a.1 28) := n28
  have n29 : sc 29 = nI (a.1 29) := n29
  have f1 : ar 1 = a.2.1 1 := f1
  have f2 : ar 2 = a.2.1 2 := f2
  have f3 : ar 3 = a.2.1 3 := f3
  have f21 : ar 21 = a.2.1 21 := f21
  have f22 : ar 22 = a.2.1 22 := f22
  have f24 : ar 24 = a.2.1 24 := f24
  have rE : evR (ar 4) (ar 5) (ar 6) (ar 7) a.2.2.1 := rE
  have rW : wtR (ar 8) a.2.2.1 a.2.2.2.1 := rW
  have rl1 : sc 30 = nI a.2.2.2.2.1.length := rl1
  have rl3 : lnR (ar 31) (ar 32) (ar 33) a.2.2.2.2.1 := rl3
  have rq0 : ar 34 0 = nI (a.1 100) := rq0
  have rq1 : ar 34 1 = nI (a.1 101) := rq1
  have ro1 : pfx (ar 17) a.2.2.2.2.2.1 := ro1
  have ro2 : sc 18 = nI a.2.2.2.2.2.1.length := ro2
  have rg1 : ∀ x, x < 2 → ar 36 x = nI (a.2.2.2.2.2.2 x).length := rg1
  have rg3 : ∀ x, x < 2 → ∀ j, j < (a.2.2.2.2.2.2 x).length → ar 35 (400 * x + j) = nI ((a.2.2.2.2.2.2 x).getD j 0) ∧ (a.2.2.2.2.2.2 x).getD j 0 < 256 := rg3
  have rg4 : ar 37 0 = nI (a.1 102) := rg4
  have rh4 : ar 37 1 = nI (a.1 103) := rh4
  have rg5 : ar 38 0 = nI (a.1 104) := rg5
  have rh5 : ar 38 1 = nI (a.1 105) := rh5
  have rc1 : pfxN (ar 43) (a.2.2.2.2.2.2 2) := rc1
  have rc2 : sc 44 = nI (a.2.2.2.2.2.2 2).length := rc2
  have rb2 : ∀ k, a.1 k ≤ b + 500 := fun k => Nat.le_trans (rb k) (by omega)
  refine lv_iload_n hx hb dX12_feed_0 rfl (lv_at hl 1 rfl) ?_
  refine lv_if_lt (tgt := 20) hx hb dX12_feed_1 (by decide) (fun c_1 => ?_) (fun c_1 => ?_)
  · have c_1 := c_1
    have hs0 : spFeed a x0 = (a, 0) := by rw [spFeed, if_pos (Or.inl c_1)]
    refine lv_iconst (v := nI 0) hx hb dX12_feed_20 (by decide) ?_
    exact g_zret (Wd := rWs G) (v := nI 0) (sc, ar) hB hx hb hr hlocks rfl (narrow_z (Or.inl rfl)) ⟨by rw [hs0], by rw [hs0]; exact rRep_mono hr0 (by omega)⟩ dX12_feed_21
  · have c_1 := c_1
    refine lv_iload_n hx hb dX12_feed_4 rfl (lv_at hl 1 rfl) ?_
    refine lv_sipush (v := nI 255) hx hb dX12_feed_5 (by decide) ?_
    refine lv_icmp_gt (tgt := 20) hx hb dX12_feed_8 (by decide) (fun c_2 => ?_) (fun c_2 => ?_)
    · have c_2 := c_2
      have hs0 : spFeed a x0 = (a, 0) := by rw [spFeed, if_pos (Or.inr (Or.inl c_2))]
      refine lv_iconst (v := nI 0) hx hb dX12_feed_20 (by decide) ?_
      exact g_zret (Wd := rWs G) (v := nI 0) (sc, ar) hB hx hb hr hlocks rfl (narrow_z (Or.inl rfl)) ⟨by rw [hs0], by rw [hs0]; exact rRep_mono hr0 (by omega)⟩ dX12_feed_21
    · have c_2 := c_2
      refine lv_aload_n hx hb dX12_feed_11 rfl (lv_at hl 0 rfl) ?_
      refine r_get (u := (sc, ar)) (v := .int (sc 44)) hx hb hts hin hown hB 44 (by decide) (hts (.fieldLink RX12 267 "PointReportsModel" "collectedLength" "I") (by decide +kernel)) rfl rfl dX12_feed_12 ?_
      refine g_top (y := nI ((a.2.2.2.2.2.2 2).length)) rc2 ?_
      refine lv_bipush (v := nI 60) hx hb dX12_feed_15 (by decide) ?_
      refine lv_icmp_ne (tgt := 22) hx hb dX12_feed_17 (by decide) (fun c_3 => ?_) (fun c_3 => ?_)
      · have c_3 : ¬ ((a.2.2.2.2.2.2 2).length) = 60 := fun h9 => c_3 ((nI_eq (a := ((a.2.2.2.2.2.2 2).length)) (b := 60) (by omega) (by omega)).mpr h9)
        obtain ⟨n, hn, en⟩ := nI_of2 (n := 255) rfl c_1 (Int32.not_lt.mp c_2)
        have hs0 : spFeed a x0 = ((a.1, a.2.1, a.2.2.1, a.2.2.2.1, a.2.2.2.2.1, a.2.2.2.2.2.1, va_up a.2.2.2.2.2.2 2 ((a.2.2.2.2.2.2 2) ++ [n])), 1) := by rw [spFeed, if_neg (by rintro (z | z | z); exact c_1 z; exact c_2 z; exact c_3 z), en, nI_clamp (by omega)]
        subst en
        refine lv_aload_n hx hb dX12_feed_22 rfl (lv_at hl 0 rfl) ?_
        refine r_get (u := (sc, ar)) (v := .ref (G.2.2.1 43)) hx hb hts hin hown hB 43 (by decide) (hts (.fieldLink RX12 81 "PointReportsModel" "collected" "[I") (by decide +kernel)) rfl rfl dX12_feed_23 ?_
        refine lv_aload_n hx hb dX12_feed_26 rfl (lv_at hl 0 rfl) ?_
        refine r_get (u := (sc, ar)) (v := .int (sc 44)) hx hb hts hin hown hB 44 (by decide) (hts (.fieldLink RX12 267 "PointReportsModel" "collectedLength" "I") (by decide +kernel)) rfl rfl dX12_feed_27 ?_
        refine g_top (y := nI ((a.2.2.2.2.2.2 2).length)) rc2 ?_
        refine lv_iload_n hx hb dX12_feed_30 rfl (lv_at hl 1 rfl) ?_
        refine r_ast (u := (sc, ar)) (f := ar 43) (x := nI n) (va_up ar 43 (upd (ar 43) ((a.2.2.2.2.2.2 2).length) (nI n))) hx hb hB 23 rfl ((a.2.2.2.2.2.2 2).length) rfl (by omega) (by decide) rfl dX12_feed_31 (fun H locs hB => ?_)
        refine lv_aload_n hx hb dX12_feed_32 rfl (lv_at hl 0 rfl) ?_
        refine lv_dup hx hb dX12_feed_33 rfl ?_
        refine r_get (u := (sc, va_up ar 43 (upd (ar 43) ((a.2.2.2.2.2.2 2).length) (nI n)))) (v := .int (sc 44)) hx hb hts hin hown hB 44 (by decide) (hts (.fieldLink RX12 267 "PointReportsModel" "collectedLength" "I") (by decide +kernel)) rfl rfl dX12_feed_34 ?_
        refine g_top (y := nI ((a.2.2.2.2.2.2 2).length)) rc2 ?_
        refine lv_iconst (v := nI 1) hx hb dX12_feed_37 (by decide) ?_
        refine lv_iadd hx hb dX12_feed_38 ?_
        refine g_top (y := nI (((a.2.2.2.2.2.2 2).length) + 1)) (nI_add _ _) ?_
        refine r_put (u := (sc, va_up ar 43 (upd (ar 43) ((a.2.2.2.2.2.2 2).length) (nI n)))) (v := nI (((a.2.2.2.2.2.2 2).length) + 1)) (upd sc 44 (nI (((a.2.2.2.2.2.2 2).length) + 1))) hx hb hts hin hown hB 44 (by decide) (hts (.fieldLink RX12 267 "PointReportsModel" "collectedLength" "I") (by decide +kernel)) rfl (ty := .int) rfl rfl rfl rfl rfl dX12_feed_39 (fun H locs hB => ?_)
        refine lv_iconst (v := nI 1) hx hb dX12_feed_42 (by decide) ?_
        have hc1 : pfxN (upd (ar 43) (a.2.2.2.2.2.2 2).length (nI n)) ((a.2.2.2.2.2.2 2) ++ [n]) := fun j hj => by
          rw [List.length_append, List.length_singleton] at hj
          rw [getD_app]
          by_cases hq : j = (a.2.2.2.2.2.2 2).length
          · subst hq; rw [upd_self, if_neg (Nat.lt_irrefl _), Nat.sub_self]; exact ⟨rfl, by show n < 256; omega⟩
          · rw [upd_ne hq, if_pos (by omega)]; exact rc1 j (by omega)
        have hz1 : ∀ x, x < 2 → ar 36 x = nI (va_up a.2.2.2.2.2.2 2 ((a.2.2.2.2.2.2 2) ++ [n]) x).length := fun x hx => by rw [va_ne (by omega)]; exact rg1 x hx
        have hz2 : ∀ x, x < 2 → (va_up a.2.2.2.2.2.2 2 ((a.2.2.2.2.2.2 2) ++ [n]) x).length ≤ 400 := fun x hx => by rw [va_ne (by omega)]; exact rg2 x hx
        have hz3 : ∀ x, x < 2 → ∀ j, j < (va_up a.2.2.2.2.2.2 2 ((a.2.2.2.2.2.2 2) ++ [n]) x).length → ar 35 (400 * x + j) = nI ((va_up a.2.2.2.2.2.2 2 ((a.2.2.2.2.2.2 2) ++ [n]) x).getD j 0) ∧ (va_up a.2.2.2.2.2.2 2 ((a.2.2.2.2.2.2 2) ++ [n]) x).getD j 0 < 256 := fun x hx j hj => by rw [va_ne (by omega)] at hj ⊢; exact rg3 x hx j hj
        have hc2 : nI ((a.2.2.2.2.2.2 2).length + 1) = nI ((a.2.2.2.2.2.2 2) ++ [n]).length := by rw [List.length_append]; rfl
        have hc3 : ((a.2.2.2.2.2.2 2) ++ [n]).length ≤ 60 := by rw [List.length_append, List.length_singleton]; omega
        exact g_zret (Wd := rWs G) (v := nI 1) (upd sc 44 (nI (((a.2.2.2.2.2.2 2).length) + 1)), va_up ar 43 (upd (ar 43) ((a.2.2.2.2.2.2 2).length) (nI n))) hB hx hb hr hlocks rfl (narrow_z (Or.inr rfl)) ⟨by rw [hs0], by rw [hs0]; exact ⟨n0, n9, n10, n11, n12, n13, n14, n15, n16, n19, n20, n23, n25, n26, n27, n28, n29, f1, f2, f3, f21, f22, f24, rE, rW, rl1, rl2, rl3, rq0, rq1, rq2, rq3, ro1, ro2, ro3, hz1, hz2, hz3, rg4, rh4, rg5, rh5, rg6, rh6, rg7, rh7, hc1, hc2, hc3, rz1, rz2, rz3, rz4, rk, rV, rY, rA, rb2⟩⟩ dX12_feed_43
      · have c_3 : ((a.2.2.2.2.2.2 2).length) = 60 := (nI_eq (a := ((a.2.2.2.2.2.2 2).length)) (b := 60) (by omega) (by omega)).mp c_3
        have hs0 : spFeed a x0 = (a, 0) := by rw [spFeed, if_pos (Or.inr (Or.inr c_3))]
        refine lv_iconst (v := nI 0) hx hb dX12_feed_20 (by decide) ?_
        exact g_zret (Wd := rWs G) (v := nI 0) (sc, ar) hB hx hb hr hlocks rfl (narrow_z (Or.inl rfl)) ⟨by rw [hs0], by rw [hs0]; exact rRep_mono hr0 (by omega)⟩ dX12_feed_21
set_option maxRecDepth 100000 in
set_option maxHeartbeats 4000000 in
/-- inject(side) -/
theorem c_inject (l : Launch) (G : rG) (sc : Nat → Int32) (ar : Nat → Nat → Int32) (b : Nat) (hb9 : b ≤ 900000) (a : aS) (hr0 : rRep b (sc, ar) a) (x0 : Int32) : gM l G.1 (rT G) yX12_inject wsX12_inject ({ frames := 7, cells := 0, slots := 0, locals := 164 }) [.ref G.2.1, .int x0] (rWs G (sc, ar)) (gQi G.1 (rT G) (fun (r : Int32) (u : rSt) => r = nI (spInject a x0).2 ∧ rRep (b + 500) u (spInject a x0).1) (rWs G)) 0 0 := by
  refine gM.of (cc := cX12_inject) (maxL := 3) (ret := (some .boolean)) (by decide) rfl (Nat.le_of_ble_eq_true rfl) ?_
  intro p e s m below meth c A ls hx hb hr hml hown hts hlocks hnm hB hl
  have hin : ∀ w ∈ wsX120, w ∈ wsX12_inject := fun w h => List.mem_cons_of_mem _ (List.mem_append_right _ h)
  have hl : lv_has ls 3 [(0, .ref G.2.1), (1, .int x0)] := hl
  obtain ⟨n0, n9, n10, n11, n12, n13, n14, n15, n16, n19, n20, n23, n25, n26, n27, n28, n29, f1, f2, f3, f21, f22, f24, rE, rW, rl1, rl2, rl3, rq0, rq1, rq2, rq3, ro1, ro2, ro3, rg1, rg2, rg3, rg4, rh4, rg5, rh5, rg6, rh6, rg7, rh7, rc1, rc2, rc3, rz1, rz2, rz3, rz4, rk, rV, rY, rA, rb⟩ := id hr0
  have n0 : sc 0 = nI (a.1 0) := n0
  have n9 : sc 9 = nI (a.1 9) := n9
  have n10 : sc 10 = nI (a.1 10) := n10
  have n11 : sc 11 = nI (a.1 11) := n11
  have n12 : sc 12 = nI (a.1 12) := n12
  have n13 : sc 13 = nI (a.1 13) := n13
  have n14 : sc 14 = nI (a.1 14) := n14
  have n15 : sc 15 = nI (a.1 15) := n15
  have n16 : sc 16 = nI (a.1 16) := n16
  have n19 : sc 19 = nI (a.1 19) := n19
  have n20 : sc 20 = nI (a.1 20) := n20
  have n23 : sc 23 = nI (a.1 23) := n23
  have n25 : sc 25 = nI (a.1 25) := n25
  have n26 : sc 26 = nI (a.1 26) := n26
  have n27 : sc 27 = nI (a.1 27) := n27
  have n28 : sc 28 = nI (a.1 28) := n28
  have n29 : sc 29 = nI (a.1 29) := n29
  have f1 : ar 1 = a.2.1 1 := f1
  have f2 : ar 2 = a.2.1 2 := f2
  have f3 : ar 3 = a.2.1 3 := f3
  have f21 : ar 21 = a.2.1 21 := f21
  have f22 : ar 22 = a.2.1 22 := f22
  have f24 : ar 24 = a.2.1 24 := f24
  have rE : evR (ar 4) (ar 5) (ar 6) (ar 7) a.2.2.1 := rE
  have rW : wtR (ar 8) a.2.2.1 a.2.2.2.1 := rW
  have rl1 : sc 30 = nI a.2.2.2.2.1.length := rl1
  have rl3 : lnR (ar 31) (ar 32) (ar 33) a.2.2.2.2.1 := rl3
  have rq0 : ar 34 0 = nI (a.1 100) := rq0
  have rq1 : ar 34 1 = nI (a.1 101) := rq1
  have ro1 : pfx (ar 17) a.2.2.2.2.2.1 := ro1
  have ro2 : sc 18 = nI a.2.2.2.2.2.1.length := ro2
  have rg1 : ∀ x, x < 2 → ar 36 x = nI (a.2.2.2.2.2.2 x).length := rg1
  have rg3 : ∀ x, x < 2 → ∀ j, j < (a.2.2.2.2.2.2 x).length → ar 35 (400 * x + j) = nI ((a.2.2.2.2.2.2 x).getD j 0) ∧ (a.2.2.2.2.2.2 x).getD j 0 < 256 := rg3
  have rg4 : ar 37 0 = nI (a.1 102) := rg4
  have rh4 : ar 37 1 = nI (a.1 103) := rh4
  have rg5 : ar 38 0 = nI (a.1 104) := rg5
  have rh5 : ar 38 1 = nI (a.1 105) := rh5
  have rc1 : pfxN (ar 43) (a.2.2.2.2.2.2 2) := rc1
  have rc2 : sc 44 = nI (a.2.2.2.2.2.2 2).length := rc2
  refine lv_iload_n hx hb dX12_inject_0 rfl (lv_at hl 1 rfl) ?_
  refine lv_if_lt (tgt := 9) hx hb dX12_inject_1 (by decide) (fun c_1 => ?_) (fun c_1 => ?_)
  · have c_1 := c_1
    have hs0 : spInject a x0 = (a, 0) := by rw [spInject, if_pos (Or.inl c_1)]
    refine lv_iconst (v := nI 0) hx hb dX12_inject_9 (by decide) ?_
    exact g_zret (Wd := rWs G) (v := nI 0) (sc, ar) hB hx hb hr hlocks rfl (narrow_z (Or.inl rfl)) ⟨by rw [hs0], by rw [hs0]; exact rRep_mono hr0 (by omega)⟩ dX12_inject_10
  · have c_1 := c_1
    refine lv_iload_n hx hb dX12_inject_4 rfl (lv_at hl 1 rfl) ?_
    refine lv_iconst (v := nI 1) hx hb dX12_inject_5 (by decide) ?_
    refine lv_icmp_le (tgt := 11) hx hb dX12_inject_6 (by decide) (fun c_2 => ?_) (fun c_2 => ?_)
    · have c_2 := c_2
      obtain ⟨sd, hsd, en⟩ := nI_of2 (n := 1) rfl c_1 c_2
      have hs0 : spInject a x0 = spTake (spEmpty a) (a.2.2.2.2.2.2 2) sd := by rw [spInject, if_neg (by rintro (z | z); exact c_1 z; exact absurd c_2 (Int32.not_le.mpr z)), en, nI_clamp (by omega)]
      subst en
      refine lv_aload_n hx hb dX12_inject_11 rfl (lv_at hl 0 rfl) ?_
      refine lv_aload_n hx hb dX12_inject_12 rfl (lv_at hl 0 rfl) ?_
      refine r_get (u := (sc, ar)) (v := .int (sc 44)) hx hb hts hin hown hB 44 (by decide) (hts (.fieldLink RX12 267 "PointReportsModel" "collectedLength" "I") (by decide +kernel)) rfl rfl dX12_inject_13 ?_
      refine g_top (y := nI ((a.2.2.2.2.2.2 2).length)) rc2 ?_
      refine r_put (u := (sc, ar)) (v := nI ((a.2.2.2.2.2.2 2).length)) (upd sc 42 (nI ((a.2.2.2.2.2.2 2).length))) hx hb hts hin hown hB 42 (by decide) (hts (.fieldLink RX12 127 "PointReportsModel" "readLength" "I") (by decide +kernel)) rfl (ty := .int) rfl rfl rfl rfl rfl dX12_inject_16 (fun H locs hB => ?_)
      refine lv_iconst (v := nI 0) hx hb dX12_inject_19 (by decide) ?_
      refine lv_istore_n (lv' := [(2, .int (nI 0)), (0, .ref G.2.1), (1, .int (nI sd))]) hx hb dX12_inject_20 rfl hl (by decide) rfl (fun ls hl => ?_)
      have hl : lv_has ls 3 [(2, .int (nI 0)), (0, .ref G.2.1), (1, .int (nI sd))] := lv_sub hl [0, 1, 2] rfl
      have hB : gB G.1 (rT G) A s H locs (rWs G (upd sc 42 (nI ((a.2.2.2.2.2.2 2).length)), va_up ar 41 (ar 41))) := hB
      refine g_loop (σ := Nat × (Nat → Int32)) (fun d xv H locs ls => (xv.1 + d = (a.2.2.2.2.2.2 2).length) ∧ (∀ z, z < xv.1 → xv.2 z = ar 43 z) ∧ gB G.1 (rT G) A s H locs (rWs G (upd sc 42 (nI ((a.2.2.2.2.2.2 2).length)), va_up ar 41 xv.2)) ∧ lv_has ls 3 [(2, .int (nI xv.1)), (0, .ref G.2.1), (1, .int (nI sd))]) ((a.2.2.2.2.2.2 2).length) (0, ar 41) ⟨by omega, fun z hz => absurd hz (Nat.not_lt_zero z), hB, hl⟩ ?_
      rintro d ⟨j, rdf⟩ H locs ls ⟨hj, hrf, hB, hl⟩ ih_3
      have hj : j + d = (a.2.2.2.2.2.2 2).length := hj
      have hrf : ∀ z, z < j → rdf z = ar 43 z := hrf
      have hB : gB G.1 (rT G) A s H locs (rWs G (upd sc 42 (nI ((a.2.2.2.2.2.2 2).length)), va_up ar 41 rdf)) := hB
      have hl : lv_has ls 3 [(2, .int (nI j)), (0, .ref G.2.1), (1, .int (nI sd))] := hl
      refine lv_iload_n hx hb dX12_inject_21 rfl (lv_at hl 0 rfl) ?_
      refine lv_aload_n hx hb dX12_inject_22 rfl (lv_at hl 1 rfl) ?_
      refine r_get (u := (upd sc 42 (nI ((a.2.2.2.2.2.2 2).length)), va_up ar 41 rdf)) (v := .int (nI ((a.2.2.2.2.2.2 2).length))) hx hb hts hin hown hB 42 (by decide) (hts (.fieldLink RX12 127 "PointReportsModel" "readLength" "I") (by decide +kernel)) rfl rfl dX12_inject_23 ?_
      refine lv_icmp_ge (tgt := 47) hx hb dX12_inject_26 (by decide) (fun c_4 => ?_) (fun c_4 => ?_)
      · have c_4 : ((a.2.2.2.2.2.2 2).length) ≤ j := (nI_leI (a := ((a.2.2.2.2.2.2 2).length)) (b := j) (by omega) (by omega)).mp c_4
        refine lv_aload_n hx hb dX12_inject_47 rfl (lv_at hl 1 rfl) ?_
        refine lv_iconst (v := nI 0) hx hb dX12_inject_48 (by decide) ?_
        refine r_put (u := (upd sc 42 (nI ((a.2.2.2.2.2.2 2).length)), va_up ar 41 rdf)) (v := nI 0) (upd (upd sc 42 (nI ((a.2.2.2.2.2.2 2).length))) 44 (nI 0)) hx hb hts hin hown hB 44 (by decide) (hts (.fieldLink RX12 267 "PointReportsModel" "collectedLength" "I") (by decide +kernel)) rfl (ty := .int) rfl rfl rfl rfl rfl dX12_inject_49 (fun H locs hB => ?_)
        have hz1 : ∀ x, x < 2 → ar 36 x = nI (va_up a.2.2.2.2.2.2 2 [] x).length := fun x hx => by rw [va_ne (by omega)]; exact rg1 x hx
        have hz2 : ∀ x, x < 2 → (va_up a.2.2.2.2.2.2 2 [] x).length ≤ 400 := fun x hx => by rw [va_ne (by omega)]; exact rg2 x hx
        have hz3 : ∀ x, x < 2 → ∀ j, j < (va_up a.2.2.2.2.2.2 2 [] x).length → ar 35 (400 * x + j) = nI ((va_up a.2.2.2.2.2.2 2 [] x).getD j 0) ∧ (va_up a.2.2.2.2.2.2 2 [] x).getD j 0 < 256 := fun x hx j hj => by rw [va_ne (by omega)] at hj ⊢; exact rg3 x hx j hj
        have hr2 : rRep b (upd (upd sc 42 (nI ((a.2.2.2.2.2.2 2).length))) 44 (nI 0), va_up ar 41 rdf) (spEmpty a) := ⟨n0, n9, n10, n11, n12, n13, n14, n15, n16, n19, n20, n23, n25, n26, n27, n28, n29, f1, f2, f3, f21, f22, f24, rE, rW, rl1, rl2, rl3, rq0, rq1, rq2, rq3, ro1, ro2, ro3, hz1, hz2, hz3, rg4, rh4, rg5, rh5, rg6, rh6, rg7, rh7, (fun j hj => absurd hj (Nat.not_lt_zero j)), rfl, (Nat.zero_le 60), rz1, rz2, rz3, rz4, rk, rV, rY, rA, rb⟩
        refine lv_aload_n hx hb dX12_inject_52 rfl (lv_at hl 1 rfl) ?_
        refine lv_iload_n hx hb dX12_inject_53 rfl (lv_at hl 2 rfl) ?_
        refine g_calli (av := [.int (nI sd)]) (rest := []) ⟨hx, hb, hml, hown, hts⟩ (c_take l G (upd (upd sc 42 (nI ((a.2.2.2.2.2.2 2).length))) 44 (nI 0)) (va_up ar 41 rdf) b (by omega) (spEmpty a) hr2 (a.2.2.2.2.2.2 2) (fun z hz => ⟨(hrf z (by omega)).trans (rc1 z hz).1, (rc1 z hz).2⟩) rfl (by omega) sd hsd) (cwV 1 hts gX12_inject_X12_take rfl rfl rfl (by decide +kernel) ⟨Nat.le_of_ble_eq_true rfl, Nat.le_of_ble_eq_true rfl⟩) hB (q0 := 0) (ci := 9) rfl rfl rfl rfl hl.1 rfl (Nat.le_of_ble_eq_true rfl) dX12_inject_54 ⟨Nat.le_of_ble_eq_true rfl, Nat.le_of_ble_eq_true rfl⟩ (fun r9 u H locs hw hB => ?_)
        obtain ⟨sc2, ar2⟩ := u
        obtain ⟨er, hr3⟩ := hw
        have hB : gB G.1 (rT G) A s H locs (rWs G (sc2, ar2)) := hB
        have ht1 : (spTake (spEmpty a) (a.2.2.2.2.2.2 2) sd).2 ≤ 1 := by unfold spTake spDrop; dsimp only; split; split; exact spStation_le _ _; exact spMaster_le _ _; exact Nat.zero_le _
        refine g_top (y := nI (spTake (spEmpty a) (a.2.2.2.2.2.2 2) sd).2) er ?_
        exact g_zret (Wd := rWs G) (v := nI ((spTake (spEmpty a) (a.2.2.2.2.2.2 2) sd).2)) (sc2, ar2) hB hx hb hr hlocks rfl (narrow_z (by rcases (show (spTake (spEmpty a) (a.2.2.2.2.2.2 2) sd).2 = 0 ∨ (spTake (spEmpty a) (a.2.2.2.2.2.2 2) sd).2 = 1 by omega) with h | h <;> rw [h]; exact Or.inl rfl; exact Or.inr rfl)) ⟨by rw [hs0], by rw [hs0]; exact rRep_mono hr3 (by omega)⟩ dX12_inject_57
      · have c_4 : ¬ ((a.2.2.2.2.2.2 2).length) ≤ j := fun h9 => c_4 ((nI_leI (a := ((a.2.2.2.2.2.2 2).length)) (b := j) (by omega) (by omega)).mpr h9)
        refine lv_aload_n hx hb dX12_inject_29 rfl (lv_at hl 1 rfl) ?_
        refine r_get (u := (upd sc 42 (nI ((a.2.2.2.2.2.2 2).length)), va_up ar 41 rdf)) (v := .ref (G.2.2.1 41)) hx hb hts hin hown hB 41 (by decide) (hts (.fieldLink RX12 78 "PointReportsModel" "read" "[I") (by decide +kernel)) rfl rfl dX12_inject_30 ?_
        refine lv_iload_n hx hb dX12_inject_33 rfl (lv_at hl 0 rfl) ?_
        refine lv_aload_n hx hb dX12_inject_34 rfl (lv_at hl 1 rfl) ?_
        refine r_get (u := (upd sc 42 (nI ((a.2.2.2.2.2.2 2).length)), va_up ar 41 rdf)) (v := .ref (G.2.2.1 43)) hx hb hts hin hown hB 43 (by decide) (hts (.fieldLink RX12 81 "PointReportsModel" "collected" "[I") (by decide +kernel)) rfl rfl dX12_inject_35 ?_
        refine lv_iload_n hx hb dX12_inject_38 rfl (lv_at hl 0 rfl) ?_
        refine r_ald (u := (upd sc 42 (nI ((a.2.2.2.2.2.2 2).length)), va_up ar 41 rdf)) (f := ar 43) hx hb hB 23 rfl j rfl (by omega) (by decide) dX12_inject_39 ?_
        refine r_ast (u := (upd sc 42 (nI ((a.2.2.2.2.2.2 2).length)), va_up ar 41 rdf)) (f := rdf) (x := (ar 43) j) (va_up ar 41 (upd rdf j ((ar 43) j))) hx hb hB 22 rfl j rfl (by omega) (by decide) rfl dX12_inject_40 (fun H locs hB => ?_)
        refine lv_iinc (v := nI (j + 1)) (lv' := [(2, .int (nI (j + 1))), (0, .ref G.2.1), (1, .int (nI sd))]) hx hb dX12_inject_41 hl (k := 0) rfl (nI_add _ _) (by decide) rfl (fun ls hl => ?_)
        refine lv_goto (tgt := 21) hx hb dX12_inject_44 (by decide) ?_
        have hl : lv_has ls 3 [(2, .int (nI (j + 1))), (0, .ref G.2.1), (1, .int (nI sd))] := lv_sub hl [0, 1, 2] rfl
        have hB : gB G.1 (rT G) A s H locs (rWs G (upd sc 42 (nI ((a.2.2.2.2.2.2 2).length)), va_up ar 41 (upd rdf j ((ar 43) j)))) := hB
        have b_5 : (j + 1) + ((a.2.2.2.2.2.2 2).length - (j + 1)) = (a.2.2.2.2.2.2 2).length := by omega
        have b_6 : ∀ z, z < (j + 1) → (upd rdf j ((ar 43) j)) z = ar 43 z := fun z hz => by
            by_cases hq : z = j
            · subst hq; exact upd_self
            · rw [upd_ne hq]; exact hrf z (by omega)
        exact ih_3 ((a.2.2.2.2.2.2 2).length - (j + 1)) (j + 1, upd rdf j ((ar 43) j)) H locs ls (by omega) ⟨b_5, b_6, hB, hl⟩
    · have c_2 := c_2
      have hs0 : spInject a x0 = (a, 0) := by rw [spInject, if_pos (Or.inr (Int32.not_le.mp c_2))]
      refine lv_iconst (v := nI 0) hx hb dX12_inject_9 (by decide) ?_
      exact g_zret (Wd := rWs G) (v := nI 0) (sc, ar) hB hx hb hr hlocks rfl (narrow_z (Or.inl rfl)) ⟨by rw [hs0], by rw [hs0]; exact rRep_mono hr0 (by omega)⟩ dX12_inject_10
set_option maxRecDepth 100000 in
set_option maxHeartbeats 4000000 in
/-- view(p, w) -/
theorem c_view (l : Launch) (G : rG) (sc : Nat → Int32) (ar : Nat → Nat → Int32) (b : Nat) (hb9 : b ≤ 900000) (a : aS) (hr0 : rRep b (sc, ar) a) (p0 w0 : Int32) : gM l G.1 (rT G) yX12_view wsX12_view ({ frames := 1, cells := 0, slots := 0, locals := 20 }) [.ref G.2.1, .int p0, .int w0] (rWs G (sc, ar)) (gQi G.1 (rT G) (fun (r : Int32) (u : rSt) => r = spView a p0 w0 ∧ rRep (b + 500) u a) (rWs G)) 0 0 := by
  refine gM.of (cc := cX12_view) (maxL := 3) (ret := (some .int)) (by decide) rfl (Nat.le_of_ble_eq_true rfl) ?_
  intro p e s m below meth c A ls hx hb hr hml hown hts hlocks hnm hB hl
  have hin : ∀ w ∈ wsX120, w ∈ wsX12_view := fun w h => List.mem_cons_of_mem _ (List.mem_append_right _ h)
  have hl : lv_has ls 3 [(0, .ref G.2.1), (1, .int p0), (2, .int w0)] := hl
  obtain ⟨n0, n9, n10, n11, n12, n13, n14, n15, n16, n19, n20, n23, n25, n26, n27, n28, n29, f1, f2, f3, f21, f22, f24, rE, rW, rl1, rl2, rl3, rq0, rq1, rq2, rq3, ro1, ro2, ro3, rg1, rg2, rg3, rg4, rh4, rg5, rh5, rg6, rh6, rg7, rh7, rc1, rc2, rc3, rz1, rz2, rz3, rz4, rk, rV, rY, rA, rb⟩ := id hr0
  have n0 : sc 0 = nI (a.1 0) := n0
  have n9 : sc 9 = nI (a.1 9) := n9
  have n10 : sc 10 = nI (a.1 10) := n10
  have n11 : sc 11 = nI (a.1 11) := n11
  have n12 : sc 12 = nI (a.1 12) := n12
  have n13 : sc 13 = nI (a.1 13) := n13
  have n14 : sc 14 = nI (a.1 14) := n14
  have n15 : sc 15 = nI (a.1 15) := n15
  have n16 : sc 16 = nI (a.1 16) := n16
  have n19 : sc 19 = nI (a.1 19) := n19
  have n20 : sc 20 = nI (a.1 20) := n20
  have n23 : sc 23 = nI (a.1 23) := n23
  have n25 : sc 25 = nI (a.1 25) := n25
  have n26 : sc 26 = nI (a.1 26) := n26
  have n27 : sc 27 = nI (a.1 27) := n27
  have n28 : sc 28 = nI (a.1 28) := n28
  have n29 : sc 29 = nI (a.1 29) := n29
  have f1 : ar 1 = a.2.1 1 := f1
  have f2 : ar 2 = a.2.1 2 := f2
  have f3 : ar 3 = a.2.1 3 := f3
  have f21 : ar 21 = a.2.1 21 := f21
  have f22 : ar 22 = a.2.1 22 := f22
  have f24 : ar 24 = a.2.1 24 := f24
  have rE : evR (ar 4) (ar 5) (ar 6) (ar 7) a.2.2.1 := rE
  have rW : wtR (ar 8) a.2.2.1 a.2.2.2.1 := rW
  have rl1 : sc 30 = nI a.2.2.2.2.1.length := rl1
  have rl3 : lnR (ar 31) (ar 32) (ar 33) a.2.2.2.2.1 := rl3
  have rq0 : ar 34 0 = nI (a.1 100) := rq0
  have rq1 : ar 34 1 = nI (a.1 101) := rq1
  have ro1 : pfx (ar 17) a.2.2.2.2.2.1 := ro1
  have ro2 : sc 18 = nI a.2.2.2.2.2.1.length := ro2
  have rg1 : ∀ x, x < 2 → ar 36 x = nI (a.2.2.2.2.2.2 x).length := rg1
  have rg3 : ∀ x, x < 2 → ∀ j, j < (a.2.2.2.2.2.2 x).length → ar 35 (400 * x + j) = nI ((a.2.2.2.2.2.2 x).getD j 0) ∧ (a.2.2.2.2.2.2 x).getD j 0 < 256 := rg3
  have rg4 : ar 37 0 = nI (a.1 102) := rg4
  have rh4 : ar 37 1 = nI (a.1 103) := rh4
  have rg5 : ar 38 0 = nI (a.1 104) := rg5
  have rh5 : ar 38 1 = nI (a.1 105) := rh5
  have rc1 : pfxN (ar 43) (a.2.2.2.2.2.2 2) := rc1
  have rc2 : sc 44 = nI (a.2.2.2.2.2.2 2).length := rc2
  refine lv_iload_n hx hb dX12_view_0 rfl (lv_at hl 1 rfl) ?_
  refine g_callS0 (av := [.int p0]) (rest := []) ⟨hx, hb, hml, hown, hts⟩ (c_isPoint l G p0) (va_cwS 1 hts gX12_view_X12_isPoint rfl rfl rfl (by decide +kernel) ⟨Nat.le_of_ble_eq_true rfl, Nat.le_of_ble_eq_true rfl⟩) hB rfl hl.1 rfl (Nat.le_of_ble_eq_true rfl) dX12_view_1 ⟨Nat.le_of_ble_eq_true rfl, Nat.le_of_ble_eq_true rfl⟩ (fun r9 H locs hw hB => ?_)
  have hpt := hw
  refine lv_if_eq (tgt := 16) hx hb dX12_view_4 (by decide) (fun c_1 => ?_) (fun c_1 => ?_)
  · have c_1 := c_1
    have hq : p0 < 0 ∨ nI 10 ≤ p0 := by rcases hpt with ⟨h1, h2⟩ | ⟨h1, h2⟩; exact absurd (h1.symm.trans c_1) (by decide); exact h2
    have hs0 : spView a p0 w0 = -1 := by rw [spView, if_pos (by rcases hq with h | h; exact Or.inl h; exact Or.inr (Or.inl h))]
    refine lv_iconst (v := (-1)) hx hb dX12_view_16 (by decide) ?_
    exact g_iret (Wd := rWs G) (v := (-1)) (sc, ar) hB hx hb hr hlocks rfl ⟨by rw [hs0], rRep_mono hr0 (by omega)⟩ dX12_view_17
  · have c_1 := c_1
    have hq : ¬ p0 < 0 ∧ ¬ nI 10 ≤ p0 := by rcases hpt with ⟨h1, h2⟩ | ⟨h1, h2⟩; exact h2; exact absurd h1 c_1
    refine lv_iload_n hx hb dX12_view_7 rfl (lv_at hl 2 rfl) ?_
    refine lv_if_lt (tgt := 16) hx hb dX12_view_8 (by decide) (fun c_2 => ?_) (fun c_2 => ?_)
    · have c_2 := c_2
      have hs0 : spView a p0 w0 = -1 := by rw [spView, if_pos (Or.inr (Or.inr (Or.inl c_2)))]
      refine lv_iconst (v := (-1)) hx hb dX12_view_16 (by decide) ?_
      exact g_iret (Wd := rWs G) (v := (-1)) (sc, ar) hB hx hb hr hlocks rfl ⟨by rw [hs0], rRep_mono hr0 (by omega)⟩ dX12_view_17
    · have c_2 := c_2
      refine lv_iload_n hx hb dX12_view_11 rfl (lv_at hl 2 rfl) ?_
      refine lv_iconst (v := nI 1) hx hb dX12_view_12 (by decide) ?_
      refine lv_icmp_le (tgt := 18) hx hb dX12_view_13 (by decide) (fun c_3 => ?_) (fun c_3 => ?_)
      · have c_3 := c_3
        have hs0 : spView a p0 w0 = if w0 = 0 then a.2.1 21 p0.toNatClampNeg else a.2.1 22 p0.toNatClampNeg := by rw [spView, if_neg (by rintro (z | z | z | z); exact hq.1 z; exact hq.2 z; exact c_2 z; exact absurd c_3 (Int32.not_le.mpr z))]
        obtain ⟨j, hj, ej⟩ : ∃ j : Nat, j < 10 ∧ p0 = nI j := by rcases pk_ix p0 (n := 10) (by decide) with h | h | h; exact absurd h hq.1; exact absurd h hq.2; exact h
        subst ej
        rw [nI_clamp (by omega)] at hs0
        refine lv_iload_n hx hb dX12_view_18 rfl (lv_at hl 2 rfl) ?_
        refine lv_if_ne (tgt := 31) hx hb dX12_view_19 (by decide) (fun c_4 => ?_) (fun c_4 => ?_)
        · have c_4 := c_4
          refine lv_aload_n hx hb dX12_view_31 rfl (lv_at hl 0 rfl) ?_
          refine r_get (u := (sc, ar)) (v := .ref (G.2.2.1 22)) hx hb hts hin hown hB 22 (by decide) (hts (.fieldLink RX12 45 "PointReportsModel" "viewTimes" "[I") (by decide +kernel)) rfl rfl dX12_view_32 ?_
          refine lv_iload_n hx hb dX12_view_35 rfl (lv_at hl 1 rfl) ?_
          refine r_ald (u := (sc, ar)) (f := ar 22) hx hb hB 11 rfl j rfl (by omega) (by decide) dX12_view_36 ?_
          exact g_iret (Wd := rWs G) (v := (ar 22) j) (sc, ar) hB hx hb hr hlocks rfl ⟨by rw [hs0, if_neg c_4, f22], rRep_mono hr0 (by omega)⟩ dX12_view_37
        · have c_4 := c_4
          refine lv_aload_n hx hb dX12_view_22 rfl (lv_at hl 0 rfl) ?_
          refine r_get (u := (sc, ar)) (v := .ref (G.2.2.1 21)) hx hb hts hin hown hB 21 (by decide) (hts (.fieldLink RX12 42 "PointReportsModel" "view" "[I") (by decide +kernel)) rfl rfl dX12_view_23 ?_
          refine lv_iload_n hx hb dX12_view_26 rfl (lv_at hl 1 rfl) ?_
          refine r_ald (u := (sc, ar)) (f := ar 21) hx hb hB 10 rfl j rfl (by omega) (by decide) dX12_view_27 ?_
          refine lv_goto (tgt := 37) hx hb dX12_view_28 (by decide) ?_
          exact g_iret (Wd := rWs G) (v := (ar 21) j) (sc, ar) hB hx hb hr hlocks rfl ⟨by rw [hs0, if_pos c_4, f21], rRep_mono hr0 (by omega)⟩ dX12_view_37
      · have c_3 := c_3
        have hs0 : spView a p0 w0 = -1 := by rw [spView, if_pos (Or.inr (Or.inr (Or.inr (Int32.not_le.mp c_3))))]
        refine lv_iconst (v := (-1)) hx hb dX12_view_16 (by decide) ?_
        exact g_iret (Wd := rWs G) (v := (-1)) (sc, ar) hB hx hb hr hlocks rfl ⟨by rw [hs0], rRep_mono hr0 (by omega)⟩ dX12_view_17
set_option maxRecDepth 100000 in
set_option maxHeartbeats 4000000 in
/-- taken(k, w) -/
theorem c_taken (l : Launch) (G : rG) (sc : Nat → Int32) (ar : Nat → Nat → Int32) (b : Nat) (hb9 : b ≤ 900000) (a : aS) (hr0 : rRep b (sc, ar) a) (k0 w0 : Int32) : gM l G.1 (rT G) yX12_taken wsX12_taken ({ frames := 0, cells := 0, slots := 0, locals := 0 }) [.ref G.2.1, .int k0, .int w0] (rWs G (sc, ar)) (gQi G.1 (rT G) (fun (r : Int32) (u : rSt) => r = spTaken a k0 w0 ∧ rRep (b + 500) u a) (rWs G)) 0 0 := by
  refine gM.of (cc := cX12_taken) (maxL := 4) (ret := (some .int)) (by decide) rfl (Nat.le_of_ble_eq_true rfl) ?_
  intro p e s m below meth c A ls hx hb hr hml hown hts hlocks hnm hB hl
  have hin : ∀ w ∈ wsX120, w ∈ wsX12_taken := fun w h => List.mem_cons_of_mem _ (List.mem_append_right _ h)
  have hl : lv_has ls 4 [(0, .ref G.2.1), (1, .int k0), (2, .int w0)] := hl
  obtain ⟨n0, n9, n10, n11, n12, n13, n14, n15, n16, n19, n20, n23, n25, n26, n27, n28, n29, f1, f2, f3, f21, f22, f24, rE, rW, rl1, rl2, rl3, rq0, rq1, rq2, rq3, ro1, ro2, ro3, rg1, rg2, rg3, rg4, rh4, rg5, rh5, rg6, rh6, rg7, rh7, rc1, rc2, rc3, rz1, rz2, rz3, rz4, rk, rV, rY, rA, rb⟩ := id hr0
  have n0 : sc 0 = nI (a.1 0) := n0
  have n9 : sc 9 = nI (a.1 9) := n9
  have n10 : sc 10 = nI (a.1 10) := n10
  have n11 : sc 11 = nI (a.1 11) := n11
  have n12 : sc 12 = nI (a.1 12) := n12
  have n13 : sc 13 = nI (a.1 13) := n13
  have n14 : sc 14 = nI (a.1 14) := n14
  have n15 : sc 15 = nI (a.1 15) := n15
  have n16 : sc 16 = nI (a.1 16) := n16
  have n19 : sc 19 = nI (a.1 19) := n19
  have n20 : sc 20 = nI (a.1 20) := n20
  have n23 : sc 23 = nI (a.1 23) := n23
  have n25 : sc 25 = nI (a.1 25) := n25
  have n26 : sc 26 = nI (a.1 26) := n26
  have n27 : sc 27 = nI (a.1 27) := n27
  have n28 : sc 28 = nI (a.1 28) := n28
  have n29 : sc 29 = nI (a.1 29) := n29
  have f1 : ar 1 = a.2.1 1 := f1
  have f2 : ar 2 = a.2.1 2 := f2
  have f3 : ar 3 = a.2.1 3 := f3
  have f21 : ar 21 = a.2.1 21 := f21
  have f22 : ar 22 = a.2.1 22 := f22
  have f24 : ar 24 = a.2.1 24 := f24
  have rE : evR (ar 4) (ar 5) (ar 6) (ar 7) a.2.2.1 := rE
  have rW : wtR (ar 8) a.2.2.1 a.2.2.2.1 := rW
  have rl1 : sc 30 = nI a.2.2.2.2.1.length := rl1
  have rl3 : lnR (ar 31) (ar 32) (ar 33) a.2.2.2.2.1 := rl3
  have rq0 : ar 34 0 = nI (a.1 100) := rq0
  have rq1 : ar 34 1 = nI (a.1 101) := rq1
  have ro1 : pfx (ar 17) a.2.2.2.2.2.1 := ro1
  have ro2 : sc 18 = nI a.2.2.2.2.2.1.length := ro2
  have rg1 : ∀ x, x < 2 → ar 36 x = nI (a.2.2.2.2.2.2 x).length := rg1
  have rg3 : ∀ x, x < 2 → ∀ j, j < (a.2.2.2.2.2.2 x).length → ar 35 (400 * x + j) = nI ((a.2.2.2.2.2.2 x).getD j 0) ∧ (a.2.2.2.2.2.2 x).getD j 0 < 256 := rg3
  have rg4 : ar 37 0 = nI (a.1 102) := rg4
  have rh4 : ar 37 1 = nI (a.1 103) := rh4
  have rg5 : ar 38 0 = nI (a.1 104) := rg5
  have rh5 : ar 38 1 = nI (a.1 105) := rh5
  have rc1 : pfxN (ar 43) (a.2.2.2.2.2.2 2) := rc1
  have rc2 : sc 44 = nI (a.2.2.2.2.2.2 2).length := rc2
  have b23 := rb 23
  refine lv_iload_n hx hb dX12_taken_0 rfl (lv_at hl 1 rfl) ?_
  refine lv_if_lt (tgt := 32) hx hb dX12_taken_1 (by decide) (fun c_1 => ?_) (fun c_1 => ?_)
  · have c_1 := c_1
    have hs0 : spTaken a k0 w0 = -1 := by rw [spTaken, if_pos (Or.inl c_1)]
    refine lv_iconst (v := nI 0) hx hb dX12_taken_32 (by decide) ?_
    refine lv_istore_n (lv' := [(3, .int (nI 0)), (0, .ref G.2.1), (1, .int k0), (2, .int w0)]) hx hb dX12_taken_33 rfl hl (by decide) rfl (fun ls hl => ?_)
    refine lv_iload_n hx hb dX12_taken_34 rfl (lv_at hl 0 rfl) ?_
    refine lv_if_eq (tgt := 51) hx hb dX12_taken_35 (by decide) (fun c_2 => ?_) (fun c_2 => ?_)
    · have c_2 : 0 = 0 := (nI_eq (a := 0) (b := 0) (by omega) (by omega)).mp c_2
      refine lv_iconst (v := (-1)) hx hb dX12_taken_51 (by decide) ?_
      exact g_iret (Wd := rWs G) (v := (-1)) (sc, ar) hB hx hb hr hlocks rfl ⟨by rw [hs0], rRep_mono hr0 (by omega)⟩ dX12_taken_52
    · have c_2 : ¬ 0 = 0 := fun h9 => c_2 ((nI_eq (a := 0) (b := 0) (by omega) (by omega)).mpr h9)
      exact absurd rfl c_2
  · have c_1 := c_1
    refine lv_iload_n hx hb dX12_taken_4 rfl (lv_at hl 1 rfl) ?_
    refine lv_aload_n hx hb dX12_taken_5 rfl (lv_at hl 0 rfl) ?_
    refine r_get (u := (sc, ar)) (v := .int (sc 23)) hx hb hts hin hown hB 23 (by decide) (hts (.fieldLink RX12 242 "PointReportsModel" "taken" "I") (by decide +kernel)) rfl rfl dX12_taken_6 ?_
    refine g_top (y := nI (a.1 23)) n23 ?_
    refine lv_icmp_ge (tgt := 32) hx hb dX12_taken_9 (by decide) (fun c_3 => ?_) (fun c_3 => ?_)
    · have c_3 := c_3
      have hs0 : spTaken a k0 w0 = -1 := by rw [spTaken, if_pos (Or.inr (Or.inl c_3))]
      refine lv_iconst (v := nI 0) hx hb dX12_taken_32 (by decide) ?_
      refine lv_istore_n (lv' := [(3, .int (nI 0)), (0, .ref G.2.1), (1, .int k0), (2, .int w0)]) hx hb dX12_taken_33 rfl hl (by decide) rfl (fun ls hl => ?_)
      refine lv_iload_n hx hb dX12_taken_34 rfl (lv_at hl 0 rfl) ?_
      refine lv_if_eq (tgt := 51) hx hb dX12_taken_35 (by decide) (fun c_4 => ?_) (fun c_4 => ?_)
      · have c_4 : 0 = 0 := (nI_eq (a := 0) (b := 0) (by omega) (by omega)).mp c_4
        refine lv_iconst (v := (-1)) hx hb dX12_taken_51 (by decide) ?_
        exact g_iret (Wd := rWs G) (v := (-1)) (sc, ar) hB hx hb hr hlocks rfl ⟨by rw [hs0], rRep_mono hr0 (by omega)⟩ dX12_taken_52
      · have c_4 : ¬ 0 = 0 := fun h9 => c_4 ((nI_eq (a := 0) (b := 0) (by omega) (by omega)).mpr h9)
        exact absurd rfl c_4
    · have c_3 := c_3
      refine lv_iload_n hx hb dX12_taken_12 rfl (lv_at hl 1 rfl) ?_
      refine lv_sipush (v := nI 200) hx hb dX12_taken_13 (by decide) ?_
      refine lv_icmp_ge (tgt := 32) hx hb dX12_taken_16 (by decide) (fun c_5 => ?_) (fun c_5 => ?_)
      · have c_5 := c_5
        have hs0 : spTaken a k0 w0 = -1 := by rw [spTaken, if_pos (Or.inr (Or.inr (Or.inl c_5)))]
        refine lv_iconst (v := nI 0) hx hb dX12_taken_32 (by decide) ?_
        refine lv_istore_n (lv' := [(3, .int (nI 0)), (0, .ref G.2.1), (1, .int k0), (2, .int w0)]) hx hb dX12_taken_33 rfl hl (by decide) rfl (fun ls hl => ?_)
        refine lv_iload_n hx hb dX12_taken_34 rfl (lv_at hl 0 rfl) ?_
        refine lv_if_eq (tgt := 51) hx hb dX12_taken_35 (by decide) (fun c_6 => ?_) (fun c_6 => ?_)
        · have c_6 : 0 = 0 := (nI_eq (a := 0) (b := 0) (by omega) (by omega)).mp c_6
          refine lv_iconst (v := (-1)) hx hb dX12_taken_51 (by decide) ?_
          exact g_iret (Wd := rWs G) (v := (-1)) (sc, ar) hB hx hb hr hlocks rfl ⟨by rw [hs0], rRep_mono hr0 (by omega)⟩ dX12_taken_52
        · have c_6 : ¬ 0 = 0 := fun h9 => c_6 ((nI_eq (a := 0) (b := 0) (by omega) (by omega)).mpr h9)
          exact absurd rfl c_6
      · have c_5 := c_5
        refine lv_iload_n hx hb dX12_taken_19 rfl (lv_at hl 2 rfl) ?_
        refine lv_if_lt (tgt := 32) hx hb dX12_taken_20 (by decide) (fun c_7 => ?_) (fun c_7 => ?_)
        · have c_7 := c_7
          have hs0 : spTaken a k0 w0 = -1 := by rw [spTaken, if_pos (Or.inr (Or.inr (Or.inr (Or.inl c_7))))]
          refine lv_iconst (v := nI 0) hx hb dX12_taken_32 (by decide) ?_
          refine lv_istore_n (lv' := [(3, .int (nI 0)), (0, .ref G.2.1), (1, .int k0), (2, .int w0)]) hx hb dX12_taken_33 rfl hl (by decide) rfl (fun ls hl => ?_)
          refine lv_iload_n hx hb dX12_taken_34 rfl (lv_at hl 0 rfl) ?_
          refine lv_if_eq (tgt := 51) hx hb dX12_taken_35 (by decide) (fun c_8 => ?_) (fun c_8 => ?_)
          · have c_8 : 0 = 0 := (nI_eq (a := 0) (b := 0) (by omega) (by omega)).mp c_8
            refine lv_iconst (v := (-1)) hx hb dX12_taken_51 (by decide) ?_
            exact g_iret (Wd := rWs G) (v := (-1)) (sc, ar) hB hx hb hr hlocks rfl ⟨by rw [hs0], rRep_mono hr0 (by omega)⟩ dX12_taken_52
          · have c_8 : ¬ 0 = 0 := fun h9 => c_8 ((nI_eq (a := 0) (b := 0) (by omega) (by omega)).mpr h9)
            exact absurd rfl c_8
        · have c_7 := c_7
          refine lv_iload_n hx hb dX12_taken_23 rfl (lv_at hl 2 rfl) ?_
          refine lv_iconst (v := nI 3) hx hb dX12_taken_24 (by decide) ?_
          refine lv_icmp_gt (tgt := 32) hx hb dX12_taken_25 (by decide) (fun c_9 => ?_) (fun c_9 => ?_)
          · have c_9 := c_9
            have hs0 : spTaken a k0 w0 = -1 := by rw [spTaken, if_pos (Or.inr (Or.inr (Or.inr (Or.inr c_9))))]
            refine lv_iconst (v := nI 0) hx hb dX12_taken_32 (by decide) ?_
            refine lv_istore_n (lv' := [(3, .int (nI 0)), (0, .ref G.2.1), (1, .int k0), (2, .int w0)]) hx hb dX12_taken_33 rfl hl (by decide) rfl (fun ls hl => ?_)
            refine lv_iload_n hx hb dX12_taken_34 rfl (lv_at hl 0 rfl) ?_
            refine lv_if_eq (tgt := 51) hx hb dX12_taken_35 (by decide) (fun c_10 => ?_) (fun c_10 => ?_)
            · have c_10 : 0 = 0 := (nI_eq (a := 0) (b := 0) (by omega) (by omega)).mp c_10
              refine lv_iconst (v := (-1)) hx hb dX12_taken_51 (by decide) ?_
              exact g_iret (Wd := rWs G) (v := (-1)) (sc, ar) hB hx hb hr hlocks rfl ⟨by rw [hs0], rRep_mono hr0 (by omega)⟩ dX12_taken_52
            · have c_10 : ¬ 0 = 0 := fun h9 => c_10 ((nI_eq (a := 0) (b := 0) (by omega) (by omega)).mpr h9)
              exact absurd rfl c_10
          · have c_9 := c_9
            have hs0 : spTaken a k0 w0 = a.2.1 24 (4 * k0.toNatClampNeg + w0.toNatClampNeg) := by rw [spTaken, if_neg (by rintro (z | z | z | z | z); exact c_1 z; exact c_3 z; exact c_5 z; exact c_7 z; exact c_9 z)]
            obtain ⟨k, hk, ek⟩ : ∃ k : Nat, k < 200 ∧ k0 = nI k := by rcases pk_ix k0 (n := 200) (by decide) with h | h | h; exact absurd h c_1; exact absurd h c_5; exact h
            obtain ⟨v, hv, ev⟩ := nI_of2 (n := 3) rfl c_7 (Int32.not_lt.mp c_9)
            subst ek
            subst ev
            rw [nI_clamp (by omega), nI_clamp (by omega)] at hs0
            refine lv_iconst (v := nI 1) hx hb dX12_taken_28 (by decide) ?_
            refine lv_goto (tgt := 33) hx hb dX12_taken_29 (by decide) ?_
            refine lv_istore_n (lv' := [(3, .int (nI 1)), (0, .ref G.2.1), (1, .int (nI k)), (2, .int (nI v))]) hx hb dX12_taken_33 rfl hl (by decide) rfl (fun ls hl => ?_)
            refine lv_iload_n hx hb dX12_taken_34 rfl (lv_at hl 0 rfl) ?_
            refine lv_if_eq (tgt := 51) hx hb dX12_taken_35 (by decide) (fun c_11 => ?_) (fun c_11 => ?_)
            · have c_11 : 1 = 0 := (nI_eq (a := 1) (b := 0) (by omega) (by omega)).mp c_11
              exact absurd c_11 (by decide)
            · have c_11 : ¬ 1 = 0 := fun h9 => c_11 ((nI_eq (a := 1) (b := 0) (by omega) (by omega)).mpr h9)
              refine lv_aload_n hx hb dX12_taken_38 rfl (lv_at hl 1 rfl) ?_
              refine r_get (u := (sc, ar)) (v := .ref (G.2.2.1 24)) hx hb hts hin hown hB 24 (by decide) (hts (.fieldLink RX12 48 "PointReportsModel" "takenCells" "[I") (by decide +kernel)) rfl rfl dX12_taken_39 ?_
              refine lv_iconst (v := nI 4) hx hb dX12_taken_42 (by decide) ?_
              refine lv_iload_n hx hb dX12_taken_43 rfl (lv_at hl 2 rfl) ?_
              refine lv_imul hx hb dX12_taken_44 ?_
              refine g_top (y := nI (4 * k)) (pk_mul _ _) ?_
              refine lv_iload_n hx hb dX12_taken_45 rfl (lv_at hl 3 rfl) ?_
              refine lv_iadd hx hb dX12_taken_46 ?_
              refine g_top (y := nI ((4 * k) + v)) (nI_add _ _) ?_
              refine r_ald (u := (sc, ar)) (f := ar 24) hx hb hB 12 rfl ((4 * k) + v) rfl (by omega) (by decide) dX12_taken_47 ?_
              refine lv_goto (tgt := 52) hx hb dX12_taken_48 (by decide) ?_
              exact g_iret (Wd := rWs G) (v := (ar 24) ((4 * k) + v)) (sc, ar) hB hx hb hr hlocks rfl ⟨by rw [hs0, f24], rRep_mono hr0 (by omega)⟩ dX12_taken_52
set_option maxRecDepth 100000 in
set_option maxHeartbeats 4000000 in
/-- event(c, k, w) -/
theorem c_event (l : Launch) (G : rG) (sc : Nat → Int32) (ar : Nat → Nat → Int32) (b : Nat) (hb9 : b ≤ 900000) (a : aS) (hr0 : rRep b (sc, ar) a) (c0 k0 w0 : Int32) : gM l G.1 (rT G) yX12_event wsX12_event ({ frames := 0, cells := 0, slots := 0, locals := 0 }) [.ref G.2.1, .int c0, .int k0, .int w0] (rWs G (sc, ar)) (gQi G.1 (rT G) (fun (r : Int32) (u : rSt) => r = spEvq a c0 k0 w0 ∧ rRep (b + 500) u a) (rWs G)) 0 0 := by
  refine gM.of (cc := cX12_event) (maxL := 5) (ret := (some .int)) (by decide) rfl (Nat.le_of_ble_eq_true rfl) ?_
  intro p e s m below meth c A ls hx hb hr hml hown hts hlocks hnm hB hl
  have hin : ∀ w ∈ wsX120, w ∈ wsX12_event := fun w h => List.mem_cons_of_mem _ (List.mem_append_right _ h)
  have hl : lv_has ls 5 [(0, .ref G.2.1), (1, .int c0), (2, .int k0), (3, .int w0)] := hl
  obtain ⟨n0, n9, n10, n11, n12, n13, n14, n15, n16, n19, n20, n23, n25, n26, n27, n28, n29, f1, f2, f3, f21, f22, f24, rE, rW, rl1, rl2, rl3, rq0, rq1, rq2, rq3, ro1, ro2, ro3, rg1, rg2, rg3, rg4, rh4, rg5, rh5, rg6, rh6, rg7, rh7, rc1, rc2, rc3, rz1, rz2, rz3, rz4, rk, rV, rY, rA, rb⟩ := id hr0
  have n0 : sc 0 = nI (a.1 0) := n0
  have n9 : sc 9 = nI (a.1 9) := n9
  have n10 : sc 10 = nI (a.1 10) := n10
  have n11 : sc 11 = nI (a.1 11) := n11
  have n12 : sc 12 = nI (a.1 12) := n12
  have n13 : sc 13 = nI (a.1 13) := n13
  have n14 : sc 14 = nI (a.1 14) := n14
  have n15 : sc 15 = nI (a.1 15) := n15
  have n16 : sc 16 = nI (a.1 16) := n16
  have n19 : sc 19 = nI (a.1 19) := n19
  have n20 : sc 20 = nI (a.1 20) := n20
  have n23 : sc 23 = nI (a.1 23) := n23
  have n25 : sc 25 = nI (a.1 25) := n25
  have n26 : sc 26 = nI (a.1 26) := n26
  have n27 : sc 27 = nI (a.1 27) := n27
  have n28 : sc 28 = nI (a.1 28) := n28
  have n29 : sc 29 = nI (a.1 29) := n29
  have f1 : ar 1 = a.2.1 1 := f1
  have f2 : ar 2 = a.2.1 2 := f2
  have f3 : ar 3 = a.2.1 3 := f3
  have f21 : ar 21 = a.2.1 21 := f21
  have f22 : ar 22 = a.2.1 22 := f22
  have f24 : ar 24 = a.2.1 24 := f24
  have rE : evR (ar 4) (ar 5) (ar 6) (ar 7) a.2.2.1 := rE
  have rW : wtR (ar 8) a.2.2.1 a.2.2.2.1 := rW
  have rl1 : sc 30 = nI a.2.2.2.2.1.length := rl1
  have rl3 : lnR (ar 31) (ar 32) (ar 33) a.2.2.2.2.1 := rl3
  have rq0 : ar 34 0 = nI (a.1 100) := rq0
  have rq1 : ar 34 1 = nI (a.1 101) := rq1
  have ro1 : pfx (ar 17) a.2.2.2.2.2.1 := ro1
  have ro2 : sc 18 = nI a.2.2.2.2.2.1.length := ro2
  have rg1 : ∀ x, x < 2 → ar 36 x = nI (a.2.2.2.2.2.2 x).length := rg1
  have rg3 : ∀ x, x < 2 → ∀ j, j < (a.2.2.2.2.2.2 x).length → ar 35 (400 * x + j) = nI ((a.2.2.2.2.2.2 x).getD j 0) ∧ (a.2.2.2.2.2.2 x).getD j 0 < 256 := rg3
  have rg4 : ar 37 0 = nI (a.1 102) := rg4
  have rh4 : ar 37 1 = nI (a.1 103) := rh4
  have rg5 : ar 38 0 = nI (a.1 104) := rg5
  have rh5 : ar 38 1 = nI (a.1 105) := rh5
  have rc1 : pfxN (ar 43) (a.2.2.2.2.2.2 2) := rc1
  have rc2 : sc 44 = nI (a.2.2.2.2.2.2 2).length := rc2
  refine lv_iload_n hx hb dX12_event_0 rfl (lv_at hl 1 rfl) ?_
  refine lv_iconst (v := nI 1) hx hb dX12_event_1 (by decide) ?_
  refine lv_icmp_lt (tgt := 24) hx hb dX12_event_2 (by decide) (fun c_1 => ?_) (fun c_1 => ?_)
  · have c_1 := c_1
    have hs0 : spEvq a c0 k0 w0 = -1 := by rw [spEvq, if_pos (Or.inl c_1)]
    refine lv_iconst (v := (-1)) hx hb dX12_event_24 (by decide) ?_
    exact g_iret (Wd := rWs G) (v := (-1)) (sc, ar) hB hx hb hr hlocks rfl ⟨by rw [hs0], rRep_mono hr0 (by omega)⟩ dX12_event_25
  · have c_1 := c_1
    refine lv_iload_n hx hb dX12_event_5 rfl (lv_at hl 1 rfl) ?_
    refine lv_iconst (v := nI 3) hx hb dX12_event_6 (by decide) ?_
    refine lv_icmp_gt (tgt := 24) hx hb dX12_event_7 (by decide) (fun c_2 => ?_) (fun c_2 => ?_)
    · have c_2 := c_2
      have hs0 : spEvq a c0 k0 w0 = -1 := by rw [spEvq, if_pos (Or.inr (Or.inl c_2))]
      refine lv_iconst (v := (-1)) hx hb dX12_event_24 (by decide) ?_
      exact g_iret (Wd := rWs G) (v := (-1)) (sc, ar) hB hx hb hr hlocks rfl ⟨by rw [hs0], rRep_mono hr0 (by omega)⟩ dX12_event_25
    · have c_2 := c_2
      have h0c : ¬ c0 < 0 := fun h => c_1 (Int32.lt_of_lt_of_le h (by decide))
      obtain ⟨cl, hcl, ecl⟩ := nI_of2 (n := 3) rfl h0c (Int32.not_lt.mp c_2)
      subst ecl
      have hc1 : 1 ≤ cl := Classical.byContradiction (fun h => c_1 ((nI_ltI (by omega) (by decide)).mpr (by omega)))
      have ec : (nI cl).toNatClampNeg = cl := nI_clamp (by omega)
      obtain ⟨e1, e2, e3⟩ := rE cl hc1 hcl
      refine lv_iload_n hx hb dX12_event_10 rfl (lv_at hl 2 rfl) ?_
      refine lv_if_lt (tgt := 24) hx hb dX12_event_11 (by decide) (fun c_3 => ?_) (fun c_3 => ?_)
      · have c_3 := c_3
        have hs0 : spEvq a (nI cl) k0 w0 = -1 := by rw [spEvq, if_pos (Or.inr (Or.inr (Or.inl c_3)))]
        refine lv_iconst (v := (-1)) hx hb dX12_event_24 (by decide) ?_
        exact g_iret (Wd := rWs G) (v := (-1)) (sc, ar) hB hx hb hr hlocks rfl ⟨by rw [hs0], rRep_mono hr0 (by omega)⟩ dX12_event_25
      · have c_3 := c_3
        refine lv_iload_n hx hb dX12_event_14 rfl (lv_at hl 2 rfl) ?_
        refine lv_aload_n hx hb dX12_event_15 rfl (lv_at hl 0 rfl) ?_
        refine r_get (u := (sc, ar)) (v := .ref (G.2.2.1 4)) hx hb hts hin hown hB 4 (by decide) (hts (.fieldLink RX12 19 "PointReportsModel" "kept" "[I") (by decide +kernel)) rfl rfl dX12_event_16 ?_
        refine lv_iload_n hx hb dX12_event_19 rfl (lv_at hl 1 rfl) ?_
        refine r_ald (u := (sc, ar)) (f := ar 4) hx hb hB 4 rfl cl rfl (by omega) (by decide) dX12_event_20 ?_
        refine g_top (y := nI ((a.2.2.1 cl).length)) e1 ?_
        refine lv_icmp_lt (tgt := 26) hx hb dX12_event_21 (by decide) (fun c_4 => ?_) (fun c_4 => ?_)
        · have c_4 := c_4
          obtain ⟨k, hk, ek⟩ : ∃ k : Nat, k < (a.2.2.1 cl).length ∧ k0 = nI k := by rcases pk_ix k0 (n := (a.2.2.1 cl).length) (by omega) with h | h | h; exact absurd h c_3; exact absurd c_4 (Int32.not_lt.mpr h); exact h
          have hs0 : spEvq a (nI cl) k0 w0 = if w0 = 0 then ((a.2.2.1 cl).getD k (0, 0, 0)).1 else if w0 = 1 then ((a.2.2.1 cl).getD k (0, 0, 0)).2.1 else if w0 = 2 then ((a.2.2.1 cl).getD k (0, 0, 0)).2.2 else if w0 = 3 then (if k < a.2.2.2.1 cl then nI 1 else nI 0) else -1 := by rw [spEvq, if_neg (by rw [ec]; rintro (z | z | z | z); exact c_1 z; exact c_2 z; exact c_3 z; exact absurd c_4 (Int32.not_lt.mpr z)), ec, ek, nI_clamp (by omega)]
          subst ek
          obtain ⟨a1, a2, a3⟩ := e3 k ((a.2.2.1 cl).getD k (0, 0, 0)) (by rw [List.getD_eq_getElem?_getD, List.getElem?_eq_getElem hk]; rfl)
          refine lv_bipush (v := nI 8) hx hb dX12_event_26 (by decide) ?_
          refine lv_iload_n hx hb dX12_event_28 rfl (lv_at hl 1 rfl) ?_
          refine lv_imul hx hb dX12_event_29 ?_
          refine g_top (y := nI (8 * cl)) (pk_mul _ _) ?_
          refine lv_iload_n hx hb dX12_event_30 rfl (lv_at hl 2 rfl) ?_
          refine lv_iadd hx hb dX12_event_31 ?_
          refine g_top (y := nI ((8 * cl) + k)) (nI_add _ _) ?_
          refine lv_istore (lv' := [(4, .int (nI ((8 * cl) + k))), (0, .ref G.2.1), (1, .int (nI cl)), (2, .int (nI k)), (3, .int w0)]) hx hb dX12_event_32 hl (by decide) rfl (fun ls hl => ?_)
          refine lv_iload_n hx hb dX12_event_34 rfl (lv_at hl 4 rfl) ?_
          rcases pk_ix w0 (n := 4) (by decide) with hw | hw | ⟨m, hm, em⟩
          · refine lv_tableOut (tgt := 104) hx hb dX12_event_35 (sw_out (n := 3) (Or.inl hw) (by decide)) (by decide) ?_
            refine lv_iconst (v := (-1)) hx hb dX12_event_104 (by decide) ?_
            have hs1 : spEvq a (nI cl) (nI k) w0 = -1 := by rw [hs0, if_neg (show ¬ w0 = 0 from ne_out (n := 3) (k := 0) (Or.inl hw) (by decide) (by decide)), if_neg (show ¬ w0 = 1 from ne_out (n := 3) (k := 1) (Or.inl hw) (by decide) (by decide)), if_neg (show ¬ w0 = 2 from ne_out (n := 3) (k := 2) (Or.inl hw) (by decide) (by decide)), if_neg (show ¬ w0 = 3 from ne_out (n := 3) (k := 3) (Or.inl hw) (by decide) (by decide))]
            exact g_iret (Wd := rWs G) (v := (-1)) (sc, ar) hB hx hb hr hlocks rfl ⟨by rw [hs1], rRep_mono hr0 (by omega)⟩ dX12_event_105
          · refine lv_tableOut (tgt := 104) hx hb dX12_event_35 (sw_out (n := 3) (Or.inr hw) (by decide)) (by decide) ?_
            refine lv_iconst (v := (-1)) hx hb dX12_event_104 (by decide) ?_
            have hs1 : spEvq a (nI cl) (nI k) w0 = -1 := by rw [hs0, if_neg (show ¬ w0 = 0 from ne_out (n := 3) (k := 0) (Or.inr hw) (by decide) (by decide)), if_neg (show ¬ w0 = 1 from ne_out (n := 3) (k := 1) (Or.inr hw) (by decide) (by decide)), if_neg (show ¬ w0 = 2 from ne_out (n := 3) (k := 2) (Or.inr hw) (by decide) (by decide)), if_neg (show ¬ w0 = 3 from ne_out (n := 3) (k := 3) (Or.inr hw) (by decide) (by decide))]
            exact g_iret (Wd := rWs G) (v := (-1)) (sc, ar) hB hx hb hr hlocks rfl ⟨by rw [hs1], rRep_mono hr0 (by omega)⟩ dX12_event_105
          · subst em
            rcases (show m = 0 ∨ m = 1 ∨ m = 2 ∨ m = 3 by omega) with rfl | rfl | rfl | rfl
            · refine lv_tableIn (tgt := 64) (off := 29) hx hb dX12_event_35 (by decide) (by decide) (by decide) (by decide) ?_
              refine lv_aload_n hx hb dX12_event_64 rfl (lv_at hl 1 rfl) ?_
              refine r_get (u := (sc, ar)) (v := .ref (G.2.2.1 5)) hx hb hts hin hown hB 5 (by decide) (hts (.fieldLink RX12 22 "PointReportsModel" "points" "[I") (by decide +kernel)) rfl rfl dX12_event_65 ?_
              refine lv_iload hx hb dX12_event_68 (lv_at hl 0 rfl) ?_
              refine r_ald (u := (sc, ar)) (f := ar 5) hx hb hB 5 rfl ((8 * cl) + k) rfl (by omega) (by decide) dX12_event_70 ?_
              refine g_top (y := ((a.2.2.1 cl).getD k (0, 0, 0)).1) a1 ?_
              have hs1 : spEvq a (nI cl) (nI k) (nI 0) = ((a.2.2.1 cl).getD k (0, 0, 0)).1 := by rw [hs0]; rfl
              exact g_iret (Wd := rWs G) (v := ((a.2.2.1 cl).getD k (0, 0, 0)).1) (sc, ar) hB hx hb hr hlocks rfl ⟨by rw [hs1], rRep_mono hr0 (by omega)⟩ dX12_event_71
            · refine lv_tableIn (tgt := 72) (off := 37) hx hb dX12_event_35 (by decide) (by decide) (by decide) (by decide) ?_
              refine lv_aload_n hx hb dX12_event_72 rfl (lv_at hl 1 rfl) ?_
              refine r_get (u := (sc, ar)) (v := .ref (G.2.2.1 6)) hx hb hts hin hown hB 6 (by decide) (hts (.fieldLink RX12 25 "PointReportsModel" "eventValues" "[I") (by decide +kernel)) rfl rfl dX12_event_73 ?_
              refine lv_iload hx hb dX12_event_76 (lv_at hl 0 rfl) ?_
              refine r_ald (u := (sc, ar)) (f := ar 6) hx hb hB 6 rfl ((8 * cl) + k) rfl (by omega) (by decide) dX12_event_78 ?_
              refine g_top (y := ((a.2.2.1 cl).getD k (0, 0, 0)).2.1) a2 ?_
              have hs1 : spEvq a (nI cl) (nI k) (nI 1) = ((a.2.2.1 cl).getD k (0, 0, 0)).2.1 := by rw [hs0]; rfl
              exact g_iret (Wd := rWs G) (v := ((a.2.2.1 cl).getD k (0, 0, 0)).2.1) (sc, ar) hB hx hb hr hlocks rfl ⟨by rw [hs1], rRep_mono hr0 (by omega)⟩ dX12_event_79
            · refine lv_tableIn (tgt := 80) (off := 45) hx hb dX12_event_35 (by decide) (by decide) (by decide) (by decide) ?_
              refine lv_aload_n hx hb dX12_event_80 rfl (lv_at hl 1 rfl) ?_
              refine r_get (u := (sc, ar)) (v := .ref (G.2.2.1 7)) hx hb hts hin hown hB 7 (by decide) (hts (.fieldLink RX12 28 "PointReportsModel" "times" "[I") (by decide +kernel)) rfl rfl dX12_event_81 ?_
              refine lv_iload hx hb dX12_event_84 (lv_at hl 0 rfl) ?_
              refine r_ald (u := (sc, ar)) (f := ar 7) hx hb hB 7 rfl ((8 * cl) + k) rfl (by omega) (by decide) dX12_event_86 ?_
              refine g_top (y := ((a.2.2.1 cl).getD k (0, 0, 0)).2.2) a3 ?_
              have hs1 : spEvq a (nI cl) (nI k) (nI 2) = ((a.2.2.1 cl).getD k (0, 0, 0)).2.2 := by rw [hs0]; rfl
              exact g_iret (Wd := rWs G) (v := ((a.2.2.1 cl).getD k (0, 0, 0)).2.2) (sc, ar) hB hx hb hr hlocks rfl ⟨by rw [hs1], rRep_mono hr0 (by omega)⟩ dX12_event_87
            · refine lv_tableIn (tgt := 88) (off := 53) hx hb dX12_event_35 (by decide) (by decide) (by decide) (by decide) ?_
              have hs1 : spEvq a (nI cl) (nI k) (nI 3) = if k < a.2.2.2.1 cl then nI 1 else nI 0 := by rw [hs0]; rfl
              refine lv_aload_n hx hb dX12_event_88 rfl (lv_at hl 1 rfl) ?_
              refine r_get (u := (sc, ar)) (v := .ref (G.2.2.1 8)) hx hb hts hin hown hB 8 (by decide) (hts (.fieldLink RX12 31 "PointReportsModel" "waits" "[Z") (by decide +kernel)) rfl rfl dX12_event_89 ?_
              refine lv_iload hx hb dX12_event_92 (lv_at hl 0 rfl) ?_
              refine r_zald (u := (sc, ar)) (f := ar 8) hx hb hB 8 rfl ((8 * cl) + k) rfl (by omega) (by decide) dX12_event_94 ?_
              have ew : ar 8 (8 * cl + k) = nI (if k < a.2.2.2.1 cl then 1 else 0) := by rw [rW cl hc1 hcl k hk]; split <;> rfl
              have ew2 : (if k < a.2.2.2.1 cl then 1 else 0) ≤ 1 := by split <;> omega
              refine g_top (y := nI (if k < a.2.2.2.1 cl then 1 else 0)) ew ?_
              refine lv_if_eq (tgt := 102) hx hb dX12_event_95 (by decide) (fun c_5 => ?_) (fun c_5 => ?_)
              · have c_5 : (if k < a.2.2.2.1 cl then 1 else 0) = 0 := (nI_eq (a := (if k < a.2.2.2.1 cl then 1 else 0)) (b := 0) (by omega) (by omega)).mp c_5
                have hn : ¬ k < a.2.2.2.1 cl := fun h => by rw [if_pos h] at c_5; omega
                refine lv_iconst (v := nI 0) hx hb dX12_event_102 (by decide) ?_
                exact g_iret (Wd := rWs G) (v := nI 0) (sc, ar) hB hx hb hr hlocks rfl ⟨by rw [hs1, if_neg hn], rRep_mono hr0 (by omega)⟩ dX12_event_103
              · have c_5 : ¬ (if k < a.2.2.2.1 cl then 1 else 0) = 0 := fun h9 => c_5 ((nI_eq (a := (if k < a.2.2.2.1 cl then 1 else 0)) (b := 0) (by omega) (by omega)).mpr h9)
                have hn : k < a.2.2.2.1 cl := Classical.byContradiction (fun h => c_5 (by rw [if_neg h]))
                refine lv_iconst (v := nI 1) hx hb dX12_event_98 (by decide) ?_
                refine lv_goto (tgt := 103) hx hb dX12_event_99 (by decide) ?_
                exact g_iret (Wd := rWs G) (v := nI 1) (sc, ar) hB hx hb hr hlocks rfl ⟨by rw [hs1, if_pos hn], rRep_mono hr0 (by omega)⟩ dX12_event_103
        · have c_4 := c_4
          have hs0 : spEvq a (nI cl) k0 w0 = -1 := by rw [spEvq, if_pos (Or.inr (Or.inr (Or.inr (by rw [ec]; exact Int32.not_lt.mp c_4))))]
          refine lv_iconst (v := (-1)) hx hb dX12_event_24 (by decide) ?_
          exact g_iret (Wd := rWs G) (v := (-1)) (sc, ar) hB hx hb hr hlocks rfl ⟨by rw [hs0], rRep_mono hr0 (by omega)⟩ dX12_event_25
set_option maxRecDepth 100000 in
set_option maxHeartbeats 4000000 in
/-- count(w) -/
theorem c_count (l : Launch) (G : rG) (sc : Nat → Int32) (ar : Nat → Nat → Int32) (b : Nat) (hb9 : b ≤ 900000) (a : aS) (hr0 : rRep b (sc, ar) a) (w0 : Int32) : gM l G.1 (rT G) yX12_count wsX12_count ({ frames := 0, cells := 0, slots := 0, locals := 0 }) [.ref G.2.1, .int w0] (rWs G (sc, ar)) (gQi G.1 (rT G) (fun (r : Int32) (u : rSt) => r = spCount a w0 ∧ rRep (b + 500) u a) (rWs G)) 0 0 := by
  refine gM.of (cc := cX12_count) (maxL := 2) (ret := (some .int)) (by decide) rfl (Nat.le_of_ble_eq_true rfl) ?_
  intro p e s m below meth c A ls hx hb hr hml hown hts hlocks hnm hB hl
  have hin : ∀ w ∈ wsX120, w ∈ wsX12_count := fun w h => List.mem_cons_of_mem _ (List.mem_append_right _ h)
  have hl : lv_has ls 2 [(0, .ref G.2.1), (1, .int w0)] := hl
  obtain ⟨n0, n9, n10, n11, n12, n13, n14, n15, n16, n19, n20, n23, n25, n26, n27, n28, n29, f1, f2, f3, f21, f22, f24, rE, rW, rl1, rl2, rl3, rq0, rq1, rq2, rq3, ro1, ro2, ro3, rg1, rg2, rg3, rg4, rh4, rg5, rh5, rg6, rh6, rg7, rh7, rc1, rc2, rc3, rz1, rz2, rz3, rz4, rk, rV, rY, rA, rb⟩ := id hr0
  have n0 : sc 0 = nI (a.1 0) := n0
  have n9 : sc 9 = nI (a.1 9) := n9
  have n10 : sc 10 = nI (a.1 10) := n10
  have n11 : sc 11 = nI (a.1 11) := n11
  have n12 : sc 12 = nI (a.1 12) := n12
  have n13 : sc 13 = nI (a.1 13) := n13
  have n14 : sc 14 = nI (a.1 14) := n14
  have n15 : sc 15 = nI (a.1 15) := n15
  have n16 : sc 16 = nI (a.1 16) := n16
  have n19 : sc 19 = nI (a.1 19) := n19
  have n20 : sc 20 = nI (a.1 20) := n20
  have n23 : sc 23 = nI (a.1 23) := n23
  have n25 : sc 25 = nI (a.1 25) := n25
  have n26 : sc 26 = nI (a.1 26) := n26
  have n27 : sc 27 = nI (a.1 27) := n27
  have n28 : sc 28 = nI (a.1 28) := n28
  have n29 : sc 29 = nI (a.1 29) := n29
  have f1 : ar 1 = a.2.1 1 := f1
  have f2 : ar 2 = a.2.1 2 := f2
  have f3 : ar 3 = a.2.1 3 := f3
  have f21 : ar 21 = a.2.1 21 := f21
  have f22 : ar 22 = a.2.1 22 := f22
  have f24 : ar 24 = a.2.1 24 := f24
  have rE : evR (ar 4) (ar 5) (ar 6) (ar 7) a.2.2.1 := rE
  have rW : wtR (ar 8) a.2.2.1 a.2.2.2.1 := rW
  have rl1 : sc 30 = nI a.2.2.2.2.1.length := rl1
  have rl3 : lnR (ar 31) (ar 32) (ar 33) a.2.2.2.2.1 := rl3
  have rq0 : ar 34 0 = nI (a.1 100) := rq0
  have rq1 : ar 34 1 = nI (a.1 101) := rq1
  have ro1 : pfx (ar 17) a.2.2.2.2.2.1 := ro1
  have ro2 : sc 18 = nI a.2.2.2.2.2.1.length := ro2
  have rg1 : ∀ x, x < 2 → ar 36 x = nI (a.2.2.2.2.2.2 x).length := rg1
  have rg3 : ∀ x, x < 2 → ∀ j, j < (a.2.2.2.2.2.2 x).length → ar 35 (400 * x + j) = nI ((a.2.2.2.2.2.2 x).getD j 0) ∧ (a.2.2.2.2.2.2 x).getD j 0 < 256 := rg3
  have rg4 : ar 37 0 = nI (a.1 102) := rg4
  have rh4 : ar 37 1 = nI (a.1 103) := rh4
  have rg5 : ar 38 0 = nI (a.1 104) := rg5
  have rh5 : ar 38 1 = nI (a.1 105) := rh5
  have rc1 : pfxN (ar 43) (a.2.2.2.2.2.2 2) := rc1
  have rc2 : sc 44 = nI (a.2.2.2.2.2.2 2).length := rc2
  refine lv_iload_n hx hb dX12_count_0 rfl (lv_at hl 1 rfl) ?_
  rcases pk_ix w0 (n := 12) (by decide) with hw | hw | ⟨m, hm, em⟩
  · refine lv_tableOut (tgt := 132) hx hb dX12_count_1 (sw_out (n := 11) (Or.inl hw) (by decide)) (by decide) ?_
    refine lv_iconst (v := (-1)) hx hb dX12_count_132 (by decide) ?_
    have hs1 : spCount a w0 = -1 := by rw [spCount, if_neg (show ¬ w0 = 0 from ne_out (n := 11) (k := 0) (Or.inl hw) (by decide) (by decide)), if_neg (show ¬ w0 = 1 from ne_out (n := 11) (k := 1) (Or.inl hw) (by decide) (by decide)), if_neg (show ¬ w0 = 2 from ne_out (n := 11) (k := 2) (Or.inl hw) (by decide) (by decide)), if_neg (show ¬ w0 = 3 from ne_out (n := 11) (k := 3) (Or.inl hw) (by decide) (by decide)), if_neg (show ¬ w0 = 4 from ne_out (n := 11) (k := 4) (Or.inl hw) (by decide) (by decide)), if_neg (show ¬ w0 = 5 from ne_out (n := 11) (k := 5) (Or.inl hw) (by decide) (by decide)), if_neg (show ¬ w0 = 6 from ne_out (n := 11) (k := 6) (Or.inl hw) (by decide) (by decide)), if_neg (show ¬ w0 = 7 from ne_out (n := 11) (k := 7) (Or.inl hw) (by decide) (by decide)), if_neg (show ¬ w0 = 8 from ne_out (n := 11) (k := 8) (Or.inl hw) (by decide) (by decide)), if_neg (show ¬ w0 = 9 from ne_out (n := 11) (k := 9) (Or.inl hw) (by decide) (by decide)), if_neg (show ¬ w0 = 10 from ne_out (n := 11) (k := 10) (Or.inl hw) (by decide) (by decide)), if_neg (show ¬ w0 = 11 from ne_out (n := 11) (k := 11) (Or.inl hw) (by decide) (by decide))]
    exact g_iret (Wd := rWs G) (v := (-1)) (sc, ar) hB hx hb hr hlocks rfl ⟨by rw [hs1], rRep_mono hr0 (by omega)⟩ dX12_count_133
  · refine lv_tableOut (tgt := 132) hx hb dX12_count_1 (sw_out (n := 11) (Or.inr hw) (by decide)) (by decide) ?_
    refine lv_iconst (v := (-1)) hx hb dX12_count_132 (by decide) ?_
    have hs1 : spCount a w0 = -1 := by rw [spCount, if_neg (show ¬ w0 = 0 from ne_out (n := 11) (k := 0) (Or.inr hw) (by decide) (by decide)), if_neg (show ¬ w0 = 1 from ne_out (n := 11) (k := 1) (Or.inr hw) (by decide) (by decide)), if_neg (show ¬ w0 = 2 from ne_out (n := 11) (k := 2) (Or.inr hw) (by decide) (by decide)), if_neg (show ¬ w0 = 3 from ne_out (n := 11) (k := 3) (Or.inr hw) (by decide) (by decide)), if_neg (show ¬ w0 = 4 from ne_out (n := 11) (k := 4) (Or.inr hw) (by decide) (by decide)), if_neg (show ¬ w0 = 5 from ne_out (n := 11) (k := 5) (Or.inr hw) (by decide) (by decide)), if_neg (show ¬ w0 = 6 from ne_out (n := 11) (k := 6) (Or.inr hw) (by decide) (by decide)), if_neg (show ¬ w0 = 7 from ne_out (n := 11) (k := 7) (Or.inr hw) (by decide) (by decide)), if_neg (show ¬ w0 = 8 from ne_out (n := 11) (k := 8) (Or.inr hw) (by decide) (by decide)), if_neg (show ¬ w0 = 9 from ne_out (n := 11) (k := 9) (Or.inr hw) (by decide) (by decide)), if_neg (show ¬ w0 = 10 from ne_out (n := 11) (k := 10) (Or.inr hw) (by decide) (by decide)), if_neg (show ¬ w0 = 11 from ne_out (n := 11) (k := 11) (Or.inr hw) (by decide) (by decide))]
    exact g_iret (Wd := rWs G) (v := (-1)) (sc, ar) hB hx hb hr hlocks rfl ⟨by rw [hs1], rRep_mono hr0 (by omega)⟩ dX12_count_133
  · subst em
    rcases (show m = 0 ∨ m = 1 ∨ m = 2 ∨ m = 3 ∨ m = 4 ∨ m = 5 ∨ m = 6 ∨ m = 7 ∨ m = 8 ∨ m = 9 ∨ m = 10 ∨ m = 11 by omega) with rfl | rfl | rfl | rfl | rfl | rfl | rfl | rfl | rfl | rfl | rfl | rfl
    · refine lv_tableIn (tgt := 64) (off := 63) hx hb dX12_count_1 (by decide) (by decide) (by decide) (by decide) ?_
      refine lv_aload_n hx hb dX12_count_64 rfl (lv_at hl 0 rfl) ?_
      refine r_get (u := (sc, ar)) (v := .int (sc 0)) hx hb hts hin hown hB 0 (by decide) (hts (.fieldLink RX12 196 "PointReportsModel" "time" "I") (by decide +kernel)) rfl rfl dX12_count_65 ?_
      refine g_top (y := nI (a.1 0)) n0 ?_
      exact g_iret (Wd := rWs G) (v := nI (a.1 0)) (sc, ar) hB hx hb hr hlocks rfl ⟨rfl, rRep_mono hr0 (by omega)⟩ dX12_count_68
    · refine lv_tableIn (tgt := 69) (off := 68) hx hb dX12_count_1 (by decide) (by decide) (by decide) (by decide) ?_
      refine lv_aload_n hx hb dX12_count_69 rfl (lv_at hl 0 rfl) ?_
      refine r_get (u := (sc, ar)) (v := .int (sc 23)) hx hb hts hin hown hB 23 (by decide) (hts (.fieldLink RX12 242 "PointReportsModel" "taken" "I") (by decide +kernel)) rfl rfl dX12_count_70 ?_
      refine g_top (y := nI (a.1 23)) n23 ?_
      exact g_iret (Wd := rWs G) (v := nI (a.1 23)) (sc, ar) hB hx hb hr hlocks rfl ⟨rfl, rRep_mono hr0 (by omega)⟩ dX12_count_73
    · refine lv_tableIn (tgt := 74) (off := 73) hx hb dX12_count_1 (by decide) (by decide) (by decide) (by decide) ?_
      refine lv_aload_n hx hb dX12_count_74 rfl (lv_at hl 0 rfl) ?_
      refine r_get (u := (sc, ar)) (v := .int (sc 25)) hx hb hts hin hown hB 25 (by decide) (hts (.fieldLink RX12 239 "PointReportsModel" "again" "I") (by decide +kernel)) rfl rfl dX12_count_75 ?_
      refine g_top (y := nI (a.1 25)) n25 ?_
      exact g_iret (Wd := rWs G) (v := nI (a.1 25)) (sc, ar) hB hx hb hr hlocks rfl ⟨rfl, rRep_mono hr0 (by omega)⟩ dX12_count_78
    · refine lv_tableIn (tgt := 79) (off := 78) hx hb dX12_count_1 (by decide) (by decide) (by decide) (by decide) ?_
      refine lv_aload_n hx hb dX12_count_79 rfl (lv_at hl 0 rfl) ?_
      refine r_get (u := (sc, ar)) (v := .int (sc 28)) hx hb hts hin hown hB 28 (by decide) (hts (.fieldLink RX12 124 "PointReportsModel" "framesDropped" "I") (by decide +kernel)) rfl rfl dX12_count_80 ?_
      refine g_top (y := nI (a.1 28)) n28 ?_
      exact g_iret (Wd := rWs G) (v := nI (a.1 28)) (sc, ar) hB hx hb hr hlocks rfl ⟨rfl, rRep_mono hr0 (by omega)⟩ dX12_count_83
    · refine lv_tableIn (tgt := 84) (off := 83) hx hb dX12_count_1 (by decide) (by decide) (by decide) (by decide) ?_
      refine lv_aload_n hx hb dX12_count_84 rfl (lv_at hl 0 rfl) ?_
      refine r_get (u := (sc, ar)) (v := .int (sc 29)) hx hb hts hin hown hB 29 (by decide) (hts (.fieldLink RX12 141 "PointReportsModel" "fragmentsDropped" "I") (by decide +kernel)) rfl rfl dX12_count_85 ?_
      refine g_top (y := nI (a.1 29)) n29 ?_
      exact g_iret (Wd := rWs G) (v := nI (a.1 29)) (sc, ar) hB hx hb hr hlocks rfl ⟨rfl, rRep_mono hr0 (by omega)⟩ dX12_count_88
    · refine lv_tableIn (tgt := 89) (off := 88) hx hb dX12_count_1 (by decide) (by decide) (by decide) (by decide) ?_
      refine lv_aload_n hx hb dX12_count_89 rfl (lv_at hl 0 rfl) ?_
      refine r_get (u := (sc, ar)) (v := .int (sc 19)) hx hb hts hin hown hB 19 (by decide) (hts (.fieldLink RX12 226 "PointReportsModel" "readings" "I") (by decide +kernel)) rfl rfl dX12_count_90 ?_
      refine g_top (y := nI (a.1 19)) n19 ?_
      exact g_iret (Wd := rWs G) (v := nI (a.1 19)) (sc, ar) hB hx hb hr hlocks rfl ⟨rfl, rRep_mono hr0 (by omega)⟩ dX12_count_93
    · refine lv_tableIn (tgt := 94) (off := 93) hx hb dX12_count_1 (by decide) (by decide) (by decide) (by decide) ?_
      refine lv_aload_n hx hb dX12_count_94 rfl (lv_at hl 0 rfl) ?_
      refine r_get (u := (sc, ar)) (v := .int (sc 14)) hx hb hts hin hown hB 14 (by decide) (hts (.fieldLink RX12 193 "PointReportsModel" "reports" "I") (by decide +kernel)) rfl rfl dX12_count_95 ?_
      refine g_top (y := nI (a.1 14)) n14 ?_
      exact g_iret (Wd := rWs G) (v := nI (a.1 14)) (sc, ar) hB hx hb hr hlocks rfl ⟨rfl, rRep_mono hr0 (by omega)⟩ dX12_count_98
    · refine lv_tableIn (tgt := 99) (off := 98) hx hb dX12_count_1 (by decide) (by decide) (by decide) (by decide) ?_
      refine lv_aload_n hx hb dX12_count_99 rfl (lv_at hl 0 rfl) ?_
      refine r_get (u := (sc, ar)) (v := .int (sc 10)) hx hb hts hin hown hB 10 (by decide) (hts (.fieldLink RX12 223 "PointReportsModel" "lostInAll" "I") (by decide +kernel)) rfl rfl dX12_count_100 ?_
      refine g_top (y := nI (a.1 10)) n10 ?_
      exact g_iret (Wd := rWs G) (v := nI (a.1 10)) (sc, ar) hB hx hb hr hlocks rfl ⟨rfl, rRep_mono hr0 (by omega)⟩ dX12_count_103
    · refine lv_tableIn (tgt := 104) (off := 103) hx hb dX12_count_1 (by decide) (by decide) (by decide) (by decide) ?_
      refine lv_aload_n hx hb dX12_count_104 rfl (lv_at hl 0 rfl) ?_
      refine r_get (u := (sc, ar)) (v := .int (sc 26)) hx hb hts hin hown hB 26 (by decide) (hts (.fieldLink RX12 254 "PointReportsModel" "keptOne" "I") (by decide +kernel)) rfl rfl dX12_count_105 ?_
      refine g_top (y := nI (a.1 26)) n26 ?_
      exact g_iret (Wd := rWs G) (v := nI (a.1 26)) (sc, ar) hB hx hb hr hlocks rfl ⟨rfl, rRep_mono hr0 (by omega)⟩ dX12_count_108
    · refine lv_tableIn (tgt := 109) (off := 108) hx hb dX12_count_1 (by decide) (by decide) (by decide) (by decide) ?_
      refine lv_aload_n hx hb dX12_count_109 rfl (lv_at hl 0 rfl) ?_
      refine r_get (u := (sc, ar)) (v := .int (sc 27)) hx hb hts hin hown hB 27 (by decide) (hts (.fieldLink RX12 257 "PointReportsModel" "keptTwo" "I") (by decide +kernel)) rfl rfl dX12_count_110 ?_
      refine g_top (y := nI (a.1 27)) n27 ?_
      exact g_iret (Wd := rWs G) (v := nI (a.1 27)) (sc, ar) hB hx hb hr hlocks rfl ⟨rfl, rRep_mono hr0 (by omega)⟩ dX12_count_113
    · refine lv_tableIn (tgt := 114) (off := 113) hx hb dX12_count_1 (by decide) (by decide) (by decide) (by decide) ?_
      refine lv_aload_n hx hb dX12_count_114 rfl (lv_at hl 0 rfl) ?_
      refine r_get (u := (sc, ar)) (v := .int (sc 11)) hx hb hts hin hown hB 11 (by decide) (hts (.fieldLink RX12 147 "PointReportsModel" "waiting" "I") (by decide +kernel)) rfl rfl dX12_count_115 ?_
      refine g_top (y := nI (a.1 11)) n11 ?_
      have b11 := rb 11
      refine lv_if_le (tgt := 125) hx hb dX12_count_118 (by decide) (fun c_1 => ?_) (fun c_1 => ?_)
      · have c_1 : (a.1 11) ≤ 0 := (nI_leI (a := (a.1 11)) (b := 0) (by omega) (by omega)).mp c_1
        have h0 : a.1 11 = 0 := by omega
        refine lv_iconst (v := nI 0) hx hb dX12_count_125 (by decide) ?_
        exact g_iret (Wd := rWs G) (v := nI 0) (sc, ar) hB hx hb hr hlocks rfl ⟨by show nI 0 = if a.1 11 = 0 then nI 0 else nI 1; rw [if_pos h0], rRep_mono hr0 (by omega)⟩ dX12_count_126
      · have c_1 : ¬ (a.1 11) ≤ 0 := fun h9 => c_1 ((nI_leI (a := (a.1 11)) (b := 0) (by omega) (by omega)).mpr h9)
        refine lv_iconst (v := nI 1) hx hb dX12_count_121 (by decide) ?_
        refine lv_goto (tgt := 126) hx hb dX12_count_122 (by decide) ?_
        exact g_iret (Wd := rWs G) (v := nI 1) (sc, ar) hB hx hb hr hlocks rfl ⟨by show nI 1 = if a.1 11 = 0 then nI 0 else nI 1; rw [if_neg (by omega)], rRep_mono hr0 (by omega)⟩ dX12_count_126
    · refine lv_tableIn (tgt := 127) (off := 126) hx hb dX12_count_1 (by decide) (by decide) (by decide) (by decide) ?_
      refine lv_aload_n hx hb dX12_count_127 rfl (lv_at hl 0 rfl) ?_
      refine r_get (u := (sc, ar)) (v := .int (sc 44)) hx hb hts hin hown hB 44 (by decide) (hts (.fieldLink RX12 267 "PointReportsModel" "collectedLength" "I") (by decide +kernel)) rfl rfl dX12_count_128 ?_
      refine g_top (y := nI ((a.2.2.2.2.2.2 2).length)) rc2 ?_
      exact g_iret (Wd := rWs G) (v := nI ((a.2.2.2.2.2.2 2).length)) (sc, ar) hB hx hb hr hlocks rfl ⟨rfl, rRep_mono hr0 (by omega)⟩ dX12_count_131
