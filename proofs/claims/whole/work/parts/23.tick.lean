/-- nothing waits -/
def spNone (a : aS) : aS := (va_up a.1 11 0, a.2.1, a.2.2.1, fun _ => 0, a.2.2.2.2)
def spReports (a : aS) (may : Nat) : aS := if may = 0 ∧ a.1 11 = 2 then spNone (va_up a.1 13 may, a.2) else (va_up a.1 13 may, a.2)
def spKind (a : aS) (p c : Int32) : aS × Nat := if p < 0 ∨ nI 10 ≤ p ∨ c < 0 ∨ nI 3 < c then (a, 0) else ((a.1, va_up a.2.1 1 (upd (a.2.1 1) p.toNatClampNeg c), a.2.2), 1)
/-- a new report goes out -/
noncomputable def spMake (a : aS) : aS := (va_up (va_up (va_up (va_up (va_up (va_up a.1 11 2) 12 (a.1 14 % 16)) 14 (a.1 14 + 1)) 15 (a.1 0)) 16 0) 101 (sndF 0 (rpO a.2.2.1 (a.1 14) (nI (a.1 9))) a.2.2.2.2.1 (a.1 101)).2, a.2.1, a.2.2.1, (rpE a.2.2.1 (a.1 14)).2.2, (sndF 0 (rpO a.2.2.1 (a.1 14) (nI (a.1 9))) a.2.2.2.2.1 (a.1 101)).1, rpO a.2.2.1 (a.1 14) (nI (a.1 9)), a.2.2.2.2.2.2)
/-- a report goes out again -/
def spAgain (a : aS) : aS := (va_up (va_up (va_up a.1 15 (a.1 0)) 16 (a.1 16 + 1)) 101 (sndF 0 a.2.2.2.2.2.1 a.2.2.2.2.1 (a.1 101)).2, a.2.1, a.2.2.1, a.2.2.2.1, (sndF 0 a.2.2.2.2.2.1 a.2.2.2.2.1 (a.1 101)).1, a.2.2.2.2.2.1, a.2.2.2.2.2.2)
noncomputable def spTick1 (a : aS) : aS := if a.1 11 = 2 then (if a.1 0 = a.1 15 + 5 then (if a.1 16 < 3 then spAgain a else spNone a) else a) else if a.1 13 ≠ 0 ∧ 0 < (a.2.2.1 1).length + (a.2.2.1 2).length + (a.2.2.1 3).length then spMake a else a
noncomputable def spTick (a : aS) : aS := spTick1 (va_up a.1 0 (a.1 0 + 1), a.2)
theorem sub_nI {x y z : Nat} (hx : x < 2 ^ 30) (hy : y < 2 ^ 30) (hz : z < 2 ^ 30) : nI x - nI y = nI z ↔ x = y + z := by
  constructor
  · intro h
    have h1 := congrArg Int32.toInt h
    rw [pk_sub_toInt hx hy, nI_toInt (by omega)] at h1
    omega
  · intro h
    subst h
    rw [pk_sub (by omega)]
    congr 1
    omega
set_option maxRecDepth 100000 in
set_option maxHeartbeats 4000000 in
theorem c_isPoint (l : Launch) (G : rG) (p0 : Int32) : gM l G.1 (rT G) yX12_isPoint wsX12_isPoint ({ frames := 0, cells := 0, slots := 0, locals := 0 }) [.int p0] [] (gQi G.1 (rT G) (fun (r : Int32) (_ : Unit) => (r = nI 1 ∧ ¬ p0 < 0 ∧ ¬ nI 10 ≤ p0) ∨ (r = nI 0 ∧ (p0 < 0 ∨ nI 10 ≤ p0))) (fun _ => [])) 0 0 := by
  refine gM.of (cc := cX12_isPoint) (maxL := 1) (ret := (some .boolean)) (by decide) rfl (Nat.le_of_ble_eq_true rfl) ?_
  intro p e s m below meth c A ls hx hb hr hml hown hts hlocks hnm hB hl
  have hl : lv_has ls 1 [(0, .int p0)] := hl
  refine lv_iload_n hx hb dX12_isPoint_0 rfl (lv_at hl 0 rfl) ?_
  refine lv_if_lt (tgt := 14) hx hb dX12_isPoint_1 (by decide) (fun c_1 => ?_) (fun c_1 => ?_)
  · have c_1 := c_1
    refine lv_iconst (v := nI 0) hx hb dX12_isPoint_14 (by decide) ?_
    exact g_zret (Wd := fun _ => []) (v := nI 0) () hB hx hb hr hlocks rfl (narrow_z (Or.inl rfl)) (Or.inr ⟨rfl, Or.inl c_1⟩) dX12_isPoint_15
  · have c_1 := c_1
    refine lv_iload_n hx hb dX12_isPoint_4 rfl (lv_at hl 0 rfl) ?_
    refine lv_bipush (v := nI 10) hx hb dX12_isPoint_5 (by decide) ?_
    refine lv_icmp_ge (tgt := 14) hx hb dX12_isPoint_7 (by decide) (fun c_2 => ?_) (fun c_2 => ?_)
    · have c_2 := c_2
      refine lv_iconst (v := nI 0) hx hb dX12_isPoint_14 (by decide) ?_
      exact g_zret (Wd := fun _ => []) (v := nI 0) () hB hx hb hr hlocks rfl (narrow_z (Or.inl rfl)) (Or.inr ⟨rfl, Or.inr c_2⟩) dX12_isPoint_15
    · have c_2 := c_2
      refine lv_iconst (v := nI 1) hx hb dX12_isPoint_10 (by decide) ?_
      refine lv_goto (tgt := 15) hx hb dX12_isPoint_11 (by decide) ?_
      exact g_zret (Wd := fun _ => []) (v := nI 1) () hB hx hb hr hlocks rfl (narrow_z (Or.inr rfl)) (Or.inl ⟨rfl, c_1, c_2⟩) dX12_isPoint_15
set_option maxRecDepth 100000 in
set_option maxHeartbeats 4000000 in
/-- kind(p, c) -/
theorem c_kind (l : Launch) (G : rG) (sc : Nat → Int32) (ar : Nat → Nat → Int32) (b : Nat) (hb9 : b ≤ 1000000) (a : aS) (hr0 : rRep b (sc, ar) a) (p0 c0 : Int32) : gM l G.1 (rT G) yX12_kind wsX12_kind ({ frames := 1, cells := 0, slots := 0, locals := 20 }) [.ref G.2.1, .int p0, .int c0] (rWs G (sc, ar)) (gQi G.1 (rT G) (fun (r : Int32) (u : rSt) => r = nI (spKind a p0 c0).2 ∧ rRep (b + 400) u (spKind a p0 c0).1) (rWs G)) 0 0 := by
  refine gM.of (cc := cX12_kind) (maxL := 3) (ret := (some .boolean)) (by decide) rfl (Nat.le_of_ble_eq_true rfl) ?_
  intro p e s m below meth c A ls hx hb hr hml hown hts hlocks hnm hB hl
  have hin : ∀ w ∈ wsX120, w ∈ wsX12_kind := fun w h => List.mem_cons_of_mem _ (List.mem_append_right _ h)
  have hl : lv_has ls 3 [(0, .ref G.2.1), (1, .int p0), (2, .int c0)] := hl
  obtain ⟨n0, n9, n10, n11, n12, n13, n14, n15, n16, n19, n20, n23, n25, n26, n27, n28, n29, f1, f2, f3, f21, f22, f24, rE, rW, rl1, rl2, rl3, rq0, rq1, rq2, rq3, ro1, ro2, ro3, rg1, rg2, rg3, rg4, rh4, rg5, rh5, rg6, rh6, rg7, rh7, rc1, rc2, rc3, rz1, rz2, rz3, rz4, rk, rV, rY, rA, rb⟩ := id hr0
  have n0 : sc 0 = nI (a.1 0) := n0
  have n9 : sc 9 = nI (a.1 9) := n9
  have n10 : sc 10 = nI (a.1 10) := n10
  have n11 : sc 11 = nI (a.1 11) := n11
  have n12 : sc 12 = nI (a.1 12) := n12
  have n13 : sc 13 = nI (a.1 13) := n13
  have n14 : sc 14 = nI (a.1 14) := n14
  have n15 : sc 15 = nI (a.1 15) := n15
  have n16 : sc 16 = nI (a.1 16) := n16
  have n19 : sc 19 = nI (a.1 19) := n19
  have n20 : sc 20 = nI (a.1 20) := n20
  have n23 : sc 23 = nI (a.1 23) := n23
  have n25 : sc 25 = nI (a.1 25) := n25
  have n26 : sc 26 = nI (a.1 26) := n26
  have n27 : sc 27 = nI (a.1 27) := n27
  have n28 : sc 28 = nI (a.1 28) := n28
  have n29 : sc 29 = nI (a.1 29) := n29
  have f1 : ar 1 = a.2.1 1 := f1
  have f2 : ar 2 = a.2.1 2 := f2
  have f3 : ar 3 = a.2.1 3 := f3
  have f21 : ar 21 = a.2.1 21 := f21
  have f22 : ar 22 = a.2.1 22 := f22
  have f24 : ar 24 = a.2.1 24 := f24
  have rE : evR (ar 4) (ar 5) (ar 6) (ar 7) a.2.2.1 := rE
  have rW : wtR (ar 8) a.2.2.1 a.2.2.2.1 := rW
  have rl1 : sc 30 = nI a.2.2.2.2.1.length := rl1
  have rl3 : lnR (ar 31) (ar 32) (ar 33) a.2.2.2.2.1 := rl3
  have rq0 : ar 34 0 = nI (a.1 100) := rq0
  have rq1 : ar 34 1 = nI (a.1 101) := rq1
  have ro1 : pfx (ar 17) a.2.2.2.2.2.1 := ro1
  have ro2 : sc 18 = nI a.2.2.2.2.2.1.length := ro2
  have rg1 : ∀ x, x < 2 → ar 36 x = nI (a.2.2.2.2.2.2 x).length := rg1
  have rg3 : ∀ x, x < 2 → ∀ j, j < (a.2.2.2.2.2.2 x).length → ar 35 (400 * x + j) = nI ((a.2.2.2.2.2.2 x).getD j 0) ∧ (a.2.2.2.2.2.2 x).getD j 0 < 256 := rg3
  have rg4 : ar 37 0 = nI (a.1 102) := rg4
  have rh4 : ar 37 1 = nI (a.1 103) := rh4
  have rg5 : ar 38 0 = nI (a.1 104) := rg5
  have rh5 : ar 38 1 = nI (a.1 105) := rh5
  have rc1 : pfxN (ar 43) (a.2.2.2.2.2.2 2) := rc1
  have rc2 : sc 44 = nI (a.2.2.2.2.2.2 2).length := rc2
  have rb2 : ∀ k, a.1 k ≤ b + 400 := fun k => Nat.le_trans (rb k) (by omega)
  have hsame : rRep (b + 400) (sc, ar) a := ⟨n0, n9, n10, n11, n12, n13, n14, n15, n16, n19, n20, n23, n25, n26, n27, n28, n29, f1, f2, f3, f21, f22, f24, rE, rW, rl1, rl2, rl3, rq0, rq1, rq2, rq3, ro1, ro2, ro3, rg1, rg2, rg3, rg4, rh4, rg5, rh5, rg6, rh6, rg7, rh7, rc1, rc2, rc3, rz1, rz2, rz3, rz4, rk, rV, rY, rA, rb2⟩
  have b0 := rb 0
  have b11 := rb 11
  have b14 := rb 14
  have b15 := rb 15
  have b16 := rb 16
  have b19 := rb 19
  have b23 := rb 23
  refine lv_iload_n hx hb dX12_kind_0 rfl (lv_at hl 1 rfl) ?_
  refine g_callS0 (av := [.int p0]) (rest := []) ⟨hx, hb, hml, hown, hts⟩ (c_isPoint l G p0) (va_cwS 1 hts gX12_kind_X12_isPoint rfl rfl rfl (by decide +kernel) ⟨Nat.le_of_ble_eq_true rfl, Nat.le_of_ble_eq_true rfl⟩) hB rfl hl.1 rfl (Nat.le_of_ble_eq_true rfl) dX12_kind_1 ⟨Nat.le_of_ble_eq_true rfl, Nat.le_of_ble_eq_true rfl⟩ (fun r9 H locs hw hB => ?_)
  have hpt := hw
  refine lv_if_eq (tgt := 16) hx hb dX12_kind_4 (by decide) (fun c_1 => ?_) (fun c_1 => ?_)
  · have c_1 := c_1
    have hq : p0 < 0 ∨ nI 10 ≤ p0 := by rcases hpt with ⟨h1, h2⟩ | ⟨h1, h2⟩; exact absurd (h1.symm.trans c_1) (by decide); exact h2
    have hs0 : spKind a p0 c0 = (a, 0) := by rw [spKind, if_pos (by rcases hq with h | h; exact Or.inl h; exact Or.inr (Or.inl h))]
    refine lv_iconst (v := nI 0) hx hb dX12_kind_16 (by decide) ?_
    exact g_zret (Wd := rWs G) (v := nI 0) (sc, ar) hB hx hb hr hlocks rfl (narrow_z (Or.inl rfl)) ⟨by rw [hs0], by rw [hs0]; exact hsame⟩ dX12_kind_17
  · have c_1 := c_1
    have hq : ¬ p0 < 0 ∧ ¬ nI 10 ≤ p0 := by rcases hpt with ⟨h1, h2⟩ | ⟨h1, h2⟩; exact h2; exact absurd h1 c_1
    refine lv_iload_n hx hb dX12_kind_7 rfl (lv_at hl 2 rfl) ?_
    refine lv_if_lt (tgt := 16) hx hb dX12_kind_8 (by decide) (fun c_2 => ?_) (fun c_2 => ?_)
    · have c_2 := c_2
      have hs0 : spKind a p0 c0 = (a, 0) := by rw [spKind, if_pos (Or.inr (Or.inr (Or.inl c_2)))]
      refine lv_iconst (v := nI 0) hx hb dX12_kind_16 (by decide) ?_
      exact g_zret (Wd := rWs G) (v := nI 0) (sc, ar) hB hx hb hr hlocks rfl (narrow_z (Or.inl rfl)) ⟨by rw [hs0], by rw [hs0]; exact hsame⟩ dX12_kind_17
    · have c_2 := c_2
      refine lv_iload_n hx hb dX12_kind_11 rfl (lv_at hl 2 rfl) ?_
      refine lv_iconst (v := nI 3) hx hb dX12_kind_12 (by decide) ?_
      refine lv_icmp_le (tgt := 18) hx hb dX12_kind_13 (by decide) (fun c_3 => ?_) (fun c_3 => ?_)
      · have c_3 := c_3
        have hs0 : spKind a p0 c0 = ((a.1, va_up a.2.1 1 (upd (a.2.1 1) p0.toNatClampNeg c0), a.2.2), 1) := by rw [spKind, if_neg (fun z => by rcases z with z | z | z | z; exact hq.1 z; exact hq.2 z; exact c_2 z; exact absurd c_3 (Int32.not_le.mpr z))]
        obtain ⟨j, hj, ej⟩ : ∃ j : Nat, j < 10 ∧ p0 = nI j := by rcases pk_ix p0 (n := 10) (by decide) with h | h | h; exact absurd h hq.1; exact absurd h hq.2; exact h
        subst ej
        rw [nI_clamp (by omega)] at hs0
        obtain ⟨k, hk, ek⟩ := nI_of2 (n := 3) rfl c_2 c_3
        subst ek
        refine lv_aload_n hx hb dX12_kind_18 rfl (lv_at hl 0 rfl) ?_
        refine r_get (u := (sc, ar)) (v := .ref (G.2.2.1 1)) hx hb hts hin hown hB 1 (by decide) (hts (.fieldLink RX12 7 "PointReportsModel" "classes" "[I") (by decide +kernel)) rfl rfl dX12_kind_19 ?_
        refine lv_iload_n hx hb dX12_kind_22 rfl (lv_at hl 1 rfl) ?_
        refine lv_iload_n hx hb dX12_kind_23 rfl (lv_at hl 2 rfl) ?_
        refine r_ast (u := (sc, ar)) (f := ar 1) (x := nI k) (va_up ar 1 (upd (ar 1) j (nI k))) hx hb hB 1 rfl j rfl (by omega) (by decide) rfl dX12_kind_24 (fun H locs hB => ?_)
        refine lv_iconst (v := nI 1) hx hb dX12_kind_25 (by decide) ?_
        exact g_zret (Wd := rWs G) (v := nI 1) (sc, va_up ar 1 (upd (ar 1) j (nI k))) hB hx hb hr hlocks rfl (narrow_z (Or.inr rfl)) ⟨by rw [hs0], by rw [hs0]; exact ⟨n0, n9, n10, n11, n12, n13, n14, n15, n16, n19, n20, n23, n25, n26, n27, n28, n29, (by show upd (ar 1) j (nI k) = upd (a.2.1 1) j (nI k); rw [f1]), f2, f3, f21, f22, f24, rE, rW, rl1, rl2, rl3, rq0, rq1, rq2, rq3, ro1, ro2, ro3, rg1, rg2, rg3, rg4, rh4, rg5, rh5, rg6, rh6, rg7, rh7, rc1, rc2, rc3, rz1, rz2, rz3, rz4, (fun p hp => by by_cases hz : p = j; exact ⟨k, hk, by subst hz; exact upd_self⟩; obtain ⟨c, h1, h2⟩ := rk p hp; exact ⟨c, h1, (upd_ne hz).trans h2⟩), rV, rY, rA, rb2⟩⟩ dX12_kind_26
      · have c_3 := c_3
        have hs0 : spKind a p0 c0 = (a, 0) := by rw [spKind, if_pos (Or.inr (Or.inr (Or.inr (Int32.not_le.mp c_3))))]
        refine lv_iconst (v := nI 0) hx hb dX12_kind_16 (by decide) ?_
        exact g_zret (Wd := rWs G) (v := nI 0) (sc, ar) hB hx hb hr hlocks rfl (narrow_z (Or.inl rfl)) ⟨by rw [hs0], by rw [hs0]; exact hsame⟩ dX12_kind_17
set_option maxRecDepth 100000 in
set_option maxHeartbeats 4000000 in
/-- reports(may) -/
theorem c_reports (l : Launch) (G : rG) (sc : Nat → Int32) (ar : Nat → Nat → Int32) (b : Nat) (hb9 : b ≤ 1000000) (a : aS) (hr0 : rRep b (sc, ar) a) (v : Nat) (hv : v ≤ 1) : gM l G.1 (rT G) yX12_reports wsX12_reports ({ frames := 1, cells := 0, slots := 0, locals := 21 }) [.ref G.2.1, .int (nI v)] (rWs G (sc, ar)) (gQv G.1 (rT G) (fun u : rSt => rRep (b + 400) u (spReports a v)) (rWs G)) 0 0 := by
  refine gM.of (cc := cX12_reports) (maxL := 2) (ret := none) (by decide) rfl (Nat.le_of_ble_eq_true rfl) ?_
  intro p e s m below meth c A ls hx hb hr hml hown hts hlocks hnm hB hl
  have hin : ∀ w ∈ wsX120, w ∈ wsX12_reports := fun w h => List.mem_cons_of_mem _ (List.mem_append_right _ h)
  have hl : lv_has ls 2 [(0, .ref G.2.1), (1, .int (nI v))] := hl
  obtain ⟨n0, n9, n10, n11, n12, n13, n14, n15, n16, n19, n20, n23, n25, n26, n27, n28, n29, f1, f2, f3, f21, f22, f24, rE, rW, rl1, rl2, rl3, rq0, rq1, rq2, rq3, ro1, ro2, ro3, rg1, rg2, rg3, rg4, rh4, rg5, rh5, rg6, rh6, rg7, rh7, rc1, rc2, rc3, rz1, rz2, rz3, rz4, rk, rV, rY, rA, rb⟩ := id hr0
  have n0 : sc 0 = nI (a.1 0) := n0
  have n9 : sc 9 = nI (a.1 9) := n9
  have n10 : sc 10 = nI (a.1 10) := n10
  have n11 : sc 11 = nI (a.1 11) := n11
  have n12 : sc 12 = nI (a.1 12) := n12
  have n13 : sc 13 = nI (a.1 13) := n13
  have n14 : sc 14 = nI (a.1 14) := n14
  have n15 : sc 15 = nI (a.1 15) := n15
  have n16 : sc 16 = nI (a.1 16) := n16
  have n19 : sc 19 = nI (a.1 19) := n19
  have n20 : sc 20 = nI (a.1 20) := n20
  have n23 : sc 23 = nI (a.1 23) := n23
  have n25 : sc 25 = nI (a.1 25) := n25
  have n26 : sc 26 = nI (a.1 26) := n26
  have n27 : sc 27 = nI (a.1 27) := n27
  have n28 : sc 28 = nI (a.1 28) := n28
  have n29 : sc 29 = nI (a.1 29) := n29
  have f1 : ar 1 = a.2.1 1 := f1
  have f2 : ar 2 = a.2.1 2 := f2
  have f3 : ar 3 = a.2.1 3 := f3
  have f21 : ar 21 = a.2.1 21 := f21
  have f22 : ar 22 = a.2.1 22 := f22
  have f24 : ar 24 = a.2.1 24 := f24
  have rE : evR (ar 4) (ar 5) (ar 6) (ar 7) a.2.2.1 := rE
  have rW : wtR (ar 8) a.2.2.1 a.2.2.2.1 := rW
  have rl1 : sc 30 = nI a.2.2.2.2.1.length := rl1
  have rl3 : lnR (ar 31) (ar 32) (ar 33) a.2.2.2.2.1 := rl3
  have rq0 : ar 34 0 = nI (a.1 100) := rq0
  have rq1 : ar 34 1 = nI (a.1 101) := rq1
  have ro1 : pfx (ar 17) a.2.2.2.2.2.1 := ro1
  have ro2 : sc 18 = nI a.2.2.2.2.2.1.length := ro2
  have rg1 : ∀ x, x < 2 → ar 36 x = nI (a.2.2.2.2.2.2 x).length := rg1
  have rg3 : ∀ x, x < 2 → ∀ j, j < (a.2.2.2.2.2.2 x).length → ar 35 (400 * x + j) = nI ((a.2.2.2.2.2.2 x).getD j 0) ∧ (a.2.2.2.2.2.2 x).getD j 0 < 256 := rg3
  have rg4 : ar 37 0 = nI (a.1 102) := rg4
  have rh4 : ar 37 1 = nI (a.1 103) := rh4
  have rg5 : ar 38 0 = nI (a.1 104) := rg5
  have rh5 : ar 38 1 = nI (a.1 105) := rh5
  have rc1 : pfxN (ar 43) (a.2.2.2.2.2.2 2) := rc1
  have rc2 : sc 44 = nI (a.2.2.2.2.2.2 2).length := rc2
  have rb2 : ∀ k, a.1 k ≤ b + 400 := fun k => Nat.le_trans (rb k) (by omega)
  have hsame : rRep (b + 400) (sc, ar) a := ⟨n0, n9, n10, n11, n12, n13, n14, n15, n16, n19, n20, n23, n25, n26, n27, n28, n29, f1, f2, f3, f21, f22, f24, rE, rW, rl1, rl2, rl3, rq0, rq1, rq2, rq3, ro1, ro2, ro3, rg1, rg2, rg3, rg4, rh4, rg5, rh5, rg6, rh6, rg7, rh7, rc1, rc2, rc3, rz1, rz2, rz3, rz4, rk, rV, rY, rA, rb2⟩
  have b0 := rb 0
  have b11 := rb 11
  have b14 := rb 14
  have b15 := rb 15
  have b16 := rb 16
  have b19 := rb 19
  have b23 := rb 23
  refine lv_aload_n hx hb dX12_reports_0 rfl (lv_at hl 0 rfl) ?_
  refine lv_iload_n hx hb dX12_reports_1 rfl (lv_at hl 1 rfl) ?_
  refine r_put (u := (sc, ar)) (v := nI v) (upd sc 13 (nI v)) hx hb hts hin hown hB 13 (by decide) (hts (.fieldLink RX12 211 "PointReportsModel" "mayReport" "Z") (by decide +kernel)) rfl (ty := .boolean) rfl rfl (narrow_z (by rcases (show v = 0 ∨ v = 1 by omega) with h | h <;> rw [h]; exact Or.inl rfl; exact Or.inr rfl)) (fits_z (by rcases (show v = 0 ∨ v = 1 by omega) with h | h <;> rw [h]; exact Or.inl rfl; exact Or.inr rfl)) rfl dX12_reports_2 (fun H locs hB => ?_)
  refine lv_iload_n hx hb dX12_reports_5 rfl (lv_at hl 1 rfl) ?_
  refine lv_if_ne (tgt := 21) hx hb dX12_reports_6 (by decide) (fun c_1 => ?_) (fun c_1 => ?_)
  · have c_1 : ¬ v = 0 := fun h9 => c_1 ((nI_eq (a := v) (b := 0) (by omega) (by omega)).mpr h9)
    have hs0 : spReports a v = (va_up a.1 13 v, a.2) := by rw [spReports, if_neg (fun z => c_1 z.1)]
    rw [hs0]
    exact g_vret (Wd := rWs G) (upd sc 13 (nI v), ar) hB hx hb hr hlocks rfl ⟨n0, n9, n10, n11, n12, rfl, n14, n15, n16, n19, n20, n23, n25, n26, n27, n28, n29, f1, f2, f3, f21, f22, f24, rE, rW, rl1, rl2, rl3, rq0, rq1, rq2, rq3, ro1, ro2, ro3, rg1, rg2, rg3, rg4, rh4, rg5, rh5, rg6, rh6, rg7, rh7, rc1, rc2, rc3, rz1, rz2, hv, rz4, rk, rV, rY, rA, (va_up_le rb2 (Nat.le_refl _) (by omega))⟩ dX12_reports_21
  · have c_1 : v = 0 := (nI_eq (a := v) (b := 0) (by omega) (by omega)).mp c_1
    refine lv_aload_n hx hb dX12_reports_9 rfl (lv_at hl 0 rfl) ?_
    refine r_get (u := (upd sc 13 (nI v), ar)) (v := .int (sc 11)) hx hb hts hin hown hB 11 (by decide) (hts (.fieldLink RX12 147 "PointReportsModel" "waiting" "I") (by decide +kernel)) rfl rfl dX12_reports_10 ?_
    refine g_top (y := nI (a.1 11)) n11 ?_
    refine lv_iconst (v := nI 2) hx hb dX12_reports_13 (by decide) ?_
    refine lv_icmp_ne (tgt := 21) hx hb dX12_reports_14 (by decide) (fun c_2 => ?_) (fun c_2 => ?_)
    · have c_2 : ¬ (a.1 11) = 2 := fun h9 => c_2 ((nI_eq (a := (a.1 11)) (b := 2) (by omega) (by omega)).mpr h9)
      have hs0 : spReports a v = (va_up a.1 13 v, a.2) := by rw [spReports, if_neg (fun z => c_2 z.2)]
      rw [hs0]
      exact g_vret (Wd := rWs G) (upd sc 13 (nI v), ar) hB hx hb hr hlocks rfl ⟨n0, n9, n10, n11, n12, rfl, n14, n15, n16, n19, n20, n23, n25, n26, n27, n28, n29, f1, f2, f3, f21, f22, f24, rE, rW, rl1, rl2, rl3, rq0, rq1, rq2, rq3, ro1, ro2, ro3, rg1, rg2, rg3, rg4, rh4, rg5, rh5, rg6, rh6, rg7, rh7, rc1, rc2, rc3, rz1, rz2, hv, rz4, rk, rV, rY, rA, (va_up_le rb2 (Nat.le_refl _) (by omega))⟩ dX12_reports_21
    · have c_2 : (a.1 11) = 2 := (nI_eq (a := (a.1 11)) (b := 2) (by omega) (by omega)).mp c_2
      refine lv_aload_n hx hb dX12_reports_17 rfl (lv_at hl 0 rfl) ?_
      have hs0 : spReports a v = spNone (va_up a.1 13 v, a.2) := by rw [spReports, if_pos ⟨c_1, c_2⟩]
      rw [hs0]
      refine g_callv (av := []) (rest := []) ⟨hx, hb, hml, hown, hts⟩ (c_noneWaits l G (upd sc 13 (nI v)) ar) (cwV 0 hts gX12_reports_X12_noneWaits rfl rfl rfl (by decide +kernel) ⟨Nat.le_of_ble_eq_true rfl, Nat.le_of_ble_eq_true rfl⟩) hB (q0 := 0) (ci := 9) rfl rfl rfl rfl hl.1 rfl (Nat.le_of_ble_eq_true rfl) dX12_reports_18 ⟨Nat.le_of_ble_eq_true rfl, Nat.le_of_ble_eq_true rfl⟩ (fun u H locs hw hB => ?_)
      obtain ⟨wz, hwz, rfl⟩ := hw
      have hB : gB G.1 (rT G) A s H locs (rWs G (upd (upd sc 11 (nI 0)) 13 (nI v), va_up ar 8 wz)) := hB
      exact g_vret (Wd := rWs G) (upd (upd sc 11 (nI 0)) 13 (nI v), va_up ar 8 wz) hB hx hb hr hlocks rfl ⟨n0, n9, n10, rfl, n12, rfl, n14, n15, n16, n19, n20, n23, n25, n26, n27, n28, n29, f1, f2, f3, f21, f22, f24, rE, (fun c h1 h3 j hj => by show wz (8 * c + j) = if j < 0 then 1 else 0; rw [if_neg (Nat.not_lt_zero _)]; exact hwz _ (by have h8 := (rE c h1 h3).2.1; have hj2 : j < (a.2.2.1 c).length := hj; omega)), rl1, rl2, rl3, rq0, rq1, rq2, rq3, ro1, ro2, ro3, rg1, rg2, rg3, rg4, rh4, rg5, rh5, rg6, rh6, rg7, rh7, rc1, rc2, rc3, rz1, (Nat.zero_le 2), hv, rz4, rk, (fun _ => Nat.zero_le _), rY, rA, (va_up_le (va_up_le rb2 (Nat.le_refl _) (by omega)) (Nat.le_refl _) (Nat.zero_le _))⟩ dX12_reports_21
set_option maxRecDepth 100000 in
set_option maxHeartbeats 4000000 in
/-- tick() -/
theorem c_tick (l : Launch) (G : rG) (sc : Nat → Int32) (ar : Nat → Nat → Int32) (b : Nat) (hb9 : b ≤ 1000000) (a : aS) (hr0 : rRep b (sc, ar) a) : gM l G.1 (rT G) yX12_tick wsX12_tick ({ frames := 5, cells := 0, slots := 0, locals := 118 }) [.ref G.2.1] (rWs G (sc, ar)) (gQi G.1 (rT G) (fun (r : Int32) (u : rSt) => r = nI ((spTick a).1 0) ∧ rRep (b + 400) u (spTick a)) (rWs G)) 0 0 := by
  refine gM.of (cc := cX12_tick) (maxL := 1) (ret := (some .int)) (by decide) rfl (Nat.le_of_ble_eq_true rfl) ?_
  intro p e s m below meth c A ls hx hb hr hml hown hts hlocks hnm hB hl
  have hin : ∀ w ∈ wsX120, w ∈ wsX12_tick := fun w h => List.mem_cons_of_mem _ (List.mem_append_right _ h)
  have hl : lv_has ls 1 [(0, .ref G.2.1)] := hl
  obtain ⟨n0, n9, n10, n11, n12, n13, n14, n15, n16, n19, n20, n23, n25, n26, n27, n28, n29, f1, f2, f3, f21, f22, f24, rE, rW, rl1, rl2, rl3, rq0, rq1, rq2, rq3, ro1, ro2, ro3, rg1, rg2, rg3, rg4, rh4, rg5, rh5, rg6, rh6, rg7, rh7, rc1, rc2, rc3, rz1, rz2, rz3, rz4, rk, rV, rY, rA, rb⟩ := id hr0
  have n0 : sc 0 = nI (a.1 0) := n0
  have n9 : sc 9 = nI (a.1 9) := n9
  have n10 : sc 10 = nI (a.1 10) := n10
  have n11 : sc 11 = nI (a.1 11) := n11
  have n12 : sc 12 = nI (a.1 12) := n12
  have n13 : sc 13 = nI (a.1 13) := n13
  have n14 : sc 14 = nI (a.1 14) := n14
  have n15 : sc 15 = nI (a.1 15) := n15
  have n16 : sc 16 = nI (a.1 16) := n16
  have n19 : sc 19 = nI (a.1 19) := n19
  have n20 : sc 20 = nI (a.1 20) := n20
  have n23 : sc 23 = nI (a.1 23) := n23
  have n25 : sc 25 = nI (a.1 25) := n25
  have n26 : sc 26 = nI (a.1 26) := n26
  have n27 : sc 27 = nI (a.1 27) := n27
  have n28 : sc 28 = nI (a.1 28) := n28
  have n29 : sc 29 = nI (a.1 29) := n29
  have f1 : ar 1 = a.2.1 1 := f1
  have f2 : ar 2 = a.2.1 2 := f2
  have f3 : ar 3 = a.2.1 3 := f3
  have f21 : ar 21 = a.2.1 21 := f21
  have f22 : ar 22 = a.2.1 22 := f22
  have f24 : ar 24 = a.2.1 24 := f24
  have rE : evR (ar 4) (ar 5) (ar 6) (ar 7) a.2.2.1 := rE
  have rW : wtR (ar 8) a.2.2.1 a.2.2.2.1 := rW
  have rl1 : sc 30 = nI a.2.2.2.2.1.length := rl1
  have rl3 : lnR (ar 31) (ar 32) (ar 33) a.2.2.2.2.1 := rl3
  have rq0 : ar 34 0 = nI (a.1 100) := rq0
  have rq1 : ar 34 1 = nI (a.1 101) := rq1
  have ro1 : pfx (ar 17) a.2.2.2.2.2.1 := ro1
  have ro2 : sc 18 = nI a.2.2.2.2.2.1.length := ro2
  have rg1 : ∀ x, x < 2 → ar 36 x = nI (a.2.2.2.2.2.2 x).length := rg1
  have rg3 : ∀ x, x < 2 → ∀ j, j < (a.2.2.2.2.2.2 x).length → ar 35 (400 * x + j) = nI ((a.2.2.2.2.2.2 x).getD j 0) ∧ (a.2.2.2.2.2.2 x).getD j 0 < 256 := rg3
  have rg4 : ar 37 0 = nI (a.1 102) := rg4
  have rh4 : ar 37 1 = nI (a.1 103) := rh4
  have rg5 : ar 38 0 = nI (a.1 104) := rg5
  have rh5 : ar 38 1 = nI (a.1 105) := rh5
  have rc1 : pfxN (ar 43) (a.2.2.2.2.2.2 2) := rc1
  have rc2 : sc 44 = nI (a.2.2.2.2.2.2 2).length := rc2
  have rb2 : ∀ k, a.1 k ≤ b + 400 := fun k => Nat.le_trans (rb k) (by omega)
  have hsame : rRep (b + 400) (sc, ar) a := ⟨n0, n9, n10, n11, n12, n13, n14, n15, n16, n19, n20, n23, n25, n26, n27, n28, n29, f1, f2, f3, f21, f22, f24, rE, rW, rl1, rl2, rl3, rq0, rq1, rq2, rq3, ro1, ro2, ro3, rg1, rg2, rg3, rg4, rh4, rg5, rh5, rg6, rh6, rg7, rh7, rc1, rc2, rc3, rz1, rz2, rz3, rz4, rk, rV, rY, rA, rb2⟩
  have b0 := rb 0
  have b11 := rb 11
  have b14 := rb 14
  have b15 := rb 15
  have b16 := rb 16
  have b19 := rb 19
  have b23 := rb 23
  have hs0 : spTick a = spTick1 ((va_up a.1 0 (a.1 0 + 1)), a.2) := rfl
  refine lv_aload_n hx hb dX12_tick_0 rfl (lv_at hl 0 rfl) ?_
  refine lv_dup hx hb dX12_tick_1 rfl ?_
  refine r_get (u := (sc, ar)) (v := .int (sc 0)) hx hb hts hin hown hB 0 (by decide) (hts (.fieldLink RX12 196 "PointReportsModel" "time" "I") (by decide +kernel)) rfl rfl dX12_tick_2 ?_
  refine g_top (y := nI (a.1 0)) n0 ?_
  refine lv_iconst (v := nI 1) hx hb dX12_tick_5 (by decide) ?_
  refine lv_iadd hx hb dX12_tick_6 ?_
  refine g_top (y := nI ((a.1 0) + 1)) (nI_add _ _) ?_
  refine r_put (u := (sc, ar)) (v := nI ((a.1 0) + 1)) (upd sc 0 (nI ((a.1 0) + 1))) hx hb hts hin hown hB 0 (by decide) (hts (.fieldLink RX12 196 "PointReportsModel" "time" "I") (by decide +kernel)) rfl (ty := .int) rfl rfl rfl rfl rfl dX12_tick_7 (fun H locs hB => ?_)
  refine lv_aload_n hx hb dX12_tick_10 rfl (lv_at hl 0 rfl) ?_
  refine r_get (u := (upd sc 0 (nI ((a.1 0) + 1)), ar)) (v := .int (sc 11)) hx hb hts hin hown hB 11 (by decide) (hts (.fieldLink RX12 147 "PointReportsModel" "waiting" "I") (by decide +kernel)) rfl rfl dX12_tick_11 ?_
  refine g_top (y := nI (a.1 11)) n11 ?_
  refine lv_iconst (v := nI 2) hx hb dX12_tick_14 (by decide) ?_
  refine lv_icmp_ne (tgt := 53) hx hb dX12_tick_15 (by decide) (fun c_1 => ?_) (fun c_1 => ?_)
  · have c_1 : ¬ (a.1 11) = 2 := fun h9 => c_1 ((nI_eq (a := (a.1 11)) (b := 2) (by omega) (by omega)).mpr h9)
    refine lv_aload_n hx hb dX12_tick_53 rfl (lv_at hl 0 rfl) ?_
    refine r_get (u := (upd sc 0 (nI ((a.1 0) + 1)), ar)) (v := .int (sc 13)) hx hb hts hin hown hB 13 (by decide) (hts (.fieldLink RX12 211 "PointReportsModel" "mayReport" "Z") (by decide +kernel)) rfl rfl dX12_tick_54 ?_
    refine g_top (y := nI (a.1 13)) n13 ?_
    have hs1 : spTick a = if a.1 13 ≠ 0 ∧ 0 < (a.2.2.1 1).length + (a.2.2.1 2).length + (a.2.2.1 3).length then spMake ((va_up a.1 0 (a.1 0 + 1)), a.2) else ((va_up a.1 0 (a.1 0 + 1)), a.2) := by rw [hs0, spTick1, if_neg (show ¬ (va_up a.1 0 (a.1 0 + 1)) 11 = 2 from c_1)]; rfl
    refine lv_if_eq (tgt := 71) hx hb dX12_tick_57 (by decide) (fun c_2 => ?_) (fun c_2 => ?_)
    · have c_2 : (a.1 13) = 0 := (nI_eq (a := (a.1 13)) (b := 0) (by omega) (by omega)).mp c_2
      have hs2 : spTick a = ((va_up a.1 0 (a.1 0 + 1)), a.2) := by rw [hs1, if_neg (fun z => z.1 c_2)]
      refine lv_aload_n hx hb dX12_tick_71 rfl (lv_at hl 0 rfl) ?_
      refine r_get (u := (upd sc 0 (nI ((a.1 0) + 1)), ar)) (v := .int (nI ((a.1 0) + 1))) hx hb hts hin hown hB 0 (by decide) (hts (.fieldLink RX12 196 "PointReportsModel" "time" "I") (by decide +kernel)) rfl rfl dX12_tick_72 ?_
      have hB : gB G.1 (rT G) A s H locs (rWs G (upd sc 0 (nI ((a.1 0) + 1)), ar)) := hB
      have hz : (spTick a).1 0 = a.1 0 + 1 := by rw [hs2]; rfl
      exact g_iret (Wd := rWs G) (v := nI ((a.1 0) + 1)) (upd sc 0 (nI ((a.1 0) + 1)), ar) hB hx hb hr hlocks rfl ⟨by rw [hz], by rw [hs2]; exact ⟨rfl, n9, n10, n11, n12, n13, n14, n15, n16, n19, n20, n23, n25, n26, n27, n28, n29, f1, f2, f3, f21, f22, f24, rE, rW, rl1, rl2, rl3, rq0, rq1, rq2, rq3, ro1, ro2, ro3, rg1, rg2, rg3, rg4, rh4, rg5, rh5, rg6, rh6, rg7, rh7, rc1, rc2, rc3, rz1, rz2, rz3, rz4, rk, rV, rY, rA, (va_up_le rb2 (Nat.le_refl _) (by omega))⟩⟩ dX12_tick_75
    · have c_2 : ¬ (a.1 13) = 0 := fun h9 => c_2 ((nI_eq (a := (a.1 13)) (b := 0) (by omega) (by omega)).mpr h9)
      refine lv_aload_n hx hb dX12_tick_60 rfl (lv_at hl 0 rfl) ?_
      refine g_calli (av := []) (rest := []) ⟨hx, hb, hml, hown, hts⟩ (c_hasEvents l G (upd sc 0 (nI ((a.1 0) + 1))) ar (a.2.2.1 1).length (a.2.2.1 2).length (a.2.2.1 3).length (rE 1 (by decide) (by decide)).1 (rE 2 (by decide) (by decide)).1 (rE 3 (by decide) (by decide)).1 ⟨(rE 1 (by decide) (by decide)).2.1, (rE 2 (by decide) (by decide)).2.1, (rE 3 (by decide) (by decide)).2.1⟩) (cwV 0 hts gX12_tick_X12_hasEvents rfl rfl rfl (by decide +kernel) ⟨Nat.le_of_ble_eq_true rfl, Nat.le_of_ble_eq_true rfl⟩) hB (q0 := 0) (ci := 9) rfl rfl rfl rfl hl.1 rfl (Nat.le_of_ble_eq_true rfl) dX12_tick_61 ⟨Nat.le_of_ble_eq_true rfl, Nat.le_of_ble_eq_true rfl⟩ (fun r9 u H locs hw hB => ?_)
      obtain ⟨rfl, rfl⟩ := hw
      have hB : gB G.1 (rT G) A s H locs (rWs G (upd sc 0 (nI ((a.1 0) + 1)), ar)) := hB
      have hh1 : (if 0 < (a.2.2.1 1).length + (a.2.2.1 2).length + (a.2.2.1 3).length then 1 else 0) ≤ 1 := by split <;> omega
      refine lv_if_eq (tgt := 71) hx hb dX12_tick_64 (by decide) (fun c_3 => ?_) (fun c_3 => ?_)
      · have c_3 : (if 0 < (a.2.2.1 1).length + (a.2.2.1 2).length + (a.2.2.1 3).length then 1 else 0) = 0 := (nI_eq (a := (if 0 < (a.2.2.1 1).length + (a.2.2.1 2).length + (a.2.2.1 3).length then 1 else 0)) (b := 0) (by omega) (by omega)).mp c_3
        have hs2 : spTick a = ((va_up a.1 0 (a.1 0 + 1)), a.2) := by rw [hs1, if_neg (fun z => by rw [if_pos z.2] at c_3; omega)]
        refine lv_aload_n hx hb dX12_tick_71 rfl (lv_at hl 0 rfl) ?_
        refine r_get (u := (upd sc 0 (nI ((a.1 0) + 1)), ar)) (v := .int (nI ((a.1 0) + 1))) hx hb hts hin hown hB 0 (by decide) (hts (.fieldLink RX12 196 "PointReportsModel" "time" "I") (by decide +kernel)) rfl rfl dX12_tick_72 ?_
        have hB : gB G.1 (rT G) A s H locs (rWs G (upd sc 0 (nI ((a.1 0) + 1)), ar)) := hB
        have hz : (spTick a).1 0 = a.1 0 + 1 := by rw [hs2]; rfl
        exact g_iret (Wd := rWs G) (v := nI ((a.1 0) + 1)) (upd sc 0 (nI ((a.1 0) + 1)), ar) hB hx hb hr hlocks rfl ⟨by rw [hz], by rw [hs2]; exact ⟨rfl, n9, n10, n11, n12, n13, n14, n15, n16, n19, n20, n23, n25, n26, n27, n28, n29, f1, f2, f3, f21, f22, f24, rE, rW, rl1, rl2, rl3, rq0, rq1, rq2, rq3, ro1, ro2, ro3, rg1, rg2, rg3, rg4, rh4, rg5, rh5, rg6, rh6, rg7, rh7, rc1, rc2, rc3, rz1, rz2, rz3, rz4, rk, rV, rY, rA, (va_up_le rb2 (Nat.le_refl _) (by omega))⟩⟩ dX12_tick_75
      · have c_3 : ¬ (if 0 < (a.2.2.1 1).length + (a.2.2.1 2).length + (a.2.2.1 3).length then 1 else 0) = 0 := fun h9 => c_3 ((nI_eq (a := (if 0 < (a.2.2.1 1).length + (a.2.2.1 2).length + (a.2.2.1 3).length then 1 else 0)) (b := 0) (by omega) (by omega)).mpr h9)
        have he9 : 0 < (a.2.2.1 1).length + (a.2.2.1 2).length + (a.2.2.1 3).length := Classical.byContradiction (fun h => c_3 (by rw [if_neg h]))
        refine lv_aload_n hx hb dX12_tick_67 rfl (lv_at hl 0 rfl) ?_
        refine g_callv (av := []) (rest := []) ⟨hx, hb, hml, hown, hts⟩ (c_makeReport l G (upd sc 0 (nI ((a.1 0) + 1))) ar a.2.2.1 rE (a.1 14) n14 (by omega) a.2.2.2.2.1 rl3 rl1 rl2 (a.1 101) rq1 rq3) (cwV 0 hts gX12_tick_X12_makeReport rfl rfl rfl (by decide +kernel) ⟨Nat.le_of_ble_eq_true rfl, Nat.le_of_ble_eq_true rfl⟩) hB (q0 := 0) (ci := 9) rfl rfl rfl rfl hl.1 rfl (Nat.le_of_ble_eq_true rfl) dX12_tick_68 ⟨Nat.le_of_ble_eq_true rfl, Nat.le_of_ble_eq_true rfl⟩ (fun u H locs hw hB => ?_)
        obtain ⟨f5, g5, wa, fr, le, si, nu, s0, s1, s2, s3, s4, s5, s6, rfl⟩ := hw
        have hB : gB G.1 (rT G) A s H locs (rWs G (upd (upd (upd (upd (upd (upd (upd (upd (upd sc 0 (nI ((a.1 0) + 1))) 11 (nI 2)) 12 (nI (a.1 14 % 16))) 14 (nI (a.1 14 + 1))) 15 (nI (a.1 0 + 1))) 16 (nI 0)) 18 (nI ((rpO a.2.2.1 (a.1 14) (sc 9)).length))) 30 (nI ((sndF 0 (rpO a.2.2.1 (a.1 14) (sc 9)) a.2.2.2.2.1 (a.1 101)).1.length))) 40 (nI ((rpO a.2.2.1 (a.1 14) (sc 9)).length)), va_up (va_up (va_up (va_up (va_up (va_up (va_up ar 8 wa) 17 g5) 31 fr) 32 le) 33 si) 34 nu) 39 f5)) := hB
        have s0 : pfx g5 (rpO a.2.2.1 (a.1 14) (sc 9)) := s0
        have s2 : lnR fr le si (sndF 0 (rpO a.2.2.1 (a.1 14) (sc 9)) a.2.2.2.2.1 (a.1 101)).1 := s2
        have s3 : (sndF 0 (rpO a.2.2.1 (a.1 14) (sc 9)) a.2.2.2.2.1 (a.1 101)).1.length ≤ 40 := s3
        have s4 : (sndF 0 (rpO a.2.2.1 (a.1 14) (sc 9)) a.2.2.2.2.1 (a.1 101)).2 < 64 := s4
        have s5 : nu 1 = nI (sndF 0 (rpO a.2.2.1 (a.1 14) (sc 9)) a.2.2.2.2.1 (a.1 101)).2 := s5
        have e9 : sc 9 = nI (a.1 9) := n9
        rw [e9] at s0 s2 s3 s4 s5 hB
        have o9 := rpO_len a.2.2.1 (a.1 14) (nI (a.1 9))
        have hs2 : spTick a = spMake ((va_up a.1 0 (a.1 0 + 1)), a.2) := by rw [hs1, if_pos ⟨c_2, he9⟩]
        refine lv_aload_n hx hb dX12_tick_71 rfl (lv_at hl 0 rfl) ?_
        refine r_get (u := (upd (upd (upd (upd (upd (upd (upd (upd (upd sc 0 (nI ((a.1 0) + 1))) 11 (nI 2)) 12 (nI (a.1 14 % 16))) 14 (nI (a.1 14 + 1))) 15 (nI (a.1 0 + 1))) 16 (nI 0)) 18 (nI ((rpO a.2.2.1 (a.1 14) (nI (a.1 9))).length))) 30 (nI ((sndF 0 (rpO a.2.2.1 (a.1 14) (nI (a.1 9))) a.2.2.2.2.1 (a.1 101)).1.length))) 40 (nI ((rpO a.2.2.1 (a.1 14) (nI (a.1 9))).length)), va_up (va_up (va_up (va_up (va_up (va_up (va_up ar 8 wa) 17 g5) 31 fr) 32 le) 33 si) 34 nu) 39 f5)) (v := .int (nI ((a.1 0) + 1))) hx hb hts hin hown hB 0 (by decide) (hts (.fieldLink RX12 196 "PointReportsModel" "time" "I") (by decide +kernel)) rfl rfl dX12_tick_72 ?_
        have hB : gB G.1 (rT G) A s H locs (rWs G (upd (upd (upd (upd (upd (upd (upd (upd (upd sc 0 (nI ((a.1 0) + 1))) 11 (nI 2)) 12 (nI (a.1 14 % 16))) 14 (nI (a.1 14 + 1))) 15 (nI (a.1 0 + 1))) 16 (nI 0)) 18 (nI ((rpO a.2.2.1 (a.1 14) (nI (a.1 9))).length))) 30 (nI ((sndF 0 (rpO a.2.2.1 (a.1 14) (nI (a.1 9))) a.2.2.2.2.1 (a.1 101)).1.length))) 40 (nI ((rpO a.2.2.1 (a.1 14) (nI (a.1 9))).length)), va_up (va_up (va_up (va_up (va_up (va_up (va_up ar 8 wa) 17 g5) 31 fr) 32 le) 33 si) 34 nu) 39 f5)) := hB
        have hz : (spTick a).1 0 = a.1 0 + 1 := by rw [hs2]; rfl
        exact g_iret (Wd := rWs G) (v := nI ((a.1 0) + 1)) (upd (upd (upd (upd (upd (upd (upd (upd (upd sc 0 (nI ((a.1 0) + 1))) 11 (nI 2)) 12 (nI (a.1 14 % 16))) 14 (nI (a.1 14 + 1))) 15 (nI (a.1 0 + 1))) 16 (nI 0)) 18 (nI ((rpO a.2.2.1 (a.1 14) (nI (a.1 9))).length))) 30 (nI ((sndF 0 (rpO a.2.2.1 (a.1 14) (nI (a.1 9))) a.2.2.2.2.1 (a.1 101)).1.length))) 40 (nI ((rpO a.2.2.1 (a.1 14) (nI (a.1 9))).length)), va_up (va_up (va_up (va_up (va_up (va_up (va_up ar 8 wa) 17 g5) 31 fr) 32 le) 33 si) 34 nu) 39 f5) hB hx hb hr hlocks rfl ⟨by rw [hz], by rw [hs2]; exact ⟨rfl, n9, n10, rfl, rfl, n13, rfl, rfl, rfl, n19, n20, n23, n25, n26, n27, n28, n29, f1, f2, f3, f21, f22, f24, rE, s1, rfl, s3, s2, (s6.trans rq0), s5, rq2, s4, s0, rfl, (show (rpO a.2.2.1 (a.1 14) (nI (a.1 9))).length ≤ 200 by omega), rg1, rg2, rg3, rg4, rh4, rg5, rh5, rg6, rh6, rg7, rh7, rc1, rc2, rc3, rz1, (Nat.le_refl 2), rz3, rz4, rk, (fun c => rpS_wt a.2.2.1 (rpH (a.1 14 % 16)) 3 c), (sndF_ok (by decide) rY), rA, (va_up_le (va_up_le (va_up_le (va_up_le (va_up_le (va_up_le (va_up_le rb2 (Nat.le_refl _) (by omega)) (Nat.le_refl _) (by omega)) (Nat.le_refl _) (show a.1 14 % 16 ≤ b + 400 by omega)) (Nat.le_refl _) (show a.1 14 + 1 ≤ b + 400 by omega)) (Nat.le_refl _) (show a.1 0 + 1 ≤ b + 400 by omega)) (Nat.le_refl _) (by omega)) (Nat.le_refl _) (show (sndF 0 (rpO a.2.2.1 (a.1 14) (nI (a.1 9))) a.2.2.2.2.1 (a.1 101)).2 ≤ b + 400 by omega))⟩⟩ dX12_tick_75
  · have c_1 : (a.1 11) = 2 := (nI_eq (a := (a.1 11)) (b := 2) (by omega) (by omega)).mp c_1
    refine lv_aload_n hx hb dX12_tick_18 rfl (lv_at hl 0 rfl) ?_
    refine r_get (u := (upd sc 0 (nI ((a.1 0) + 1)), ar)) (v := .int (nI ((a.1 0) + 1))) hx hb hts hin hown hB 0 (by decide) (hts (.fieldLink RX12 196 "PointReportsModel" "time" "I") (by decide +kernel)) rfl rfl dX12_tick_19 ?_
    refine lv_aload_n hx hb dX12_tick_22 rfl (lv_at hl 0 rfl) ?_
    refine r_get (u := (upd sc 0 (nI ((a.1 0) + 1)), ar)) (v := .int (sc 15)) hx hb hts hin hown hB 15 (by decide) (hts (.fieldLink RX12 199 "PointReportsModel" "lastSent" "I") (by decide +kernel)) rfl rfl dX12_tick_23 ?_
    refine g_top (y := nI (a.1 15)) n15 ?_
    refine lv_isub hx hb dX12_tick_26 ?_
    have hs1 : spTick a = if a.1 0 + 1 = a.1 15 + 5 then (if a.1 16 < 3 then spAgain ((va_up a.1 0 (a.1 0 + 1)), a.2) else spNone ((va_up a.1 0 (a.1 0 + 1)), a.2)) else ((va_up a.1 0 (a.1 0 + 1)), a.2) := by rw [hs0, spTick1, if_pos (show (va_up a.1 0 (a.1 0 + 1)) 11 = 2 from c_1)]; rfl
    refine lv_iconst (v := nI 5) hx hb dX12_tick_27 (by decide) ?_
    refine lv_icmp_ne (tgt := 71) hx hb dX12_tick_28 (by decide) (fun c_4 => ?_) (fun c_4 => ?_)
    · have c_4 := c_4
      have hn5 : ¬ a.1 0 + 1 = a.1 15 + 5 := fun z => c_4 ((sub_nI (by omega) (by omega) (by decide)).mpr z)
      have hs2 : spTick a = ((va_up a.1 0 (a.1 0 + 1)), a.2) := by rw [hs1, if_neg hn5]
      refine lv_aload_n hx hb dX12_tick_71 rfl (lv_at hl 0 rfl) ?_
      refine r_get (u := (upd sc 0 (nI ((a.1 0) + 1)), ar)) (v := .int (nI ((a.1 0) + 1))) hx hb hts hin hown hB 0 (by decide) (hts (.fieldLink RX12 196 "PointReportsModel" "time" "I") (by decide +kernel)) rfl rfl dX12_tick_72 ?_
      have hB : gB G.1 (rT G) A s H locs (rWs G (upd sc 0 (nI ((a.1 0) + 1)), ar)) := hB
      have hz : (spTick a).1 0 = a.1 0 + 1 := by rw [hs2]; rfl
      exact g_iret (Wd := rWs G) (v := nI ((a.1 0) + 1)) (upd sc 0 (nI ((a.1 0) + 1)), ar) hB hx hb hr hlocks rfl ⟨by rw [hz], by rw [hs2]; exact ⟨rfl, n9, n10, n11, n12, n13, n14, n15, n16, n19, n20, n23, n25, n26, n27, n28, n29, f1, f2, f3, f21, f22, f24, rE, rW, rl1, rl2, rl3, rq0, rq1, rq2, rq3, ro1, ro2, ro3, rg1, rg2, rg3, rg4, rh4, rg5, rh5, rg6, rh6, rg7, rh7, rc1, rc2, rc3, rz1, rz2, rz3, rz4, rk, rV, rY, rA, (va_up_le rb2 (Nat.le_refl _) (by omega))⟩⟩ dX12_tick_75
    · have c_4 := c_4
      have h5 : a.1 0 + 1 = a.1 15 + 5 := (sub_nI (by omega) (by omega) (by decide)).mp c_4
      refine lv_aload_n hx hb dX12_tick_31 rfl (lv_at hl 0 rfl) ?_
      refine r_get (u := (upd sc 0 (nI ((a.1 0) + 1)), ar)) (v := .int (sc 16)) hx hb hts hin hown hB 16 (by decide) (hts (.fieldLink RX12 202 "PointReportsModel" "sentAgain" "I") (by decide +kernel)) rfl rfl dX12_tick_32 ?_
      refine g_top (y := nI (a.1 16)) n16 ?_
      refine lv_iconst (v := nI 3) hx hb dX12_tick_35 (by decide) ?_
      refine lv_icmp_ge (tgt := 46) hx hb dX12_tick_36 (by decide) (fun c_5 => ?_) (fun c_5 => ?_)
      · have c_5 : 3 ≤ (a.1 16) := (nI_leI (a := 3) (b := (a.1 16)) (by omega) (by omega)).mp c_5
        refine lv_aload_n hx hb dX12_tick_46 rfl (lv_at hl 0 rfl) ?_
        refine g_callv (av := []) (rest := []) ⟨hx, hb, hml, hown, hts⟩ (c_noneWaits l G (upd sc 0 (nI ((a.1 0) + 1))) ar) (cwV 0 hts gX12_tick_X12_noneWaits rfl rfl rfl (by decide +kernel) ⟨Nat.le_of_ble_eq_true rfl, Nat.le_of_ble_eq_true rfl⟩) hB (q0 := 0) (ci := 9) rfl rfl rfl rfl hl.1 rfl (Nat.le_of_ble_eq_true rfl) dX12_tick_47 ⟨Nat.le_of_ble_eq_true rfl, Nat.le_of_ble_eq_true rfl⟩ (fun u H locs hw hB => ?_)
        obtain ⟨wz, hwz, rfl⟩ := hw
        have hB : gB G.1 (rT G) A s H locs (rWs G (upd (upd sc 0 (nI ((a.1 0) + 1))) 11 (nI 0), va_up ar 8 wz)) := hB
        have hs2 : spTick a = spNone ((va_up a.1 0 (a.1 0 + 1)), a.2) := by rw [hs1, if_pos h5, if_neg (by omega)]
        refine lv_goto (tgt := 71) hx hb dX12_tick_50 (by decide) ?_
        refine lv_aload_n hx hb dX12_tick_71 rfl (lv_at hl 0 rfl) ?_
        refine r_get (u := (upd (upd sc 0 (nI ((a.1 0) + 1))) 11 (nI 0), va_up ar 8 wz)) (v := .int (nI ((a.1 0) + 1))) hx hb hts hin hown hB 0 (by decide) (hts (.fieldLink RX12 196 "PointReportsModel" "time" "I") (by decide +kernel)) rfl rfl dX12_tick_72 ?_
        have hB : gB G.1 (rT G) A s H locs (rWs G (upd (upd sc 0 (nI ((a.1 0) + 1))) 11 (nI 0), va_up ar 8 wz)) := hB
        have hz : (spTick a).1 0 = a.1 0 + 1 := by rw [hs2]; rfl
        exact g_iret (Wd := rWs G) (v := nI ((a.1 0) + 1)) (upd (upd sc 0 (nI ((a.1 0) + 1))) 11 (nI 0), va_up ar 8 wz) hB hx hb hr hlocks rfl ⟨by rw [hz], by rw [hs2]; exact ⟨rfl, n9, n10, rfl, n12, n13, n14, n15, n16, n19, n20, n23, n25, n26, n27, n28, n29, f1, f2, f3, f21, f22, f24, rE, (fun c h1 h3 j hj => by show wz (8 * c + j) = if j < 0 then 1 else 0; rw [if_neg (Nat.not_lt_zero _)]; exact hwz _ (by have h8 := (rE c h1 h3).2.1; have hj2 : j < (a.2.2.1 c).length := hj; omega)), rl1, rl2, rl3, rq0, rq1, rq2, rq3, ro1, ro2, ro3, rg1, rg2, rg3, rg4, rh4, rg5, rh5, rg6, rh6, rg7, rh7, rc1, rc2, rc3, rz1, (Nat.zero_le 2), rz3, rz4, rk, (fun _ => Nat.zero_le _), rY, rA, (va_up_le (va_up_le rb2 (Nat.le_refl _) (by omega)) (Nat.le_refl _) (Nat.zero_le _))⟩⟩ dX12_tick_75
      · have c_5 : ¬ 3 ≤ (a.1 16) := fun h9 => c_5 ((nI_leI (a := 3) (b := (a.1 16)) (by omega) (by omega)).mpr h9)
        refine lv_aload_n hx hb dX12_tick_39 rfl (lv_at hl 0 rfl) ?_
        refine g_callv (av := []) (rest := []) ⟨hx, hb, hml, hown, hts⟩ (c_sendAgain l G (upd sc 0 (nI ((a.1 0) + 1))) ar a.2.2.2.2.2.1 ro1 ro2 ro3 a.2.2.2.2.1 rl3 rl1 rl2 (a.1 101) rq1 rq3) (cwV 0 hts gX12_tick_X12_sendAgain rfl rfl rfl (by decide +kernel) ⟨Nat.le_of_ble_eq_true rfl, Nat.le_of_ble_eq_true rfl⟩) hB (q0 := 0) (ci := 9) rfl rfl rfl rfl hl.1 rfl (Nat.le_of_ble_eq_true rfl) dX12_tick_40 ⟨Nat.le_of_ble_eq_true rfl, Nat.le_of_ble_eq_true rfl⟩ (fun u H locs hw hB => ?_)
        obtain ⟨f5, fr, le, si, nu, s2, s3, s4, s5, s6, rfl⟩ := hw
        have hB : gB G.1 (rT G) A s H locs (rWs G (upd (upd (upd (upd (upd sc 0 (nI ((a.1 0) + 1))) 15 (nI (a.1 0 + 1))) 16 (sc 16 + nI 1)) 30 (nI ((sndF 0 a.2.2.2.2.2.1 a.2.2.2.2.1 (a.1 101)).1.length))) 40 (nI a.2.2.2.2.2.1.length), va_up (va_up (va_up (va_up (va_up ar 31 fr) 32 le) 33 si) 34 nu) 39 f5)) := hB
        have e16 : sc 16 + nI 1 = nI (a.1 16 + 1) := by rw [n16]; exact nI_add _ _
        have hs2 : spTick a = spAgain ((va_up a.1 0 (a.1 0 + 1)), a.2) := by rw [hs1, if_pos h5, if_pos (by omega)]
        refine lv_goto (tgt := 71) hx hb dX12_tick_43 (by decide) ?_
        refine lv_aload_n hx hb dX12_tick_71 rfl (lv_at hl 0 rfl) ?_
        refine r_get (u := (upd (upd (upd (upd (upd sc 0 (nI ((a.1 0) + 1))) 15 (nI (a.1 0 + 1))) 16 (sc 16 + nI 1)) 30 (nI ((sndF 0 a.2.2.2.2.2.1 a.2.2.2.2.1 (a.1 101)).1.length))) 40 (nI a.2.2.2.2.2.1.length), va_up (va_up (va_up (va_up (va_up ar 31 fr) 32 le) 33 si) 34 nu) 39 f5)) (v := .int (nI ((a.1 0) + 1))) hx hb hts hin hown hB 0 (by decide) (hts (.fieldLink RX12 196 "PointReportsModel" "time" "I") (by decide +kernel)) rfl rfl dX12_tick_72 ?_
        have hB : gB G.1 (rT G) A s H locs (rWs G (upd (upd (upd (upd (upd sc 0 (nI ((a.1 0) + 1))) 15 (nI (a.1 0 + 1))) 16 (sc 16 + nI 1)) 30 (nI ((sndF 0 a.2.2.2.2.2.1 a.2.2.2.2.1 (a.1 101)).1.length))) 40 (nI a.2.2.2.2.2.1.length), va_up (va_up (va_up (va_up (va_up ar 31 fr) 32 le) 33 si) 34 nu) 39 f5)) := hB
        have hz : (spTick a).1 0 = a.1 0 + 1 := by rw [hs2]; rfl
        exact g_iret (Wd := rWs G) (v := nI ((a.1 0) + 1)) (upd (upd (upd (upd (upd sc 0 (nI ((a.1 0) + 1))) 15 (nI (a.1 0 + 1))) 16 (sc 16 + nI 1)) 30 (nI ((sndF 0 a.2.2.2.2.2.1 a.2.2.2.2.1 (a.1 101)).1.length))) 40 (nI a.2.2.2.2.2.1.length), va_up (va_up (va_up (va_up (va_up ar 31 fr) 32 le) 33 si) 34 nu) 39 f5) hB hx hb hr hlocks rfl ⟨by rw [hz], by rw [hs2]; exact ⟨rfl, n9, n10, n11, n12, n13, n14, rfl, e16, n19, n20, n23, n25, n26, n27, n28, n29, f1, f2, f3, f21, f22, f24, rE, rW, rfl, s3, s2, (s6.trans rq0), s5, rq2, s4, ro1, ro2, ro3, rg1, rg2, rg3, rg4, rh4, rg5, rh5, rg6, rh6, rg7, rh7, rc1, rc2, rc3, rz1, rz2, rz3, rz4, rk, rV, (sndF_ok (by decide) rY), rA, (va_up_le (va_up_le (va_up_le (va_up_le rb2 (Nat.le_refl _) (by omega)) (Nat.le_refl _) (show a.1 0 + 1 ≤ b + 400 by omega)) (Nat.le_refl _) (show a.1 16 + 1 ≤ b + 400 by omega)) (Nat.le_refl _) (show (sndF 0 a.2.2.2.2.2.1 a.2.2.2.2.1 (a.1 101)).2 ≤ b + 400 by omega))⟩⟩ dX12_tick_75
