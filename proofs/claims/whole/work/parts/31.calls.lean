/-! THE CALLS -/
noncomputable def spBring (a : aS) (i : Int32) (sy : Nat) : aS × Int32 := if i < 0 ∨ nI a.2.2.2.2.1.length ≤ i then (a, -1) else (spArr (if sy = 0 then spLine a (a.2.2.2.2.1.eraseIdx i.toNatClampNeg) else a) (a.2.2.2.2.1.getD i.toNatClampNeg (0, [])).1.toNatClampNeg (a.2.2.2.2.1.getD i.toNatClampNeg (0, [])).2, nI (spArr (if sy = 0 then spLine a (a.2.2.2.2.1.eraseIdx i.toNatClampNeg) else a) (a.2.2.2.2.1.getD i.toNatClampNeg (0, [])).1.toNatClampNeg (a.2.2.2.2.1.getD i.toNatClampNeg (0, [])).2).2.2.2.2.1.length)
def spLose (a : aS) (i : Int32) : aS × Int32 := if i < 0 ∨ nI a.2.2.2.2.1.length ≤ i then (a, -1) else (spLine a (a.2.2.2.2.1.eraseIdx i.toNatClampNeg), nI (a.2.2.2.2.1.eraseIdx i.toNatClampNeg).length)
def spPoke (a : aS) (i k m : Int32) : aS × Nat := if (i < 0 ∨ nI a.2.2.2.2.1.length ≤ i) ∨ k < 0 ∨ nI (a.2.2.2.2.1.getD i.toNatClampNeg (0, [])).2.length ≤ k ∨ m < nI 1 ∨ nI 255 < m then (a, 0) else (spLine a (a.2.2.2.2.1.set i.toNatClampNeg ((a.2.2.2.2.1.getD i.toNatClampNeg (0, [])).1, (a.2.2.2.2.1.getD i.toNatClampNeg (0, [])).2.set k.toNatClampNeg ((a.2.2.2.2.1.getD i.toNatClampNeg (0, [])).2.getD k.toNatClampNeg 0 ^^^ m))), 1)
def spAt (a : aS) (i k : Int32) : Int32 := if (i < 0 ∨ nI a.2.2.2.2.1.length ≤ i) ∨ k < 0 ∨ nI (a.2.2.2.2.1.getD i.toNatClampNeg (0, [])).2.length ≤ k then -1 else (a.2.2.2.2.1.getD i.toNatClampNeg (0, [])).2.getD k.toNatClampNeg 0
theorem lnR_poke {fr le si : Nat → Int32} {L : List (Int32 × List Int32)} {i k : Nat} {q : Int32 × List Int32} {x : Int32} (h : lnR fr le si L) (hi : L[i]? = some q) (hk : k < q.2.length) : lnR (upd fr (40 * i + k) x) le si (L.set i (q.1, q.2.set k x)) := by
  have hil := (List.getElem?_eq_some_iff.mp hi).1
  obtain ⟨g1, g2, g3, g4⟩ := h i q hi
  intro j z hz
  dsimp only at hz
  by_cases hj : j = i
  · subst hj
    rw [List.getElem?_set_self hil] at hz
    cases hz
    dsimp only
    refine ⟨g1, by rw [List.length_set]; exact g2, by rw [List.length_set]; exact g3, fun m hm => ?_⟩
    rw [List.length_set] at hm
    by_cases hmk : m = k
    · subst hmk
      rw [upd_self, List.getD_eq_getElem?_getD, List.getElem?_set_self hm]
      rfl
    · rw [upd_ne (by omega), g4 m hm, List.getD_eq_getElem?_getD, List.getD_eq_getElem?_getD, List.getElem?_set_ne (Ne.symm hmk)]
  · rw [List.getElem?_set_ne (Ne.symm hj)] at hz
    obtain ⟨k1, k2, k3, k4⟩ := h j z hz
    refine ⟨k1, k2, k3, fun m hm => ?_⟩
    rw [upd_ne (by omega)]
    exact k4 m hm
theorem nx_xor (a b : Nat) : nI a ^^^ nI b = nI (a ^^^ b) := by
  apply Int32.toBitVec_inj.mp
  rw [Int32.toBitVec_xor]
  apply BitVec.eq_of_toNat_eq
  rw [BitVec.toNat_xor]
  show (BitVec.ofNat 32 a).toNat ^^^ (BitVec.ofNat 32 b).toNat = (BitVec.ofNat 32 (a ^^^ b)).toNat
  rw [BitVec.toNat_ofNat, BitVec.toNat_ofNat, BitVec.toNat_ofNat, Nat.xor_mod_two_pow]
theorem lnOk_poke {L : List (Int32 × List Int32)} {i k : Nat} {q : Int32 × List Int32} {m : Nat} (h : lnOk L) (hi : L[i]? = some q) (hk : k < q.2.length) (hm : m < 256) : lnOk (L.set i (q.1, q.2.set k (q.2.getD k 0 ^^^ nI m))) := by
  obtain ⟨g1, g2, g3⟩ := h q (List.mem_of_getElem? hi)
  intro z hz
  rcases List.mem_or_eq_of_mem_set hz with h1 | h1
  · exact h z h1
  · subst h1
    refine ⟨g1, by rw [List.length_set]; exact g2, fun x hx => ?_⟩
    rcases List.mem_or_eq_of_mem_set hx with h2 | h2
    · exact g3 x h2
    · obtain ⟨b1, b2⟩ := bq_at g3 hk
      rw [h2, b1, nx_xor]
      exact ⟨_, Nat.xor_lt_two_pow (n := 8) b2 hm, rfl⟩
theorem getD_some {L : List (Int32 × List Int32)} {j : Nat} (h : j < L.length) : L[j]? = some (L.getD j (0, [])) := by
  rw [List.getD_eq_getElem?_getD, List.getElem?_eq_getElem h]
  rfl
set_option maxRecDepth 100000 in
set_option maxHeartbeats 4000000 in
/-- isFlying(i) -/
theorem c_isFlying (l : Launch) (G : rG) (sc : Nat → Int32) (ar : Nat → Nat → Int32) (n : Nat) (h30 : sc 30 = nI n) (hn : n ≤ 41) (i0 : Int32) : gM l G.1 (rT G) yX12_isFlying wsX12_isFlying ({ frames := 0, cells := 0, slots := 0, locals := 0 }) [.ref G.2.1, .int i0] (rWs G (sc, ar)) (gQi G.1 (rT G) (fun (r : Int32) (u : rSt) => ((r = nI 1 ∧ ¬ i0 < 0 ∧ ¬ nI n ≤ i0) ∨ (r = nI 0 ∧ (i0 < 0 ∨ nI n ≤ i0))) ∧ u = (sc, ar)) (rWs G)) 0 0 := by
  refine gM.of (cc := cX12_isFlying) (maxL := 2) (ret := (some .boolean)) (by decide) rfl (Nat.le_of_ble_eq_true rfl) ?_
  intro p e s m below meth c A ls hx hb hr hml hown hts hlocks hnm hB hl
  have hin : ∀ w ∈ wsX120, w ∈ wsX12_isFlying := fun w h => List.mem_cons_of_mem _ (List.mem_append_right _ h)
  have hl : lv_has ls 2 [(0, .ref G.2.1), (1, .int i0)] := hl
  refine lv_iload_n hx hb dX12_isFlying_0 rfl (lv_at hl 1 rfl) ?_
  refine lv_if_lt (tgt := 16) hx hb dX12_isFlying_1 (by decide) (fun c_1 => ?_) (fun c_1 => ?_)
  · have c_1 := c_1
    refine lv_iconst (v := nI 0) hx hb dX12_isFlying_16 (by decide) ?_
    exact g_zret (Wd := rWs G) (v := nI 0) (sc, ar) hB hx hb hr hlocks rfl (narrow_z (Or.inl rfl)) ⟨Or.inr ⟨rfl, Or.inl c_1⟩, rfl⟩ dX12_isFlying_17
  · have c_1 := c_1
    refine lv_iload_n hx hb dX12_isFlying_4 rfl (lv_at hl 1 rfl) ?_
    refine lv_aload_n hx hb dX12_isFlying_5 rfl (lv_at hl 0 rfl) ?_
    refine r_get (u := (sc, ar)) (v := .int (sc 30)) hx hb hts hin hown hB 30 (by decide) (hts (.fieldLink RX12 89 "PointReportsModel" "flying" "I") (by decide +kernel)) rfl rfl dX12_isFlying_6 ?_
    refine g_top (y := nI n) h30 ?_
    refine lv_icmp_ge (tgt := 16) hx hb dX12_isFlying_9 (by decide) (fun c_2 => ?_) (fun c_2 => ?_)
    · have c_2 := c_2
      refine lv_iconst (v := nI 0) hx hb dX12_isFlying_16 (by decide) ?_
      exact g_zret (Wd := rWs G) (v := nI 0) (sc, ar) hB hx hb hr hlocks rfl (narrow_z (Or.inl rfl)) ⟨Or.inr ⟨rfl, Or.inr c_2⟩, rfl⟩ dX12_isFlying_17
    · have c_2 := c_2
      refine lv_iconst (v := nI 1) hx hb dX12_isFlying_12 (by decide) ?_
      refine lv_goto (tgt := 17) hx hb dX12_isFlying_13 (by decide) ?_
      exact g_zret (Wd := rWs G) (v := nI 1) (sc, ar) hB hx hb hr hlocks rfl (narrow_z (Or.inr rfl)) ⟨Or.inl ⟨rfl, c_1, c_2⟩, rfl⟩ dX12_isFlying_17
set_option maxRecDepth 100000 in
set_option maxHeartbeats 4000000 in
/-- bring(i) -/
theorem c_bring (l : Launch) (G : rG) (sc : Nat → Int32) (ar : Nat → Nat → Int32) (b : Nat) (hb9 : b ≤ 900000) (a : aS) (hr0 : rRep b (sc, ar) a) (i0 : Int32) : gM l G.1 (rT G) yX12_bring wsX12_bring ({ frames := 8, cells := 0, slots := 0, locals := 191 }) [.ref G.2.1, .int i0] (rWs G (sc, ar)) (gQi G.1 (rT G) (fun (r : Int32) (u : rSt) => r = (spBring a i0 0).2 ∧ rRep (b + 500) u (spBring a i0 0).1) (rWs G)) 0 0 := by
  refine gM.of (cc := cX12_bring) (maxL := 2) (ret := (some .int)) (by decide) rfl (Nat.le_of_ble_eq_true rfl) ?_
  intro p e s m below meth c A ls hx hb hr hml hown hts hlocks hnm hB hl
  have hin : ∀ w ∈ wsX120, w ∈ wsX12_bring := fun w h => List.mem_cons_of_mem _ (List.mem_append_right _ h)
  have hl : lv_has ls 2 [(0, .ref G.2.1), (1, .int i0)] := hl
  obtain ⟨n0, n9, n10, n11, n12, n13, n14, n15, n16, n19, n20, n23, n25, n26, n27, n28, n29, f1, f2, f3, f21, f22, f24, rE, rW, rl1, rl2, rl3, rq0, rq1, rq2, rq3, ro1, ro2, ro3, rg1, rg2, rg3, rg4, rh4, rg5, rh5, rg6, rh6, rg7, rh7, rc1, rc2, rc3, rz1, rz2, rz3, rz4, rk, rV, rY, rA, rb⟩ := id hr0
  have n0 : sc 0 = nI (a.1 0) := n0
  have n9 : sc 9 = nI (a.1 9) := n9
  have n10 : sc 10 = nI (a.1 10) := n10
  have n11 : sc 11 = nI (a.1 11) := n11
  have n12 : sc 12 = nI (a.1 12) := n12
  have n13 : sc 13 = nI (a.1 13) := n13
  have n14 : sc 14 = nI (a.1 14) := n14
  have n15 : sc 15 = nI (a.1 15) := n15
  have n16 : sc 16 = nI (a.1 16) := n16
  have n19 : sc 19 = nI (a.1 19) := n19
  have n20 : sc 20 = nI (a.1 20) := n20
  have n23 : sc 23 = nI (a.1 23) := n23
  have n25 : sc 25 = nI (a.1 25) := n25
  have n26 : sc 26 = nI (a.1 26) := n26
  have n27 : sc 27 = nI (a.1 27) := n27
  have n28 : sc 28 = nI (a.1 28) := n28
  have n29 : sc 29 = nI (a.1 29) := n29
  have f1 : ar 1 = a.2.1 1 := f1
  have f2 : ar 2 = a.2.1 2 := f2
  have f3 : ar 3 = a.2.1 3 := f3
  have f21 : ar 21 = a.2.1 21 := f21
  have f22 : ar 22 = a.2.1 22 := f22
  have f24 : ar 24 = a.2.1 24 := f24
  have rE : evR (ar 4) (ar 5) (ar 6) (ar 7) a.2.2.1 := rE
  have rW : wtR (ar 8) a.2.2.1 a.2.2.2.1 := rW
  have rl1 : sc 30 = nI a.2.2.2.2.1.length := rl1
  have rl3 : lnR (ar 31) (ar 32) (ar 33) a.2.2.2.2.1 := rl3
  have rq0 : ar 34 0 = nI (a.1 100) := rq0
  have rq1 : ar 34 1 = nI (a.1 101) := rq1
  have ro1 : pfx (ar 17) a.2.2.2.2.2.1 := ro1
  have ro2 : sc 18 = nI a.2.2.2.2.2.1.length := ro2
  have rg1 : ∀ x, x < 2 → ar 36 x = nI (a.2.2.2.2.2.2 x).length := rg1
  have rg3 : ∀ x, x < 2 → ∀ j, j < (a.2.2.2.2.2.2 x).length → ar 35 (400 * x + j) = nI ((a.2.2.2.2.2.2 x).getD j 0) ∧ (a.2.2.2.2.2.2 x).getD j 0 < 256 := rg3
  have rg4 : ar 37 0 = nI (a.1 102) := rg4
  have rh4 : ar 37 1 = nI (a.1 103) := rh4
  have rg5 : ar 38 0 = nI (a.1 104) := rg5
  have rh5 : ar 38 1 = nI (a.1 105) := rh5
  have rc1 : pfxN (ar 43) (a.2.2.2.2.2.2 2) := rc1
  have rc2 : sc 44 = nI (a.2.2.2.2.2.2 2).length := rc2
  refine lv_aload_n hx hb dX12_bring_0 rfl (lv_at hl 0 rfl) ?_
  refine lv_iload_n hx hb dX12_bring_1 rfl (lv_at hl 1 rfl) ?_
  refine g_calli (av := [.int i0]) (rest := []) ⟨hx, hb, hml, hown, hts⟩ (c_isFlying l G sc ar a.2.2.2.2.1.length rl1 (by omega) i0) (cwV 1 hts gX12_bring_X12_isFlying rfl rfl rfl (by decide +kernel) ⟨Nat.le_of_ble_eq_true rfl, Nat.le_of_ble_eq_true rfl⟩) hB (q0 := 0) (ci := 9) rfl rfl rfl rfl hl.1 rfl (Nat.le_of_ble_eq_true rfl) dX12_bring_2 ⟨Nat.le_of_ble_eq_true rfl, Nat.le_of_ble_eq_true rfl⟩ (fun r9 u H locs hw hB => ?_)
  obtain ⟨hfl, rfl⟩ := hw
  have hB : gB G.1 (rT G) A s H locs (rWs G (sc, ar)) := hB
  refine lv_if_ne (tgt := 10) hx hb dX12_bring_5 (by decide) (fun c_1 => ?_) (fun c_1 => ?_)
  · have c_1 := c_1
    have hq : ¬ i0 < 0 ∧ ¬ nI a.2.2.2.2.1.length ≤ i0 := by rcases hfl with ⟨h1, h2⟩ | ⟨h1, h2⟩; exact h2; exact absurd h1 c_1
    obtain ⟨j, hj, ej⟩ : ∃ j : Nat, j < a.2.2.2.2.1.length ∧ i0 = nI j := by rcases pk_ix i0 (n := a.2.2.2.2.1.length) (by omega) with h | h | h; exact absurd h hq.1; exact absurd h hq.2; exact h
    subst ej
    have ej : (nI j).toNatClampNeg = j := nI_clamp (by omega)
    obtain ⟨q, eq9⟩ : ∃ q, q = a.2.2.2.2.1.getD j (0, []) := ⟨_, rfl⟩
    have hLj : a.2.2.2.2.1[j]? = some q := by rw [eq9]; exact getD_some hj
    have hs0 : spBring a (nI j) 0 = (spArr (spLine a (a.2.2.2.2.1.eraseIdx j)) q.1.toNatClampNeg q.2, nI (spArr (spLine a (a.2.2.2.2.1.eraseIdx j)) q.1.toNatClampNeg q.2).2.2.2.2.1.length) := by rw [spBring, if_neg (fun z => by rcases z with z | z; exact hq.1 z; exact hq.2 z), ej, ← eq9]; rfl
    obtain ⟨sdv, bs⟩ := q
    have hsd := (rY _ (List.mem_of_getElem? hLj)).1
    dsimp only at hs0 hsd
    rcases hsd with rfl | rfl
    · have hs0 : spBring a (nI j) 0 = (spArr (spLine a (a.2.2.2.2.1.eraseIdx j)) 0 bs, nI (spArr (spLine a (a.2.2.2.2.1.eraseIdx j)) 0 bs).2.2.2.2.1.length) := hs0
      refine lv_aload_n hx hb dX12_bring_10 rfl (lv_at hl 0 rfl) ?_
      refine lv_iload_n hx hb dX12_bring_11 rfl (lv_at hl 1 rfl) ?_
      refine lv_iconst (v := nI 0) hx hb dX12_bring_12 (by decide) ?_
      refine g_callv (av := [.int (nI j), .int (nI 0)]) (rest := []) ⟨hx, hb, hml, hown, hts⟩ (c_arrive_00 l G sc ar b hb9 a hr0 j bs hLj) (cwV 2 hts gX12_bring_X12_arrive rfl rfl rfl (by decide +kernel) ⟨Nat.le_of_ble_eq_true rfl, Nat.le_of_ble_eq_true rfl⟩) hB (q0 := 0) (ci := 9) rfl rfl rfl rfl hl.1 rfl (Nat.le_of_ble_eq_true rfl) dX12_bring_13 ⟨Nat.le_of_ble_eq_true rfl, Nat.le_of_ble_eq_true rfl⟩ (fun u H locs hw hB => ?_)
      obtain ⟨sc2, ar2⟩ := u
      have hr2 := hw
      have hB : gB G.1 (rT G) A s H locs (rWs G (sc2, ar2)) := hB
      have rl1b : sc2 30 = nI (spArr (spLine a (a.2.2.2.2.1.eraseIdx j)) 0 bs).2.2.2.2.1.length := by obtain ⟨n0, n9, n10, n11, n12, n13, n14, n15, n16, n19, n20, n23, n25, n26, n27, n28, n29, f1, f2, f3, f21, f22, f24, rE, rW, rl1, rl2, rl3, rq0, rq1, rq2, rq3, ro1, ro2, ro3, rg1, rg2, rg3, rg4, rh4, rg5, rh5, rg6, rh6, rg7, rh7, rc1, rc2, rc3, rz1, rz2, rz3, rz4, rk, rV, rY, rA, rb⟩ := id hr2; exact rl1
      refine lv_aload_n hx hb dX12_bring_16 rfl (lv_at hl 0 rfl) ?_
      refine r_get (u := (sc2, ar2)) (v := .int (sc2 30)) hx hb hts hin hown hB 30 (by decide) (hts (.fieldLink RX12 89 "PointReportsModel" "flying" "I") (by decide +kernel)) rfl rfl dX12_bring_17 ?_
      refine g_top (y := nI (spArr (spLine a (a.2.2.2.2.1.eraseIdx j)) 0 bs).2.2.2.2.1.length) rl1b ?_
      exact g_iret (Wd := rWs G) (v := nI (spArr (spLine a (a.2.2.2.2.1.eraseIdx j)) 0 bs).2.2.2.2.1.length) (sc2, ar2) hB hx hb hr hlocks rfl ⟨by rw [hs0], by rw [hs0]; exact hr2⟩ dX12_bring_20
    · have hs0 : spBring a (nI j) 0 = (spArr (spLine a (a.2.2.2.2.1.eraseIdx j)) 1 bs, nI (spArr (spLine a (a.2.2.2.2.1.eraseIdx j)) 1 bs).2.2.2.2.1.length) := hs0
      refine lv_aload_n hx hb dX12_bring_10 rfl (lv_at hl 0 rfl) ?_
      refine lv_iload_n hx hb dX12_bring_11 rfl (lv_at hl 1 rfl) ?_
      refine lv_iconst (v := nI 0) hx hb dX12_bring_12 (by decide) ?_
      refine g_callv (av := [.int (nI j), .int (nI 0)]) (rest := []) ⟨hx, hb, hml, hown, hts⟩ (c_arrive_10 l G sc ar b hb9 a hr0 j bs hLj) (cwV 2 hts gX12_bring_X12_arrive rfl rfl rfl (by decide +kernel) ⟨Nat.le_of_ble_eq_true rfl, Nat.le_of_ble_eq_true rfl⟩) hB (q0 := 0) (ci := 9) rfl rfl rfl rfl hl.1 rfl (Nat.le_of_ble_eq_true rfl) dX12_bring_13 ⟨Nat.le_of_ble_eq_true rfl, Nat.le_of_ble_eq_true rfl⟩ (fun u H locs hw hB => ?_)
      obtain ⟨sc2, ar2⟩ := u
      have hr2 := hw
      have hB : gB G.1 (rT G) A s H locs (rWs G (sc2, ar2)) := hB
      have rl1b : sc2 30 = nI (spArr (spLine a (a.2.2.2.2.1.eraseIdx j)) 1 bs).2.2.2.2.1.length := by obtain ⟨n0, n9, n10, n11, n12, n13, n14, n15, n16, n19, n20, n23, n25, n26, n27, n28, n29, f1, f2, f3, f21, f22, f24, rE, rW, rl1, rl2, rl3, rq0, rq1, rq2, rq3, ro1, ro2, ro3, rg1, rg2, rg3, rg4, rh4, rg5, rh5, rg6, rh6, rg7, rh7, rc1, rc2, rc3, rz1, rz2, rz3, rz4, rk, rV, rY, rA, rb⟩ := id hr2; exact rl1
      refine lv_aload_n hx hb dX12_bring_16 rfl (lv_at hl 0 rfl) ?_
      refine r_get (u := (sc2, ar2)) (v := .int (sc2 30)) hx hb hts hin hown hB 30 (by decide) (hts (.fieldLink RX12 89 "PointReportsModel" "flying" "I") (by decide +kernel)) rfl rfl dX12_bring_17 ?_
      refine g_top (y := nI (spArr (spLine a (a.2.2.2.2.1.eraseIdx j)) 1 bs).2.2.2.2.1.length) rl1b ?_
      exact g_iret (Wd := rWs G) (v := nI (spArr (spLine a (a.2.2.2.2.1.eraseIdx j)) 1 bs).2.2.2.2.1.length) (sc2, ar2) hB hx hb hr hlocks rfl ⟨by rw [hs0], by rw [hs0]; exact hr2⟩ dX12_bring_20
  · have c_1 := c_1
    have hq : i0 < 0 ∨ nI a.2.2.2.2.1.length ≤ i0 := by rcases hfl with ⟨h1, h2⟩ | ⟨h1, h2⟩; exact absurd (h1.symm.trans c_1) (by decide); exact h2
    have hs0 : spBring a i0 0 = (a, -1) := by rw [spBring, if_pos hq]
    refine lv_iconst (v := (-1)) hx hb dX12_bring_8 (by decide) ?_
    exact g_iret (Wd := rWs G) (v := (-1)) (sc, ar) hB hx hb hr hlocks rfl ⟨by rw [hs0], by rw [hs0]; exact rRep_mono hr0 (by omega)⟩ dX12_bring_9
set_option maxRecDepth 100000 in
set_option maxHeartbeats 4000000 in
/-- twice(i) -/
theorem c_twice (l : Launch) (G : rG) (sc : Nat → Int32) (ar : Nat → Nat → Int32) (b : Nat) (hb9 : b ≤ 900000) (a : aS) (hr0 : rRep b (sc, ar) a) (i0 : Int32) : gM l G.1 (rT G) yX12_twice wsX12_twice ({ frames := 8, cells := 0, slots := 0, locals := 191 }) [.ref G.2.1, .int i0] (rWs G (sc, ar)) (gQi G.1 (rT G) (fun (r : Int32) (u : rSt) => r = (spBring a i0 1).2 ∧ rRep (b + 500) u (spBring a i0 1).1) (rWs G)) 0 0 := by
  refine gM.of (cc := cX12_twice) (maxL := 2) (ret := (some .int)) (by decide) rfl (Nat.le_of_ble_eq_true rfl) ?_
  intro p e s m below meth c A ls hx hb hr hml hown hts hlocks hnm hB hl
  have hin : ∀ w ∈ wsX120, w ∈ wsX12_twice := fun w h => List.mem_cons_of_mem _ (List.mem_append_right _ h)
  have hl : lv_has ls 2 [(0, .ref G.2.1), (1, .int i0)] := hl
  obtain ⟨n0, n9, n10, n11, n12, n13, n14, n15, n16, n19, n20, n23, n25, n26, n27, n28, n29, f1, f2, f3, f21, f22, f24, rE, rW, rl1, rl2, rl3, rq0, rq1, rq2, rq3, ro1, ro2, ro3, rg1, rg2, rg3, rg4, rh4, rg5, rh5, rg6, rh6, rg7, rh7, rc1, rc2, rc3, rz1, rz2, rz3, rz4, rk, rV, rY, rA, rb⟩ := id hr0
  have n0 : sc 0 = nI (a.1 0) := n0
  have n9 : sc 9 = nI (a.1 9) := n9
  have n10 : sc 10 = nI (a.1 10) := n10
  have n11 : sc 11 = nI (a.1 11) := n11
  have n12 : sc 12 = nI (a.1 12) := n12
  have n13 : sc 13 = nI (a.1 13) := n13
  have n14 : sc 14 = nI (a.1 14) := n14
  have n15 : sc 15 = nI (a.1 15) := n15
  have n16 : sc 16 = nI (a.1 16) := n16
  have n19 : sc 19 = nI (a.1 19) := n19
  have n20 : sc 20 = nI (a.1 20) := n20
  have n23 : sc 23 = nI (a.1 23) := n23
  have n25 : sc 25 = nI (a.1 25) := n25
  have n26 : sc 26 = nI (a.1 26) := n26
  have n27 : sc 27 = nI (a.1 27) := n27
  have n28 : sc 28 = nI (a.1 28) := n28
  have n29 : sc 29 = nI (a.1 29) := n29
  have f1 : ar 1 = a.2.1 1 := f1
  have f2 : ar 2 = a.2.1 2 := f2
  have f3 : ar 3 = a.2.1 3 := f3
  have f21 : ar 21 = a.2.1 21 := f21
  have f22 : ar 22 = a.2.1 22 := f22
  have f24 : ar 24 = a.2.1 24 := f24
  have rE : evR (ar 4) (ar 5) (ar 6) (ar 7) a.2.2.1 := rE
  have rW : wtR (ar 8) a.2.2.1 a.2.2.2.1 := rW
  have rl1 : sc 30 = nI a.2.2.2.2.1.length := rl1
  have rl3 : lnR (ar 31) (ar 32) (ar 33) a.2.2.2.2.1 := rl3
  have rq0 : ar 34 0 = nI (a.1 100) := rq0
  have rq1 : ar 34 1 = nI (a.1 101) := rq1
  have ro1 : pfx (ar 17) a.2.2.2.2.2.1 := ro1
  have ro2 : sc 18 = nI a.2.2.2.2.2.1.length := ro2
  have rg1 : ∀ x, x < 2 → ar 36 x = nI (a.2.2.2.2.2.2 x).length := rg1
  have rg3 : ∀ x, x < 2 → ∀ j, j < (a.2.2.2.2.2.2 x).length → ar 35 (400 * x + j) = nI ((a.2.2.2.2.2.2 x).getD j 0) ∧ (a.2.2.2.2.2.2 x).getD j 0 < 256 := rg3
  have rg4 : ar 37 0 = nI (a.1 102) := rg4
  have rh4 : ar 37 1 = nI (a.1 103) := rh4
  have rg5 : ar 38 0 = nI (a.1 104) := rg5
  have rh5 : ar 38 1 = nI (a.1 105) := rh5
  have rc1 : pfxN (ar 43) (a.2.2.2.2.2.2 2) := rc1
  have rc2 : sc 44 = nI (a.2.2.2.2.2.2 2).length := rc2
  refine lv_aload_n hx hb dX12_twice_0 rfl (lv_at hl 0 rfl) ?_
  refine lv_iload_n hx hb dX12_twice_1 rfl (lv_at hl 1 rfl) ?_
  refine g_calli (av := [.int i0]) (rest := []) ⟨hx, hb, hml, hown, hts⟩ (c_isFlying l G sc ar a.2.2.2.2.1.length rl1 (by omega) i0) (cwV 1 hts gX12_twice_X12_isFlying rfl rfl rfl (by decide +kernel) ⟨Nat.le_of_ble_eq_true rfl, Nat.le_of_ble_eq_true rfl⟩) hB (q0 := 0) (ci := 9) rfl rfl rfl rfl hl.1 rfl (Nat.le_of_ble_eq_true rfl) dX12_twice_2 ⟨Nat.le_of_ble_eq_true rfl, Nat.le_of_ble_eq_true rfl⟩ (fun r9 u H locs hw hB => ?_)
  obtain ⟨hfl, rfl⟩ := hw
  have hB : gB G.1 (rT G) A s H locs (rWs G (sc, ar)) := hB
  refine lv_if_ne (tgt := 10) hx hb dX12_twice_5 (by decide) (fun c_1 => ?_) (fun c_1 => ?_)
  · have c_1 := c_1
    have hq : ¬ i0 < 0 ∧ ¬ nI a.2.2.2.2.1.length ≤ i0 := by rcases hfl with ⟨h1, h2⟩ | ⟨h1, h2⟩; exact h2; exact absurd h1 c_1
    obtain ⟨j, hj, ej⟩ : ∃ j : Nat, j < a.2.2.2.2.1.length ∧ i0 = nI j := by rcases pk_ix i0 (n := a.2.2.2.2.1.length) (by omega) with h | h | h; exact absurd h hq.1; exact absurd h hq.2; exact h
    subst ej
    have ej : (nI j).toNatClampNeg = j := nI_clamp (by omega)
    obtain ⟨q, eq9⟩ : ∃ q, q = a.2.2.2.2.1.getD j (0, []) := ⟨_, rfl⟩
    have hLj : a.2.2.2.2.1[j]? = some q := by rw [eq9]; exact getD_some hj
    have hs0 : spBring a (nI j) 1 = (spArr a q.1.toNatClampNeg q.2, nI (spArr a q.1.toNatClampNeg q.2).2.2.2.2.1.length) := by rw [spBring, if_neg (fun z => by rcases z with z | z; exact hq.1 z; exact hq.2 z), ej, ← eq9]; rfl
    obtain ⟨sdv, bs⟩ := q
    have hsd := (rY _ (List.mem_of_getElem? hLj)).1
    dsimp only at hs0 hsd
    rcases hsd with rfl | rfl
    · have hs0 : spBring a (nI j) 1 = (spArr a 0 bs, nI (spArr a 0 bs).2.2.2.2.1.length) := hs0
      refine lv_aload_n hx hb dX12_twice_10 rfl (lv_at hl 0 rfl) ?_
      refine lv_iload_n hx hb dX12_twice_11 rfl (lv_at hl 1 rfl) ?_
      refine lv_iconst (v := nI 1) hx hb dX12_twice_12 (by decide) ?_
      refine g_callv (av := [.int (nI j), .int (nI 1)]) (rest := []) ⟨hx, hb, hml, hown, hts⟩ (c_arrive_01 l G sc ar b hb9 a hr0 j bs hLj) (cwV 2 hts gX12_twice_X12_arrive rfl rfl rfl (by decide +kernel) ⟨Nat.le_of_ble_eq_true rfl, Nat.le_of_ble_eq_true rfl⟩) hB (q0 := 0) (ci := 9) rfl rfl rfl rfl hl.1 rfl (Nat.le_of_ble_eq_true rfl) dX12_twice_13 ⟨Nat.le_of_ble_eq_true rfl, Nat.le_of_ble_eq_true rfl⟩ (fun u H locs hw hB => ?_)
      obtain ⟨sc2, ar2⟩ := u
      have hr2 := hw
      have hB : gB G.1 (rT G) A s H locs (rWs G (sc2, ar2)) := hB
      have rl1b : sc2 30 = nI (spArr a 0 bs).2.2.2.2.1.length := by obtain ⟨n0, n9, n10, n11, n12, n13, n14, n15, n16, n19, n20, n23, n25, n26, n27, n28, n29, f1, f2, f3, f21, f22, f24, rE, rW, rl1, rl2, rl3, rq0, rq1, rq2, rq3, ro1, ro2, ro3, rg1, rg2, rg3, rg4, rh4, rg5, rh5, rg6, rh6, rg7, rh7, rc1, rc2, rc3, rz1, rz2, rz3, rz4, rk, rV, rY, rA, rb⟩ := id hr2; exact rl1
      refine lv_aload_n hx hb dX12_twice_16 rfl (lv_at hl 0 rfl) ?_
      refine r_get (u := (sc2, ar2)) (v := .int (sc2 30)) hx hb hts hin hown hB 30 (by decide) (hts (.fieldLink RX12 89 "PointReportsModel" "flying" "I") (by decide +kernel)) rfl rfl dX12_twice_17 ?_
      refine g_top (y := nI (spArr a 0 bs).2.2.2.2.1.length) rl1b ?_
      exact g_iret (Wd := rWs G) (v := nI (spArr a 0 bs).2.2.2.2.1.length) (sc2, ar2) hB hx hb hr hlocks rfl ⟨by rw [hs0], by rw [hs0]; exact hr2⟩ dX12_twice_20
    · have hs0 : spBring a (nI j) 1 = (spArr a 1 bs, nI (spArr a 1 bs).2.2.2.2.1.length) := hs0
      refine lv_aload_n hx hb dX12_twice_10 rfl (lv_at hl 0 rfl) ?_
      refine lv_iload_n hx hb dX12_twice_11 rfl (lv_at hl 1 rfl) ?_
      refine lv_iconst (v := nI 1) hx hb dX12_twice_12 (by decide) ?_
      refine g_callv (av := [.int (nI j), .int (nI 1)]) (rest := []) ⟨hx, hb, hml, hown, hts⟩ (c_arrive_11 l G sc ar b hb9 a hr0 j bs hLj) (cwV 2 hts gX12_twice_X12_arrive rfl rfl rfl (by decide +kernel) ⟨Nat.le_of_ble_eq_true rfl, Nat.le_of_ble_eq_true rfl⟩) hB (q0 := 0) (ci := 9) rfl rfl rfl rfl hl.1 rfl (Nat.le_of_ble_eq_true rfl) dX12_twice_13 ⟨Nat.le_of_ble_eq_true rfl, Nat.le_of_ble_eq_true rfl⟩ (fun u H locs hw hB => ?_)
      obtain ⟨sc2, ar2⟩ := u
      have hr2 := hw
      have hB : gB G.1 (rT G) A s H locs (rWs G (sc2, ar2)) := hB
      have rl1b : sc2 30 = nI (spArr a 1 bs).2.2.2.2.1.length := by obtain ⟨n0, n9, n10, n11, n12, n13, n14, n15, n16, n19, n20, n23, n25, n26, n27, n28, n29, f1, f2, f3, f21, f22, f24, rE, rW, rl1, rl2, rl3, rq0, rq1, rq2, rq3, ro1, ro2, ro3, rg1, rg2, rg3, rg4, rh4, rg5, rh5, rg6, rh6, rg7, rh7, rc1, rc2, rc3, rz1, rz2, rz3, rz4, rk, rV, rY, rA, rb⟩ := id hr2; exact rl1
      refine lv_aload_n hx hb dX12_twice_16 rfl (lv_at hl 0 rfl) ?_
      refine r_get (u := (sc2, ar2)) (v := .int (sc2 30)) hx hb hts hin hown hB 30 (by decide) (hts (.fieldLink RX12 89 "PointReportsModel" "flying" "I") (by decide +kernel)) rfl rfl dX12_twice_17 ?_
      refine g_top (y := nI (spArr a 1 bs).2.2.2.2.1.length) rl1b ?_
      exact g_iret (Wd := rWs G) (v := nI (spArr a 1 bs).2.2.2.2.1.length) (sc2, ar2) hB hx hb hr hlocks rfl ⟨by rw [hs0], by rw [hs0]; exact hr2⟩ dX12_twice_20
  · have c_1 := c_1
    have hq : i0 < 0 ∨ nI a.2.2.2.2.1.length ≤ i0 := by rcases hfl with ⟨h1, h2⟩ | ⟨h1, h2⟩; exact absurd (h1.symm.trans c_1) (by decide); exact h2
    have hs0 : spBring a i0 1 = (a, -1) := by rw [spBring, if_pos hq]
    refine lv_iconst (v := (-1)) hx hb dX12_twice_8 (by decide) ?_
    exact g_iret (Wd := rWs G) (v := (-1)) (sc, ar) hB hx hb hr hlocks rfl ⟨by rw [hs0], by rw [hs0]; exact rRep_mono hr0 (by omega)⟩ dX12_twice_9
set_option maxRecDepth 100000 in
set_option maxHeartbeats 4000000 in
/-- lose(i) -/
theorem c_lose (l : Launch) (G : rG) (sc : Nat → Int32) (ar : Nat → Nat → Int32) (b : Nat) (hb9 : b ≤ 900000) (a : aS) (hr0 : rRep b (sc, ar) a) (i0 : Int32) : gM l G.1 (rT G) yX12_lose wsX12_lose ({ frames := 1, cells := 0, slots := 0, locals := 23 }) [.ref G.2.1, .int i0] (rWs G (sc, ar)) (gQi G.1 (rT G) (fun (r : Int32) (u : rSt) => r = (spLose a i0).2 ∧ rRep (b + 500) u (spLose a i0).1) (rWs G)) 0 0 := by
  refine gM.of (cc := cX12_lose) (maxL := 2) (ret := (some .int)) (by decide) rfl (Nat.le_of_ble_eq_true rfl) ?_
  intro p e s m below meth c A ls hx hb hr hml hown hts hlocks hnm hB hl
  have hin : ∀ w ∈ wsX120, w ∈ wsX12_lose := fun w h => List.mem_cons_of_mem _ (List.mem_append_right _ h)
  have hl : lv_has ls 2 [(0, .ref G.2.1), (1, .int i0)] := hl
  obtain ⟨n0, n9, n10, n11, n12, n13, n14, n15, n16, n19, n20, n23, n25, n26, n27, n28, n29, f1, f2, f3, f21, f22, f24, rE, rW, rl1, rl2, rl3, rq0, rq1, rq2, rq3, ro1, ro2, ro3, rg1, rg2, rg3, rg4, rh4, rg5, rh5, rg6, rh6, rg7, rh7, rc1, rc2, rc3, rz1, rz2, rz3, rz4, rk, rV, rY, rA, rb⟩ := id hr0
  have n0 : sc 0 = nI (a.1 0) := n0
  have n9 : sc 9 = nI (a.1 9) := n9
  have n10 : sc 10 = nI (a.1 10) := n10
  have n11 : sc 11 = nI (a.1 11) := n11
  have n12 : sc 12 = nI (a.1 12) := n12
  have n13 : sc 13 = nI (a.1 13) := n13
  have n14 : sc 14 = nI (a.1 14) := n14
  have n15 : sc 15 = nI (a.1 15) := n15
  have n16 : sc 16 = nI (a.1 16) := n16
  have n19 : sc 19 = nI (a.1 19) := n19
  have n20 : sc 20 = nI (a.1 20) := n20
  have n23 : sc 23 = nI (a.1 23) := n23
  have n25 : sc 25 = nI (a.1 25) := n25
  have n26 : sc 26 = nI (a.1 26) := n26
  have n27 : sc 27 = nI (a.1 27) := n27
  have n28 : sc 28 = nI (a.1 28) := n28
  have n29 : sc 29 = nI (a.1 29) := n29
  have f1 : ar 1 = a.2.1 1 := f1
  have f2 : ar 2 = a.2.1 2 := f2
  have f3 : ar 3 = a.2.1 3 := f3
  have f21 : ar 21 = a.2.1 21 := f21
  have f22 : ar 22 = a.2.1 22 := f22
  have f24 : ar 24 = a.2.1 24 := f24
  have rE : evR (ar 4) (ar 5) (ar 6) (ar 7) a.2.2.1 := rE
  have rW : wtR (ar 8) a.2.2.1 a.2.2.2.1 := rW
  have rl1 : sc 30 = nI a.2.2.2.2.1.length := rl1
  have rl3 : lnR (ar 31) (ar 32) (ar 33) a.2.2.2.2.1 := rl3
  have rq0 : ar 34 0 = nI (a.1 100) := rq0
  have rq1 : ar 34 1 = nI (a.1 101) := rq1
  have ro1 : pfx (ar 17) a.2.2.2.2.2.1 := ro1
  have ro2 : sc 18 = nI a.2.2.2.2.2.1.length := ro2
  have rg1 : ∀ x, x < 2 → ar 36 x = nI (a.2.2.2.2.2.2 x).length := rg1
  have rg3 : ∀ x, x < 2 → ∀ j, j < (a.2.2.2.2.2.2 x).length → ar 35 (400 * x + j) = nI ((a.2.2.2.2.2.2 x).getD j 0) ∧ (a.2.2.2.2.2.2 x).getD j 0 < 256 := rg3
  have rg4 : ar 37 0 = nI (a.1 102) := rg4
  have rh4 : ar 37 1 = nI (a.1 103) := rh4
  have rg5 : ar 38 0 = nI (a.1 104) := rg5
  have rh5 : ar 38 1 = nI (a.1 105) := rh5
  have rc1 : pfxN (ar 43) (a.2.2.2.2.2.2 2) := rc1
  have rc2 : sc 44 = nI (a.2.2.2.2.2.2 2).length := rc2
  have rb2 : ∀ k, a.1 k ≤ b + 500 := fun k => Nat.le_trans (rb k) (by omega)
  refine lv_aload_n hx hb dX12_lose_0 rfl (lv_at hl 0 rfl) ?_
  refine lv_iload_n hx hb dX12_lose_1 rfl (lv_at hl 1 rfl) ?_
  refine g_calli (av := [.int i0]) (rest := []) ⟨hx, hb, hml, hown, hts⟩ (c_isFlying l G sc ar a.2.2.2.2.1.length rl1 (by omega) i0) (cwV 1 hts gX12_lose_X12_isFlying rfl rfl rfl (by decide +kernel) ⟨Nat.le_of_ble_eq_true rfl, Nat.le_of_ble_eq_true rfl⟩) hB (q0 := 0) (ci := 9) rfl rfl rfl rfl hl.1 rfl (Nat.le_of_ble_eq_true rfl) dX12_lose_2 ⟨Nat.le_of_ble_eq_true rfl, Nat.le_of_ble_eq_true rfl⟩ (fun r9 u H locs hw hB => ?_)
  obtain ⟨hfl, rfl⟩ := hw
  have hB : gB G.1 (rT G) A s H locs (rWs G (sc, ar)) := hB
  refine lv_if_ne (tgt := 10) hx hb dX12_lose_5 (by decide) (fun c_1 => ?_) (fun c_1 => ?_)
  · have c_1 := c_1
    have hq : ¬ i0 < 0 ∧ ¬ nI a.2.2.2.2.1.length ≤ i0 := by rcases hfl with ⟨h1, h2⟩ | ⟨h1, h2⟩; exact h2; exact absurd h1 c_1
    obtain ⟨j, hj, ej⟩ : ∃ j : Nat, j < a.2.2.2.2.1.length ∧ i0 = nI j := by rcases pk_ix i0 (n := a.2.2.2.2.1.length) (by omega) with h | h | h; exact absurd h hq.1; exact absurd h hq.2; exact h
    subst ej
    have ej : (nI j).toNatClampNeg = j := nI_clamp (by omega)
    have hs0 : spLose a (nI j) = (spLine a (a.2.2.2.2.1.eraseIdx j), nI (a.2.2.2.2.1.eraseIdx j).length) := by rw [spLose, if_neg (fun z => by rcases z with z | z; exact hq.1 z; exact hq.2 z), ej]
    refine lv_aload_n hx hb dX12_lose_10 rfl (lv_at hl 0 rfl) ?_
    refine lv_iload_n hx hb dX12_lose_11 rfl (lv_at hl 1 rfl) ?_
    refine g_callv (av := [.int (nI j)]) (rest := []) ⟨hx, hb, hml, hown, hts⟩ (c_removeFrame l G sc ar j a.2.2.2.2.1 rl3 rl1 (by omega) hj) (cwV 1 hts gX12_lose_X12_removeFrame rfl rfl rfl (by decide +kernel) ⟨Nat.le_of_ble_eq_true rfl, Nat.le_of_ble_eq_true rfl⟩) hB (q0 := 0) (ci := 9) rfl rfl rfl rfl hl.1 rfl (Nat.le_of_ble_eq_true rfl) dX12_lose_12 ⟨Nat.le_of_ble_eq_true rfl, Nat.le_of_ble_eq_true rfl⟩ (fun u H locs hw hB => ?_)
    obtain ⟨fr, le, si, hrm, rfl⟩ := hw
    have hB : gB G.1 (rT G) A s H locs (rWs G (upd sc 30 (nI (a.2.2.2.2.1.length - 1)), va_up (va_up (va_up ar 31 fr) 32 le) 33 si)) := hB
    have el : nI (a.2.2.2.2.1.length - 1) = nI (a.2.2.2.2.1.eraseIdx j).length := by rw [List.length_eraseIdx_of_lt hj]
    refine lv_aload_n hx hb dX12_lose_15 rfl (lv_at hl 0 rfl) ?_
    refine r_get (u := (upd sc 30 (nI (a.2.2.2.2.1.length - 1)), va_up (va_up (va_up ar 31 fr) 32 le) 33 si)) (v := .int (nI (a.2.2.2.2.1.length - 1))) hx hb hts hin hown hB 30 (by decide) (hts (.fieldLink RX12 89 "PointReportsModel" "flying" "I") (by decide +kernel)) rfl rfl dX12_lose_16 ?_
    exact g_iret (Wd := rWs G) (v := nI (a.2.2.2.2.1.length - 1)) (upd sc 30 (nI (a.2.2.2.2.1.length - 1)), va_up (va_up (va_up ar 31 fr) 32 le) 33 si) hB hx hb hr hlocks rfl ⟨by rw [hs0, el], by rw [hs0]; exact ⟨n0, n9, n10, n11, n12, n13, n14, n15, n16, n19, n20, n23, n25, n26, n27, n28, n29, f1, f2, f3, f21, f22, f24, rE, rW, el, (show (a.2.2.2.2.1.eraseIdx j).length ≤ 40 by rw [List.length_eraseIdx_of_lt hj]; omega), hrm, rq0, rq1, rq2, rq3, ro1, ro2, ro3, rg1, rg2, rg3, rg4, rh4, rg5, rh5, rg6, rh6, rg7, rh7, rc1, rc2, rc3, rz1, rz2, rz3, rz4, rk, rV, (lnR_erase_ok rY), rA, rb2⟩⟩ dX12_lose_19
  · have c_1 := c_1
    have hq : i0 < 0 ∨ nI a.2.2.2.2.1.length ≤ i0 := by rcases hfl with ⟨h1, h2⟩ | ⟨h1, h2⟩; exact absurd (h1.symm.trans c_1) (by decide); exact h2
    have hs0 : spLose a i0 = (a, -1) := by rw [spLose, if_pos hq]
    refine lv_iconst (v := (-1)) hx hb dX12_lose_8 (by decide) ?_
    exact g_iret (Wd := rWs G) (v := (-1)) (sc, ar) hB hx hb hr hlocks rfl ⟨by rw [hs0], by rw [hs0]; exact rRep_mono hr0 (by omega)⟩ dX12_lose_9
set_option maxRecDepth 100000 in
set_option maxHeartbeats 4000000 in
/-- poke -/
theorem c_poke (l : Launch) (G : rG) (sc : Nat → Int32) (ar : Nat → Nat → Int32) (b : Nat) (hb9 : b ≤ 900000) (a : aS) (hr0 : rRep b (sc, ar) a) (i0 k0 m0 : Int32) : gM l G.1 (rT G) yX12_poke wsX12_poke ({ frames := 1, cells := 0, slots := 0, locals := 21 }) [.ref G.2.1, .int i0, .int k0, .int m0] (rWs G (sc, ar)) (gQi G.1 (rT G) (fun (r : Int32) (u : rSt) => r = nI (spPoke a i0 k0 m0).2 ∧ rRep (b + 500) u (spPoke a i0 k0 m0).1) (rWs G)) 0 0 := by
  refine gM.of (cc := cX12_poke) (maxL := 4) (ret := (some .boolean)) (by decide) rfl (Nat.le_of_ble_eq_true rfl) ?_
  intro p e s m below meth c A ls hx hb hr hml hown hts hlocks hnm hB hl
  have hin : ∀ w ∈ wsX120, w ∈ wsX12_poke := fun w h => List.mem_cons_of_mem _ (List.mem_append_right _ h)
  have hl : lv_has ls 4 [(0, .ref G.2.1), (1, .int i0), (2, .int k0), (3, .int m0)] := hl
  obtain ⟨n0, n9, n10, n11, n12, n13, n14, n15, n16, n19, n20, n23, n25, n26, n27, n28, n29, f1, f2, f3, f21, f22, f24, rE, rW, rl1, rl2, rl3, rq0, rq1, rq2, rq3, ro1, ro2, ro3, rg1, rg2, rg3, rg4, rh4, rg5, rh5, rg6, rh6, rg7, rh7, rc1, rc2, rc3, rz1, rz2, rz3, rz4, rk, rV, rY, rA, rb⟩ := id hr0
  have n0 : sc 0 = nI (a.1 0) := n0
  have n9 : sc 9 = nI (a.1 9) := n9
  have n10 : sc 10 = nI (a.1 10) := n10
  have n11 : sc 11 = nI (a.1 11) := n11
  have n12 : sc 12 = nI (a.1 12) := n12
  have n13 : sc 13 = nI (a.1 13) := n13
  have n14 : sc 14 = nI (a.1 14) := n14
  have n15 : sc 15 = nI (a.1 15) := n15
  have n16 : sc 16 = nI (a.1 16) := n16
  have n19 : sc 19 = nI (a.1 19) := n19
  have n20 : sc 20 = nI (a.1 20) := n20
  have n23 : sc 23 = nI (a.1 23) := n23
  have n25 : sc 25 = nI (a.1 25) := n25
  have n26 : sc 26 = nI (a.1 26) := n26
  have n27 : sc 27 = nI (a.1 27) := n27
  have n28 : sc 28 = nI (a.1 28) := n28
  have n29 : sc 29 = nI (a.1 29) := n29
  have f1 : ar 1 = a.2.1 1 := f1
  have f2 : ar 2 = a.2.1 2 := f2
  have f3 : ar 3 = a.2.1 3 := f3
  have f21 : ar 21 = a.2.1 21 := f21
  have f22 : ar 22 = a.2.1 22 := f22
  have f24 : ar 24 = a.2.1 24 := f24
  have rE : evR (ar 4) (ar 5) (ar 6) (ar 7) a.2.2.1 := rE
  have rW : wtR (ar 8) a.2.2.1 a.2.2.2.1 := rW
  have rl1 : sc 30 = nI a.2.2.2.2.1.length := rl1
  have rl3 : lnR (ar 31) (ar 32) (ar 33) a.2.2.2.2.1 := rl3
  have rq0 : ar 34 0 = nI (a.1 100) := rq0
  have rq1 : ar 34 1 = nI (a.1 101) := rq1
  have ro1 : pfx (ar 17) a.2.2.2.2.2.1 := ro1
  have ro2 : sc 18 = nI a.2.2.2.2.2.1.length := ro2
  have rg1 : ∀ x, x < 2 → ar 36 x = nI (a.2.2.2.2.2.2 x).length := rg1
  have rg3 : ∀ x, x < 2 → ∀ j, j < (a.2.2.2.2.2.2 x).length → ar 35 (400 * x + j) = nI ((a.2.2.2.2.2.2 x).getD j 0) ∧ (a.2.2.2.2.2.2 x).getD j 0 < 256 := rg3
  have rg4 : ar 37 0 = nI (a.1 102) := rg4
  have rh4 : ar 37 1 = nI (a.1 103) := rh4
  have rg5 : ar 38 0 = nI (a.1 104) := rg5
  have rh5 : ar 38 1 = nI (a.1 105) := rh5
  have rc1 : pfxN (ar 43) (a.2.2.2.2.2.2 2) := rc1
  have rc2 : sc 44 = nI (a.2.2.2.2.2.2 2).length := rc2
  have rb2 : ∀ k, a.1 k ≤ b + 500 := fun k => Nat.le_trans (rb k) (by omega)
  refine lv_aload_n hx hb dX12_poke_0 rfl (lv_at hl 0 rfl) ?_
  refine lv_iload_n hx hb dX12_poke_1 rfl (lv_at hl 1 rfl) ?_
  refine g_calli (av := [.int i0]) (rest := []) ⟨hx, hb, hml, hown, hts⟩ (c_isFlying l G sc ar a.2.2.2.2.1.length rl1 (by omega) i0) (cwV 1 hts gX12_poke_X12_isFlying rfl rfl rfl (by decide +kernel) ⟨Nat.le_of_ble_eq_true rfl, Nat.le_of_ble_eq_true rfl⟩) hB (q0 := 0) (ci := 9) rfl rfl rfl rfl hl.1 rfl (Nat.le_of_ble_eq_true rfl) dX12_poke_2 ⟨Nat.le_of_ble_eq_true rfl, Nat.le_of_ble_eq_true rfl⟩ (fun r9 u H locs hw hB => ?_)
  obtain ⟨hfl, rfl⟩ := hw
  have hB : gB G.1 (rT G) A s H locs (rWs G (sc, ar)) := hB
  refine lv_if_eq (tgt := 34) hx hb dX12_poke_5 (by decide) (fun c_1 => ?_) (fun c_1 => ?_)
  · have c_1 := c_1
    have hq : i0 < 0 ∨ nI a.2.2.2.2.1.length ≤ i0 := by rcases hfl with ⟨h1, h2⟩ | ⟨h1, h2⟩; exact absurd (h1.symm.trans c_1) (by decide); exact h2
    have hs0 : spPoke a i0 k0 m0 = (a, 0) := by rw [spPoke, if_pos (Or.inl hq)]
    refine lv_iconst (v := nI 0) hx hb dX12_poke_34 (by decide) ?_
    exact g_zret (Wd := rWs G) (v := nI 0) (sc, ar) hB hx hb hr hlocks rfl (narrow_z (Or.inl rfl)) ⟨by rw [hs0], by rw [hs0]; exact rRep_mono hr0 (by omega)⟩ dX12_poke_35
  · have c_1 := c_1
    have hq : ¬ i0 < 0 ∧ ¬ nI a.2.2.2.2.1.length ≤ i0 := by rcases hfl with ⟨h1, h2⟩ | ⟨h1, h2⟩; exact h2; exact absurd h1 c_1
    obtain ⟨j, hj, ej⟩ : ∃ j : Nat, j < a.2.2.2.2.1.length ∧ i0 = nI j := by rcases pk_ix i0 (n := a.2.2.2.2.1.length) (by omega) with h | h | h; exact absurd h hq.1; exact absurd h hq.2; exact h
    subst ej
    have ej : (nI j).toNatClampNeg = j := nI_clamp (by omega)
    obtain ⟨q, eq9⟩ : ∃ q, q = a.2.2.2.2.1.getD j (0, []) := ⟨_, rfl⟩
    have hLj : a.2.2.2.2.1[j]? = some q := by rw [eq9]; exact getD_some hj
    obtain ⟨v1, v2, v3, v4⟩ := rl3 j q hLj
    refine lv_iload_n hx hb dX12_poke_8 rfl (lv_at hl 2 rfl) ?_
    refine lv_if_lt (tgt := 34) hx hb dX12_poke_9 (by decide) (fun c_2 => ?_) (fun c_2 => ?_)
    · have c_2 := c_2
      have hs0 : spPoke a (nI j) k0 m0 = (a, 0) := by rw [spPoke, if_pos (Or.inr (Or.inl c_2))]
      refine lv_iconst (v := nI 0) hx hb dX12_poke_34 (by decide) ?_
      exact g_zret (Wd := rWs G) (v := nI 0) (sc, ar) hB hx hb hr hlocks rfl (narrow_z (Or.inl rfl)) ⟨by rw [hs0], by rw [hs0]; exact rRep_mono hr0 (by omega)⟩ dX12_poke_35
    · have c_2 := c_2
      refine lv_iload_n hx hb dX12_poke_12 rfl (lv_at hl 2 rfl) ?_
      refine lv_aload_n hx hb dX12_poke_13 rfl (lv_at hl 0 rfl) ?_
      refine r_get (u := (sc, ar)) (v := .ref (G.2.2.1 32)) hx hb hts hin hown hB 32 (by decide) (hts (.fieldLink RX12 54 "PointReportsModel" "lengths" "[I") (by decide +kernel)) rfl rfl dX12_poke_14 ?_
      refine lv_iload_n hx hb dX12_poke_17 rfl (lv_at hl 1 rfl) ?_
      refine r_ald (u := (sc, ar)) (f := ar 32) hx hb hB 14 rfl j rfl (by omega) (by decide) dX12_poke_18 ?_
      refine g_top (y := nI q.2.length) v2 ?_
      refine lv_icmp_ge (tgt := 34) hx hb dX12_poke_19 (by decide) (fun c_3 => ?_) (fun c_3 => ?_)
      · have c_3 := c_3
        have hs0 : spPoke a (nI j) k0 m0 = (a, 0) := by rw [spPoke, if_pos (Or.inr (Or.inr (Or.inl (by rw [ej, ← eq9]; exact c_3))))]
        refine lv_iconst (v := nI 0) hx hb dX12_poke_34 (by decide) ?_
        exact g_zret (Wd := rWs G) (v := nI 0) (sc, ar) hB hx hb hr hlocks rfl (narrow_z (Or.inl rfl)) ⟨by rw [hs0], by rw [hs0]; exact rRep_mono hr0 (by omega)⟩ dX12_poke_35
      · have c_3 := c_3
        obtain ⟨k, hk, ek⟩ : ∃ k : Nat, k < q.2.length ∧ k0 = nI k := by rcases pk_ix k0 (n := q.2.length) (by omega) with h | h | h; exact absurd h c_2; exact absurd h c_3; exact h
        refine lv_iload_n hx hb dX12_poke_22 rfl (lv_at hl 3 rfl) ?_
        refine lv_iconst (v := nI 1) hx hb dX12_poke_23 (by decide) ?_
        refine lv_icmp_lt (tgt := 34) hx hb dX12_poke_24 (by decide) (fun c_4 => ?_) (fun c_4 => ?_)
        · have c_4 := c_4
          have hs0 : spPoke a (nI j) k0 m0 = (a, 0) := by rw [spPoke, if_pos (Or.inr (Or.inr (Or.inr (Or.inl c_4))))]
          refine lv_iconst (v := nI 0) hx hb dX12_poke_34 (by decide) ?_
          exact g_zret (Wd := rWs G) (v := nI 0) (sc, ar) hB hx hb hr hlocks rfl (narrow_z (Or.inl rfl)) ⟨by rw [hs0], by rw [hs0]; exact rRep_mono hr0 (by omega)⟩ dX12_poke_35
        · have c_4 := c_4
          refine lv_iload_n hx hb dX12_poke_27 rfl (lv_at hl 3 rfl) ?_
          refine lv_sipush (v := nI 255) hx hb dX12_poke_28 (by decide) ?_
          refine lv_icmp_le (tgt := 36) hx hb dX12_poke_31 (by decide) (fun c_5 => ?_) (fun c_5 => ?_)
          · have c_5 := c_5
            have h0m : ¬ m0 < 0 := fun h => c_4 (Int32.lt_of_lt_of_le h (by decide))
            obtain ⟨mm, hm, em⟩ := nI_of2 (n := 255) rfl h0m c_5
            have hs0 : spPoke a (nI j) k0 m0 = (spLine a (a.2.2.2.2.1.set j (q.1, q.2.set k (q.2.getD k 0 ^^^ m0))), 1) := by
              rw [spPoke, if_neg ?_, ej, ← eq9, ek, nI_clamp (by omega)]
              rw [ej, ← eq9]
              rintro ((z | z) | z | z | z | z)
              · exact hq.1 z
              · exact hq.2 z
              · exact c_2 z
              · exact c_3 z
              · exact c_4 z
              · exact absurd c_5 (Int32.not_le.mpr z)
            subst ek
            subst em
            refine lv_aload_n hx hb dX12_poke_36 rfl (lv_at hl 0 rfl) ?_
            refine r_get (u := (sc, ar)) (v := .ref (G.2.2.1 31)) hx hb hts hin hown hB 31 (by decide) (hts (.fieldLink RX12 51 "PointReportsModel" "frames" "[I") (by decide +kernel)) rfl rfl dX12_poke_37 ?_
            refine lv_bipush (v := nI 40) hx hb dX12_poke_40 (by decide) ?_
            refine lv_iload_n hx hb dX12_poke_42 rfl (lv_at hl 1 rfl) ?_
            refine lv_imul hx hb dX12_poke_43 ?_
            refine g_top (y := nI (40 * j)) (pk_mul _ _) ?_
            refine lv_iload_n hx hb dX12_poke_44 rfl (lv_at hl 2 rfl) ?_
            refine lv_iadd hx hb dX12_poke_45 ?_
            refine g_top (y := nI ((40 * j) + k)) (nI_add _ _) ?_
            refine lv_aload_n hx hb dX12_poke_46 rfl (lv_at hl 0 rfl) ?_
            refine r_get (u := (sc, ar)) (v := .ref (G.2.2.1 31)) hx hb hts hin hown hB 31 (by decide) (hts (.fieldLink RX12 51 "PointReportsModel" "frames" "[I") (by decide +kernel)) rfl rfl dX12_poke_47 ?_
            refine lv_bipush (v := nI 40) hx hb dX12_poke_50 (by decide) ?_
            refine lv_iload_n hx hb dX12_poke_52 rfl (lv_at hl 1 rfl) ?_
            refine lv_imul hx hb dX12_poke_53 ?_
            refine g_top (y := nI (40 * j)) (pk_mul _ _) ?_
            refine lv_iload_n hx hb dX12_poke_54 rfl (lv_at hl 2 rfl) ?_
            refine lv_iadd hx hb dX12_poke_55 ?_
            refine g_top (y := nI ((40 * j) + k)) (nI_add _ _) ?_
            refine r_ald (u := (sc, ar)) (f := ar 31) hx hb hB 13 rfl ((40 * j) + k) rfl (by omega) (by decide) dX12_poke_56 ?_
            refine g_top (y := q.2.getD k 0) (v4 k hk) ?_
            refine lv_iload_n hx hb dX12_poke_57 rfl (lv_at hl 3 rfl) ?_
            refine lv_ixor hx hb dX12_poke_58 ?_
            refine r_ast (u := (sc, ar)) (f := ar 31) (x := (q.2.getD k 0) ^^^ (nI mm)) (va_up ar 31 (upd (ar 31) ((40 * j) + k) ((q.2.getD k 0) ^^^ (nI mm)))) hx hb hB 13 rfl ((40 * j) + k) rfl (by omega) (by decide) rfl dX12_poke_59 (fun H locs hB => ?_)
            refine lv_iconst (v := nI 1) hx hb dX12_poke_60 (by decide) ?_
            exact g_zret (Wd := rWs G) (v := nI 1) (sc, va_up ar 31 (upd (ar 31) ((40 * j) + k) ((q.2.getD k 0) ^^^ (nI mm)))) hB hx hb hr hlocks rfl (narrow_z (Or.inr rfl)) ⟨by rw [hs0], by rw [hs0]; exact ⟨n0, n9, n10, n11, n12, n13, n14, n15, n16, n19, n20, n23, n25, n26, n27, n28, n29, f1, f2, f3, f21, f22, f24, rE, rW, (rl1.trans (by rw [spLine, List.length_set])), (show (a.2.2.2.2.1.set j _).length ≤ 40 by rw [List.length_set]; exact rl2), (lnR_poke rl3 hLj hk), rq0, rq1, rq2, rq3, ro1, ro2, ro3, rg1, rg2, rg3, rg4, rh4, rg5, rh5, rg6, rh6, rg7, rh7, rc1, rc2, rc3, rz1, rz2, rz3, rz4, rk, rV, (lnOk_poke rY hLj hk (by omega)), rA, rb2⟩⟩ dX12_poke_61
          · have c_5 := c_5
            have hs0 : spPoke a (nI j) k0 m0 = (a, 0) := by rw [spPoke, if_pos (Or.inr (Or.inr (Or.inr (Or.inr (Int32.not_le.mp c_5)))))]
            refine lv_iconst (v := nI 0) hx hb dX12_poke_34 (by decide) ?_
            exact g_zret (Wd := rWs G) (v := nI 0) (sc, ar) hB hx hb hr hlocks rfl (narrow_z (Or.inl rfl)) ⟨by rw [hs0], by rw [hs0]; exact rRep_mono hr0 (by omega)⟩ dX12_poke_35
set_option maxRecDepth 100000 in
set_option maxHeartbeats 4000000 in
/-- at -/
theorem c_at (l : Launch) (G : rG) (sc : Nat → Int32) (ar : Nat → Nat → Int32) (b : Nat) (hb9 : b ≤ 900000) (a : aS) (hr0 : rRep b (sc, ar) a) (i0 k0 : Int32) : gM l G.1 (rT G) yX12_at wsX12_at ({ frames := 1, cells := 0, slots := 0, locals := 21 }) [.ref G.2.1, .int i0, .int k0] (rWs G (sc, ar)) (gQi G.1 (rT G) (fun (r : Int32) (u : rSt) => r = spAt a i0 k0 ∧ rRep (b + 500) u a) (rWs G)) 0 0 := by
  refine gM.of (cc := cX12_at) (maxL := 3) (ret := (some .int)) (by decide) rfl (Nat.le_of_ble_eq_true rfl) ?_
  intro p e s m below meth c A ls hx hb hr hml hown hts hlocks hnm hB hl
  have hin : ∀ w ∈ wsX120, w ∈ wsX12_at := fun w h => List.mem_cons_of_mem _ (List.mem_append_right _ h)
  have hl : lv_has ls 3 [(0, .ref G.2.1), (1, .int i0), (2, .int k0)] := hl
  obtain ⟨n0, n9, n10, n11, n12, n13, n14, n15, n16, n19, n20, n23, n25, n26, n27, n28, n29, f1, f2, f3, f21, f22, f24, rE, rW, rl1, rl2, rl3, rq0, rq1, rq2, rq3, ro1, ro2, ro3, rg1, rg2, rg3, rg4, rh4, rg5, rh5, rg6, rh6, rg7, rh7, rc1, rc2, rc3, rz1, rz2, rz3, rz4, rk, rV, rY, rA, rb⟩ := id hr0
  have n0 : sc 0 = nI (a.1 0) := n0
  have n9 : sc 9 = nI (a.1 9) := n9
  have n10 : sc 10 = nI (a.1 10) := n10
  have n11 : sc 11 = nI (a.1 11) := n11
  have n12 : sc 12 = nI (a.1 12) := n12
  have n13 : sc 13 = nI (a.1 13) := n13
  have n14 : sc 14 = nI (a.1 14) := n14
  have n15 : sc 15 = nI (a.1 15) := n15
  have n16 : sc 16 = nI (a.1 16) := n16
  have n19 : sc 19 = nI (a.1 19) := n19
  have n20 : sc 20 = nI (a.1 20) := n20
  have n23 : sc 23 = nI (a.1 23) := n23
  have n25 : sc 25 = nI (a.1 25) := n25
  have n26 : sc 26 = nI (a.1 26) := n26
  have n27 : sc 27 = nI (a.1 27) := n27
  have n28 : sc 28 = nI (a.1 28) := n28
  have n29 : sc 29 = nI (a.1 29) := n29
  have f1 : ar 1 = a.2.1 1 := f1
  have f2 : ar 2 = a.2.1 2 := f2
  have f3 : ar 3 = a.2.1 3 := f3
  have f21 : ar 21 = a.2.1 21 := f21
  have f22 : ar 22 = a.2.1 22 := f22
  have f24 : ar 24 = a.2.1 24 := f24
  have rE : evR (ar 4) (ar 5) (ar 6) (ar 7) a.2.2.1 := rE
  have rW : wtR (ar 8) a.2.2.1 a.2.2.2.1 := rW
  have rl1 : sc 30 = nI a.2.2.2.2.1.length := rl1
  have rl3 : lnR (ar 31) (ar 32) (ar 33) a.2.2.2.2.1 := rl3
  have rq0 : ar 34 0 = nI (a.1 100) := rq0
  have rq1 : ar 34 1 = nI (a.1 101) := rq1
  have ro1 : pfx (ar 17) a.2.2.2.2.2.1 := ro1
  have ro2 : sc 18 = nI a.2.2.2.2.2.1.length := ro2
  have rg1 : ∀ x, x < 2 → ar 36 x = nI (a.2.2.2.2.2.2 x).length := rg1
  have rg3 : ∀ x, x < 2 → ∀ j, j < (a.2.2.2.2.2.2 x).length → ar 35 (400 * x + j) = nI ((a.2.2.2.2.2.2 x).getD j 0) ∧ (a.2.2.2.2.2.2 x).getD j 0 < 256 := rg3
  have rg4 : ar 37 0 = nI (a.1 102) := rg4
  have rh4 : ar 37 1 = nI (a.1 103) := rh4
  have rg5 : ar 38 0 = nI (a.1 104) := rg5
  have rh5 : ar 38 1 = nI (a.1 105) := rh5
  have rc1 : pfxN (ar 43) (a.2.2.2.2.2.2 2) := rc1
  have rc2 : sc 44 = nI (a.2.2.2.2.2.2 2).length := rc2
  have rb2 : ∀ k, a.1 k ≤ b + 500 := fun k => Nat.le_trans (rb k) (by omega)
  refine lv_aload_n hx hb dX12_at_0 rfl (lv_at hl 0 rfl) ?_
  refine lv_iload_n hx hb dX12_at_1 rfl (lv_at hl 1 rfl) ?_
  refine g_calli (av := [.int i0]) (rest := []) ⟨hx, hb, hml, hown, hts⟩ (c_isFlying l G sc ar a.2.2.2.2.1.length rl1 (by omega) i0) (cwV 1 hts gX12_at_X12_isFlying rfl rfl rfl (by decide +kernel) ⟨Nat.le_of_ble_eq_true rfl, Nat.le_of_ble_eq_true rfl⟩) hB (q0 := 0) (ci := 9) rfl rfl rfl rfl hl.1 rfl (Nat.le_of_ble_eq_true rfl) dX12_at_2 ⟨Nat.le_of_ble_eq_true rfl, Nat.le_of_ble_eq_true rfl⟩ (fun r9 u H locs hw hB => ?_)
  obtain ⟨hfl, rfl⟩ := hw
  have hB : gB G.1 (rT G) A s H locs (rWs G (sc, ar)) := hB
  refine lv_if_eq (tgt := 36) hx hb dX12_at_5 (by decide) (fun c_1 => ?_) (fun c_1 => ?_)
  · have c_1 := c_1
    have hq : i0 < 0 ∨ nI a.2.2.2.2.1.length ≤ i0 := by rcases hfl with ⟨h1, h2⟩ | ⟨h1, h2⟩; exact absurd (h1.symm.trans c_1) (by decide); exact h2
    have hs0 : spAt a i0 k0 = -1 := by rw [spAt, if_pos (Or.inl hq)]
    refine lv_iconst (v := (-1)) hx hb dX12_at_36 (by decide) ?_
    exact g_iret (Wd := rWs G) (v := (-1)) (sc, ar) hB hx hb hr hlocks rfl ⟨by rw [hs0], by exact rRep_mono hr0 (by omega)⟩ dX12_at_37
  · have c_1 := c_1
    have hq : ¬ i0 < 0 ∧ ¬ nI a.2.2.2.2.1.length ≤ i0 := by rcases hfl with ⟨h1, h2⟩ | ⟨h1, h2⟩; exact h2; exact absurd h1 c_1
    obtain ⟨j, hj, ej⟩ : ∃ j : Nat, j < a.2.2.2.2.1.length ∧ i0 = nI j := by rcases pk_ix i0 (n := a.2.2.2.2.1.length) (by omega) with h | h | h; exact absurd h hq.1; exact absurd h hq.2; exact h
    subst ej
    have ej : (nI j).toNatClampNeg = j := nI_clamp (by omega)
    obtain ⟨q, eq9⟩ : ∃ q, q = a.2.2.2.2.1.getD j (0, []) := ⟨_, rfl⟩
    have hLj : a.2.2.2.2.1[j]? = some q := by rw [eq9]; exact getD_some hj
    obtain ⟨v1, v2, v3, v4⟩ := rl3 j q hLj
    refine lv_iload_n hx hb dX12_at_8 rfl (lv_at hl 2 rfl) ?_
    refine lv_if_lt (tgt := 36) hx hb dX12_at_9 (by decide) (fun c_2 => ?_) (fun c_2 => ?_)
    · have c_2 := c_2
      have hs0 : spAt a (nI j) k0 = -1 := by rw [spAt, if_pos (Or.inr (Or.inl c_2))]
      refine lv_iconst (v := (-1)) hx hb dX12_at_36 (by decide) ?_
      exact g_iret (Wd := rWs G) (v := (-1)) (sc, ar) hB hx hb hr hlocks rfl ⟨by rw [hs0], by exact rRep_mono hr0 (by omega)⟩ dX12_at_37
    · have c_2 := c_2
      refine lv_iload_n hx hb dX12_at_12 rfl (lv_at hl 2 rfl) ?_
      refine lv_aload_n hx hb dX12_at_13 rfl (lv_at hl 0 rfl) ?_
      refine r_get (u := (sc, ar)) (v := .ref (G.2.2.1 32)) hx hb hts hin hown hB 32 (by decide) (hts (.fieldLink RX12 54 "PointReportsModel" "lengths" "[I") (by decide +kernel)) rfl rfl dX12_at_14 ?_
      refine lv_iload_n hx hb dX12_at_17 rfl (lv_at hl 1 rfl) ?_
      refine r_ald (u := (sc, ar)) (f := ar 32) hx hb hB 14 rfl j rfl (by omega) (by decide) dX12_at_18 ?_
      refine g_top (y := nI q.2.length) v2 ?_
      refine lv_icmp_ge (tgt := 36) hx hb dX12_at_19 (by decide) (fun c_3 => ?_) (fun c_3 => ?_)
      · have c_3 := c_3
        have hs0 : spAt a (nI j) k0 = -1 := by rw [spAt, if_pos (Or.inr (Or.inr ((by rw [ej, ← eq9]; exact c_3))))]
        refine lv_iconst (v := (-1)) hx hb dX12_at_36 (by decide) ?_
        exact g_iret (Wd := rWs G) (v := (-1)) (sc, ar) hB hx hb hr hlocks rfl ⟨by rw [hs0], by exact rRep_mono hr0 (by omega)⟩ dX12_at_37
      · have c_3 := c_3
        obtain ⟨k, hk, ek⟩ : ∃ k : Nat, k < q.2.length ∧ k0 = nI k := by rcases pk_ix k0 (n := q.2.length) (by omega) with h | h | h; exact absurd h c_2; exact absurd h c_3; exact h
        have hs0 : spAt a (nI j) k0 = q.2.getD k 0 := by
          rw [spAt, if_neg ?_, ej, ← eq9, ek, nI_clamp (by omega)]
          rw [ej, ← eq9]
          rintro ((z | z) | z | z)
          · exact hq.1 z
          · exact hq.2 z
          · exact c_2 z
          · exact c_3 z
        subst ek
        refine lv_aload_n hx hb dX12_at_22 rfl (lv_at hl 0 rfl) ?_
        refine r_get (u := (sc, ar)) (v := .ref (G.2.2.1 31)) hx hb hts hin hown hB 31 (by decide) (hts (.fieldLink RX12 51 "PointReportsModel" "frames" "[I") (by decide +kernel)) rfl rfl dX12_at_23 ?_
        refine lv_bipush (v := nI 40) hx hb dX12_at_26 (by decide) ?_
        refine lv_iload_n hx hb dX12_at_28 rfl (lv_at hl 1 rfl) ?_
        refine lv_imul hx hb dX12_at_29 ?_
        refine g_top (y := nI (40 * j)) (pk_mul _ _) ?_
        refine lv_iload_n hx hb dX12_at_30 rfl (lv_at hl 2 rfl) ?_
        refine lv_iadd hx hb dX12_at_31 ?_
        refine g_top (y := nI ((40 * j) + k)) (nI_add _ _) ?_
        refine r_ald (u := (sc, ar)) (f := ar 31) hx hb hB 13 rfl ((40 * j) + k) rfl (by omega) (by decide) dX12_at_32 ?_
        refine g_top (y := q.2.getD k 0) (v4 k hk) ?_
        refine lv_goto (tgt := 37) hx hb dX12_at_33 (by decide) ?_
        exact g_iret (Wd := rWs G) (v := q.2.getD k 0) (sc, ar) hB hx hb hr hlocks rfl ⟨by rw [hs0], by exact rRep_mono hr0 (by omega)⟩ dX12_at_37
set_option maxRecDepth 100000 in
set_option maxHeartbeats 4000000 in
/-- flying() -/
theorem c_flying (l : Launch) (G : rG) (sc : Nat → Int32) (ar : Nat → Nat → Int32) (b : Nat) (hb9 : b ≤ 900000) (a : aS) (hr0 : rRep b (sc, ar) a) : gM l G.1 (rT G) yX12_flying wsX12_flying ({ frames := 0, cells := 0, slots := 0, locals := 0 }) [.ref G.2.1] (rWs G (sc, ar)) (gQi G.1 (rT G) (fun (r : Int32) (u : rSt) => r = nI a.2.2.2.2.1.length ∧ rRep (b + 500) u a) (rWs G)) 0 0 := by
  refine gM.of (cc := cX12_flying) (maxL := 1) (ret := (some .int)) (by decide) rfl (Nat.le_of_ble_eq_true rfl) ?_
  intro p e s m below meth c A ls hx hb hr hml hown hts hlocks hnm hB hl
  have hin : ∀ w ∈ wsX120, w ∈ wsX12_flying := fun w h => List.mem_cons_of_mem _ (List.mem_append_right _ h)
  have hl : lv_has ls 1 [(0, .ref G.2.1)] := hl
  obtain ⟨n0, n9, n10, n11, n12, n13, n14, n15, n16, n19, n20, n23, n25, n26, n27, n28, n29, f1, f2, f3, f21, f22, f24, rE, rW, rl1, rl2, rl3, rq0, rq1, rq2, rq3, ro1, ro2, ro3, rg1, rg2, rg3, rg4, rh4, rg5, rh5, rg6, rh6, rg7, rh7, rc1, rc2, rc3, rz1, rz2, rz3, rz4, rk, rV, rY, rA, rb⟩ := id hr0
  have n0 : sc 0 = nI (a.1 0) := n0
  have n9 : sc 9 = nI (a.1 9) := n9
  have n10 : sc 10 = nI (a.1 10) := n10
  have n11 : sc 11 = nI (a.1 11) := n11
  have n12 : sc 12 = nI (a.1 12) := n12
  have n13 : sc 13 = nI (a.1 13) := n13
  have n14 : sc 14 = nI (a.1 14) := n14
  have n15 : sc 15 = nI (a.1 15) := n15
  have n16 : sc 16 = nI (a.1 16) := n16
  have n19 : sc 19 = nI (a.1 19) := n19
  have n20 : sc 20 = nI (a.1 20) := n20
  have n23 : sc 23 = nI (a.1 23) := n23
  have n25 : sc 25 = nI (a.1 25) := n25
  have n26 : sc 26 = nI (a.1 26) := n26
  have n27 : sc 27 = nI (a.1 27) := n27
  have n28 : sc 28 = nI (a.1 28) := n28
  have n29 : sc 29 = nI (a.1 29) := n29
  have f1 : ar 1 = a.2.1 1 := f1
  have f2 : ar 2 = a.2.1 2 := f2
  have f3 : ar 3 = a.2.1 3 := f3
  have f21 : ar 21 = a.2.1 21 := f21
  have f22 : ar 22 = a.2.1 22 := f22
  have f24 : ar 24 = a.2.1 24 := f24
  have rE : evR (ar 4) (ar 5) (ar 6) (ar 7) a.2.2.1 := rE
  have rW : wtR (ar 8) a.2.2.1 a.2.2.2.1 := rW
  have rl1 : sc 30 = nI a.2.2.2.2.1.length := rl1
  have rl3 : lnR (ar 31) (ar 32) (ar 33) a.2.2.2.2.1 := rl3
  have rq0 : ar 34 0 = nI (a.1 100) := rq0
  have rq1 : ar 34 1 = nI (a.1 101) := rq1
  have ro1 : pfx (ar 17) a.2.2.2.2.2.1 := ro1
  have ro2 : sc 18 = nI a.2.2.2.2.2.1.length := ro2
  have rg1 : ∀ x, x < 2 → ar 36 x = nI (a.2.2.2.2.2.2 x).length := rg1
  have rg3 : ∀ x, x < 2 → ∀ j, j < (a.2.2.2.2.2.2 x).length → ar 35 (400 * x + j) = nI ((a.2.2.2.2.2.2 x).getD j 0) ∧ (a.2.2.2.2.2.2 x).getD j 0 < 256 := rg3
  have rg4 : ar 37 0 = nI (a.1 102) := rg4
  have rh4 : ar 37 1 = nI (a.1 103) := rh4
  have rg5 : ar 38 0 = nI (a.1 104) := rg5
  have rh5 : ar 38 1 = nI (a.1 105) := rh5
  have rc1 : pfxN (ar 43) (a.2.2.2.2.2.2 2) := rc1
  have rc2 : sc 44 = nI (a.2.2.2.2.2.2 2).length := rc2
  refine lv_aload_n hx hb dX12_flying_0 rfl (lv_at hl 0 rfl) ?_
  refine r_get (u := (sc, ar)) (v := .int (sc 30)) hx hb hts hin hown hB 30 (by decide) (hts (.fieldLink RX12 89 "PointReportsModel" "flying" "I") (by decide +kernel)) rfl rfl dX12_flying_1 ?_
  refine g_top (y := nI a.2.2.2.2.1.length) rl1 ?_
  exact g_iret (Wd := rWs G) (v := nI a.2.2.2.2.1.length) (sc, ar) hB hx hb hr hlocks rfl ⟨rfl, rRep_mono hr0 (by omega)⟩ dX12_flying_4
