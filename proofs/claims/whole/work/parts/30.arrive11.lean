set_option maxRecDepth 100000 in
set_option maxHeartbeats 4000000 in
/-- arrive(i, true) of a frame to side 1 -/
theorem c_arrive_11 (l : Launch) (G : rG) (sc : Nat → Int32) (ar : Nat → Nat → Int32) (b : Nat) (hb9 : b ≤ 900000) (a : aS) (hr0 : rRep b (sc, ar) a) (i : Nat) (bs : List Int32) (hi : a.2.2.2.2.1[i]? = some (nI 1, bs)) : gM l G.1 (rT G) yX12_arrive wsX12_arrive ({ frames := 7, cells := 0, slots := 0, locals := 164 }) [.ref G.2.1, .int (nI i), .int (nI 1)] (rWs G (sc, ar)) (gQv G.1 (rT G) (fun u : rSt => rRep (b + 500) u (spArr a 1 bs)) (rWs G)) 0 0 := by
  refine gM.of (cc := cX12_arrive) (maxL := 8) (ret := none) (by decide) rfl (Nat.le_of_ble_eq_true rfl) ?_
  intro p e s m below meth c A ls hx hb hr hml hown hts hlocks hnm hB hl
  have hin : ∀ w ∈ wsX120, w ∈ wsX12_arrive := fun w h => List.mem_cons_of_mem _ (List.mem_append_right _ h)
  have hl : lv_has ls 8 [(0, .ref G.2.1), (1, .int (nI i)), (2, .int (nI 1))] := hl
  obtain ⟨n0, n9, n10, n11, n12, n13, n14, n15, n16, n19, n20, n23, n25, n26, n27, n28, n29, f1, f2, f3, f21, f22, f24, rE, rW, rl1, rl2, rl3, rq0, rq1, rq2, rq3, ro1, ro2, ro3, rg1, rg2, rg3, rg4, rh4, rg5, rh5, rg6, rh6, rg7, rh7, rc1, rc2, rc3, rz1, rz2, rz3, rz4, rk, rV, rY, rA, rb⟩ := id hr0
  have n0 : sc 0 = nI (a.1 0) := n0
  have n9 : sc 9 = nI (a.1 9) := n9
  have n10 : sc 10 = nI (a.1 10) := n10
  have n11 : sc 11 = nI (a.1 11) := n11
  have n12 : sc 12 = nI (a.1 12) := n12
  have n13 : sc 13 = nI (a.1 13) := n13
  have n14 : sc 14 = nI (a.1 14) := n14
  have n15 : sc 15 = nI (a.1 15) := n15
  have n16 : sc 16 = nI (a.1 16) := n16
  have n19 : sc 19 = nI (a.1 19) := n19
  have n20 : sc 20 = nI (a.1 20) := n20
  have n23 : sc 23 = nI (a.1 23) := n23
  have n25 : sc 25 = nI (a.1 25) := n25
  have n26 : sc 26 = nI (a.1 26) := n26
  have n27 : sc 27 = nI (a.1 27) := n27
  have n28 : sc 28 = nI (a.1 28) := n28
  have n29 : sc 29 = nI (a.1 29) := n29
  have f1 : ar 1 = a.2.1 1 := f1
  have f2 : ar 2 = a.2.1 2 := f2
  have f3 : ar 3 = a.2.1 3 := f3
  have f21 : ar 21 = a.2.1 21 := f21
  have f22 : ar 22 = a.2.1 22 := f22
  have f24 : ar 24 = a.2.1 24 := f24
  have rE : evR (ar 4) (ar 5) (ar 6) (ar 7) a.2.2.1 := rE
  have rW : wtR (ar 8) a.2.2.1 a.2.2.2.1 := rW
  have rl1 : sc 30 = nI a.2.2.2.2.1.length := rl1
  have rl3 : lnR (ar 31) (ar 32) (ar 33) a.2.2.2.2.1 := rl3
  have rq0 : ar 34 0 = nI (a.1 100) := rq0
  have rq1 : ar 34 1 = nI (a.1 101) := rq1
  have ro1 : pfx (ar 17) a.2.2.2.2.2.1 := ro1
  have ro2 : sc 18 = nI a.2.2.2.2.2.1.length := ro2
  have rg1 : ∀ x, x < 2 → ar 36 x = nI (a.2.2.2.2.2.2 x).length := rg1
  have rg3 : ∀ x, x < 2 → ∀ j, j < (a.2.2.2.2.2.2 x).length → ar 35 (400 * x + j) = nI ((a.2.2.2.2.2.2 x).getD j 0) ∧ (a.2.2.2.2.2.2 x).getD j 0 < 256 := rg3
  have rg4 : ar 37 0 = nI (a.1 102) := rg4
  have rh4 : ar 37 1 = nI (a.1 103) := rh4
  have rg5 : ar 38 0 = nI (a.1 104) := rg5
  have rh5 : ar 38 1 = nI (a.1 105) := rh5
  have rc1 : pfxN (ar 43) (a.2.2.2.2.2.2 2) := rc1
  have rc2 : sc 44 = nI (a.2.2.2.2.2.2 2).length := rc2
  have hil : i < a.2.2.2.2.1.length := (List.getElem?_eq_some_iff.mp hi).1
  obtain ⟨y1, y2, y3⟩ := rY (nI 1, bs) (List.mem_of_getElem? hi)
  dsimp only at y1 y2 y3
  obtain ⟨v1, v2, v3, v4⟩ := rl3 i (nI 1, bs) hi
  dsimp only at v1 v2 v3 v4
  have b28 := rb 28
  refine lv_aload_n hx hb dX12_arrive_0 rfl (lv_at hl 0 rfl) ?_
  refine r_get (u := (sc, ar)) (v := .ref (G.2.2.1 33)) hx hb hts hin hown hB 33 (by decide) (hts (.fieldLink RX12 57 "PointReportsModel" "sides" "[I") (by decide +kernel)) rfl rfl dX12_arrive_1 ?_
  refine lv_iload_n hx hb dX12_arrive_4 rfl (lv_at hl 1 rfl) ?_
  refine r_ald (u := (sc, ar)) (f := ar 33) hx hb hB 15 rfl i rfl (by omega) (by decide) dX12_arrive_5 ?_
  refine g_top (y := nI 1) v1 ?_
  refine lv_istore_n (lv' := [(3, .int (nI 1)), (0, .ref G.2.1), (1, .int (nI i)), (2, .int (nI 1))]) hx hb dX12_arrive_6 rfl hl (by decide) rfl (fun ls hl => ?_)
  refine lv_aload_n hx hb dX12_arrive_7 rfl (lv_at hl 1 rfl) ?_
  refine lv_iload_n hx hb dX12_arrive_8 rfl (lv_at hl 2 rfl) ?_
  refine lv_iload_n hx hb dX12_arrive_9 rfl (lv_at hl 0 rfl) ?_
  refine g_calli (av := [.int (nI i), .int (nI 1)]) (rest := []) ⟨hx, hb, hml, hown, hts⟩ (c_isFrame l G sc ar i 1 (by omega) (by decide) bs y3 y2 v3 v2 v4) (cwV 2 hts gX12_arrive_X12_isFrame rfl rfl rfl (by decide +kernel) ⟨Nat.le_of_ble_eq_true rfl, Nat.le_of_ble_eq_true rfl⟩) hB (q0 := 0) (ci := 9) rfl rfl rfl rfl hl.1 rfl (Nat.le_of_ble_eq_true rfl) dX12_arrive_10 ⟨Nat.le_of_ble_eq_true rfl, Nat.le_of_ble_eq_true rfl⟩ (fun r9 u H locs hw hB => ?_)
  obtain ⟨gc, cl, rfl, hfr⟩ := hw
  have hB : gB G.1 (rT G) A s H locs (rWs G (upd sc 46 cl, va_up ar 45 gc)) := hB
  obtain ⟨gd, egd⟩ : ∃ z, z = r9 := ⟨_, rfl⟩
  rw [← egd] at hfr
  refine g_top (y := gd) egd.symm ?_
  refine lv_istore (lv' := [(4, .int gd), (3, .int (nI 1)), (0, .ref G.2.1), (1, .int (nI i)), (2, .int (nI 1))]) hx hb dX12_arrive_13 hl (by decide) rfl (fun ls hl => ?_)
  refine lv_iload_n hx hb dX12_arrive_15 rfl (lv_at hl 4 rfl) ?_
  refine lv_if_ne (tgt := 24) hx hb dX12_arrive_16 (by decide) (fun c_1 => ?_) (fun c_1 => ?_)
  · have c_1 : ¬ 1 = 0 := fun h9 => c_1 ((nI_eq (a := 1) (b := 0) (by omega) (by omega)).mpr h9)
    refine lv_iload hx hb dX12_arrive_24 (lv_at hl 0 rfl) ?_
    refine lv_if_ne (tgt := 40) hx hb dX12_arrive_26 (by decide) (fun c_2 => ?_) (fun c_2 => ?_)
    · have c_2 := c_2
      obtain ⟨hok, ecl, hcar⟩ : okF 1 bs ∧ cl = nI (nF bs) ∧ ∀ j, j < nF bs → gc j = nI (crF bs j) := by rcases hfr with ⟨h1, h2⟩ | ⟨h1, h2⟩; exact h2; exact absurd h1 c_2
      obtain ⟨o1, o2, o3⟩ := okF_n hok
      subst ecl
      have hh := crF_lt hok y3 (j := 0) (by omega)
      refine lv_aload_n hx hb dX12_arrive_40 rfl (lv_at hl 2 rfl) ?_
      refine r_get (u := (upd sc 46 (nI (nF bs)), va_up ar 45 gc)) (v := .ref (G.2.2.1 45)) hx hb hts hin hown hB 45 (by decide) (hts (.fieldLink RX12 84 "PointReportsModel" "carried" "[I") (by decide +kernel)) rfl rfl dX12_arrive_41 ?_
      refine lv_iconst (v := nI 0) hx hb dX12_arrive_44 (by decide) ?_
      refine r_ald (u := (upd sc 46 (nI (nF bs)), va_up ar 45 gc)) (f := gc) hx hb hB 24 rfl 0 rfl (by omega) (by decide) dX12_arrive_45 ?_
      refine g_top (y := nI (crF bs 0)) (hcar 0 (by omega)) ?_
      refine lv_istore (lv' := [(5, .int (nI (crF bs 0))), (4, .int gd), (3, .int (nI 1)), (0, .ref G.2.1), (1, .int (nI i)), (2, .int (nI 1))]) hx hb dX12_arrive_46 hl (by decide) rfl (fun ls hl => ?_)
      refine lv_aload_n hx hb dX12_arrive_48 rfl (lv_at hl 3 rfl) ?_
      refine r_get (u := (upd sc 46 (nI (nF bs)), va_up ar 45 gc)) (v := .int (nI (nF bs))) hx hb hts hin hown hB 46 (by decide) (hts (.fieldLink RX12 118 "PointReportsModel" "carriedLength" "I") (by decide +kernel)) rfl rfl dX12_arrive_49 ?_
      refine lv_iconst (v := nI 1) hx hb dX12_arrive_52 (by decide) ?_
      refine lv_isub hx hb dX12_arrive_53 ?_
      refine g_top (y := nI (nF bs - 1)) (pk_sub (by omega)) ?_
      have hsz := rg2 1 (by decide)
      refine lv_istore (lv' := [(6, .int (nI (nF bs - 1))), (5, .int (nI (crF bs 0))), (4, .int gd), (3, .int (nI 1)), (0, .ref G.2.1), (1, .int (nI i)), (2, .int (nI 1))]) hx hb dX12_arrive_54 hl (by decide) rfl (fun ls hl => ?_)
      refine lv_iload hx hb dX12_arrive_56 (lv_at hl 1 rfl) ?_
      refine lv_bipush (v := nI 64) hx hb dX12_arrive_58 (by decide) ?_
      refine lv_iand hx hb dX12_arrive_60 ?_
      refine g_top (y := nI (crF bs 0 &&& 64)) (nx_and _ _) ?_
      have l64 := and_lt (crF bs 0) 64
      refine lv_if_eq (tgt := 74) hx hb dX12_arrive_61 (by decide) (fun c_3 => ?_) (fun c_3 => ?_)
      · have c_3 : (crF bs 0 &&& 64) = 0 := (nI_eq (a := (crF bs 0 &&& 64)) (b := 0) (by omega) (by omega)).mp c_3
        have h64 : ¬ (crF bs 0 &&& 64) ≠ 0 := fun z => z c_3
        have hs9 : spArr a 1 bs = if a.1 105 ≠ 0 ∧ (crF bs 0 &&& 63) = (a.1 103 + 1) % 64 ∧ (a.2.2.2.2.2.2 1).length + (nF bs - 1) ≤ 400 then spGot a 1 bs (a.2.2.2.2.2.2 1) else (va_up a.1 105 0, (a).2) := by rw [spArr, if_pos hok, if_neg h64]; try rfl
        have b104 : a.1 105 ≤ 1 := rh7
        have b102 : a.1 103 < 64 := rh6
        refine lv_aload_n hx hb dX12_arrive_74 rfl (lv_at hl 4 rfl) ?_
        refine r_get (u := (upd sc 46 (nI (nF bs)), va_up ar 45 gc)) (v := .ref (G.2.2.1 38)) hx hb hts hin hown hB 38 (by decide) (hts (.fieldLink RX12 72 "PointReportsModel" "goesOn" "[Z") (by decide +kernel)) rfl rfl dX12_arrive_75 ?_
        refine lv_iload_n hx hb dX12_arrive_78 rfl (lv_at hl 3 rfl) ?_
        refine r_zald (u := (upd sc 46 (nI (nF bs)), va_up ar 45 gc)) (f := ar 38) hx hb hB 20 rfl 1 rfl (by omega) (by decide) dX12_arrive_79 ?_
        refine g_top (y := nI (a.1 105)) rh5 ?_
        refine lv_if_eq (tgt := 117) hx hb dX12_arrive_80 (by decide) (fun c_4 => ?_) (fun c_4 => ?_)
        · have c_4 : (a.1 105) = 0 := (nI_eq (a := (a.1 105)) (b := 0) (by omega) (by omega)).mp c_4
          have hs0 : spArr a 1 bs = (va_up a.1 105 0, (a).2) := by rw [hs9, if_neg (fun y => y.1 c_4)]
          refine lv_aload_n hx hb dX12_arrive_117 rfl (lv_at hl 4 rfl) ?_
          refine r_get (u := (upd sc 46 (nI (nF bs)), va_up ar 45 gc)) (v := .ref (G.2.2.1 38)) hx hb hts hin hown hB 38 (by decide) (hts (.fieldLink RX12 72 "PointReportsModel" "goesOn" "[Z") (by decide +kernel)) rfl rfl dX12_arrive_118 ?_
          refine lv_iload_n hx hb dX12_arrive_121 rfl (lv_at hl 3 rfl) ?_
          refine lv_iconst (v := nI 0) hx hb dX12_arrive_122 (by decide) ?_
          refine r_zast (u := (upd sc 46 (nI (nF bs)), va_up ar 45 gc)) (f := ar 38) (x := nI 0) (va_up (va_up ar 38 (upd (ar 38) 1 (nI 0))) 45 gc) hx hb hB 20 rfl 1 rfl (by omega) (by decide) (Or.inl rfl) rfl dX12_arrive_123 (fun H locs hB => ?_)
          exact g_vret (Wd := rWs G) (upd sc 46 (nI (nF bs)), va_up (va_up ar 38 (upd (ar 38) 1 (nI 0))) 45 gc) hB hx hb hr hlocks rfl (by rw [hs0]; exact ⟨n0, n9, n10, n11, n12, n13, n14, n15, n16, n19, n20, n23, n25, n26, n27, n28, n29, f1, f2, f3, f21, f22, f24, rE, rW, rl1, rl2, rl3, rq0, rq1, rq2, rq3, ro1, ro2, ro3, rg1, rg2, rg3, rg4, rh4, rg5, rfl, rg6, rh6, rg7, (Nat.zero_le 1), rc1, rc2, rc3, rz1, rz2, rz3, rz4, rk, rV, rY, rA, (va_up_le rb (Nat.le_add_right _ _) (Nat.zero_le _))⟩) dX12_arrive_124
        · have c_4 : ¬ (a.1 105) = 0 := fun h9 => c_4 ((nI_eq (a := (a.1 105)) (b := 0) (by omega) (by omega)).mpr h9)
          refine lv_iload hx hb dX12_arrive_83 (lv_at hl 1 rfl) ?_
          refine lv_bipush (v := nI 63) hx hb dX12_arrive_85 (by decide) ?_
          refine lv_iand hx hb dX12_arrive_87 ?_
          refine g_top (y := nI (crF bs 0 &&& 63)) (nx_and _ _) ?_
          have l63 := and_lt (crF bs 0) 63
          refine lv_aload_n hx hb dX12_arrive_88 rfl (lv_at hl 4 rfl) ?_
          refine r_get (u := (upd sc 46 (nI (nF bs)), va_up ar 45 gc)) (v := .ref (G.2.2.1 37)) hx hb hts hin hown hB 37 (by decide) (hts (.fieldLink RX12 69 "PointReportsModel" "gatheredNumber" "[I") (by decide +kernel)) rfl rfl dX12_arrive_89 ?_
          refine lv_iload_n hx hb dX12_arrive_92 rfl (lv_at hl 3 rfl) ?_
          refine r_ald (u := (upd sc 46 (nI (nF bs)), va_up ar 45 gc)) (f := ar 37) hx hb hB 19 rfl 1 rfl (by omega) (by decide) dX12_arrive_93 ?_
          refine g_top (y := nI (a.1 103)) rh4 ?_
          refine lv_iconst (v := nI 1) hx hb dX12_arrive_94 (by decide) ?_
          refine lv_iadd hx hb dX12_arrive_95 ?_
          refine g_top (y := nI ((a.1 103) + 1)) (nI_add _ _) ?_
          refine lv_bipush (v := nI 64) hx hb dX12_arrive_96 (by decide) ?_
          refine lv_irem hx hb dX12_arrive_98 (by decide) ?_
          refine g_top (y := nI ((a.1 103 + 1) % 64)) (pk_rem (by omega) (by decide) (by decide)) ?_
          refine lv_icmp_ne (tgt := 117) hx hb dX12_arrive_99 (by decide) (fun c_5 => ?_) (fun c_5 => ?_)
          · have c_5 : ¬ (crF bs 0 &&& 63) = ((a.1 103 + 1) % 64) := fun h9 => c_5 ((nI_eq (a := (crF bs 0 &&& 63)) (b := ((a.1 103 + 1) % 64)) (by omega) (by omega)).mpr h9)
            have hs0 : spArr a 1 bs = (va_up a.1 105 0, (a).2) := by rw [hs9, if_neg (fun y => c_5 y.2.1)]
            refine lv_aload_n hx hb dX12_arrive_117 rfl (lv_at hl 4 rfl) ?_
            refine r_get (u := (upd sc 46 (nI (nF bs)), va_up ar 45 gc)) (v := .ref (G.2.2.1 38)) hx hb hts hin hown hB 38 (by decide) (hts (.fieldLink RX12 72 "PointReportsModel" "goesOn" "[Z") (by decide +kernel)) rfl rfl dX12_arrive_118 ?_
            refine lv_iload_n hx hb dX12_arrive_121 rfl (lv_at hl 3 rfl) ?_
            refine lv_iconst (v := nI 0) hx hb dX12_arrive_122 (by decide) ?_
            refine r_zast (u := (upd sc 46 (nI (nF bs)), va_up ar 45 gc)) (f := ar 38) (x := nI 0) (va_up (va_up ar 38 (upd (ar 38) 1 (nI 0))) 45 gc) hx hb hB 20 rfl 1 rfl (by omega) (by decide) (Or.inl rfl) rfl dX12_arrive_123 (fun H locs hB => ?_)
            exact g_vret (Wd := rWs G) (upd sc 46 (nI (nF bs)), va_up (va_up ar 38 (upd (ar 38) 1 (nI 0))) 45 gc) hB hx hb hr hlocks rfl (by rw [hs0]; exact ⟨n0, n9, n10, n11, n12, n13, n14, n15, n16, n19, n20, n23, n25, n26, n27, n28, n29, f1, f2, f3, f21, f22, f24, rE, rW, rl1, rl2, rl3, rq0, rq1, rq2, rq3, ro1, ro2, ro3, rg1, rg2, rg3, rg4, rh4, rg5, rfl, rg6, rh6, rg7, (Nat.zero_le 1), rc1, rc2, rc3, rz1, rz2, rz3, rz4, rk, rV, rY, rA, (va_up_le rb (Nat.le_add_right _ _) (Nat.zero_le _))⟩) dX12_arrive_124
          · have c_5 : (crF bs 0 &&& 63) = ((a.1 103 + 1) % 64) := (nI_eq (a := (crF bs 0 &&& 63)) (b := ((a.1 103 + 1) % 64)) (by omega) (by omega)).mp c_5
            refine lv_aload_n hx hb dX12_arrive_102 rfl (lv_at hl 4 rfl) ?_
            refine r_get (u := (upd sc 46 (nI (nF bs)), va_up ar 45 gc)) (v := .ref (G.2.2.1 36)) hx hb hts hin hown hB 36 (by decide) (hts (.fieldLink RX12 66 "PointReportsModel" "gatheredSize" "[I") (by decide +kernel)) rfl rfl dX12_arrive_103 ?_
            refine lv_iload_n hx hb dX12_arrive_106 rfl (lv_at hl 3 rfl) ?_
            refine r_ald (u := (upd sc 46 (nI (nF bs)), va_up ar 45 gc)) (f := ar 36) hx hb hB 18 rfl 1 rfl (by omega) (by decide) dX12_arrive_107 ?_
            refine g_top (y := nI ((a.2.2.2.2.2.2 1).length)) (rg1 1 (by decide)) ?_
            refine lv_iload hx hb dX12_arrive_108 (lv_at hl 0 rfl) ?_
            refine lv_iadd hx hb dX12_arrive_110 ?_
            refine g_top (y := nI (((a.2.2.2.2.2.2 1).length) + (nF bs - 1))) (nI_add _ _) ?_
            refine lv_sipush (v := nI 400) hx hb dX12_arrive_111 (by decide) ?_
            refine lv_icmp_le (tgt := 125) hx hb dX12_arrive_114 (by decide) (fun c_6 => ?_) (fun c_6 => ?_)
            · have c_6 : (((a.2.2.2.2.2.2 1).length) + (nF bs - 1)) ≤ 400 := (nI_leI (a := (((a.2.2.2.2.2.2 1).length) + (nF bs - 1))) (b := 400) (by omega) (by omega)).mp c_6
              have hs0 : spArr a 1 bs = spGot a 1 bs (a.2.2.2.2.2.2 1) := by rw [hs9, if_pos ⟨c_4, c_5, by omega⟩]
              have hsum : (a.2.2.2.2.2.2 1).length + (nF bs - 1) ≤ 400 := by omega
              obtain ⟨pl, epl⟩ : ∃ z, z = a.2.2.2.2.2.2 1 ++ plF bs := ⟨_, rfl⟩
              have lpl : pl.length = (a.2.2.2.2.2.2 1).length + (nF bs - 1) := by rw [epl, List.length_append, plF_len]
              refine lv_iconst (v := nI 0) hx hb dX12_arrive_125 (by decide) ?_
              refine lv_istore (lv' := [(7, .int (nI 0)), (6, .int (nI (nF bs - 1))), (5, .int (nI (crF bs 0))), (4, .int gd), (3, .int (nI 1)), (0, .ref G.2.1), (1, .int (nI i)), (2, .int (nI 1))]) hx hb dX12_arrive_126 hl (by decide) rfl (fun ls hl => ?_)
              have hl : lv_has ls 8 [(7, .int (nI 0)), (6, .int (nI (nF bs - 1))), (5, .int (nI (crF bs 0))), (4, .int gd), (3, .int (nI 1)), (0, .ref G.2.1), (1, .int (nI i)), (2, .int (nI 1))] := lv_sub hl [0, 1, 2, 3, 4, 5, 6, 7] rfl
              have hB : gB G.1 (rT G) A s H locs (rWs G (upd sc 46 (nI (nF bs)), va_up (va_up ar 35 (ar 35)) 45 gc)) := hB
              refine g_loop (σ := Nat × (Nat → Int32)) (fun d xv H locs ls => (xv.1 + d = nF bs - 1) ∧ (∀ j, j < (a.2.2.2.2.2.2 1).length + xv.1 → xv.2 (400 * 1 + j) = nI (pl.getD j 0)) ∧ (∀ z, z < 400 * 1 ∨ 400 * 1 + 400 ≤ z → xv.2 z = ar 35 z) ∧ gB G.1 (rT G) A s H locs (rWs G (upd sc 46 (nI (nF bs)), va_up (va_up ar 35 xv.2) 45 gc)) ∧ lv_has ls 8 [(7, .int (nI xv.1)), (6, .int (nI (nF bs - 1))), (5, .int (nI (crF bs 0))), (4, .int gd), (3, .int (nI 1)), (0, .ref G.2.1), (1, .int (nI i)), (2, .int (nI 1))]) (nF bs - 1) (0, ar 35) ⟨by omega, fun j hj => by rw [epl, getD_app, if_pos (by omega)]; exact (rg3 1 (by decide) j (by omega)).1, fun z _ => rfl, hB, hl⟩ ?_
              rintro d ⟨k, f⟩ H locs ls ⟨hk, hf, hfo, hB, hl⟩ ih_7
              have hk : k + d = nF bs - 1 := hk
              have hf : ∀ j, j < (a.2.2.2.2.2.2 1).length + k → f (400 * 1 + j) = nI (pl.getD j 0) := hf
              have hfo : ∀ z, z < 400 * 1 ∨ 400 * 1 + 400 ≤ z → f z = ar 35 z := hfo
              have hB : gB G.1 (rT G) A s H locs (rWs G (upd sc 46 (nI (nF bs)), va_up (va_up ar 35 f) 45 gc)) := hB
              have hl : lv_has ls 8 [(7, .int (nI k)), (6, .int (nI (nF bs - 1))), (5, .int (nI (crF bs 0))), (4, .int gd), (3, .int (nI 1)), (0, .ref G.2.1), (1, .int (nI i)), (2, .int (nI 1))] := hl
              refine lv_iload hx hb dX12_arrive_128 (lv_at hl 0 rfl) ?_
              refine lv_iload hx hb dX12_arrive_130 (lv_at hl 1 rfl) ?_
              refine lv_icmp_ge (tgt := 170) hx hb dX12_arrive_132 (by decide) (fun c_8 => ?_) (fun c_8 => ?_)
              · have c_8 : (nF bs - 1) ≤ k := (nI_leI (a := (nF bs - 1)) (b := k) (by omega) (by omega)).mp c_8
                have hk9 : k = nF bs - 1 := by omega
                rw [hk9, ← lpl] at hf
                refine lv_aload_n hx hb dX12_arrive_170 rfl (lv_at hl 5 rfl) ?_
                refine r_get (u := (upd sc 46 (nI (nF bs)), va_up (va_up ar 35 f) 45 gc)) (v := .ref (G.2.2.1 36)) hx hb hts hin hown hB 36 (by decide) (hts (.fieldLink RX12 66 "PointReportsModel" "gatheredSize" "[I") (by decide +kernel)) rfl rfl dX12_arrive_171 ?_
                refine lv_iload_n hx hb dX12_arrive_174 rfl (lv_at hl 4 rfl) ?_
                refine lv_dup2_11 hx hb dX12_arrive_175 rfl rfl ?_
                refine r_ald (u := (upd sc 46 (nI (nF bs)), va_up (va_up ar 35 f) 45 gc)) (f := ar 36) hx hb hB 18 rfl 1 rfl (by omega) (by decide) dX12_arrive_176 ?_
                refine g_top (y := nI ((a.2.2.2.2.2.2 1).length)) (rg1 1 (by decide)) ?_
                refine lv_iload hx hb dX12_arrive_177 (lv_at hl 1 rfl) ?_
                refine lv_iadd hx hb dX12_arrive_179 ?_
                refine g_top (y := nI (((a.2.2.2.2.2.2 1).length) + (nF bs - 1))) (nI_add _ _) ?_
                refine g_top (y := nI pl.length) (by rw [lpl]) ?_
                refine r_ast (u := (upd sc 46 (nI (nF bs)), va_up (va_up ar 35 f) 45 gc)) (f := ar 36) (x := nI pl.length) (va_up (va_up (va_up ar 35 f) 36 (upd (ar 36) 1 (nI pl.length))) 45 gc) hx hb hB 18 rfl 1 rfl (by omega) (by decide) rfl dX12_arrive_180 (fun H locs hB => ?_)
                refine lv_aload_n hx hb dX12_arrive_181 rfl (lv_at hl 5 rfl) ?_
                refine r_get (u := (upd sc 46 (nI (nF bs)), va_up (va_up (va_up ar 35 f) 36 (upd (ar 36) 1 (nI pl.length))) 45 gc)) (v := .ref (G.2.2.1 37)) hx hb hts hin hown hB 37 (by decide) (hts (.fieldLink RX12 69 "PointReportsModel" "gatheredNumber" "[I") (by decide +kernel)) rfl rfl dX12_arrive_182 ?_
                refine lv_iload_n hx hb dX12_arrive_185 rfl (lv_at hl 4 rfl) ?_
                refine lv_iload hx hb dX12_arrive_186 (lv_at hl 2 rfl) ?_
                refine lv_bipush (v := nI 63) hx hb dX12_arrive_188 (by decide) ?_
                refine lv_iand hx hb dX12_arrive_190 ?_
                refine g_top (y := nI (crF bs 0 &&& 63)) (nx_and _ _) ?_
                have l63 := and_lt (crF bs 0) 63
                refine r_ast (u := (upd sc 46 (nI (nF bs)), va_up (va_up (va_up ar 35 f) 36 (upd (ar 36) 1 (nI pl.length))) 45 gc)) (f := ar 37) (x := nI (crF bs 0 &&& 63)) (va_up (va_up (va_up (va_up ar 35 f) 36 (upd (ar 36) 1 (nI pl.length))) 37 (upd (ar 37) 1 (nI (crF bs 0 &&& 63)))) 45 gc) hx hb hB 19 rfl 1 rfl (by omega) (by decide) rfl dX12_arrive_191 (fun H locs hB => ?_)
                refine lv_aload_n hx hb dX12_arrive_192 rfl (lv_at hl 5 rfl) ?_
                refine r_get (u := (upd sc 46 (nI (nF bs)), va_up (va_up (va_up (va_up ar 35 f) 36 (upd (ar 36) 1 (nI pl.length))) 37 (upd (ar 37) 1 (nI (crF bs 0 &&& 63)))) 45 gc)) (v := .ref (G.2.2.1 38)) hx hb hts hin hown hB 38 (by decide) (hts (.fieldLink RX12 72 "PointReportsModel" "goesOn" "[Z") (by decide +kernel)) rfl rfl dX12_arrive_193 ?_
                refine lv_iload_n hx hb dX12_arrive_196 rfl (lv_at hl 4 rfl) ?_
                refine lv_iload hx hb dX12_arrive_197 (lv_at hl 2 rfl) ?_
                refine lv_sipush (v := nI 128) hx hb dX12_arrive_199 (by decide) ?_
                refine lv_iand hx hb dX12_arrive_202 ?_
                refine g_top (y := nI (crF bs 0 &&& 128)) (nx_and _ _) ?_
                have l128 := and_lt (crF bs 0) 128
                refine g_cut (σ := Unit) 211 (fun _ H locs ls => gB G.1 (rT G) A s H locs (rWs G (upd sc 46 (nI (nF bs)), va_up (va_up (va_up (va_up ar 35 f) 36 (upd (ar 36) 1 (nI pl.length))) 37 (upd (ar 37) 1 (nI (crF bs 0 &&& 63)))) 45 gc)) ∧ lv_has ls 8 [(7, .int (nI k)), (6, .int (nI (nF bs - 1))), (5, .int (nI (crF bs 0))), (4, .int gd), (3, .int (nI 1)), (0, .ref G.2.1), (1, .int (nI i)), (2, .int (nI 1))]) (fun _ => [.int (nI (if (crF bs 0 &&& 128) = 0 then 1 else 0)), .int (nI 1), .ref (G.2.2.1 38)]) ?_ (fun cut => ?_)
                rotate_left
                · refine lv_if_ne (tgt := 210) hx hb dX12_arrive_203 (by decide) (fun c_9 => ?_) (fun c_9 => ?_)
                  · have c_9 : ¬ (crF bs 0 &&& 128) = 0 := fun h9 => c_9 ((nI_eq (a := (crF bs 0 &&& 128)) (b := 0) (by omega) (by omega)).mpr h9)
                    refine lv_iconst (v := nI 0) hx hb dX12_arrive_210 (by decide) ?_
                    refine g_top (y := nI (if (crF bs 0 &&& 128) = 0 then 1 else 0)) (by rw [if_neg c_9]) ?_
                    exact cut () H locs ls ⟨hB, hl⟩
                  · have c_9 : (crF bs 0 &&& 128) = 0 := (nI_eq (a := (crF bs 0 &&& 128)) (b := 0) (by omega) (by omega)).mp c_9
                    refine lv_iconst (v := nI 1) hx hb dX12_arrive_206 (by decide) ?_
                    refine lv_goto (tgt := 211) hx hb dX12_arrive_207 (by decide) ?_
                    refine g_top (y := nI (if (crF bs 0 &&& 128) = 0 then 1 else 0)) (by rw [if_pos c_9]) ?_
                    exact cut () H locs ls ⟨hB, hl⟩
                rintro - H locs ls ⟨hB, hl⟩
                refine r_zast (u := (upd sc 46 (nI (nF bs)), va_up (va_up (va_up (va_up ar 35 f) 36 (upd (ar 36) 1 (nI pl.length))) 37 (upd (ar 37) 1 (nI (crF bs 0 &&& 63)))) 45 gc)) (f := ar 38) (x := nI (if (crF bs 0 &&& 128) = 0 then 1 else 0)) (va_up (va_up (va_up (va_up (va_up ar 35 f) 36 (upd (ar 36) 1 (nI pl.length))) 37 (upd (ar 37) 1 (nI (crF bs 0 &&& 63)))) 38 (upd (ar 38) 1 (nI (if (crF bs 0 &&& 128) = 0 then 1 else 0)))) 45 gc) hx hb hB 20 rfl 1 rfl (by omega) (by decide) (by split; exact Or.inr rfl; exact Or.inl rfl) rfl dX12_arrive_211 (fun H locs hB => ?_)
                refine lv_aload_n hx hb dX12_arrive_212 rfl (lv_at hl 5 rfl) ?_
                refine r_get (u := (upd sc 46 (nI (nF bs)), va_up (va_up (va_up (va_up (va_up ar 35 f) 36 (upd (ar 36) 1 (nI pl.length))) 37 (upd (ar 37) 1 (nI (crF bs 0 &&& 63)))) 38 (upd (ar 38) 1 (nI (if (crF bs 0 &&& 128) = 0 then 1 else 0)))) 45 gc)) (v := .ref (G.2.2.1 38)) hx hb hts hin hown hB 38 (by decide) (hts (.fieldLink RX12 72 "PointReportsModel" "goesOn" "[Z") (by decide +kernel)) rfl rfl dX12_arrive_213 ?_
                refine lv_iload_n hx hb dX12_arrive_216 rfl (lv_at hl 4 rfl) ?_
                refine r_zald (u := (upd sc 46 (nI (nF bs)), va_up (va_up (va_up (va_up (va_up ar 35 f) 36 (upd (ar 36) 1 (nI pl.length))) 37 (upd (ar 37) 1 (nI (crF bs 0 &&& 63)))) 38 (upd (ar 38) 1 (nI (if (crF bs 0 &&& 128) = 0 then 1 else 0)))) 45 gc)) (f := upd (ar 38) 1 (nI (if (crF bs 0 &&& 128) = 0 then 1 else 0))) hx hb hB 20 rfl 1 rfl (by omega) (by decide) dX12_arrive_217 ?_
                have hby : ∀ j, j < pl.length → pl.getD j 0 < 256 := fun j hj => by
                  rw [epl, getD_app]
                  split
                  · rename_i hj2; exact (rg3 1 (by decide) j hj2).2
                  · rename_i hj2; rw [plF_at (by skip; omega)]; exact crF_lt hok y3 (by skip; omega)
                have hg1 : ∀ x, x < 2 → upd (ar 36) 1 (nI pl.length) x = nI (va_up a.2.2.2.2.2.2 1 pl x).length := fun x hx => by
                  by_cases hq : x = 1
                  · subst hq; rw [upd_self, va_self]
                  · rw [upd_ne hq, va_ne hq]; exact rg1 x hx
                have hg2 : ∀ x, x < 2 → (va_up a.2.2.2.2.2.2 1 pl x).length ≤ 400 := fun x hx => by
                  by_cases hq : x = 1
                  · subst hq; rw [va_self, lpl]; omega
                  · rw [va_ne hq]; exact rg2 x hx
                have hg3 : ∀ x, x < 2 → ∀ j, j < (va_up a.2.2.2.2.2.2 1 pl x).length → f (400 * x + j) = nI ((va_up a.2.2.2.2.2.2 1 pl x).getD j 0) ∧ (va_up a.2.2.2.2.2.2 1 pl x).getD j 0 < 256 := fun x hx j hj => by
                  by_cases hq : x = 1
                  · subst hq; rw [va_self] at hj ⊢; exact ⟨hf j hj, hby j hj⟩
                  · have h4 := rg2 x hx; rw [va_ne hq] at hj ⊢; rw [hfo _ (by omega)]; exact rg3 x hx j hj
                have hz9 : (if (crF bs 0 &&& 128) = 0 then 1 else 0) ≤ 1 := by split <;> omega
                refine g_top (y := nI (if (crF bs 0 &&& 128) = 0 then 1 else 0)) upd_self ?_
                refine lv_if_ne (tgt := 275) hx hb dX12_arrive_218 (by decide) (fun c_10 => ?_) (fun c_10 => ?_)
                · have c_10 : ¬ (if (crF bs 0 &&& 128) = 0 then 1 else 0) = 0 := fun h9 => c_10 ((nI_eq (a := (if (crF bs 0 &&& 128) = 0 then 1 else 0)) (b := 0) (by omega) (by omega)).mpr h9)
                  have h128 : (crF bs 0 &&& 128) = 0 := Classical.byContradiction (fun y => c_10 (by rw [if_neg y]))
                  have hs1 : spArr a 1 bs = (spRcv a 1 pl (crF bs 0)) := by rw [hs0, spGot, if_pos h128, ← epl]
                  have hr2 : rRep (b + 64) (upd sc 46 (nI (nF bs)), va_up (va_up (va_up (va_up (va_up ar 35 f) 36 (upd (ar 36) 1 (nI pl.length))) 37 (upd (ar 37) 1 (nI (crF bs 0 &&& 63)))) 38 (upd (ar 38) 1 (nI (if (crF bs 0 &&& 128) = 0 then 1 else 0)))) 45 gc) (spRcv a 1 pl (crF bs 0)) := ⟨n0, n9, n10, n11, n12, n13, n14, n15, n16, n19, n20, n23, n25, n26, n27, n28, n29, f1, f2, f3, f21, f22, f24, rE, rW, rl1, rl2, rl3, rq0, rq1, rq2, rq3, ro1, ro2, ro3, hg1, hg2, hg3, rg4, rfl, rg5, rfl, rg6, (show (crF bs 0 &&& 63) < 64 by omega), rg7, (show (if (crF bs 0 &&& 128) = 0 then 1 else 0) ≤ 1 by split <;> omega), rc1, rc2, rc3, rz1, rz2, rz3, rz4, rk, rV, rY, rA, (va_up_le (va_up_le (fun k => Nat.le_trans (rb k) (Nat.le_add_right b 64)) (Nat.le_refl _) (show (crF bs 0 &&& 63) ≤ b + 64 by omega)) (Nat.le_refl _) (show (if (crF bs 0 &&& 128) = 0 then 1 else 0) ≤ b + 64 by split <;> omega))⟩
                  exact g_vret (Wd := rWs G) (upd sc 46 (nI (nF bs)), va_up (va_up (va_up (va_up (va_up ar 35 f) 36 (upd (ar 36) 1 (nI pl.length))) 37 (upd (ar 37) 1 (nI (crF bs 0 &&& 63)))) 38 (upd (ar 38) 1 (nI (if (crF bs 0 &&& 128) = 0 then 1 else 0)))) 45 gc) hB hx hb hr hlocks rfl (by rw [hs1]; exact rRep_mono hr2 (by omega)) dX12_arrive_275
                · have c_10 : (if (crF bs 0 &&& 128) = 0 then 1 else 0) = 0 := (nI_eq (a := (if (crF bs 0 &&& 128) = 0 then 1 else 0)) (b := 0) (by omega) (by omega)).mp c_10
                  have h128 : ¬ (crF bs 0 &&& 128) = 0 := fun z => by rw [if_pos z] at c_10; omega
                  have hs1 : spArr a 1 bs = (spTake (spRcv a 1 pl (crF bs 0)) pl 1).1 := by rw [hs0, spGot, if_neg h128, ← epl]
                  refine lv_aload_n hx hb dX12_arrive_221 rfl (lv_at hl 5 rfl) ?_
                  refine lv_aload_n hx hb dX12_arrive_222 rfl (lv_at hl 5 rfl) ?_
                  refine r_get (u := (upd sc 46 (nI (nF bs)), va_up (va_up (va_up (va_up (va_up ar 35 f) 36 (upd (ar 36) 1 (nI pl.length))) 37 (upd (ar 37) 1 (nI (crF bs 0 &&& 63)))) 38 (upd (ar 38) 1 (nI (if (crF bs 0 &&& 128) = 0 then 1 else 0)))) 45 gc)) (v := .ref (G.2.2.1 36)) hx hb hts hin hown hB 36 (by decide) (hts (.fieldLink RX12 66 "PointReportsModel" "gatheredSize" "[I") (by decide +kernel)) rfl rfl dX12_arrive_223 ?_
                  refine lv_iload_n hx hb dX12_arrive_226 rfl (lv_at hl 4 rfl) ?_
                  refine r_ald (u := (upd sc 46 (nI (nF bs)), va_up (va_up (va_up (va_up (va_up ar 35 f) 36 (upd (ar 36) 1 (nI pl.length))) 37 (upd (ar 37) 1 (nI (crF bs 0 &&& 63)))) 38 (upd (ar 38) 1 (nI (if (crF bs 0 &&& 128) = 0 then 1 else 0)))) 45 gc)) (f := upd (ar 36) 1 (nI pl.length)) hx hb hB 18 rfl 1 rfl (by omega) (by decide) dX12_arrive_227 ?_
                  refine g_top (y := nI pl.length) upd_self ?_
                  refine r_put (u := (upd sc 46 (nI (nF bs)), va_up (va_up (va_up (va_up (va_up ar 35 f) 36 (upd (ar 36) 1 (nI pl.length))) 37 (upd (ar 37) 1 (nI (crF bs 0 &&& 63)))) 38 (upd (ar 38) 1 (nI (if (crF bs 0 &&& 128) = 0 then 1 else 0)))) 45 gc)) (v := nI pl.length) (upd (upd sc 42 (nI pl.length)) 46 (nI (nF bs))) hx hb hts hin hown hB 42 (by decide) (hts (.fieldLink RX12 127 "PointReportsModel" "readLength" "I") (by decide +kernel)) rfl (ty := .int) rfl rfl rfl rfl rfl dX12_arrive_228 (fun H locs hB => ?_)
                  refine lv_iconst (v := nI 0) hx hb dX12_arrive_231 (by decide) ?_
                  refine lv_istore (lv' := [(7, .int (nI 0)), (6, .int (nI (nF bs - 1))), (5, .int (nI (crF bs 0))), (4, .int gd), (3, .int (nI 1)), (0, .ref G.2.1), (1, .int (nI i)), (2, .int (nI 1))]) hx hb dX12_arrive_232 hl (by decide) rfl (fun ls hl => ?_)
                  have hl : lv_has ls 8 [(7, .int (nI 0)), (6, .int (nI (nF bs - 1))), (5, .int (nI (crF bs 0))), (4, .int gd), (3, .int (nI 1)), (0, .ref G.2.1), (1, .int (nI i)), (2, .int (nI 1))] := lv_sub hl [0, 1, 2, 3, 4, 5, 6, 7] rfl
                  have hB : gB G.1 (rT G) A s H locs (rWs G (upd (upd sc 42 (nI pl.length)) 46 (nI (nF bs)), va_up (va_up (va_up (va_up (va_up (va_up ar 35 f) 36 (upd (ar 36) 1 (nI pl.length))) 37 (upd (ar 37) 1 (nI (crF bs 0 &&& 63)))) 38 (upd (ar 38) 1 (nI (if (crF bs 0 &&& 128) = 0 then 1 else 0)))) 41 (ar 41)) 45 gc)) := hB
                  refine g_loop (σ := Nat × (Nat → Int32)) (fun d xv H locs ls => (xv.1 + d = pl.length) ∧ (∀ z, z < xv.1 → xv.2 z = nI (pl.getD z 0)) ∧ gB G.1 (rT G) A s H locs (rWs G (upd (upd sc 42 (nI pl.length)) 46 (nI (nF bs)), va_up (va_up (va_up (va_up (va_up (va_up ar 35 f) 36 (upd (ar 36) 1 (nI pl.length))) 37 (upd (ar 37) 1 (nI (crF bs 0 &&& 63)))) 38 (upd (ar 38) 1 (nI (if (crF bs 0 &&& 128) = 0 then 1 else 0)))) 41 xv.2) 45 gc)) ∧ lv_has ls 8 [(7, .int (nI xv.1)), (6, .int (nI (nF bs - 1))), (5, .int (nI (crF bs 0))), (4, .int gd), (3, .int (nI 1)), (0, .ref G.2.1), (1, .int (nI i)), (2, .int (nI 1))]) pl.length (0, ar 41) ⟨by omega, fun z hz => absurd hz (Nat.not_lt_zero z), hB, hl⟩ ?_
                  rintro d ⟨j, rdf⟩ H locs ls ⟨hj, hrf, hB, hl⟩ ih_11
                  have hj : j + d = pl.length := hj
                  have hrf : ∀ z, z < j → rdf z = nI (pl.getD z 0) := hrf
                  have hB : gB G.1 (rT G) A s H locs (rWs G (upd (upd sc 42 (nI pl.length)) 46 (nI (nF bs)), va_up (va_up (va_up (va_up (va_up (va_up ar 35 f) 36 (upd (ar 36) 1 (nI pl.length))) 37 (upd (ar 37) 1 (nI (crF bs 0 &&& 63)))) 38 (upd (ar 38) 1 (nI (if (crF bs 0 &&& 128) = 0 then 1 else 0)))) 41 rdf) 45 gc)) := hB
                  have hl : lv_has ls 8 [(7, .int (nI j)), (6, .int (nI (nF bs - 1))), (5, .int (nI (crF bs 0))), (4, .int gd), (3, .int (nI 1)), (0, .ref G.2.1), (1, .int (nI i)), (2, .int (nI 1))] := hl
                  refine lv_iload hx hb dX12_arrive_234 (lv_at hl 0 rfl) ?_
                  refine lv_aload_n hx hb dX12_arrive_236 rfl (lv_at hl 5 rfl) ?_
                  refine r_get (u := (upd (upd sc 42 (nI pl.length)) 46 (nI (nF bs)), va_up (va_up (va_up (va_up (va_up (va_up ar 35 f) 36 (upd (ar 36) 1 (nI pl.length))) 37 (upd (ar 37) 1 (nI (crF bs 0 &&& 63)))) 38 (upd (ar 38) 1 (nI (if (crF bs 0 &&& 128) = 0 then 1 else 0)))) 41 rdf) 45 gc)) (v := .int (nI pl.length)) hx hb hts hin hown hB 42 (by decide) (hts (.fieldLink RX12 127 "PointReportsModel" "readLength" "I") (by decide +kernel)) rfl rfl dX12_arrive_237 ?_
                  refine lv_icmp_ge (tgt := 269) hx hb dX12_arrive_240 (by decide) (fun c_12 => ?_) (fun c_12 => ?_)
                  · have c_12 : pl.length ≤ j := (nI_leI (a := pl.length) (b := j) (by omega) (by omega)).mp c_12
                    have hr2 : rRep (b + 64) (upd (upd sc 42 (nI pl.length)) 46 (nI (nF bs)), va_up (va_up (va_up (va_up (va_up (va_up ar 35 f) 36 (upd (ar 36) 1 (nI pl.length))) 37 (upd (ar 37) 1 (nI (crF bs 0 &&& 63)))) 38 (upd (ar 38) 1 (nI (if (crF bs 0 &&& 128) = 0 then 1 else 0)))) 41 rdf) 45 gc) (spRcv a 1 pl (crF bs 0)) := ⟨n0, n9, n10, n11, n12, n13, n14, n15, n16, n19, n20, n23, n25, n26, n27, n28, n29, f1, f2, f3, f21, f22, f24, rE, rW, rl1, rl2, rl3, rq0, rq1, rq2, rq3, ro1, ro2, ro3, hg1, hg2, hg3, rg4, rfl, rg5, rfl, rg6, (show (crF bs 0 &&& 63) < 64 by omega), rg7, (show (if (crF bs 0 &&& 128) = 0 then 1 else 0) ≤ 1 by split <;> omega), rc1, rc2, rc3, rz1, rz2, rz3, rz4, rk, rV, rY, rA, (va_up_le (va_up_le (fun k => Nat.le_trans (rb k) (Nat.le_add_right b 64)) (Nat.le_refl _) (show (crF bs 0 &&& 63) ≤ b + 64 by omega)) (Nat.le_refl _) (show (if (crF bs 0 &&& 128) = 0 then 1 else 0) ≤ b + 64 by split <;> omega))⟩
                    refine lv_aload_n hx hb dX12_arrive_269 rfl (lv_at hl 5 rfl) ?_
                    refine lv_iload_n hx hb dX12_arrive_270 rfl (lv_at hl 4 rfl) ?_
                    refine g_calli (av := [.int (nI 1)]) (rest := []) ⟨hx, hb, hml, hown, hts⟩ (c_take l G (upd (upd sc 42 (nI pl.length)) 46 (nI (nF bs))) (va_up (va_up (va_up (va_up (va_up (va_up ar 35 f) 36 (upd (ar 36) 1 (nI pl.length))) 37 (upd (ar 37) 1 (nI (crF bs 0 &&& 63)))) 38 (upd (ar 38) 1 (nI (if (crF bs 0 &&& 128) = 0 then 1 else 0)))) 41 rdf) 45 gc) (b + 64) (by omega) (spRcv a 1 pl (crF bs 0)) hr2 pl (fun z hz => ⟨hrf z (by omega), hby z hz⟩) rfl (by omega) 1 (by decide)) (cwV 1 hts gX12_arrive_X12_take rfl rfl rfl (by decide +kernel) ⟨Nat.le_of_ble_eq_true rfl, Nat.le_of_ble_eq_true rfl⟩) hB (q0 := 0) (ci := 9) rfl rfl rfl rfl hl.1 rfl (Nat.le_of_ble_eq_true rfl) dX12_arrive_271 ⟨Nat.le_of_ble_eq_true rfl, Nat.le_of_ble_eq_true rfl⟩ (fun r9 u H locs hw hB => ?_)
                    obtain ⟨sc3, ar3⟩ := u
                    obtain ⟨er3, hr3⟩ := hw
                    have hB : gB G.1 (rT G) A s H locs (rWs G (sc3, ar3)) := hB
                    refine lv_pop hx hb dX12_arrive_274 rfl ?_
                    exact g_vret (Wd := rWs G) (sc3, ar3) hB hx hb hr hlocks rfl (by rw [hs1]; exact rRep_mono hr3 (by omega)) dX12_arrive_275
                  · have c_12 : ¬ pl.length ≤ j := fun h9 => c_12 ((nI_leI (a := pl.length) (b := j) (by omega) (by omega)).mpr h9)
                    refine lv_aload_n hx hb dX12_arrive_243 rfl (lv_at hl 5 rfl) ?_
                    refine r_get (u := (upd (upd sc 42 (nI pl.length)) 46 (nI (nF bs)), va_up (va_up (va_up (va_up (va_up (va_up ar 35 f) 36 (upd (ar 36) 1 (nI pl.length))) 37 (upd (ar 37) 1 (nI (crF bs 0 &&& 63)))) 38 (upd (ar 38) 1 (nI (if (crF bs 0 &&& 128) = 0 then 1 else 0)))) 41 rdf) 45 gc)) (v := .ref (G.2.2.1 41)) hx hb hts hin hown hB 41 (by decide) (hts (.fieldLink RX12 78 "PointReportsModel" "read" "[I") (by decide +kernel)) rfl rfl dX12_arrive_244 ?_
                    refine lv_iload hx hb dX12_arrive_247 (lv_at hl 0 rfl) ?_
                    refine lv_aload_n hx hb dX12_arrive_249 rfl (lv_at hl 5 rfl) ?_
                    refine r_get (u := (upd (upd sc 42 (nI pl.length)) 46 (nI (nF bs)), va_up (va_up (va_up (va_up (va_up (va_up ar 35 f) 36 (upd (ar 36) 1 (nI pl.length))) 37 (upd (ar 37) 1 (nI (crF bs 0 &&& 63)))) 38 (upd (ar 38) 1 (nI (if (crF bs 0 &&& 128) = 0 then 1 else 0)))) 41 rdf) 45 gc)) (v := .ref (G.2.2.1 35)) hx hb hts hin hown hB 35 (by decide) (hts (.fieldLink RX12 63 "PointReportsModel" "gathered" "[I") (by decide +kernel)) rfl rfl dX12_arrive_250 ?_
                    refine lv_sipush (v := nI 400) hx hb dX12_arrive_253 (by decide) ?_
                    refine lv_iload_n hx hb dX12_arrive_256 rfl (lv_at hl 4 rfl) ?_
                    refine lv_imul hx hb dX12_arrive_257 ?_
                    refine g_top (y := nI (400 * 1)) (pk_mul _ _) ?_
                    refine lv_iload hx hb dX12_arrive_258 (lv_at hl 0 rfl) ?_
                    refine lv_iadd hx hb dX12_arrive_260 ?_
                    refine g_top (y := nI ((400 * 1) + j)) (nI_add _ _) ?_
                    refine r_ald (u := (upd (upd sc 42 (nI pl.length)) 46 (nI (nF bs)), va_up (va_up (va_up (va_up (va_up (va_up ar 35 f) 36 (upd (ar 36) 1 (nI pl.length))) 37 (upd (ar 37) 1 (nI (crF bs 0 &&& 63)))) 38 (upd (ar 38) 1 (nI (if (crF bs 0 &&& 128) = 0 then 1 else 0)))) 41 rdf) 45 gc)) (f := f) hx hb hB 17 rfl ((400 * 1) + j) rfl (by omega) (by decide) dX12_arrive_261 ?_
                    refine g_top (y := nI (pl.getD j 0)) (hf j (by omega)) ?_
                    refine r_ast (u := (upd (upd sc 42 (nI pl.length)) 46 (nI (nF bs)), va_up (va_up (va_up (va_up (va_up (va_up ar 35 f) 36 (upd (ar 36) 1 (nI pl.length))) 37 (upd (ar 37) 1 (nI (crF bs 0 &&& 63)))) 38 (upd (ar 38) 1 (nI (if (crF bs 0 &&& 128) = 0 then 1 else 0)))) 41 rdf) 45 gc)) (f := rdf) (x := nI (pl.getD j 0)) (va_up (va_up (va_up (va_up (va_up (va_up ar 35 f) 36 (upd (ar 36) 1 (nI pl.length))) 37 (upd (ar 37) 1 (nI (crF bs 0 &&& 63)))) 38 (upd (ar 38) 1 (nI (if (crF bs 0 &&& 128) = 0 then 1 else 0)))) 41 (upd rdf j (nI (pl.getD j 0)))) 45 gc) hx hb hB 22 rfl j rfl (by omega) (by decide) rfl dX12_arrive_262 (fun H locs hB => ?_)
                    refine lv_iinc (v := nI (j + 1)) (lv' := [(7, .int (nI (j + 1))), (6, .int (nI (nF bs - 1))), (5, .int (nI (crF bs 0))), (4, .int gd), (3, .int (nI 1)), (0, .ref G.2.1), (1, .int (nI i)), (2, .int (nI 1))]) hx hb dX12_arrive_263 hl (k := 0) rfl (nI_add _ _) (by decide) rfl (fun ls hl => ?_)
                    refine lv_goto (tgt := 234) hx hb dX12_arrive_266 (by decide) ?_
                    have hl : lv_has ls 8 [(7, .int (nI (j + 1))), (6, .int (nI (nF bs - 1))), (5, .int (nI (crF bs 0))), (4, .int gd), (3, .int (nI 1)), (0, .ref G.2.1), (1, .int (nI i)), (2, .int (nI 1))] := lv_sub hl [0, 1, 2, 3, 4, 5, 6, 7] rfl
                    have hB : gB G.1 (rT G) A s H locs (rWs G (upd (upd sc 42 (nI pl.length)) 46 (nI (nF bs)), va_up (va_up (va_up (va_up (va_up (va_up ar 35 f) 36 (upd (ar 36) 1 (nI pl.length))) 37 (upd (ar 37) 1 (nI (crF bs 0 &&& 63)))) 38 (upd (ar 38) 1 (nI (if (crF bs 0 &&& 128) = 0 then 1 else 0)))) 41 (upd rdf j (nI (pl.getD j 0)))) 45 gc)) := hB
                    have b_13 : (j + 1) + (pl.length - (j + 1)) = pl.length := by omega
                    have b_14 : ∀ z, z < (j + 1) → (upd rdf j (nI (pl.getD j 0))) z = nI (pl.getD z 0) := fun z hz => by
                        by_cases hq : z = j
                        · subst hq; exact upd_self
                        · rw [upd_ne hq]; exact hrf z (by omega)
                    exact ih_11 (pl.length - (j + 1)) (j + 1, upd rdf j (nI (pl.getD j 0))) H locs ls (by omega) ⟨b_13, b_14, hB, hl⟩
              · have c_8 : ¬ (nF bs - 1) ≤ k := fun h9 => c_8 ((nI_leI (a := (nF bs - 1)) (b := k) (by omega) (by omega)).mpr h9)
                refine lv_aload_n hx hb dX12_arrive_135 rfl (lv_at hl 5 rfl) ?_
                refine r_get (u := (upd sc 46 (nI (nF bs)), va_up (va_up ar 35 f) 45 gc)) (v := .ref (G.2.2.1 35)) hx hb hts hin hown hB 35 (by decide) (hts (.fieldLink RX12 63 "PointReportsModel" "gathered" "[I") (by decide +kernel)) rfl rfl dX12_arrive_136 ?_
                refine lv_sipush (v := nI 400) hx hb dX12_arrive_139 (by decide) ?_
                refine lv_iload_n hx hb dX12_arrive_142 rfl (lv_at hl 4 rfl) ?_
                refine lv_imul hx hb dX12_arrive_143 ?_
                refine g_top (y := nI (400 * 1)) (pk_mul _ _) ?_
                refine lv_aload_n hx hb dX12_arrive_144 rfl (lv_at hl 5 rfl) ?_
                refine r_get (u := (upd sc 46 (nI (nF bs)), va_up (va_up ar 35 f) 45 gc)) (v := .ref (G.2.2.1 36)) hx hb hts hin hown hB 36 (by decide) (hts (.fieldLink RX12 66 "PointReportsModel" "gatheredSize" "[I") (by decide +kernel)) rfl rfl dX12_arrive_145 ?_
                refine lv_iload_n hx hb dX12_arrive_148 rfl (lv_at hl 4 rfl) ?_
                refine r_ald (u := (upd sc 46 (nI (nF bs)), va_up (va_up ar 35 f) 45 gc)) (f := ar 36) hx hb hB 18 rfl 1 rfl (by omega) (by decide) dX12_arrive_149 ?_
                refine g_top (y := nI ((a.2.2.2.2.2.2 1).length)) (rg1 1 (by decide)) ?_
                refine lv_iadd hx hb dX12_arrive_150 ?_
                refine g_top (y := nI ((400 * 1) + ((a.2.2.2.2.2.2 1).length))) (nI_add _ _) ?_
                refine lv_iload hx hb dX12_arrive_151 (lv_at hl 0 rfl) ?_
                refine lv_iadd hx hb dX12_arrive_153 ?_
                refine g_top (y := nI (((400 * 1) + ((a.2.2.2.2.2.2 1).length)) + k)) (nI_add _ _) ?_
                refine lv_aload_n hx hb dX12_arrive_154 rfl (lv_at hl 5 rfl) ?_
                refine r_get (u := (upd sc 46 (nI (nF bs)), va_up (va_up ar 35 f) 45 gc)) (v := .ref (G.2.2.1 45)) hx hb hts hin hown hB 45 (by decide) (hts (.fieldLink RX12 84 "PointReportsModel" "carried" "[I") (by decide +kernel)) rfl rfl dX12_arrive_155 ?_
                refine lv_iconst (v := nI 1) hx hb dX12_arrive_158 (by decide) ?_
                refine lv_iload hx hb dX12_arrive_159 (lv_at hl 0 rfl) ?_
                refine lv_iadd hx hb dX12_arrive_161 ?_
                refine g_top (y := nI (1 + k)) (nI_add _ _) ?_
                refine r_ald (u := (upd sc 46 (nI (nF bs)), va_up (va_up ar 35 f) 45 gc)) (f := gc) hx hb hB 24 rfl (1 + k) rfl (by omega) (by decide) dX12_arrive_162 ?_
                refine g_top (y := nI (crF bs (1 + k))) (hcar (1 + k) (by omega)) ?_
                refine r_ast (u := (upd sc 46 (nI (nF bs)), va_up (va_up ar 35 f) 45 gc)) (f := f) (x := nI (crF bs (1 + k))) (va_up (va_up ar 35 (upd f (((400 * 1) + ((a.2.2.2.2.2.2 1).length)) + k) (nI (crF bs (1 + k))))) 45 gc) hx hb hB 17 rfl (((400 * 1) + ((a.2.2.2.2.2.2 1).length)) + k) rfl (by omega) (by decide) rfl dX12_arrive_163 (fun H locs hB => ?_)
                refine lv_iinc (v := nI (k + 1)) (lv' := [(7, .int (nI (k + 1))), (6, .int (nI (nF bs - 1))), (5, .int (nI (crF bs 0))), (4, .int gd), (3, .int (nI 1)), (0, .ref G.2.1), (1, .int (nI i)), (2, .int (nI 1))]) hx hb dX12_arrive_164 hl (k := 0) rfl (nI_add _ _) (by decide) rfl (fun ls hl => ?_)
                refine lv_goto (tgt := 128) hx hb dX12_arrive_167 (by decide) ?_
                have hl : lv_has ls 8 [(7, .int (nI (k + 1))), (6, .int (nI (nF bs - 1))), (5, .int (nI (crF bs 0))), (4, .int gd), (3, .int (nI 1)), (0, .ref G.2.1), (1, .int (nI i)), (2, .int (nI 1))] := lv_sub hl [0, 1, 2, 3, 4, 5, 6, 7] rfl
                have hB : gB G.1 (rT G) A s H locs (rWs G (upd sc 46 (nI (nF bs)), va_up (va_up ar 35 (upd f (((400 * 1) + ((a.2.2.2.2.2.2 1).length)) + k) (nI (crF bs (1 + k))))) 45 gc)) := hB
                have b_15 : (k + 1) + (nF bs - 1 - (k + 1)) = nF bs - 1 := by omega
                have b_16 : ∀ j, j < (a.2.2.2.2.2.2 1).length + (k + 1) → (upd f (((400 * 1) + ((a.2.2.2.2.2.2 1).length)) + k) (nI (crF bs (1 + k)))) (400 * 1 + j) = nI (pl.getD j 0) := fun j hj => by
                    by_cases hq : j = (a.2.2.2.2.2.2 1).length + k
                    · subst hq
                      rw [epl, getD_app, if_neg (by omega), show (a.2.2.2.2.2.2 1).length + k - (a.2.2.2.2.2.2 1).length = k by omega]
                      rw [plF_at (by omega)]
                      rw [show 400 * 1 + ((a.2.2.2.2.2.2 1).length + k) = 400 * 1 + (a.2.2.2.2.2.2 1).length + k by omega]
                      exact upd_self
                    · rw [upd_ne (by omega)]; exact hf j (by omega)
                have b_17 : ∀ z, z < 400 * 1 ∨ 400 * 1 + 400 ≤ z → (upd f (((400 * 1) + ((a.2.2.2.2.2.2 1).length)) + k) (nI (crF bs (1 + k)))) z = ar 35 z := fun z hz => by rw [upd_ne (by omega)]; exact hfo z hz
                exact ih_7 (nF bs - 1 - (k + 1)) (k + 1, upd f (((400 * 1) + ((a.2.2.2.2.2.2 1).length)) + k) (nI (crF bs (1 + k)))) H locs ls (by omega) ⟨b_15, b_16, b_17, hB, hl⟩
            · have c_6 : ¬ (((a.2.2.2.2.2.2 1).length) + (nF bs - 1)) ≤ 400 := fun h9 => c_6 ((nI_leI (a := (((a.2.2.2.2.2.2 1).length) + (nF bs - 1))) (b := 400) (by omega) (by omega)).mpr h9)
              have hs0 : spArr a 1 bs = (va_up a.1 105 0, (a).2) := by rw [hs9, if_neg (fun y => c_6 (by omega))]
              refine lv_aload_n hx hb dX12_arrive_117 rfl (lv_at hl 4 rfl) ?_
              refine r_get (u := (upd sc 46 (nI (nF bs)), va_up ar 45 gc)) (v := .ref (G.2.2.1 38)) hx hb hts hin hown hB 38 (by decide) (hts (.fieldLink RX12 72 "PointReportsModel" "goesOn" "[Z") (by decide +kernel)) rfl rfl dX12_arrive_118 ?_
              refine lv_iload_n hx hb dX12_arrive_121 rfl (lv_at hl 3 rfl) ?_
              refine lv_iconst (v := nI 0) hx hb dX12_arrive_122 (by decide) ?_
              refine r_zast (u := (upd sc 46 (nI (nF bs)), va_up ar 45 gc)) (f := ar 38) (x := nI 0) (va_up (va_up ar 38 (upd (ar 38) 1 (nI 0))) 45 gc) hx hb hB 20 rfl 1 rfl (by omega) (by decide) (Or.inl rfl) rfl dX12_arrive_123 (fun H locs hB => ?_)
              exact g_vret (Wd := rWs G) (upd sc 46 (nI (nF bs)), va_up (va_up ar 38 (upd (ar 38) 1 (nI 0))) 45 gc) hB hx hb hr hlocks rfl (by rw [hs0]; exact ⟨n0, n9, n10, n11, n12, n13, n14, n15, n16, n19, n20, n23, n25, n26, n27, n28, n29, f1, f2, f3, f21, f22, f24, rE, rW, rl1, rl2, rl3, rq0, rq1, rq2, rq3, ro1, ro2, ro3, rg1, rg2, rg3, rg4, rh4, rg5, rfl, rg6, rh6, rg7, (Nat.zero_le 1), rc1, rc2, rc3, rz1, rz2, rz3, rz4, rk, rV, rY, rA, (va_up_le rb (Nat.le_add_right _ _) (Nat.zero_le _))⟩) dX12_arrive_124
      · have c_3 : ¬ (crF bs 0 &&& 64) = 0 := fun h9 => c_3 ((nI_eq (a := (crF bs 0 &&& 64)) (b := 0) (by omega) (by omega)).mpr h9)
        have hs0 : spArr a 1 bs = spGot a 1 bs [] := by rw [spArr, if_pos hok, if_pos c_3]
        refine lv_aload_n hx hb dX12_arrive_64 rfl (lv_at hl 4 rfl) ?_
        refine r_get (u := (upd sc 46 (nI (nF bs)), va_up ar 45 gc)) (v := .ref (G.2.2.1 36)) hx hb hts hin hown hB 36 (by decide) (hts (.fieldLink RX12 66 "PointReportsModel" "gatheredSize" "[I") (by decide +kernel)) rfl rfl dX12_arrive_65 ?_
        refine lv_iload_n hx hb dX12_arrive_68 rfl (lv_at hl 3 rfl) ?_
        refine lv_iconst (v := nI 0) hx hb dX12_arrive_69 (by decide) ?_
        refine r_ast (u := (upd sc 46 (nI (nF bs)), va_up ar 45 gc)) (f := ar 36) (x := nI 0) (va_up (va_up ar 36 (upd (ar 36) 1 (nI 0))) 45 gc) hx hb hB 18 rfl 1 rfl (by omega) (by decide) rfl dX12_arrive_70 (fun H locs hB => ?_)
        refine lv_goto (tgt := 125) hx hb dX12_arrive_71 (by decide) ?_
        obtain ⟨pl, epl⟩ : ∃ z, z = [] ++ plF bs := ⟨_, rfl⟩
        have lpl : pl.length = 0 + (nF bs - 1) := by rw [epl, List.length_append, plF_len]; rfl
        refine lv_iconst (v := nI 0) hx hb dX12_arrive_125 (by decide) ?_
        refine lv_istore (lv' := [(7, .int (nI 0)), (6, .int (nI (nF bs - 1))), (5, .int (nI (crF bs 0))), (4, .int gd), (3, .int (nI 1)), (0, .ref G.2.1), (1, .int (nI i)), (2, .int (nI 1))]) hx hb dX12_arrive_126 hl (by decide) rfl (fun ls hl => ?_)
        have hl : lv_has ls 8 [(7, .int (nI 0)), (6, .int (nI (nF bs - 1))), (5, .int (nI (crF bs 0))), (4, .int gd), (3, .int (nI 1)), (0, .ref G.2.1), (1, .int (nI i)), (2, .int (nI 1))] := lv_sub hl [0, 1, 2, 3, 4, 5, 6, 7] rfl
        have hB : gB G.1 (rT G) A s H locs (rWs G (upd sc 46 (nI (nF bs)), va_up (va_up (va_up ar 35 (ar 35)) 36 (upd (ar 36) 1 (nI 0))) 45 gc)) := hB
        refine g_loop (σ := Nat × (Nat → Int32)) (fun d xv H locs ls => (xv.1 + d = nF bs - 1) ∧ (∀ j, j < 0 + xv.1 → xv.2 (400 * 1 + j) = nI (pl.getD j 0)) ∧ (∀ z, z < 400 * 1 ∨ 400 * 1 + 400 ≤ z → xv.2 z = ar 35 z) ∧ gB G.1 (rT G) A s H locs (rWs G (upd sc 46 (nI (nF bs)), va_up (va_up (va_up ar 35 xv.2) 36 (upd (ar 36) 1 (nI 0))) 45 gc)) ∧ lv_has ls 8 [(7, .int (nI xv.1)), (6, .int (nI (nF bs - 1))), (5, .int (nI (crF bs 0))), (4, .int gd), (3, .int (nI 1)), (0, .ref G.2.1), (1, .int (nI i)), (2, .int (nI 1))]) (nF bs - 1) (0, ar 35) ⟨by omega, fun j hj => absurd hj (Nat.not_lt_zero j), fun z _ => rfl, hB, hl⟩ ?_
        rintro d ⟨k, f⟩ H locs ls ⟨hk, hf, hfo, hB, hl⟩ ih_18
        have hk : k + d = nF bs - 1 := hk
        have hf : ∀ j, j < 0 + k → f (400 * 1 + j) = nI (pl.getD j 0) := hf
        have hfo : ∀ z, z < 400 * 1 ∨ 400 * 1 + 400 ≤ z → f z = ar 35 z := hfo
        have hB : gB G.1 (rT G) A s H locs (rWs G (upd sc 46 (nI (nF bs)), va_up (va_up (va_up ar 35 f) 36 (upd (ar 36) 1 (nI 0))) 45 gc)) := hB
        have hl : lv_has ls 8 [(7, .int (nI k)), (6, .int (nI (nF bs - 1))), (5, .int (nI (crF bs 0))), (4, .int gd), (3, .int (nI 1)), (0, .ref G.2.1), (1, .int (nI i)), (2, .int (nI 1))] := hl
        refine lv_iload hx hb dX12_arrive_128 (lv_at hl 0 rfl) ?_
        refine lv_iload hx hb dX12_arrive_130 (lv_at hl 1 rfl) ?_
        refine lv_icmp_ge (tgt := 170) hx hb dX12_arrive_132 (by decide) (fun c_19 => ?_) (fun c_19 => ?_)
        · have c_19 : (nF bs - 1) ≤ k := (nI_leI (a := (nF bs - 1)) (b := k) (by omega) (by omega)).mp c_19
          have hk9 : k = nF bs - 1 := by omega
          rw [hk9, ← lpl] at hf
          refine lv_aload_n hx hb dX12_arrive_170 rfl (lv_at hl 5 rfl) ?_
          refine r_get (u := (upd sc 46 (nI (nF bs)), va_up (va_up (va_up ar 35 f) 36 (upd (ar 36) 1 (nI 0))) 45 gc)) (v := .ref (G.2.2.1 36)) hx hb hts hin hown hB 36 (by decide) (hts (.fieldLink RX12 66 "PointReportsModel" "gatheredSize" "[I") (by decide +kernel)) rfl rfl dX12_arrive_171 ?_
          refine lv_iload_n hx hb dX12_arrive_174 rfl (lv_at hl 4 rfl) ?_
          refine lv_dup2_11 hx hb dX12_arrive_175 rfl rfl ?_
          refine r_ald (u := (upd sc 46 (nI (nF bs)), va_up (va_up (va_up ar 35 f) 36 (upd (ar 36) 1 (nI 0))) 45 gc)) (f := upd (ar 36) 1 (nI 0)) hx hb hB 18 rfl 1 rfl (by omega) (by decide) dX12_arrive_176 ?_
          refine g_top (y := nI 0) upd_self ?_
          refine lv_iload hx hb dX12_arrive_177 (lv_at hl 1 rfl) ?_
          refine lv_iadd hx hb dX12_arrive_179 ?_
          refine g_top (y := nI (0 + (nF bs - 1))) (nI_add _ _) ?_
          refine g_top (y := nI pl.length) (by rw [lpl]) ?_
          refine r_ast (u := (upd sc 46 (nI (nF bs)), va_up (va_up (va_up ar 35 f) 36 (upd (ar 36) 1 (nI 0))) 45 gc)) (f := upd (ar 36) 1 (nI 0)) (x := nI pl.length) (va_up (va_up (va_up ar 35 f) 36 (upd (upd (ar 36) 1 (nI 0)) 1 (nI pl.length))) 45 gc) hx hb hB 18 rfl 1 rfl (by omega) (by decide) rfl dX12_arrive_180 (fun H locs hB => ?_)
          refine lv_aload_n hx hb dX12_arrive_181 rfl (lv_at hl 5 rfl) ?_
          refine r_get (u := (upd sc 46 (nI (nF bs)), va_up (va_up (va_up ar 35 f) 36 (upd (upd (ar 36) 1 (nI 0)) 1 (nI pl.length))) 45 gc)) (v := .ref (G.2.2.1 37)) hx hb hts hin hown hB 37 (by decide) (hts (.fieldLink RX12 69 "PointReportsModel" "gatheredNumber" "[I") (by decide +kernel)) rfl rfl dX12_arrive_182 ?_
          refine lv_iload_n hx hb dX12_arrive_185 rfl (lv_at hl 4 rfl) ?_
          refine lv_iload hx hb dX12_arrive_186 (lv_at hl 2 rfl) ?_
          refine lv_bipush (v := nI 63) hx hb dX12_arrive_188 (by decide) ?_
          refine lv_iand hx hb dX12_arrive_190 ?_
          refine g_top (y := nI (crF bs 0 &&& 63)) (nx_and _ _) ?_
          have l63 := and_lt (crF bs 0) 63
          refine r_ast (u := (upd sc 46 (nI (nF bs)), va_up (va_up (va_up ar 35 f) 36 (upd (upd (ar 36) 1 (nI 0)) 1 (nI pl.length))) 45 gc)) (f := ar 37) (x := nI (crF bs 0 &&& 63)) (va_up (va_up (va_up (va_up ar 35 f) 36 (upd (upd (ar 36) 1 (nI 0)) 1 (nI pl.length))) 37 (upd (ar 37) 1 (nI (crF bs 0 &&& 63)))) 45 gc) hx hb hB 19 rfl 1 rfl (by omega) (by decide) rfl dX12_arrive_191 (fun H locs hB => ?_)
          refine lv_aload_n hx hb dX12_arrive_192 rfl (lv_at hl 5 rfl) ?_
          refine r_get (u := (upd sc 46 (nI (nF bs)), va_up (va_up (va_up (va_up ar 35 f) 36 (upd (upd (ar 36) 1 (nI 0)) 1 (nI pl.length))) 37 (upd (ar 37) 1 (nI (crF bs 0 &&& 63)))) 45 gc)) (v := .ref (G.2.2.1 38)) hx hb hts hin hown hB 38 (by decide) (hts (.fieldLink RX12 72 "PointReportsModel" "goesOn" "[Z") (by decide +kernel)) rfl rfl dX12_arrive_193 ?_
          refine lv_iload_n hx hb dX12_arrive_196 rfl (lv_at hl 4 rfl) ?_
          refine lv_iload hx hb dX12_arrive_197 (lv_at hl 2 rfl) ?_
          refine lv_sipush (v := nI 128) hx hb dX12_arrive_199 (by decide) ?_
          refine lv_iand hx hb dX12_arrive_202 ?_
          refine g_top (y := nI (crF bs 0 &&& 128)) (nx_and _ _) ?_
          have l128 := and_lt (crF bs 0) 128
          refine g_cut (σ := Unit) 211 (fun _ H locs ls => gB G.1 (rT G) A s H locs (rWs G (upd sc 46 (nI (nF bs)), va_up (va_up (va_up (va_up ar 35 f) 36 (upd (upd (ar 36) 1 (nI 0)) 1 (nI pl.length))) 37 (upd (ar 37) 1 (nI (crF bs 0 &&& 63)))) 45 gc)) ∧ lv_has ls 8 [(7, .int (nI k)), (6, .int (nI (nF bs - 1))), (5, .int (nI (crF bs 0))), (4, .int gd), (3, .int (nI 1)), (0, .ref G.2.1), (1, .int (nI i)), (2, .int (nI 1))]) (fun _ => [.int (nI (if (crF bs 0 &&& 128) = 0 then 1 else 0)), .int (nI 1), .ref (G.2.2.1 38)]) ?_ (fun cut => ?_)
          rotate_left
          · refine lv_if_ne (tgt := 210) hx hb dX12_arrive_203 (by decide) (fun c_20 => ?_) (fun c_20 => ?_)
            · have c_20 : ¬ (crF bs 0 &&& 128) = 0 := fun h9 => c_20 ((nI_eq (a := (crF bs 0 &&& 128)) (b := 0) (by omega) (by omega)).mpr h9)
              refine lv_iconst (v := nI 0) hx hb dX12_arrive_210 (by decide) ?_
              refine g_top (y := nI (if (crF bs 0 &&& 128) = 0 then 1 else 0)) (by rw [if_neg c_20]) ?_
              exact cut () H locs ls ⟨hB, hl⟩
            · have c_20 : (crF bs 0 &&& 128) = 0 := (nI_eq (a := (crF bs 0 &&& 128)) (b := 0) (by omega) (by omega)).mp c_20
              refine lv_iconst (v := nI 1) hx hb dX12_arrive_206 (by decide) ?_
              refine lv_goto (tgt := 211) hx hb dX12_arrive_207 (by decide) ?_
              refine g_top (y := nI (if (crF bs 0 &&& 128) = 0 then 1 else 0)) (by rw [if_pos c_20]) ?_
              exact cut () H locs ls ⟨hB, hl⟩
          rintro - H locs ls ⟨hB, hl⟩
          refine r_zast (u := (upd sc 46 (nI (nF bs)), va_up (va_up (va_up (va_up ar 35 f) 36 (upd (upd (ar 36) 1 (nI 0)) 1 (nI pl.length))) 37 (upd (ar 37) 1 (nI (crF bs 0 &&& 63)))) 45 gc)) (f := ar 38) (x := nI (if (crF bs 0 &&& 128) = 0 then 1 else 0)) (va_up (va_up (va_up (va_up (va_up ar 35 f) 36 (upd (upd (ar 36) 1 (nI 0)) 1 (nI pl.length))) 37 (upd (ar 37) 1 (nI (crF bs 0 &&& 63)))) 38 (upd (ar 38) 1 (nI (if (crF bs 0 &&& 128) = 0 then 1 else 0)))) 45 gc) hx hb hB 20 rfl 1 rfl (by omega) (by decide) (by split; exact Or.inr rfl; exact Or.inl rfl) rfl dX12_arrive_211 (fun H locs hB => ?_)
          refine lv_aload_n hx hb dX12_arrive_212 rfl (lv_at hl 5 rfl) ?_
          refine r_get (u := (upd sc 46 (nI (nF bs)), va_up (va_up (va_up (va_up (va_up ar 35 f) 36 (upd (upd (ar 36) 1 (nI 0)) 1 (nI pl.length))) 37 (upd (ar 37) 1 (nI (crF bs 0 &&& 63)))) 38 (upd (ar 38) 1 (nI (if (crF bs 0 &&& 128) = 0 then 1 else 0)))) 45 gc)) (v := .ref (G.2.2.1 38)) hx hb hts hin hown hB 38 (by decide) (hts (.fieldLink RX12 72 "PointReportsModel" "goesOn" "[Z") (by decide +kernel)) rfl rfl dX12_arrive_213 ?_
          refine lv_iload_n hx hb dX12_arrive_216 rfl (lv_at hl 4 rfl) ?_
          refine r_zald (u := (upd sc 46 (nI (nF bs)), va_up (va_up (va_up (va_up (va_up ar 35 f) 36 (upd (upd (ar 36) 1 (nI 0)) 1 (nI pl.length))) 37 (upd (ar 37) 1 (nI (crF bs 0 &&& 63)))) 38 (upd (ar 38) 1 (nI (if (crF bs 0 &&& 128) = 0 then 1 else 0)))) 45 gc)) (f := upd (ar 38) 1 (nI (if (crF bs 0 &&& 128) = 0 then 1 else 0))) hx hb hB 20 rfl 1 rfl (by omega) (by decide) dX12_arrive_217 ?_
          have hby : ∀ j, j < pl.length → pl.getD j 0 < 256 := fun j hj => by
            rw [epl, getD_app]
            split
            · rename_i hj2; exact absurd hj2 (Nat.not_lt_zero j)
            · rename_i hj2; rw [plF_at (by have hz0 : ([] : List Nat).length = 0 := rfl; omega)]; exact crF_lt hok y3 (by have hz0 : ([] : List Nat).length = 0 := rfl; omega)
          have hg1 : ∀ x, x < 2 → upd (upd (ar 36) 1 (nI 0)) 1 (nI pl.length) x = nI (va_up a.2.2.2.2.2.2 1 pl x).length := fun x hx => by
            by_cases hq : x = 1
            · subst hq; rw [upd_self, va_self]
            · rw [upd_ne hq, va_ne hq, upd_ne hq]; exact rg1 x hx
          have hg2 : ∀ x, x < 2 → (va_up a.2.2.2.2.2.2 1 pl x).length ≤ 400 := fun x hx => by
            by_cases hq : x = 1
            · subst hq; rw [va_self, lpl]; omega
            · rw [va_ne hq]; exact rg2 x hx
          have hg3 : ∀ x, x < 2 → ∀ j, j < (va_up a.2.2.2.2.2.2 1 pl x).length → f (400 * x + j) = nI ((va_up a.2.2.2.2.2.2 1 pl x).getD j 0) ∧ (va_up a.2.2.2.2.2.2 1 pl x).getD j 0 < 256 := fun x hx j hj => by
            by_cases hq : x = 1
            · subst hq; rw [va_self] at hj ⊢; exact ⟨hf j hj, hby j hj⟩
            · have h4 := rg2 x hx; rw [va_ne hq] at hj ⊢; rw [hfo _ (by omega)]; exact rg3 x hx j hj
          have hz9 : (if (crF bs 0 &&& 128) = 0 then 1 else 0) ≤ 1 := by split <;> omega
          refine g_top (y := nI (if (crF bs 0 &&& 128) = 0 then 1 else 0)) upd_self ?_
          refine lv_if_ne (tgt := 275) hx hb dX12_arrive_218 (by decide) (fun c_21 => ?_) (fun c_21 => ?_)
          · have c_21 : ¬ (if (crF bs 0 &&& 128) = 0 then 1 else 0) = 0 := fun h9 => c_21 ((nI_eq (a := (if (crF bs 0 &&& 128) = 0 then 1 else 0)) (b := 0) (by omega) (by omega)).mpr h9)
            have h128 : (crF bs 0 &&& 128) = 0 := Classical.byContradiction (fun y => c_21 (by rw [if_neg y]))
            have hs1 : spArr a 1 bs = (spRcv a 1 pl (crF bs 0)) := by rw [hs0, spGot, if_pos h128, ← epl]
            have hr2 : rRep (b + 64) (upd sc 46 (nI (nF bs)), va_up (va_up (va_up (va_up (va_up ar 35 f) 36 (upd (upd (ar 36) 1 (nI 0)) 1 (nI pl.length))) 37 (upd (ar 37) 1 (nI (crF bs 0 &&& 63)))) 38 (upd (ar 38) 1 (nI (if (crF bs 0 &&& 128) = 0 then 1 else 0)))) 45 gc) (spRcv a 1 pl (crF bs 0)) := ⟨n0, n9, n10, n11, n12, n13, n14, n15, n16, n19, n20, n23, n25, n26, n27, n28, n29, f1, f2, f3, f21, f22, f24, rE, rW, rl1, rl2, rl3, rq0, rq1, rq2, rq3, ro1, ro2, ro3, hg1, hg2, hg3, rg4, rfl, rg5, rfl, rg6, (show (crF bs 0 &&& 63) < 64 by omega), rg7, (show (if (crF bs 0 &&& 128) = 0 then 1 else 0) ≤ 1 by split <;> omega), rc1, rc2, rc3, rz1, rz2, rz3, rz4, rk, rV, rY, rA, (va_up_le (va_up_le (fun k => Nat.le_trans (rb k) (Nat.le_add_right b 64)) (Nat.le_refl _) (show (crF bs 0 &&& 63) ≤ b + 64 by omega)) (Nat.le_refl _) (show (if (crF bs 0 &&& 128) = 0 then 1 else 0) ≤ b + 64 by split <;> omega))⟩
            exact g_vret (Wd := rWs G) (upd sc 46 (nI (nF bs)), va_up (va_up (va_up (va_up (va_up ar 35 f) 36 (upd (upd (ar 36) 1 (nI 0)) 1 (nI pl.length))) 37 (upd (ar 37) 1 (nI (crF bs 0 &&& 63)))) 38 (upd (ar 38) 1 (nI (if (crF bs 0 &&& 128) = 0 then 1 else 0)))) 45 gc) hB hx hb hr hlocks rfl (by rw [hs1]; exact rRep_mono hr2 (by omega)) dX12_arrive_275
          · have c_21 : (if (crF bs 0 &&& 128) = 0 then 1 else 0) = 0 := (nI_eq (a := (if (crF bs 0 &&& 128) = 0 then 1 else 0)) (b := 0) (by omega) (by omega)).mp c_21
            have h128 : ¬ (crF bs 0 &&& 128) = 0 := fun z => by rw [if_pos z] at c_21; omega
            have hs1 : spArr a 1 bs = (spTake (spRcv a 1 pl (crF bs 0)) pl 1).1 := by rw [hs0, spGot, if_neg h128, ← epl]
            refine lv_aload_n hx hb dX12_arrive_221 rfl (lv_at hl 5 rfl) ?_
            refine lv_aload_n hx hb dX12_arrive_222 rfl (lv_at hl 5 rfl) ?_
            refine r_get (u := (upd sc 46 (nI (nF bs)), va_up (va_up (va_up (va_up (va_up ar 35 f) 36 (upd (upd (ar 36) 1 (nI 0)) 1 (nI pl.length))) 37 (upd (ar 37) 1 (nI (crF bs 0 &&& 63)))) 38 (upd (ar 38) 1 (nI (if (crF bs 0 &&& 128) = 0 then 1 else 0)))) 45 gc)) (v := .ref (G.2.2.1 36)) hx hb hts hin hown hB 36 (by decide) (hts (.fieldLink RX12 66 "PointReportsModel" "gatheredSize" "[I") (by decide +kernel)) rfl rfl dX12_arrive_223 ?_
            refine lv_iload_n hx hb dX12_arrive_226 rfl (lv_at hl 4 rfl) ?_
            refine r_ald (u := (upd sc 46 (nI (nF bs)), va_up (va_up (va_up (va_up (va_up ar 35 f) 36 (upd (upd (ar 36) 1 (nI 0)) 1 (nI pl.length))) 37 (upd (ar 37) 1 (nI (crF bs 0 &&& 63)))) 38 (upd (ar 38) 1 (nI (if (crF bs 0 &&& 128) = 0 then 1 else 0)))) 45 gc)) (f := upd (upd (ar 36) 1 (nI 0)) 1 (nI pl.length)) hx hb hB 18 rfl 1 rfl (by omega) (by decide) dX12_arrive_227 ?_
            refine g_top (y := nI pl.length) upd_self ?_
            refine r_put (u := (upd sc 46 (nI (nF bs)), va_up (va_up (va_up (va_up (va_up ar 35 f) 36 (upd (upd (ar 36) 1 (nI 0)) 1 (nI pl.length))) 37 (upd (ar 37) 1 (nI (crF bs 0 &&& 63)))) 38 (upd (ar 38) 1 (nI (if (crF bs 0 &&& 128) = 0 then 1 else 0)))) 45 gc)) (v := nI pl.length) (upd (upd sc 42 (nI pl.length)) 46 (nI (nF bs))) hx hb hts hin hown hB 42 (by decide) (hts (.fieldLink RX12 127 "PointReportsModel" "readLength" "I") (by decide +kernel)) rfl (ty := .int) rfl rfl rfl rfl rfl dX12_arrive_228 (fun H locs hB => ?_)
            refine lv_iconst (v := nI 0) hx hb dX12_arrive_231 (by decide) ?_
            refine lv_istore (lv' := [(7, .int (nI 0)), (6, .int (nI (nF bs - 1))), (5, .int (nI (crF bs 0))), (4, .int gd), (3, .int (nI 1)), (0, .ref G.2.1), (1, .int (nI i)), (2, .int (nI 1))]) hx hb dX12_arrive_232 hl (by decide) rfl (fun ls hl => ?_)
            have hl : lv_has ls 8 [(7, .int (nI 0)), (6, .int (nI (nF bs - 1))), (5, .int (nI (crF bs 0))), (4, .int gd), (3, .int (nI 1)), (0, .ref G.2.1), (1, .int (nI i)), (2, .int (nI 1))] := lv_sub hl [0, 1, 2, 3, 4, 5, 6, 7] rfl
            have hB : gB G.1 (rT G) A s H locs (rWs G (upd (upd sc 42 (nI pl.length)) 46 (nI (nF bs)), va_up (va_up (va_up (va_up (va_up (va_up ar 35 f) 36 (upd (upd (ar 36) 1 (nI 0)) 1 (nI pl.length))) 37 (upd (ar 37) 1 (nI (crF bs 0 &&& 63)))) 38 (upd (ar 38) 1 (nI (if (crF bs 0 &&& 128) = 0 then 1 else 0)))) 41 (ar 41)) 45 gc)) := hB
            refine g_loop (σ := Nat × (Nat → Int32)) (fun d xv H locs ls => (xv.1 + d = pl.length) ∧ (∀ z, z < xv.1 → xv.2 z = nI (pl.getD z 0)) ∧ gB G.1 (rT G) A s H locs (rWs G (upd (upd sc 42 (nI pl.length)) 46 (nI (nF bs)), va_up (va_up (va_up (va_up (va_up (va_up ar 35 f) 36 (upd (upd (ar 36) 1 (nI 0)) 1 (nI pl.length))) 37 (upd (ar 37) 1 (nI (crF bs 0 &&& 63)))) 38 (upd (ar 38) 1 (nI (if (crF bs 0 &&& 128) = 0 then 1 else 0)))) 41 xv.2) 45 gc)) ∧ lv_has ls 8 [(7, .int (nI xv.1)), (6, .int (nI (nF bs - 1))), (5, .int (nI (crF bs 0))), (4, .int gd), (3, .int (nI 1)), (0, .ref G.2.1), (1, .int (nI i)), (2, .int (nI 1))]) pl.length (0, ar 41) ⟨by omega, fun z hz => absurd hz (Nat.not_lt_zero z), hB, hl⟩ ?_
            rintro d ⟨j, rdf⟩ H locs ls ⟨hj, hrf, hB, hl⟩ ih_22
            have hj : j + d = pl.length := hj
            have hrf : ∀ z, z < j → rdf z = nI (pl.getD z 0) := hrf
            have hB : gB G.1 (rT G) A s H locs (rWs G (upd (upd sc 42 (nI pl.length)) 46 (nI (nF bs)), va_up (va_up (va_up (va_up (va_up (va_up ar 35 f) 36 (upd (upd (ar 36) 1 (nI 0)) 1 (nI pl.length))) 37 (upd (ar 37) 1 (nI (crF bs 0 &&& 63)))) 38 (upd (ar 38) 1 (nI (if (crF bs 0 &&& 128) = 0 then 1 else 0)))) 41 rdf) 45 gc)) := hB
            have hl : lv_has ls 8 [(7, .int (nI j)), (6, .int (nI (nF bs - 1))), (5, .int (nI (crF bs 0))), (4, .int gd), (3, .int (nI 1)), (0, .ref G.2.1), (1, .int (nI i)), (2, .int (nI 1))] := hl
            refine lv_iload hx hb dX12_arrive_234 (lv_at hl 0 rfl) ?_
            refine lv_aload_n hx hb dX12_arrive_236 rfl (lv_at hl 5 rfl) ?_
            refine r_get (u := (upd (upd sc 42 (nI pl.length)) 46 (nI (nF bs)), va_up (va_up (va_up (va_up (va_up (va_up ar 35 f) 36 (upd (upd (ar 36) 1 (nI 0)) 1 (nI pl.length))) 37 (upd (ar 37) 1 (nI (crF bs 0 &&& 63)))) 38 (upd (ar 38) 1 (nI (if (crF bs 0 &&& 128) = 0 then 1 else 0)))) 41 rdf) 45 gc)) (v := .int (nI pl.length)) hx hb hts hin hown hB 42 (by decide) (hts (.fieldLink RX12 127 "PointReportsModel" "readLength" "I") (by decide +kernel)) rfl rfl dX12_arrive_237 ?_
            refine lv_icmp_ge (tgt := 269) hx hb dX12_arrive_240 (by decide) (fun c_23 => ?_) (fun c_23 => ?_)
            · have c_23 : pl.length ≤ j := (nI_leI (a := pl.length) (b := j) (by omega) (by omega)).mp c_23
              have hr2 : rRep (b + 64) (upd (upd sc 42 (nI pl.length)) 46 (nI (nF bs)), va_up (va_up (va_up (va_up (va_up (va_up ar 35 f) 36 (upd (upd (ar 36) 1 (nI 0)) 1 (nI pl.length))) 37 (upd (ar 37) 1 (nI (crF bs 0 &&& 63)))) 38 (upd (ar 38) 1 (nI (if (crF bs 0 &&& 128) = 0 then 1 else 0)))) 41 rdf) 45 gc) (spRcv a 1 pl (crF bs 0)) := ⟨n0, n9, n10, n11, n12, n13, n14, n15, n16, n19, n20, n23, n25, n26, n27, n28, n29, f1, f2, f3, f21, f22, f24, rE, rW, rl1, rl2, rl3, rq0, rq1, rq2, rq3, ro1, ro2, ro3, hg1, hg2, hg3, rg4, rfl, rg5, rfl, rg6, (show (crF bs 0 &&& 63) < 64 by omega), rg7, (show (if (crF bs 0 &&& 128) = 0 then 1 else 0) ≤ 1 by split <;> omega), rc1, rc2, rc3, rz1, rz2, rz3, rz4, rk, rV, rY, rA, (va_up_le (va_up_le (fun k => Nat.le_trans (rb k) (Nat.le_add_right b 64)) (Nat.le_refl _) (show (crF bs 0 &&& 63) ≤ b + 64 by omega)) (Nat.le_refl _) (show (if (crF bs 0 &&& 128) = 0 then 1 else 0) ≤ b + 64 by split <;> omega))⟩
              refine lv_aload_n hx hb dX12_arrive_269 rfl (lv_at hl 5 rfl) ?_
              refine lv_iload_n hx hb dX12_arrive_270 rfl (lv_at hl 4 rfl) ?_
              refine g_calli (av := [.int (nI 1)]) (rest := []) ⟨hx, hb, hml, hown, hts⟩ (c_take l G (upd (upd sc 42 (nI pl.length)) 46 (nI (nF bs))) (va_up (va_up (va_up (va_up (va_up (va_up ar 35 f) 36 (upd (upd (ar 36) 1 (nI 0)) 1 (nI pl.length))) 37 (upd (ar 37) 1 (nI (crF bs 0 &&& 63)))) 38 (upd (ar 38) 1 (nI (if (crF bs 0 &&& 128) = 0 then 1 else 0)))) 41 rdf) 45 gc) (b + 64) (by omega) (spRcv a 1 pl (crF bs 0)) hr2 pl (fun z hz => ⟨hrf z (by omega), hby z hz⟩) rfl (by omega) 1 (by decide)) (cwV 1 hts gX12_arrive_X12_take rfl rfl rfl (by decide +kernel) ⟨Nat.le_of_ble_eq_true rfl, Nat.le_of_ble_eq_true rfl⟩) hB (q0 := 0) (ci := 9) rfl rfl rfl rfl hl.1 rfl (Nat.le_of_ble_eq_true rfl) dX12_arrive_271 ⟨Nat.le_of_ble_eq_true rfl, Nat.le_of_ble_eq_true rfl⟩ (fun r9 u H locs hw hB => ?_)
              obtain ⟨sc3, ar3⟩ := u
              obtain ⟨er3, hr3⟩ := hw
              have hB : gB G.1 (rT G) A s H locs (rWs G (sc3, ar3)) := hB
              refine lv_pop hx hb dX12_arrive_274 rfl ?_
              exact g_vret (Wd := rWs G) (sc3, ar3) hB hx hb hr hlocks rfl (by rw [hs1]; exact rRep_mono hr3 (by omega)) dX12_arrive_275
            · have c_23 : ¬ pl.length ≤ j := fun h9 => c_23 ((nI_leI (a := pl.length) (b := j) (by omega) (by omega)).mpr h9)
              refine lv_aload_n hx hb dX12_arrive_243 rfl (lv_at hl 5 rfl) ?_
              refine r_get (u := (upd (upd sc 42 (nI pl.length)) 46 (nI (nF bs)), va_up (va_up (va_up (va_up (va_up (va_up ar 35 f) 36 (upd (upd (ar 36) 1 (nI 0)) 1 (nI pl.length))) 37 (upd (ar 37) 1 (nI (crF bs 0 &&& 63)))) 38 (upd (ar 38) 1 (nI (if (crF bs 0 &&& 128) = 0 then 1 else 0)))) 41 rdf) 45 gc)) (v := .ref (G.2.2.1 41)) hx hb hts hin hown hB 41 (by decide) (hts (.fieldLink RX12 78 "PointReportsModel" "read" "[I") (by decide +kernel)) rfl rfl dX12_arrive_244 ?_
              refine lv_iload hx hb dX12_arrive_247 (lv_at hl 0 rfl) ?_
              refine lv_aload_n hx hb dX12_arrive_249 rfl (lv_at hl 5 rfl) ?_
              refine r_get (u := (upd (upd sc 42 (nI pl.length)) 46 (nI (nF bs)), va_up (va_up (va_up (va_up (va_up (va_up ar 35 f) 36 (upd (upd (ar 36) 1 (nI 0)) 1 (nI pl.length))) 37 (upd (ar 37) 1 (nI (crF bs 0 &&& 63)))) 38 (upd (ar 38) 1 (nI (if (crF bs 0 &&& 128) = 0 then 1 else 0)))) 41 rdf) 45 gc)) (v := .ref (G.2.2.1 35)) hx hb hts hin hown hB 35 (by decide) (hts (.fieldLink RX12 63 "PointReportsModel" "gathered" "[I") (by decide +kernel)) rfl rfl dX12_arrive_250 ?_
              refine lv_sipush (v := nI 400) hx hb dX12_arrive_253 (by decide) ?_
              refine lv_iload_n hx hb dX12_arrive_256 rfl (lv_at hl 4 rfl) ?_
              refine lv_imul hx hb dX12_arrive_257 ?_
              refine g_top (y := nI (400 * 1)) (pk_mul _ _) ?_
              refine lv_iload hx hb dX12_arrive_258 (lv_at hl 0 rfl) ?_
              refine lv_iadd hx hb dX12_arrive_260 ?_
              refine g_top (y := nI ((400 * 1) + j)) (nI_add _ _) ?_
              refine r_ald (u := (upd (upd sc 42 (nI pl.length)) 46 (nI (nF bs)), va_up (va_up (va_up (va_up (va_up (va_up ar 35 f) 36 (upd (upd (ar 36) 1 (nI 0)) 1 (nI pl.length))) 37 (upd (ar 37) 1 (nI (crF bs 0 &&& 63)))) 38 (upd (ar 38) 1 (nI (if (crF bs 0 &&& 128) = 0 then 1 else 0)))) 41 rdf) 45 gc)) (f := f) hx hb hB 17 rfl ((400 * 1) + j) rfl (by omega) (by decide) dX12_arrive_261 ?_
              refine g_top (y := nI (pl.getD j 0)) (hf j (by omega)) ?_
              refine r_ast (u := (upd (upd sc 42 (nI pl.length)) 46 (nI (nF bs)), va_up (va_up (va_up (va_up (va_up (va_up ar 35 f) 36 (upd (upd (ar 36) 1 (nI 0)) 1 (nI pl.length))) 37 (upd (ar 37) 1 (nI (crF bs 0 &&& 63)))) 38 (upd (ar 38) 1 (nI (if (crF bs 0 &&& 128) = 0 then 1 else 0)))) 41 rdf) 45 gc)) (f := rdf) (x := nI (pl.getD j 0)) (va_up (va_up (va_up (va_up (va_up (va_up ar 35 f) 36 (upd (upd (ar 36) 1 (nI 0)) 1 (nI pl.length))) 37 (upd (ar 37) 1 (nI (crF bs 0 &&& 63)))) 38 (upd (ar 38) 1 (nI (if (crF bs 0 &&& 128) = 0 then 1 else 0)))) 41 (upd rdf j (nI (pl.getD j 0)))) 45 gc) hx hb hB 22 rfl j rfl (by omega) (by decide) rfl dX12_arrive_262 (fun H locs hB => ?_)
              refine lv_iinc (v := nI (j + 1)) (lv' := [(7, .int (nI (j + 1))), (6, .int (nI (nF bs - 1))), (5, .int (nI (crF bs 0))), (4, .int gd), (3, .int (nI 1)), (0, .ref G.2.1), (1, .int (nI i)), (2, .int (nI 1))]) hx hb dX12_arrive_263 hl (k := 0) rfl (nI_add _ _) (by decide) rfl (fun ls hl => ?_)
              refine lv_goto (tgt := 234) hx hb dX12_arrive_266 (by decide) ?_
              have hl : lv_has ls 8 [(7, .int (nI (j + 1))), (6, .int (nI (nF bs - 1))), (5, .int (nI (crF bs 0))), (4, .int gd), (3, .int (nI 1)), (0, .ref G.2.1), (1, .int (nI i)), (2, .int (nI 1))] := lv_sub hl [0, 1, 2, 3, 4, 5, 6, 7] rfl
              have hB : gB G.1 (rT G) A s H locs (rWs G (upd (upd sc 42 (nI pl.length)) 46 (nI (nF bs)), va_up (va_up (va_up (va_up (va_up (va_up ar 35 f) 36 (upd (upd (ar 36) 1 (nI 0)) 1 (nI pl.length))) 37 (upd (ar 37) 1 (nI (crF bs 0 &&& 63)))) 38 (upd (ar 38) 1 (nI (if (crF bs 0 &&& 128) = 0 then 1 else 0)))) 41 (upd rdf j (nI (pl.getD j 0)))) 45 gc)) := hB
              have b_24 : (j + 1) + (pl.length - (j + 1)) = pl.length := by omega
              have b_25 : ∀ z, z < (j + 1) → (upd rdf j (nI (pl.getD j 0))) z = nI (pl.getD z 0) := fun z hz => by
                  by_cases hq : z = j
                  · subst hq; exact upd_self
                  · rw [upd_ne hq]; exact hrf z (by omega)
              exact ih_22 (pl.length - (j + 1)) (j + 1, upd rdf j (nI (pl.getD j 0))) H locs ls (by omega) ⟨b_24, b_25, hB, hl⟩
        · have c_19 : ¬ (nF bs - 1) ≤ k := fun h9 => c_19 ((nI_leI (a := (nF bs - 1)) (b := k) (by omega) (by omega)).mpr h9)
          refine lv_aload_n hx hb dX12_arrive_135 rfl (lv_at hl 5 rfl) ?_
          refine r_get (u := (upd sc 46 (nI (nF bs)), va_up (va_up (va_up ar 35 f) 36 (upd (ar 36) 1 (nI 0))) 45 gc)) (v := .ref (G.2.2.1 35)) hx hb hts hin hown hB 35 (by decide) (hts (.fieldLink RX12 63 "PointReportsModel" "gathered" "[I") (by decide +kernel)) rfl rfl dX12_arrive_136 ?_
          refine lv_sipush (v := nI 400) hx hb dX12_arrive_139 (by decide) ?_
          refine lv_iload_n hx hb dX12_arrive_142 rfl (lv_at hl 4 rfl) ?_
          refine lv_imul hx hb dX12_arrive_143 ?_
          refine g_top (y := nI (400 * 1)) (pk_mul _ _) ?_
          refine lv_aload_n hx hb dX12_arrive_144 rfl (lv_at hl 5 rfl) ?_
          refine r_get (u := (upd sc 46 (nI (nF bs)), va_up (va_up (va_up ar 35 f) 36 (upd (ar 36) 1 (nI 0))) 45 gc)) (v := .ref (G.2.2.1 36)) hx hb hts hin hown hB 36 (by decide) (hts (.fieldLink RX12 66 "PointReportsModel" "gatheredSize" "[I") (by decide +kernel)) rfl rfl dX12_arrive_145 ?_
          refine lv_iload_n hx hb dX12_arrive_148 rfl (lv_at hl 4 rfl) ?_
          refine r_ald (u := (upd sc 46 (nI (nF bs)), va_up (va_up (va_up ar 35 f) 36 (upd (ar 36) 1 (nI 0))) 45 gc)) (f := upd (ar 36) 1 (nI 0)) hx hb hB 18 rfl 1 rfl (by omega) (by decide) dX12_arrive_149 ?_
          refine g_top (y := nI 0) upd_self ?_
          refine lv_iadd hx hb dX12_arrive_150 ?_
          refine g_top (y := nI ((400 * 1) + 0)) (nI_add _ _) ?_
          refine lv_iload hx hb dX12_arrive_151 (lv_at hl 0 rfl) ?_
          refine lv_iadd hx hb dX12_arrive_153 ?_
          refine g_top (y := nI (((400 * 1) + 0) + k)) (nI_add _ _) ?_
          refine lv_aload_n hx hb dX12_arrive_154 rfl (lv_at hl 5 rfl) ?_
          refine r_get (u := (upd sc 46 (nI (nF bs)), va_up (va_up (va_up ar 35 f) 36 (upd (ar 36) 1 (nI 0))) 45 gc)) (v := .ref (G.2.2.1 45)) hx hb hts hin hown hB 45 (by decide) (hts (.fieldLink RX12 84 "PointReportsModel" "carried" "[I") (by decide +kernel)) rfl rfl dX12_arrive_155 ?_
          refine lv_iconst (v := nI 1) hx hb dX12_arrive_158 (by decide) ?_
          refine lv_iload hx hb dX12_arrive_159 (lv_at hl 0 rfl) ?_
          refine lv_iadd hx hb dX12_arrive_161 ?_
          refine g_top (y := nI (1 + k)) (nI_add _ _) ?_
          refine r_ald (u := (upd sc 46 (nI (nF bs)), va_up (va_up (va_up ar 35 f) 36 (upd (ar 36) 1 (nI 0))) 45 gc)) (f := gc) hx hb hB 24 rfl (1 + k) rfl (by omega) (by decide) dX12_arrive_162 ?_
          refine g_top (y := nI (crF bs (1 + k))) (hcar (1 + k) (by omega)) ?_
          refine r_ast (u := (upd sc 46 (nI (nF bs)), va_up (va_up (va_up ar 35 f) 36 (upd (ar 36) 1 (nI 0))) 45 gc)) (f := f) (x := nI (crF bs (1 + k))) (va_up (va_up (va_up ar 35 (upd f (((400 * 1) + 0) + k) (nI (crF bs (1 + k))))) 36 (upd (ar 36) 1 (nI 0))) 45 gc) hx hb hB 17 rfl (((400 * 1) + 0) + k) rfl (by omega) (by decide) rfl dX12_arrive_163 (fun H locs hB => ?_)
          refine lv_iinc (v := nI (k + 1)) (lv' := [(7, .int (nI (k + 1))), (6, .int (nI (nF bs - 1))), (5, .int (nI (crF bs 0))), (4, .int gd), (3, .int (nI 1)), (0, .ref G.2.1), (1, .int (nI i)), (2, .int (nI 1))]) hx hb dX12_arrive_164 hl (k := 0) rfl (nI_add _ _) (by decide) rfl (fun ls hl => ?_)
          refine lv_goto (tgt := 128) hx hb dX12_arrive_167 (by decide) ?_
          have hl : lv_has ls 8 [(7, .int (nI (k + 1))), (6, .int (nI (nF bs - 1))), (5, .int (nI (crF bs 0))), (4, .int gd), (3, .int (nI 1)), (0, .ref G.2.1), (1, .int (nI i)), (2, .int (nI 1))] := lv_sub hl [0, 1, 2, 3, 4, 5, 6, 7] rfl
          have hB : gB G.1 (rT G) A s H locs (rWs G (upd sc 46 (nI (nF bs)), va_up (va_up (va_up ar 35 (upd f (((400 * 1) + 0) + k) (nI (crF bs (1 + k))))) 36 (upd (ar 36) 1 (nI 0))) 45 gc)) := hB
          have b_26 : (k + 1) + (nF bs - 1 - (k + 1)) = nF bs - 1 := by omega
          have b_27 : ∀ j, j < 0 + (k + 1) → (upd f (((400 * 1) + 0) + k) (nI (crF bs (1 + k)))) (400 * 1 + j) = nI (pl.getD j 0) := fun j hj => by
              by_cases hq : j = 0 + k
              · subst hq
                rw [epl, getD_app, if_neg (by exact Nat.not_lt_zero _), show (0 + k - ([] : List Nat).length) = k by simp]
                rw [plF_at (by omega)]
                rw [show 400 * 1 + (0 + k) = 400 * 1 + 0 + k by omega]
                exact upd_self
              · rw [upd_ne (by omega)]; exact hf j (by omega)
          have b_28 : ∀ z, z < 400 * 1 ∨ 400 * 1 + 400 ≤ z → (upd f (((400 * 1) + 0) + k) (nI (crF bs (1 + k)))) z = ar 35 z := fun z hz => by rw [upd_ne (by omega)]; exact hfo z hz
          exact ih_18 (nF bs - 1 - (k + 1)) (k + 1, upd f (((400 * 1) + 0) + k) (nI (crF bs (1 + k)))) H locs ls (by omega) ⟨b_26, b_27, b_28, hB, hl⟩
    · have c_2 := c_2
      have hno : ¬ okF 1 bs := by rcases hfr with ⟨h1, h2⟩ | ⟨h1, h2⟩; exact absurd (h1.symm.trans c_2) (by decide); exact h2
      have hs0 : spArr a 1 bs = (va_up a.1 28 (a.1 28 + 1), (a).2) := by rw [spArr, if_neg hno]; try rfl
      refine lv_aload_n hx hb dX12_arrive_29 rfl (lv_at hl 2 rfl) ?_
      refine lv_dup hx hb dX12_arrive_30 rfl ?_
      refine r_get (u := (upd sc 46 cl, va_up ar 45 gc)) (v := .int (sc 28)) hx hb hts hin hown hB 28 (by decide) (hts (.fieldLink RX12 124 "PointReportsModel" "framesDropped" "I") (by decide +kernel)) rfl rfl dX12_arrive_31 ?_
      refine g_top (y := nI (a.1 28)) n28 ?_
      refine lv_iconst (v := nI 1) hx hb dX12_arrive_34 (by decide) ?_
      refine lv_iadd hx hb dX12_arrive_35 ?_
      refine g_top (y := nI ((a.1 28) + 1)) (nI_add _ _) ?_
      refine r_put (u := (upd sc 46 cl, va_up ar 45 gc)) (v := nI ((a.1 28) + 1)) (upd (upd sc 28 (nI ((a.1 28) + 1))) 46 cl) hx hb hts hin hown hB 28 (by decide) (hts (.fieldLink RX12 124 "PointReportsModel" "framesDropped" "I") (by decide +kernel)) rfl (ty := .int) rfl rfl rfl rfl rfl dX12_arrive_36 (fun H locs hB => ?_)
      exact g_vret (Wd := rWs G) (upd (upd sc 28 (nI ((a.1 28) + 1))) 46 cl, va_up ar 45 gc) hB hx hb hr hlocks rfl (by rw [hs0]; exact ⟨n0, n9, n10, n11, n12, n13, n14, n15, n16, n19, n20, n23, n25, n26, n27, rfl, n29, f1, f2, f3, f21, f22, f24, rE, rW, rl1, rl2, rl3, rq0, rq1, rq2, rq3, ro1, ro2, ro3, rg1, rg2, rg3, rg4, rh4, rg5, rh5, rg6, rh6, rg7, rh7, rc1, rc2, rc3, rz1, rz2, rz3, rz4, rk, rV, rY, rA, (va_up_le rb (Nat.le_add_right _ _) (show a.1 28 + 1 ≤ b + 500 by omega))⟩) dX12_arrive_39
  · have c_1 : 1 = 0 := (nI_eq (a := 1) (b := 0) (by omega) (by omega)).mp c_1
    exact absurd c_1 (by decide)
