set_option maxRecDepth 100000 in
set_option maxHeartbeats 4000000 in
/-- masterTakes() -/
theorem c_masterTakes (l : Launch) (G : rG) (sc : Nat → Int32) (ar : Nat → Nat → Int32) (b : Nat) (hb9 : b ≤ 1000000) (a : aS) (hr0 : rRep b (sc, ar) a) (rd : List Nat) (hrd : pfxN (ar 41) rd) (h42 : sc 42 = nI rd.length) (hr4 : rd.length ≤ 400) (hr2 : 2 ≤ rd.length) : gM l G.1 (rT G) yX12_masterTakes wsX12_masterTakes ({ frames := 4, cells := 0, slots := 0, locals := 96 }) [.ref G.2.1] (rWs G (sc, ar)) (gQi G.1 (rT G) (fun (r : Int32) (u : rSt) => r = nI (spMaster a rd).2 ∧ rRep (b + 400) u (spMaster a rd).1) (rWs G)) 0 0 := by
  refine gM.of (cc := cX12_masterTakes) (maxL := 6) (ret := (some .boolean)) (by decide) rfl (Nat.le_of_ble_eq_true rfl) ?_
  intro p e s m below meth c A ls hx hb hr hml hown hts hlocks hnm hB hl
  have hin : ∀ w ∈ wsX120, w ∈ wsX12_masterTakes := fun w h => List.mem_cons_of_mem _ (List.mem_append_right _ h)
  have hl : lv_has ls 6 [(0, .ref G.2.1)] := hl
  obtain ⟨n0, n9, n10, n11, n12, n13, n14, n15, n16, n19, n20, n23, n25, n26, n27, n28, n29, f1, f2, f3, f21, f22, f24, rE, rW, rl1, rl2, rl3, rq0, rq1, rq2, rq3, ro1, ro2, ro3, rg1, rg2, rg3, rg4, rh4, rg5, rh5, rg6, rh6, rg7, rh7, rc1, rc2, rc3, rz1, rz2, rz3, rz4, rk, rV, rY, rA, rb⟩ := id hr0
  have n0 : sc 0 = nI (a.1 0) := n0
  have n9 : sc 9 = nI (a.1 9) := n9
  have n10 : sc 10 = nI (a.1 10) := n10
  have n11 : sc 11 = nI (a.1 11) := n11
  have n12 : sc 12 = nI (a.1 12) := n12
  have n13 : sc 13 = nI (a.1 13) := n13
  have n14 : sc 14 = nI (a.1 14) := n14
  have n15 : sc 15 = nI (a.1 15) := n15
  have n16 : sc 16 = nI (a.1 16) := n16
  have n19 : sc 19 = nI (a.1 19) := n19
  have n20 : sc 20 = nI (a.1 20) := n20
  have n23 : sc 23 = nI (a.1 23) := n23
  have n25 : sc 25 = nI (a.1 25) := n25
  have n26 : sc 26 = nI (a.1 26) := n26
  have n27 : sc 27 = nI (a.1 27) := n27
  have n28 : sc 28 = nI (a.1 28) := n28
  have n29 : sc 29 = nI (a.1 29) := n29
  have f1 : ar 1 = a.2.1 1 := f1
  have f2 : ar 2 = a.2.1 2 := f2
  have f3 : ar 3 = a.2.1 3 := f3
  have f21 : ar 21 = a.2.1 21 := f21
  have f22 : ar 22 = a.2.1 22 := f22
  have f24 : ar 24 = a.2.1 24 := f24
  have rE : evR (ar 4) (ar 5) (ar 6) (ar 7) a.2.2.1 := rE
  have rW : wtR (ar 8) a.2.2.1 a.2.2.2.1 := rW
  have rl1 : sc 30 = nI a.2.2.2.2.1.length := rl1
  have rl3 : lnR (ar 31) (ar 32) (ar 33) a.2.2.2.2.1 := rl3
  have rq0 : ar 34 0 = nI (a.1 100) := rq0
  have rq1 : ar 34 1 = nI (a.1 101) := rq1
  have ro1 : pfx (ar 17) a.2.2.2.2.2.1 := ro1
  have ro2 : sc 18 = nI a.2.2.2.2.2.1.length := ro2
  have rg1 : ∀ x, x < 2 → ar 36 x = nI (a.2.2.2.2.2.2 x).length := rg1
  have rg3 : ∀ x, x < 2 → ∀ j, j < (a.2.2.2.2.2.2 x).length → ar 35 (400 * x + j) = nI ((a.2.2.2.2.2.2 x).getD j 0) ∧ (a.2.2.2.2.2.2 x).getD j 0 < 256 := rg3
  have rg4 : ar 37 0 = nI (a.1 102) := rg4
  have rh4 : ar 37 1 = nI (a.1 103) := rh4
  have rg5 : ar 38 0 = nI (a.1 104) := rg5
  have rh5 : ar 38 1 = nI (a.1 105) := rh5
  have rc1 : pfxN (ar 43) (a.2.2.2.2.2.2 2) := rc1
  have rc2 : sc 44 = nI (a.2.2.2.2.2.2 2).length := rc2
  have rb2 : ∀ k, a.1 k ≤ b + 400 := fun k => Nat.le_trans (rb k) (by omega)
  have b19 := rb 19
  have b20 := rb 20
  have hsame : rRep (b + 400) (sc, ar) a := ⟨n0, n9, n10, n11, n12, n13, n14, n15, n16, n19, n20, n23, n25, n26, n27, n28, n29, f1, f2, f3, f21, f22, f24, rE, rW, rl1, rl2, rl3, rq0, rq1, rq2, rq3, ro1, ro2, ro3, rg1, rg2, rg3, rg4, rh4, rg5, rh5, rg6, rh6, rg7, rh7, rc1, rc2, rc3, rz1, rz2, rz3, rz4, rk, rV, rY, rA, rb2⟩
  refine lv_aload_n hx hb dX12_masterTakes_0 rfl (lv_at hl 0 rfl) ?_
  refine r_get (u := (sc, ar)) (v := .ref (G.2.2.1 41)) hx hb hts hin hown hB 41 (by decide) (hts (.fieldLink RX12 78 "PointReportsModel" "read" "[I") (by decide +kernel)) rfl rfl dX12_masterTakes_1 ?_
  refine lv_iconst (v := nI 0) hx hb dX12_masterTakes_4 (by decide) ?_
  refine r_ald (u := (sc, ar)) (f := ar 41) hx hb hB 22 rfl 0 rfl (by omega) (by decide) dX12_masterTakes_5 ?_
  have q6 := hrd (0) (by omega)
  refine g_top (y := nI (rd.getD (0) 0)) q6.1 ?_
  have q6 := q6.2
  refine lv_bipush (v := nI 16) hx hb dX12_masterTakes_6 (by decide) ?_
  refine lv_iand hx hb dX12_masterTakes_8 ?_
  refine g_top (y := nI (rd.getD 0 0 &&& 16)) (nx_and _ _) ?_
  have l16 := and_lt (rd.getD 0 0) 16
  refine g_cut (σ := Unit) 17 (fun _ H locs ls => gB G.1 (rT G) A s H locs (rWs G (sc, ar)) ∧ lv_has ls 6 [(0, .ref G.2.1)]) (fun _ => [.int (nI (if (rd.getD 0 0 &&& 16) = 0 then 0 else 1))]) ?_ (fun cut => ?_)
  rotate_left
  · refine lv_if_eq (tgt := 16) hx hb dX12_masterTakes_9 (by decide) (fun c_1 => ?_) (fun c_1 => ?_)
    · have c_1 : (rd.getD 0 0 &&& 16) = 0 := (nI_eq (a := (rd.getD 0 0 &&& 16)) (b := 0) (by omega) (by omega)).mp c_1
      refine lv_iconst (v := nI 0) hx hb dX12_masterTakes_16 (by decide) ?_
      refine g_top (y := nI (if (rd.getD 0 0 &&& 16) = 0 then 0 else 1)) (by rw [if_pos c_1]) ?_
      exact cut () s.heap [] ls ⟨hB, hl⟩
    · have c_1 : ¬ (rd.getD 0 0 &&& 16) = 0 := fun h9 => c_1 ((nI_eq (a := (rd.getD 0 0 &&& 16)) (b := 0) (by omega) (by omega)).mpr h9)
      refine lv_iconst (v := nI 1) hx hb dX12_masterTakes_12 (by decide) ?_
      refine lv_goto (tgt := 17) hx hb dX12_masterTakes_13 (by decide) ?_
      refine g_top (y := nI (if (rd.getD 0 0 &&& 16) = 0 then 0 else 1)) (by rw [if_neg c_1]) ?_
      exact cut () s.heap [] ls ⟨hB, hl⟩
  rintro - H locs ls ⟨hB, hl⟩
  have u1 : (if (rd.getD 0 0 &&& 16) = 0 then 0 else 1) ≤ 1 := by split <;> omega
  refine lv_istore_n (lv' := [(1, .int (nI (if (rd.getD 0 0 &&& 16) = 0 then 0 else 1))), (0, .ref G.2.1)]) hx hb dX12_masterTakes_17 rfl hl (by decide) rfl (fun ls hl => ?_)
  refine lv_aload_n hx hb dX12_masterTakes_18 rfl (lv_at hl 1 rfl) ?_
  refine r_get (u := (sc, ar)) (v := .ref (G.2.2.1 41)) hx hb hts hin hown hB 41 (by decide) (hts (.fieldLink RX12 78 "PointReportsModel" "read" "[I") (by decide +kernel)) rfl rfl dX12_masterTakes_19 ?_
  refine lv_iconst (v := nI 1) hx hb dX12_masterTakes_22 (by decide) ?_
  refine r_ald (u := (sc, ar)) (f := ar 41) hx hb hB 22 rfl 1 rfl (by omega) (by decide) dX12_masterTakes_23 ?_
  have q24 := hrd (1) (by omega)
  refine g_top (y := nI (rd.getD (1) 0)) q24.1 ?_
  have q24 := q24.2
  refine lv_sipush (v := nI 129) hx hb dX12_masterTakes_24 (by decide) ?_
  refine g_cut (σ := Unit) 67 (fun _ H locs ls => gB G.1 (rT G) A s H locs (rWs G (sc, ar)) ∧ lv_has ls 6 [(1, .int (nI (if (rd.getD 0 0 &&& 16) = 0 then 0 else 1))), (0, .ref G.2.1)]) (fun _ => [.int (nI (if isRs a rd then 1 else 0))]) ?_ (fun cut => ?_)
  rotate_left
  · refine lv_icmp_ne (tgt := 66) hx hb dX12_masterTakes_27 (by decide) (fun c_2 => ?_) (fun c_2 => ?_)
    · have c_2 : ¬ (rd.getD (1) 0) = 129 := fun h9 => c_2 ((nI_eq (a := (rd.getD (1) 0)) (b := 129) (by omega) (by omega)).mpr h9)
      refine lv_iconst (v := nI 0) hx hb dX12_masterTakes_66 (by decide) ?_
      refine g_top (y := nI (if isRs a rd then 1 else 0)) (by rw [if_neg (fun z => by have := z.1; omega)]) ?_
      exact cut () H locs ls ⟨hB, hl⟩
    · have c_2 : (rd.getD (1) 0) = 129 := (nI_eq (a := (rd.getD (1) 0)) (b := 129) (by omega) (by omega)).mp c_2
      refine lv_iload_n hx hb dX12_masterTakes_30 rfl (lv_at hl 0 rfl) ?_
      refine lv_if_ne (tgt := 66) hx hb dX12_masterTakes_31 (by decide) (fun c_3 => ?_) (fun c_3 => ?_)
      · have c_3 : ¬ (if (rd.getD 0 0 &&& 16) = 0 then 0 else 1) = 0 := fun h9 => c_3 ((nI_eq (a := (if (rd.getD 0 0 &&& 16) = 0 then 0 else 1)) (b := 0) (by omega) (by omega)).mpr h9)
        refine lv_iconst (v := nI 0) hx hb dX12_masterTakes_66 (by decide) ?_
        refine g_top (y := nI (if isRs a rd then 1 else 0)) (by rw [if_neg (fun z => c_3 (by rw [if_pos z.2.1]))]) ?_
        exact cut () H locs ls ⟨hB, hl⟩
      · have c_3 : (if (rd.getD 0 0 &&& 16) = 0 then 0 else 1) = 0 := (nI_eq (a := (if (rd.getD 0 0 &&& 16) = 0 then 0 else 1)) (b := 0) (by omega) (by omega)).mp c_3
        have hu0 : (rd.getD 0 0 &&& 16) = 0 := Classical.byContradiction (fun z => by rw [if_neg z] at c_3; omega)
        refine lv_aload_n hx hb dX12_masterTakes_34 rfl (lv_at hl 1 rfl) ?_
        refine r_get (u := (sc, ar)) (v := .int (sc 20)) hx hb hts hin hown hB 20 (by decide) (hts (.fieldLink RX12 38 "PointReportsModel" "answered" "Z") (by decide +kernel)) rfl rfl dX12_masterTakes_35 ?_
        refine g_top (y := nI (a.1 20)) n20 ?_
        refine lv_if_ne (tgt := 66) hx hb dX12_masterTakes_38 (by decide) (fun c_4 => ?_) (fun c_4 => ?_)
        · have c_4 : ¬ (a.1 20) = 0 := fun h9 => c_4 ((nI_eq (a := (a.1 20)) (b := 0) (by omega) (by omega)).mpr h9)
          refine lv_iconst (v := nI 0) hx hb dX12_masterTakes_66 (by decide) ?_
          refine g_top (y := nI (if isRs a rd then 1 else 0)) (by rw [if_neg (fun z => c_4 z.2.2.1)]) ?_
          exact cut () H locs ls ⟨hB, hl⟩
        · have c_4 : (a.1 20) = 0 := (nI_eq (a := (a.1 20)) (b := 0) (by omega) (by omega)).mp c_4
          have h19 := rA c_4
          refine lv_aload_n hx hb dX12_masterTakes_41 rfl (lv_at hl 1 rfl) ?_
          refine r_get (u := (sc, ar)) (v := .ref (G.2.2.1 41)) hx hb hts hin hown hB 41 (by decide) (hts (.fieldLink RX12 78 "PointReportsModel" "read" "[I") (by decide +kernel)) rfl rfl dX12_masterTakes_42 ?_
          refine lv_iconst (v := nI 0) hx hb dX12_masterTakes_45 (by decide) ?_
          refine r_ald (u := (sc, ar)) (f := ar 41) hx hb hB 22 rfl 0 rfl (by omega) (by decide) dX12_masterTakes_46 ?_
          have q47 := hrd (0) (by omega)
          refine g_top (y := nI (rd.getD (0) 0)) q47.1 ?_
          have q47 := q47.2
          refine lv_bipush (v := nI 15) hx hb dX12_masterTakes_47 (by decide) ?_
          refine lv_iand hx hb dX12_masterTakes_49 ?_
          refine g_top (y := nI (rd.getD 0 0 &&& 15)) (nx_and _ _) ?_
          have l15 := and_lt (rd.getD 0 0) 15
          refine lv_aload_n hx hb dX12_masterTakes_50 rfl (lv_at hl 1 rfl) ?_
          refine r_get (u := (sc, ar)) (v := .int (sc 19)) hx hb hts hin hown hB 19 (by decide) (hts (.fieldLink RX12 226 "PointReportsModel" "readings" "I") (by decide +kernel)) rfl rfl dX12_masterTakes_51 ?_
          refine g_top (y := nI (a.1 19)) n19 ?_
          refine lv_iconst (v := nI 1) hx hb dX12_masterTakes_54 (by decide) ?_
          refine lv_isub hx hb dX12_masterTakes_55 ?_
          refine g_top (y := nI (a.1 19 - 1)) (pk_sub (by omega)) ?_
          refine lv_bipush (v := nI 16) hx hb dX12_masterTakes_56 (by decide) ?_
          refine lv_irem hx hb dX12_masterTakes_58 (by decide) ?_
          refine g_top (y := nI ((a.1 19 - 1) % 16)) (pk_rem (by omega) (by decide) (by decide)) ?_
          refine lv_icmp_ne (tgt := 66) hx hb dX12_masterTakes_59 (by decide) (fun c_5 => ?_) (fun c_5 => ?_)
          · have c_5 : ¬ (rd.getD 0 0 &&& 15) = ((a.1 19 - 1) % 16) := fun h9 => c_5 ((nI_eq (a := (rd.getD 0 0 &&& 15)) (b := ((a.1 19 - 1) % 16)) (by omega) (by omega)).mpr h9)
            refine lv_iconst (v := nI 0) hx hb dX12_masterTakes_66 (by decide) ?_
            refine g_top (y := nI (if isRs a rd then 1 else 0)) (by rw [if_neg (fun z => c_5 z.2.2.2)]) ?_
            exact cut () H locs ls ⟨hB, hl⟩
          · have c_5 : (rd.getD 0 0 &&& 15) = ((a.1 19 - 1) % 16) := (nI_eq (a := (rd.getD 0 0 &&& 15)) (b := ((a.1 19 - 1) % 16)) (by omega) (by omega)).mp c_5
            refine lv_iconst (v := nI 1) hx hb dX12_masterTakes_62 (by decide) ?_
            refine lv_goto (tgt := 67) hx hb dX12_masterTakes_63 (by decide) ?_
            refine g_top (y := nI (if isRs a rd then 1 else 0)) (by rw [if_pos ⟨by omega, hu0, c_4, c_5⟩]) ?_
            exact cut () H locs ls ⟨hB, hl⟩
  rintro - H locs ls ⟨hB, hl⟩
  have s1 : (if isRs a rd then 1 else 0) ≤ 1 := by split <;> omega
  refine lv_istore_n (lv' := [(2, .int (nI (if isRs a rd then 1 else 0))), (1, .int (nI (if (rd.getD 0 0 &&& 16) = 0 then 0 else 1))), (0, .ref G.2.1)]) hx hb dX12_masterTakes_67 rfl hl (by decide) rfl (fun ls hl => ?_)
  refine lv_aload_n hx hb dX12_masterTakes_68 rfl (lv_at hl 2 rfl) ?_
  refine r_get (u := (sc, ar)) (v := .ref (G.2.2.1 41)) hx hb hts hin hown hB 41 (by decide) (hts (.fieldLink RX12 78 "PointReportsModel" "read" "[I") (by decide +kernel)) rfl rfl dX12_masterTakes_69 ?_
  refine lv_iconst (v := nI 1) hx hb dX12_masterTakes_72 (by decide) ?_
  refine r_ald (u := (sc, ar)) (f := ar 41) hx hb hB 22 rfl 1 rfl (by omega) (by decide) dX12_masterTakes_73 ?_
  have q74 := hrd (1) (by omega)
  refine g_top (y := nI (rd.getD (1) 0)) q74.1 ?_
  have q74 := q74.2
  refine lv_sipush (v := nI 130) hx hb dX12_masterTakes_74 (by decide) ?_
  refine g_cut (σ := Unit) 89 (fun _ H locs ls => gB G.1 (rT G) A s H locs (rWs G (sc, ar)) ∧ lv_has ls 6 [(2, .int (nI (if isRs a rd then 1 else 0))), (1, .int (nI (if (rd.getD 0 0 &&& 16) = 0 then 0 else 1))), (0, .ref G.2.1)]) (fun _ => [.int (nI (if isRp rd then 1 else 0))]) ?_ (fun cut => ?_)
  rotate_left
  · refine lv_icmp_ne (tgt := 88) hx hb dX12_masterTakes_77 (by decide) (fun c_6 => ?_) (fun c_6 => ?_)
    · have c_6 : ¬ (rd.getD (1) 0) = 130 := fun h9 => c_6 ((nI_eq (a := (rd.getD (1) 0)) (b := 130) (by omega) (by omega)).mpr h9)
      refine lv_iconst (v := nI 0) hx hb dX12_masterTakes_88 (by decide) ?_
      refine g_top (y := nI (if isRp rd then 1 else 0)) (by rw [if_neg (fun z => by have := z.1; omega)]) ?_
      exact cut () H locs ls ⟨hB, hl⟩
    · have c_6 : (rd.getD (1) 0) = 130 := (nI_eq (a := (rd.getD (1) 0)) (b := 130) (by omega) (by omega)).mp c_6
      refine lv_iload_n hx hb dX12_masterTakes_80 rfl (lv_at hl 1 rfl) ?_
      refine lv_if_eq (tgt := 88) hx hb dX12_masterTakes_81 (by decide) (fun c_7 => ?_) (fun c_7 => ?_)
      · have c_7 : (if (rd.getD 0 0 &&& 16) = 0 then 0 else 1) = 0 := (nI_eq (a := (if (rd.getD 0 0 &&& 16) = 0 then 0 else 1)) (b := 0) (by omega) (by omega)).mp c_7
        refine lv_iconst (v := nI 0) hx hb dX12_masterTakes_88 (by decide) ?_
        refine g_top (y := nI (if isRp rd then 1 else 0)) (by rw [if_neg (fun z => by rw [if_neg z.2] at c_7; omega)]) ?_
        exact cut () H locs ls ⟨hB, hl⟩
      · have c_7 : ¬ (if (rd.getD 0 0 &&& 16) = 0 then 0 else 1) = 0 := fun h9 => c_7 ((nI_eq (a := (if (rd.getD 0 0 &&& 16) = 0 then 0 else 1)) (b := 0) (by omega) (by omega)).mpr h9)
        refine lv_iconst (v := nI 1) hx hb dX12_masterTakes_84 (by decide) ?_
        refine lv_goto (tgt := 89) hx hb dX12_masterTakes_85 (by decide) ?_
        refine g_top (y := nI (if isRp rd then 1 else 0)) (by rw [if_pos ⟨by omega, fun z => c_7 (by rw [if_pos z])⟩]) ?_
        exact cut () H locs ls ⟨hB, hl⟩
  rintro - H locs ls ⟨hB, hl⟩
  have s2 : (if isRp rd then 1 else 0) ≤ 1 := by split <;> omega
  refine lv_istore_n (lv' := [(3, .int (nI (if isRp rd then 1 else 0))), (2, .int (nI (if isRs a rd then 1 else 0))), (1, .int (nI (if (rd.getD 0 0 &&& 16) = 0 then 0 else 1))), (0, .ref G.2.1)]) hx hb dX12_masterTakes_89 rfl hl (by decide) rfl (fun ls hl => ?_)
  refine lv_iload_n hx hb dX12_masterTakes_90 rfl (lv_at hl 1 rfl) ?_
  refine g_cut (σ := Unit) 107 (fun _ H locs ls => ((isRs a rd ∨ isRp rd) ∧ arG rd) ∧ gB G.1 (rT G) A s H locs (rWs G (sc, ar)) ∧ lv_has ls 6 [(3, .int (nI (if isRp rd then 1 else 0))), (2, .int (nI (if isRs a rd then 1 else 0))), (1, .int (nI (if (rd.getD 0 0 &&& 16) = 0 then 0 else 1))), (0, .ref G.2.1)]) (fun _ => []) ?_ (fun cut => ?_)
  rotate_left
  · refine lv_if_ne (tgt := 98) hx hb dX12_masterTakes_91 (by decide) (fun c_8 => ?_) (fun c_8 => ?_)
    · have c_8 : ¬ (if isRs a rd then 1 else 0) = 0 := fun h9 => c_8 ((nI_eq (a := (if isRs a rd then 1 else 0)) (b := 0) (by omega) (by omega)).mpr h9)
      have hRs : isRs a rd := Classical.byContradiction (fun z => c_8 (by rw [if_neg z]))
      refine lv_aload_n hx hb dX12_masterTakes_98 rfl (lv_at hl 3 rfl) ?_
      refine g_calli (av := []) (rest := []) ⟨hx, hb, hml, hown, hts⟩ (c_areGroups l G sc ar rd hrd h42 hr4) (cwV 0 hts gX12_masterTakes_X12_areGroups rfl rfl rfl (by decide +kernel) ⟨Nat.le_of_ble_eq_true rfl, Nat.le_of_ble_eq_true rfl⟩) hB (q0 := 0) (ci := 9) rfl rfl rfl rfl hl.1 rfl (Nat.le_of_ble_eq_true rfl) dX12_masterTakes_99 ⟨Nat.le_of_ble_eq_true rfl, Nat.le_of_ble_eq_true rfl⟩ (fun r9 u H locs hw hB => ?_)
      obtain ⟨hag, rfl⟩ := hw
      have hB : gB G.1 (rT G) A s H locs (rWs G (sc, ar)) := hB
      refine lv_if_ne (tgt := 107) hx hb dX12_masterTakes_102 (by decide) (fun c_9 => ?_) (fun c_9 => ?_)
      · have c_9 := c_9
        have hg : arG rd := by rcases hag with ⟨h1, h2⟩ | ⟨h1, h2⟩; exact h2; exact absurd h1 c_9
        exact cut () H locs ls ⟨⟨Or.inl hRs, hg⟩, hB, lv_sub hl [0, 1, 2, 3] rfl⟩
      · have c_9 := c_9
        have hg : ¬ arG rd := by rcases hag with ⟨h1, h2⟩ | ⟨h1, h2⟩; exact absurd (h1.symm.trans c_9) (by decide); exact h2
        refine lv_iconst (v := nI 0) hx hb dX12_masterTakes_105 (by decide) ?_
        have hs0 : spMaster a rd = (a, 0) := by rw [spMaster, if_neg (fun z => hg z.2)]
        exact g_zret (Wd := rWs G) (v := nI 0) (sc, ar) hB hx hb hr hlocks rfl (narrow_z (Or.inl rfl)) ⟨by rw [hs0], by rw [hs0]; exact hsame⟩ dX12_masterTakes_106
    · have c_8 : (if isRs a rd then 1 else 0) = 0 := (nI_eq (a := (if isRs a rd then 1 else 0)) (b := 0) (by omega) (by omega)).mp c_8
      have hRs : ¬ isRs a rd := fun z => by rw [if_pos z] at c_8; omega
      refine lv_iload_n hx hb dX12_masterTakes_94 rfl (lv_at hl 0 rfl) ?_
      refine lv_if_eq (tgt := 105) hx hb dX12_masterTakes_95 (by decide) (fun c_10 => ?_) (fun c_10 => ?_)
      · have c_10 : (if isRp rd then 1 else 0) = 0 := (nI_eq (a := (if isRp rd then 1 else 0)) (b := 0) (by omega) (by omega)).mp c_10
        refine lv_iconst (v := nI 0) hx hb dX12_masterTakes_105 (by decide) ?_
        have hs0 : spMaster a rd = (a, 0) := by rw [spMaster, if_neg (fun z => by rcases z.1 with z1 | z1; exact hRs z1; rw [if_pos z1] at c_10; omega)]
        exact g_zret (Wd := rWs G) (v := nI 0) (sc, ar) hB hx hb hr hlocks rfl (narrow_z (Or.inl rfl)) ⟨by rw [hs0], by rw [hs0]; exact hsame⟩ dX12_masterTakes_106
      · have c_10 : ¬ (if isRp rd then 1 else 0) = 0 := fun h9 => c_10 ((nI_eq (a := (if isRp rd then 1 else 0)) (b := 0) (by omega) (by omega)).mpr h9)
        refine lv_aload_n hx hb dX12_masterTakes_98 rfl (lv_at hl 3 rfl) ?_
        refine g_calli (av := []) (rest := []) ⟨hx, hb, hml, hown, hts⟩ (c_areGroups l G sc ar rd hrd h42 hr4) (cwV 0 hts gX12_masterTakes_X12_areGroups rfl rfl rfl (by decide +kernel) ⟨Nat.le_of_ble_eq_true rfl, Nat.le_of_ble_eq_true rfl⟩) hB (q0 := 0) (ci := 9) rfl rfl rfl rfl hl.1 rfl (Nat.le_of_ble_eq_true rfl) dX12_masterTakes_99 ⟨Nat.le_of_ble_eq_true rfl, Nat.le_of_ble_eq_true rfl⟩ (fun r9 u H locs hw hB => ?_)
        obtain ⟨hag, rfl⟩ := hw
        have hB : gB G.1 (rT G) A s H locs (rWs G (sc, ar)) := hB
        refine lv_if_ne (tgt := 107) hx hb dX12_masterTakes_102 (by decide) (fun c_11 => ?_) (fun c_11 => ?_)
        · have c_11 := c_11
          have hg : arG rd := by rcases hag with ⟨h1, h2⟩ | ⟨h1, h2⟩; exact h2; exact absurd h1 c_11
          exact cut () H locs ls ⟨⟨Or.inr (Classical.byContradiction (fun z => c_10 (by rw [if_neg z]))), hg⟩, hB, lv_sub hl [0, 1, 2, 3] rfl⟩
        · have c_11 := c_11
          have hg : ¬ arG rd := by rcases hag with ⟨h1, h2⟩ | ⟨h1, h2⟩; exact absurd (h1.symm.trans c_11) (by decide); exact h2
          refine lv_iconst (v := nI 0) hx hb dX12_masterTakes_105 (by decide) ?_
          have hs0 : spMaster a rd = (a, 0) := by rw [spMaster, if_neg (fun z => hg z.2)]
          exact g_zret (Wd := rWs G) (v := nI 0) (sc, ar) hB hx hb hr hlocks rfl (narrow_z (Or.inl rfl)) ⟨by rw [hs0], by rw [hs0]; exact hsame⟩ dX12_masterTakes_106
  rintro - H locs ls ⟨hok, hB, hl⟩
  have hs0 : spMaster a rd = (spMB (spMG rd 400 4 (va_up a.1 20 (if a.1 20 ≠ 0 ∨ isRs a rd then 1 else 0), a.2)) rd, 1) := by rw [spMaster, if_pos hok]
  have hag := hok.2
  refine lv_aload_n hx hb dX12_masterTakes_107 rfl (lv_at hl 3 rfl) ?_
  refine lv_aload_n hx hb dX12_masterTakes_108 rfl (lv_at hl 3 rfl) ?_
  refine r_get (u := (sc, ar)) (v := .int (sc 20)) hx hb hts hin hown hB 20 (by decide) (hts (.fieldLink RX12 38 "PointReportsModel" "answered" "Z") (by decide +kernel)) rfl rfl dX12_masterTakes_109 ?_
  refine g_top (y := nI (a.1 20)) n20 ?_
  refine g_cut (σ := Unit) 124 (fun _ H locs ls => gB G.1 (rT G) A s H locs (rWs G (sc, ar)) ∧ lv_has ls 6 [(3, .int (nI (if isRp rd then 1 else 0))), (2, .int (nI (if isRs a rd then 1 else 0))), (1, .int (nI (if (rd.getD 0 0 &&& 16) = 0 then 0 else 1))), (0, .ref G.2.1)]) (fun _ => [.int (nI (if a.1 20 ≠ 0 ∨ isRs a rd then 1 else 0)), .ref G.2.1]) ?_ (fun cut => ?_)
  rotate_left
  · refine lv_if_ne (tgt := 119) hx hb dX12_masterTakes_112 (by decide) (fun c_12 => ?_) (fun c_12 => ?_)
    · have c_12 : ¬ (a.1 20) = 0 := fun h9 => c_12 ((nI_eq (a := (a.1 20)) (b := 0) (by omega) (by omega)).mpr h9)
      refine lv_iconst (v := nI 1) hx hb dX12_masterTakes_119 (by decide) ?_
      refine lv_goto (tgt := 124) hx hb dX12_masterTakes_120 (by decide) ?_
      refine g_top (y := nI (if a.1 20 ≠ 0 ∨ isRs a rd then 1 else 0)) (by rw [if_pos (Or.inl c_12)]) ?_
      exact cut () H locs ls ⟨hB, hl⟩
    · have c_12 : (a.1 20) = 0 := (nI_eq (a := (a.1 20)) (b := 0) (by omega) (by omega)).mp c_12
      refine lv_iload_n hx hb dX12_masterTakes_115 rfl (lv_at hl 1 rfl) ?_
      refine lv_if_eq (tgt := 123) hx hb dX12_masterTakes_116 (by decide) (fun c_13 => ?_) (fun c_13 => ?_)
      · have c_13 : (if isRs a rd then 1 else 0) = 0 := (nI_eq (a := (if isRs a rd then 1 else 0)) (b := 0) (by omega) (by omega)).mp c_13
        refine lv_iconst (v := nI 0) hx hb dX12_masterTakes_123 (by decide) ?_
        refine g_top (y := nI (if a.1 20 ≠ 0 ∨ isRs a rd then 1 else 0)) (by rw [if_neg (fun z => by rcases z with z | z; exact z c_12; rw [if_pos z] at c_13; omega)]) ?_
        exact cut () H locs ls ⟨hB, hl⟩
      · have c_13 : ¬ (if isRs a rd then 1 else 0) = 0 := fun h9 => c_13 ((nI_eq (a := (if isRs a rd then 1 else 0)) (b := 0) (by omega) (by omega)).mpr h9)
        refine lv_iconst (v := nI 1) hx hb dX12_masterTakes_119 (by decide) ?_
        refine lv_goto (tgt := 124) hx hb dX12_masterTakes_120 (by decide) ?_
        refine g_top (y := nI (if a.1 20 ≠ 0 ∨ isRs a rd then 1 else 0)) (by rw [if_pos (Or.inr (Classical.byContradiction (fun z => c_13 (by rw [if_neg z]))))]) ?_
        exact cut () H locs ls ⟨hB, hl⟩
  rintro - H locs ls ⟨hB, hl⟩
  refine r_put (u := (sc, ar)) (v := nI (if a.1 20 ≠ 0 ∨ isRs a rd then 1 else 0)) (upd sc 20 (nI (if a.1 20 ≠ 0 ∨ isRs a rd then 1 else 0))) hx hb hts hin hown hB 20 (by decide) (hts (.fieldLink RX12 38 "PointReportsModel" "answered" "Z") (by decide +kernel)) rfl (ty := .boolean) rfl rfl (narrow_z (by split; exact Or.inr rfl; exact Or.inl rfl)) (fits_z (by split; exact Or.inr rfl; exact Or.inl rfl)) rfl dX12_masterTakes_124 (fun H locs hB => ?_)
  refine lv_iconst (v := nI 4) hx hb dX12_masterTakes_127 (by decide) ?_
  refine lv_istore (lv' := [(4, .int (nI 4)), (3, .int (nI (if isRp rd then 1 else 0))), (2, .int (nI (if isRs a rd then 1 else 0))), (1, .int (nI (if (rd.getD 0 0 &&& 16) = 0 then 0 else 1))), (0, .ref G.2.1)]) hx hb dX12_masterTakes_128 hl (by decide) rfl (fun ls hl => ?_)
  have v1 : (if a.1 20 ≠ 0 ∨ isRs a rd then 1 else 0) ≤ 1 := by split <;> omega
  have hr1 : rRep (b + (4 - 4)) (upd sc 20 (nI (if a.1 20 ≠ 0 ∨ isRs a rd then 1 else 0)), ar) (va_up a.1 20 (if a.1 20 ≠ 0 ∨ isRs a rd then 1 else 0), a.2) := ⟨n0, n9, n10, n11, n12, n13, n14, n15, n16, n19, rfl, n23, n25, n26, n27, n28, n29, f1, f2, f3, f21, f22, f24, rE, rW, rl1, rl2, rl3, rq0, rq1, rq2, rq3, ro1, ro2, ro3, rg1, rg2, rg3, rg4, rh4, rg5, rh5, rg6, rh6, rg7, rh7, rc1, rc2, rc3, rz1, rz2, rz3, v1, rk, rV, rY, (fun z => by have z : (if a.1 20 ≠ 0 ∨ isRs a rd then 1 else 0) = 0 := z; show 1 ≤ a.1 19; by_cases h : a.1 20 ≠ 0 ∨ isRs a rd; (rw [if_pos h] at z; omega); exact rA (Classical.byContradiction (fun y => h (Or.inl y)))), (va_up_le rb (Nat.le_add_right _ _) (show (if a.1 20 ≠ 0 ∨ isRs a rd then 1 else 0) ≤ _ by have := rb 20; by_cases h : a.1 20 ≠ 0 ∨ isRs a rd; (rw [if_pos h]; rcases h with h | h; omega; (have h19 := rA h.2.2.1; omega)); (rw [if_neg h]; exact Nat.zero_le _)))⟩
  have hl : lv_has ls 6 [(4, .int (nI 4)), (3, .int (nI (if isRp rd then 1 else 0))), (2, .int (nI (if isRs a rd then 1 else 0))), (1, .int (nI (if (rd.getD 0 0 &&& 16) = 0 then 0 else 1))), (0, .ref G.2.1)] := lv_sub hl [0, 1, 2, 3, 4] rfl
  have hB : gB G.1 (rT G) A s H locs (rWs G ((upd sc 20 (nI (if a.1 20 ≠ 0 ∨ isRs a rd then 1 else 0))), ar)) := hB
  refine g_loop (σ := Nat × aS × (Nat → Int32) × (Nat → Nat → Int32)) (fun d xv H locs ls => (4 ≤ xv.1) ∧ (spMG rd d xv.1 xv.2.1 = spMG rd 400 4 (va_up a.1 20 (if a.1 20 ≠ 0 ∨ isRs a rd then 1 else 0), a.2)) ∧ (agN rd d xv.1 = rd.length) ∧ (rd.length < xv.1 + 3 * d) ∧ (xv.1 ≤ rd.length) ∧ (rRep (b + (xv.1 - 4)) (xv.2.2.1, xv.2.2.2) xv.2.1) ∧ (xv.2.2.2 41 = ar 41) ∧ (xv.2.2.1 42 = sc 42) ∧ gB G.1 (rT G) A s H locs (rWs G (xv.2.2.1, xv.2.2.2)) ∧ lv_has ls 6 [(4, .int (nI xv.1)), (3, .int (nI (if isRp rd then 1 else 0))), (2, .int (nI (if isRs a rd then 1 else 0))), (1, .int (nI (if (rd.getD 0 0 &&& 16) = 0 then 0 else 1))), (0, .ref G.2.1)]) 400 (4, (va_up a.1 20 (if a.1 20 ≠ 0 ∨ isRs a rd then 1 else 0), a.2), upd sc 20 (nI (if a.1 20 ≠ 0 ∨ isRs a rd then 1 else 0)), ar) ⟨Nat.le_refl 4, rfl, hag.2, by omega, hag.1, hr1, rfl, rfl, hB, hl⟩ ?_
  rintro d ⟨z, a1, sc1, ar1⟩ H locs ls ⟨hz4, hs, hg1, hd, hzl, hr1, k1, k2, hB, hl⟩ ih_14
  have hz4 : 4 ≤ z := hz4
  have hs : spMG rd d z a1 = spMG rd 400 4 (va_up a.1 20 (if a.1 20 ≠ 0 ∨ isRs a rd then 1 else 0), a.2) := hs
  have hg1 : agN rd d z = rd.length := hg1
  have hd : rd.length < z + 3 * d := hd
  have hzl : z ≤ rd.length := hzl
  have hr1 : rRep (b + (z - 4)) (sc1, ar1) a1 := hr1
  have k1 : ar1 41 = ar 41 := k1
  have k2 : sc1 42 = sc 42 := k2
  have hB : gB G.1 (rT G) A s H locs (rWs G (sc1, ar1)) := hB
  have hl : lv_has ls 6 [(4, .int (nI z)), (3, .int (nI (if isRp rd then 1 else 0))), (2, .int (nI (if isRs a rd then 1 else 0))), (1, .int (nI (if (rd.getD 0 0 &&& 16) = 0 then 0 else 1))), (0, .ref G.2.1)] := hl
  have hrd1 : pfxN (ar1 41) rd := by rw [k1]; exact hrd
  have h421 : sc1 42 = nI rd.length := by rw [k2]; exact h42
  refine lv_iload hx hb dX12_masterTakes_130 (lv_at hl 0 rfl) ?_
  refine lv_aload_n hx hb dX12_masterTakes_132 rfl (lv_at hl 4 rfl) ?_
  refine r_get (u := (sc1, ar1)) (v := .int (sc1 42)) hx hb hts hin hown hB 42 (by decide) (hts (.fieldLink RX12 127 "PointReportsModel" "readLength" "I") (by decide +kernel)) rfl rfl dX12_masterTakes_133 ?_
  refine g_top (y := nI rd.length) h421 ?_
  refine lv_icmp_ge (tgt := 163) hx hb dX12_masterTakes_136 (by decide) (fun c_15 => ?_) (fun c_15 => ?_)
  · have c_15 : rd.length ≤ z := (nI_leI (a := rd.length) (b := z) (by omega) (by omega)).mp c_15
    rw [spMG_end (by omega)] at hs
    rw [← hs] at hs0
    obtain ⟨n0, n9, n10, n11, n12, n13, n14, n15, n16, n19, n20, n23, n25, n26, n27, n28, n29, f1, f2, f3, f21, f22, f24, rE, rW, rl1, rl2, rl3, rq0, rq1, rq2, rq3, ro1, ro2, ro3, rg1, rg2, rg3, rg4, rh4, rg5, rh5, rg6, rh6, rg7, rh7, rc1, rc2, rc3, rz1, rz2, rz3, rz4, rk, rV, rY, rA, rb⟩ := id hr1
    have n0 : sc1 0 = nI (a1.1 0) := n0
    have n9 : sc1 9 = nI (a1.1 9) := n9
    have n10 : sc1 10 = nI (a1.1 10) := n10
    have n11 : sc1 11 = nI (a1.1 11) := n11
    have n12 : sc1 12 = nI (a1.1 12) := n12
    have n13 : sc1 13 = nI (a1.1 13) := n13
    have n14 : sc1 14 = nI (a1.1 14) := n14
    have n15 : sc1 15 = nI (a1.1 15) := n15
    have n16 : sc1 16 = nI (a1.1 16) := n16
    have n19 : sc1 19 = nI (a1.1 19) := n19
    have n20 : sc1 20 = nI (a1.1 20) := n20
    have n23 : sc1 23 = nI (a1.1 23) := n23
    have n25 : sc1 25 = nI (a1.1 25) := n25
    have n26 : sc1 26 = nI (a1.1 26) := n26
    have n27 : sc1 27 = nI (a1.1 27) := n27
    have n28 : sc1 28 = nI (a1.1 28) := n28
    have n29 : sc1 29 = nI (a1.1 29) := n29
    have f1 : ar1 1 = a1.2.1 1 := f1
    have f2 : ar1 2 = a1.2.1 2 := f2
    have f3 : ar1 3 = a1.2.1 3 := f3
    have f21 : ar1 21 = a1.2.1 21 := f21
    have f22 : ar1 22 = a1.2.1 22 := f22
    have f24 : ar1 24 = a1.2.1 24 := f24
    have rE : evR (ar1 4) (ar1 5) (ar1 6) (ar1 7) a1.2.2.1 := rE
    have rW : wtR (ar1 8) a1.2.2.1 a1.2.2.2.1 := rW
    have rl1 : sc1 30 = nI a1.2.2.2.2.1.length := rl1
    have rl3 : lnR (ar1 31) (ar1 32) (ar1 33) a1.2.2.2.2.1 := rl3
    have rq0 : ar1 34 0 = nI (a1.1 100) := rq0
    have rq1 : ar1 34 1 = nI (a1.1 101) := rq1
    have ro1 : pfx (ar1 17) a1.2.2.2.2.2.1 := ro1
    have ro2 : sc1 18 = nI a1.2.2.2.2.2.1.length := ro2
    have rg1 : ∀ x, x < 2 → ar1 36 x = nI (a1.2.2.2.2.2.2 x).length := rg1
    have rg3 : ∀ x, x < 2 → ∀ j, j < (a1.2.2.2.2.2.2 x).length → ar1 35 (400 * x + j) = nI ((a1.2.2.2.2.2.2 x).getD j 0) ∧ (a1.2.2.2.2.2.2 x).getD j 0 < 256 := rg3
    have rg4 : ar1 37 0 = nI (a1.1 102) := rg4
    have rh4 : ar1 37 1 = nI (a1.1 103) := rh4
    have rg5 : ar1 38 0 = nI (a1.1 104) := rg5
    have rh5 : ar1 38 1 = nI (a1.1 105) := rh5
    have rc1 : pfxN (ar1 43) (a1.2.2.2.2.2.2 2) := rc1
    have rc2 : sc1 44 = nI (a1.2.2.2.2.2.2 2).length := rc2
    have rb3 : ∀ k, a1.1 k ≤ b + 400 := fun k => Nat.le_trans (rb k) (by omega)
    have hl4 := hag.1
    refine lv_aload_n hx hb dX12_masterTakes_163 rfl (lv_at hl 4 rfl) ?_
    refine lv_aload_n hx hb dX12_masterTakes_164 rfl (lv_at hl 4 rfl) ?_
    refine r_get (u := (sc1, ar1)) (v := .ref (G.2.2.1 41)) hx hb hts hin hown hB 41 (by decide) (hts (.fieldLink RX12 78 "PointReportsModel" "read" "[I") (by decide +kernel)) rfl rfl dX12_masterTakes_165 ?_
    refine lv_iconst (v := nI 2) hx hb dX12_masterTakes_168 (by decide) ?_
    refine r_ald (u := (sc1, ar1)) (f := ar1 41) hx hb hB 22 rfl 2 rfl (by omega) (by decide) dX12_masterTakes_169 ?_
    have q170 := hrd1 (2) (by omega)
    refine g_top (y := nI (rd.getD (2) 0)) q170.1 ?_
    have q170 := q170.2
    refine r_put (u := (sc1, ar1)) (v := nI (rd.getD (2) 0)) (upd sc1 26 (nI (rd.getD (2) 0))) hx hb hts hin hown hB 26 (by decide) (hts (.fieldLink RX12 254 "PointReportsModel" "keptOne" "I") (by decide +kernel)) rfl (ty := .int) rfl rfl rfl rfl rfl dX12_masterTakes_170 (fun H locs hB => ?_)
    refine lv_aload_n hx hb dX12_masterTakes_173 rfl (lv_at hl 4 rfl) ?_
    refine lv_aload_n hx hb dX12_masterTakes_174 rfl (lv_at hl 4 rfl) ?_
    refine r_get (u := (upd sc1 26 (nI (rd.getD (2) 0)), ar1)) (v := .ref (G.2.2.1 41)) hx hb hts hin hown hB 41 (by decide) (hts (.fieldLink RX12 78 "PointReportsModel" "read" "[I") (by decide +kernel)) rfl rfl dX12_masterTakes_175 ?_
    refine lv_iconst (v := nI 3) hx hb dX12_masterTakes_178 (by decide) ?_
    refine r_ald (u := (upd sc1 26 (nI (rd.getD (2) 0)), ar1)) (f := ar1 41) hx hb hB 22 rfl 3 rfl (by omega) (by decide) dX12_masterTakes_179 ?_
    have q180 := hrd1 (3) (by omega)
    refine g_top (y := nI (rd.getD (3) 0)) q180.1 ?_
    have q180 := q180.2
    refine r_put (u := (upd sc1 26 (nI (rd.getD (2) 0)), ar1)) (v := nI (rd.getD (3) 0)) (upd (upd sc1 26 (nI (rd.getD (2) 0))) 27 (nI (rd.getD (3) 0))) hx hb hts hin hown hB 27 (by decide) (hts (.fieldLink RX12 257 "PointReportsModel" "keptTwo" "I") (by decide +kernel)) rfl (ty := .int) rfl rfl rfl rfl rfl dX12_masterTakes_180 (fun H locs hB => ?_)
    refine lv_aload_n hx hb dX12_masterTakes_183 rfl (lv_at hl 4 rfl) ?_
    refine r_get (u := (upd (upd sc1 26 (nI (rd.getD (2) 0))) 27 (nI (rd.getD (3) 0)), ar1)) (v := .ref (G.2.2.1 41)) hx hb hts hin hown hB 41 (by decide) (hts (.fieldLink RX12 78 "PointReportsModel" "read" "[I") (by decide +kernel)) rfl rfl dX12_masterTakes_184 ?_
    refine lv_iconst (v := nI 0) hx hb dX12_masterTakes_187 (by decide) ?_
    refine r_ald (u := (upd (upd sc1 26 (nI (rd.getD (2) 0))) 27 (nI (rd.getD (3) 0)), ar1)) (f := ar1 41) hx hb hB 22 rfl 0 rfl (by omega) (by decide) dX12_masterTakes_188 ?_
    have q189 := hrd1 (0) (by omega)
    refine g_top (y := nI (rd.getD (0) 0)) q189.1 ?_
    have q189 := q189.2
    refine lv_bipush (v := nI 32) hx hb dX12_masterTakes_189 (by decide) ?_
    refine lv_iand hx hb dX12_masterTakes_191 ?_
    refine g_top (y := nI (rd.getD 0 0 &&& 32)) (nx_and _ _) ?_
    have l32 := and_lt (rd.getD 0 0) 32
    refine lv_if_eq (tgt := 214) hx hb dX12_masterTakes_192 (by decide) (fun c_16 => ?_) (fun c_16 => ?_)
    · have c_16 : (rd.getD 0 0 &&& 32) = 0 := (nI_eq (a := (rd.getD 0 0 &&& 32)) (b := 0) (by omega) (by omega)).mp c_16
      have hsb : spMB a1 rd = (va_up (va_up a1.1 26 (rd.getD 2 0)) 27 (rd.getD 3 0), a1.2) := by rw [spMB, if_pos c_16]
      refine lv_iconst (v := nI 1) hx hb dX12_masterTakes_214 (by decide) ?_
      exact g_zret (Wd := rWs G) (v := nI 1) (upd (upd sc1 26 (nI (rd.getD (2) 0))) 27 (nI (rd.getD (3) 0)), ar1) hB hx hb hr hlocks rfl (narrow_z (Or.inr rfl)) ⟨by rw [hs0], by rw [hs0, hsb]; exact ⟨n0, n9, n10, n11, n12, n13, n14, n15, n16, n19, n20, n23, n25, rfl, rfl, n28, n29, f1, f2, f3, f21, f22, f24, rE, rW, rl1, rl2, rl3, rq0, rq1, rq2, rq3, ro1, ro2, ro3, rg1, rg2, rg3, rg4, rh4, rg5, rh5, rg6, rh6, rg7, rh7, rc1, rc2, rc3, rz1, rz2, rz3, rz4, rk, rV, rY, rA, (va_up_le (va_up_le rb3 (Nat.le_refl _) (by omega)) (Nat.le_refl _) (by omega))⟩⟩ dX12_masterTakes_215
    · have c_16 : ¬ (rd.getD 0 0 &&& 32) = 0 := fun h9 => c_16 ((nI_eq (a := (rd.getD 0 0 &&& 32)) (b := 0) (by omega) (by omega)).mpr h9)
      have hsb : spMB a1 rd = (va_up (va_up (va_up a1.1 26 (rd.getD 2 0)) 27 (rd.getD 3 0)) 100 (sndF 1 (cfH rd) a1.2.2.2.2.1 (a1.1 100)).2, a1.2.1, a1.2.2.1, a1.2.2.2.1, (sndF 1 (cfH rd) a1.2.2.2.2.1 (a1.1 100)).1, a1.2.2.2.2.2) := by rw [spMB, if_neg c_16]
      refine lv_aload_n hx hb dX12_masterTakes_195 rfl (lv_at hl 4 rfl) ?_
      refine lv_aload_n hx hb dX12_masterTakes_196 rfl (lv_at hl 4 rfl) ?_
      refine r_get (u := (upd (upd sc1 26 (nI (rd.getD (2) 0))) 27 (nI (rd.getD (3) 0)), ar1)) (v := .ref (G.2.2.1 41)) hx hb hts hin hown hB 41 (by decide) (hts (.fieldLink RX12 78 "PointReportsModel" "read" "[I") (by decide +kernel)) rfl rfl dX12_masterTakes_197 ?_
      refine lv_iconst (v := nI 0) hx hb dX12_masterTakes_200 (by decide) ?_
      refine r_ald (u := (upd (upd sc1 26 (nI (rd.getD (2) 0))) 27 (nI (rd.getD (3) 0)), ar1)) (f := ar1 41) hx hb hB 22 rfl 0 rfl (by omega) (by decide) dX12_masterTakes_201 ?_
      have q202 := hrd1 (0) (by omega)
      refine g_top (y := nI (rd.getD (0) 0)) q202.1 ?_
      have q202 := q202.2
      refine lv_bipush (v := nI 31) hx hb dX12_masterTakes_202 (by decide) ?_
      refine lv_iand hx hb dX12_masterTakes_204 ?_
      refine g_top (y := nI (rd.getD 0 0 &&& 31)) (nx_and _ _) ?_
      refine lv_iconst (v := nI 0) hx hb dX12_masterTakes_205 (by decide) ?_
      refine g_callv (av := [.int (nI (rd.getD 0 0 &&& 31)), .int (nI 0)]) (rest := []) ⟨hx, hb, hml, hown, hts⟩ (c_begin l G (upd (upd sc1 26 (nI (rd.getD (2) 0))) 27 (nI (rd.getD (3) 0))) ar1 (nI (rd.getD 0 0 &&& 31)) (nI 0)) (cwV 2 hts gX12_masterTakes_X12_begin rfl rfl rfl (by decide +kernel) ⟨Nat.le_of_ble_eq_true rfl, Nat.le_of_ble_eq_true rfl⟩) hB (q0 := 0) (ci := 9) rfl rfl rfl rfl hl.1 rfl (Nat.le_of_ble_eq_true rfl) dX12_masterTakes_206 ⟨Nat.le_of_ble_eq_true rfl, Nat.le_of_ble_eq_true rfl⟩ (fun u H locs hw hB => ?_)
      obtain ⟨f1z, hf1, rfl⟩ := hw
      have hB : gB G.1 (rT G) A s H locs (rWs G (upd (upd (upd sc1 26 (nI (rd.getD (2) 0))) 27 (nI (rd.getD (3) 0))) 40 (nI 2), va_up ar1 39 f1z)) := hB
      refine lv_aload_n hx hb dX12_masterTakes_209 rfl (lv_at hl 4 rfl) ?_
      refine lv_iconst (v := nI 1) hx hb dX12_masterTakes_210 (by decide) ?_
      refine g_callv (av := [.int (nI 1)]) (rest := []) ⟨hx, hb, hml, hown, hts⟩ (c_send l G (upd (upd (upd sc1 26 (nI (rd.getD (2) 0))) 27 (nI (rd.getD (3) 0))) 40 (nI 2)) (va_up ar1 39 f1z) 1 (by decide) (cfH rd) hf1 rfl (Nat.le_of_ble_eq_true rfl) a1.2.2.2.2.1 rl3 rl1 rl2 (a1.1 100) rq0 rq2) (cwV 1 hts gX12_masterTakes_X12_send rfl rfl rfl (by decide +kernel) ⟨Nat.le_of_ble_eq_true rfl, Nat.le_of_ble_eq_true rfl⟩) hB (q0 := 0) (ci := 9) rfl rfl rfl rfl hl.1 rfl (Nat.le_of_ble_eq_true rfl) dX12_masterTakes_211 ⟨Nat.le_of_ble_eq_true rfl, Nat.le_of_ble_eq_true rfl⟩ (fun u H locs hw hB => ?_)
      obtain ⟨fr, le, si, nu, t2, t3, t4, t5, t6, rfl⟩ := hw
      have hB : gB G.1 (rT G) A s H locs (rWs G (upd (upd (upd (upd sc1 26 (nI (rd.getD (2) 0))) 27 (nI (rd.getD (3) 0))) 30 (nI ((sndF 1 (cfH rd) a1.2.2.2.2.1 (a1.1 100)).1.length))) 40 (nI 2), va_up (va_up (va_up (va_up (va_up ar1 31 fr) 32 le) 33 si) 34 nu) 39 f1z)) := hB
      refine lv_iconst (v := nI 1) hx hb dX12_masterTakes_214 (by decide) ?_
      exact g_zret (Wd := rWs G) (v := nI 1) (upd (upd (upd (upd sc1 26 (nI (rd.getD (2) 0))) 27 (nI (rd.getD (3) 0))) 30 (nI ((sndF 1 (cfH rd) a1.2.2.2.2.1 (a1.1 100)).1.length))) 40 (nI 2), va_up (va_up (va_up (va_up (va_up ar1 31 fr) 32 le) 33 si) 34 nu) 39 f1z) hB hx hb hr hlocks rfl (narrow_z (Or.inr rfl)) ⟨by rw [hs0], by rw [hs0, hsb]; exact ⟨n0, n9, n10, n11, n12, n13, n14, n15, n16, n19, n20, n23, n25, rfl, rfl, n28, n29, f1, f2, f3, f21, f22, f24, rE, rW, rfl, t3, t2, t5, (t6.trans rq1), t4, rq3, ro1, ro2, ro3, rg1, rg2, rg3, rg4, rh4, rg5, rh5, rg6, rh6, rg7, rh7, rc1, rc2, rc3, rz1, rz2, rz3, rz4, rk, rV, (sndF_ok (by decide) rY), rA, (va_up_le (va_up_le (va_up_le rb3 (Nat.le_refl _) (by omega)) (Nat.le_refl _) (by omega)) (Nat.le_refl _) (show (sndF 1 (cfH rd) a1.2.2.2.2.1 (a1.1 100)).2 ≤ _ by omega))⟩⟩ dX12_masterTakes_215
  · have c_15 : ¬ rd.length ≤ z := fun h9 => c_15 ((nI_leI (a := rd.length) (b := z) (by omega) (by omega)).mpr h9)
    obtain ⟨d9, rfl⟩ : ∃ y, d = y + 1 := ⟨d - 1, by omega⟩
    rw [spMG, if_pos (by omega)] at hs
    rw [agN, if_pos (by omega)] at hg1
    have hg0 : ¬ gpN rd z = 0 := fun h => by rw [if_pos h] at hg1; omega
    rw [if_neg hg0] at hg1
    obtain ⟨g1, g2, g3, g4, g5, g6⟩ := gpN_at hg0
    refine lv_aload_n hx hb dX12_masterTakes_139 rfl (lv_at hl 4 rfl) ?_
    refine lv_iload hx hb dX12_masterTakes_140 (lv_at hl 0 rfl) ?_
    refine g_calli (av := [.int (nI z)]) (rest := []) ⟨hx, hb, hml, hown, hts⟩ (c_groupAt l G sc1 ar1 rd hrd1 h421 hr4 z (by omega)) (cwV 1 hts gX12_masterTakes_X12_groupAt rfl rfl rfl (by decide +kernel) ⟨Nat.le_of_ble_eq_true rfl, Nat.le_of_ble_eq_true rfl⟩) hB (q0 := 0) (ci := 9) rfl rfl rfl rfl hl.1 rfl (Nat.le_of_ble_eq_true rfl) dX12_masterTakes_142 ⟨Nat.le_of_ble_eq_true rfl, Nat.le_of_ble_eq_true rfl⟩ (fun r9 u H locs hw hB => ?_)
    obtain ⟨rfl, rfl⟩ := hw
    have hB : gB G.1 (rT G) A s H locs (rWs G (sc1, ar1)) := hB
    refine lv_istore (lv' := [(5, .int (nI (gpN rd z))), (4, .int (nI z)), (3, .int (nI (if isRp rd then 1 else 0))), (2, .int (nI (if isRs a rd then 1 else 0))), (1, .int (nI (if (rd.getD 0 0 &&& 16) = 0 then 0 else 1))), (0, .ref G.2.1)]) hx hb dX12_masterTakes_145 hl (by decide) rfl (fun ls hl => ?_)
    refine lv_aload_n hx hb dX12_masterTakes_147 rfl (lv_at hl 5 rfl) ?_
    refine lv_iload hx hb dX12_masterTakes_148 (lv_at hl 1 rfl) ?_
    refine g_callv (av := [.int (nI z)]) (rest := []) ⟨hx, hb, hml, hown, hts⟩ (c_takeGroup l G sc1 ar1 (b + (z - 4)) (by omega) a1 hr1 rd hrd1 h421 hr4 z hg0) (cwV 1 hts gX12_masterTakes_X12_takeGroup rfl rfl rfl (by decide +kernel) ⟨Nat.le_of_ble_eq_true rfl, Nat.le_of_ble_eq_true rfl⟩) hB (q0 := 0) (ci := 9) rfl rfl rfl rfl hl.1 rfl (Nat.le_of_ble_eq_true rfl) dX12_masterTakes_150 ⟨Nat.le_of_ble_eq_true rfl, Nat.le_of_ble_eq_true rfl⟩ (fun u H locs hw hB => ?_)
    obtain ⟨sc2, ar2⟩ := u
    obtain ⟨hr2, k3, k4⟩ := hw
    have hB : gB G.1 (rT G) A s H locs (rWs G (sc2, ar2)) := hB
    refine lv_iload hx hb dX12_masterTakes_153 (lv_at hl 1 rfl) ?_
    refine lv_iload hx hb dX12_masterTakes_155 (lv_at hl 0 rfl) ?_
    refine lv_iadd hx hb dX12_masterTakes_157 ?_
    refine g_top (y := nI (z + (gpN rd z))) (nI_add _ _) ?_
    refine lv_istore (lv' := [(4, .int (nI (z + (gpN rd z)))), (5, .int (nI (gpN rd z))), (3, .int (nI (if isRp rd then 1 else 0))), (2, .int (nI (if isRs a rd then 1 else 0))), (1, .int (nI (if (rd.getD 0 0 &&& 16) = 0 then 0 else 1))), (0, .ref G.2.1)]) hx hb dX12_masterTakes_158 hl (by decide) rfl (fun ls hl => ?_)
    refine lv_goto (tgt := 130) hx hb dX12_masterTakes_160 (by decide) ?_
    have hc8 := (hrd1 (z + 2) (by omega)).2
    have m1 : 3 * rd.getD (z + 2) 0 ≤ wd2 rd z * rd.getD (z + 2) 0 := Nat.mul_le_mul_right _ (by omega)
    have hr3 : rRep (b + (z + gpN rd z - 4)) (sc2, ar2) (spTG a1 rd z (rd.getD (z + 2) 0)) := by
      obtain ⟨n0, n9, n10, n11, n12, n13, n14, n15, n16, n19, n20, n23, n25, n26, n27, n28, n29, f1, f2, f3, f21, f22, f24, rE, rW, rl1, rl2, rl3, rq0, rq1, rq2, rq3, ro1, ro2, ro3, rg1, rg2, rg3, rg4, rh4, rg5, rh5, rg6, rh6, rg7, rh7, rc1, rc2, rc3, rz1, rz2, rz3, rz4, rk, rV, rY, rA, rb⟩ := id hr2
      exact ⟨n0, n9, n10, n11, n12, n13, n14, n15, n16, n19, n20, n23, n25, n26, n27, n28, n29, f1, f2, f3, f21, f22, f24, rE, rW, rl1, rl2, rl3, rq0, rq1, rq2, rq3, ro1, ro2, ro3, rg1, rg2, rg3, rg4, rh4, rg5, rh5, rg6, rh6, rg7, rh7, rc1, rc2, rc3, rz1, rz2, rz3, rz4, rk, rV, rY, rA, (fun j => Nat.le_trans (rb j) (by omega))⟩
    have hl : lv_has ls 6 [(4, .int (nI (z + gpN rd z))), (3, .int (nI (if isRp rd then 1 else 0))), (2, .int (nI (if isRs a rd then 1 else 0))), (1, .int (nI (if (rd.getD 0 0 &&& 16) = 0 then 0 else 1))), (0, .ref G.2.1)] := lv_sub hl [0, 2, 3, 4, 5] rfl
    have hB : gB G.1 (rT G) A s H locs (rWs G (sc2, ar2)) := hB
    have b_17 : 4 ≤ (z + gpN rd z) := by omega
    have b_18 : spMG rd d9 (z + gpN rd z) (spTG a1 rd z (rd.getD (z + 2) 0)) = spMG rd 400 4 (va_up a.1 20 (if a.1 20 ≠ 0 ∨ isRs a rd then 1 else 0), a.2) := hs
    have b_19 : agN rd d9 (z + gpN rd z) = rd.length := hg1
    have b_20 : rd.length < (z + gpN rd z) + 3 * d9 := by omega
    have b_21 : (z + gpN rd z) ≤ rd.length := by omega
    have b_22 : rRep (b + ((z + gpN rd z) - 4)) (sc2, ar2) (spTG a1 rd z (rd.getD (z + 2) 0)) := hr3
    have b_23 : ar2 41 = ar 41 := k3.trans k1
    have b_24 : sc2 42 = sc 42 := k4.trans k2
    exact ih_14 d9 (z + gpN rd z, spTG a1 rd z (rd.getD (z + 2) 0), sc2, ar2) H locs ls (by omega) ⟨b_17, b_18, b_19, b_20, b_21, b_22, b_23, b_24, hB, hl⟩
