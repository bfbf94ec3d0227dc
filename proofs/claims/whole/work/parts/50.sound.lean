def bdOk (bl : List Int32) : Prop := nI (loN bl (10 + mnN 16 (bl.length - 12)) 2) = ck (sub bl 10 (mnN 16 (bl.length - 12))) ∧ (28 < bl.length → nI (loN bl (28 + mnN 16 (bl.length - 30)) 2) = ck (sub bl 28 (mnN 16 (bl.length - 30))))
/-- a frame is as it must be, as the class looks at it -/
def okC (sd : Nat) (bl : List Int32) : Prop := 7 ≤ bq bl 2 ∧ bq bl 2 ≤ 26 ∧ bl.length = 10 + nF bl + (nF bl + 15) / 16 * 2 ∧ hdOk sd bl ∧ bdOk bl
set_option maxRecDepth 100000 in
set_option maxHeartbeats 4000000 in
/-- Frame.bodyIsSound() -/
theorem k_Frame_bodyIsSound (l : Launch) (G : rG) (fa : Nat) (sd : Nat) (hsd : sd ≤ 1) (b r n : Nat) (f : Nat → Int32) (bl : List Int32) (hp : pfx f bl) (hbn : bl.length ≤ n) (hn : n < 1000000) (hB9 : ∀ x ∈ bl, isB x) (h14 : 14 ≤ bl.length) (h35 : bl.length ≤ 35) (h31 : 28 < bl.length → 31 ≤ bl.length) : gM l G.1 (rT G) yX3_bodyIsSound wsX3_bodyIsSound { frames := 2, cells := 0, slots := 0, locals := 46 } [.ref fa] [(fa, .inr (2, [.ref b, .int (nI (sd + 1))])), (b, .inr (0, [.ref r, .int (nI bl.length)])), (r, .inl (G.2.2.2.1, n, .inl f))] (gQi G.1 (rT G) (fun (r : Int32) (u : Int32 × Int32 × (Nat → Int32)) => ((r = nI 1 ∧ bdOk bl) ∨ (r = nI 0 ∧ ¬ bdOk bl)) ∧ u = (nI (sd + 1), nI bl.length, f)) (fW G fa b r n)) 0 0 := by
  refine gM.of (cc := cX3_bodyIsSound) (maxL := 3) (ret := (some .boolean)) (by decide) rfl (Nat.le_of_ble_eq_true rfl) ?_
  intro p e s m below meth c A ls hx hb hr hml hown hts hlocks hnm hB hl
  have hl : lv_has ls 3 [(0, .ref fa)] := hl
  refine lv_bipush (v := nI 10) hx hb dX3_bodyIsSound_0 (by decide) ?_
  refine lv_istore_n (lv' := [(1, .int (nI 10)), (0, .ref fa)]) hx hb dX3_bodyIsSound_2 rfl hl (by decide) rfl (fun ls hl => ?_)
  refine lv_iload_n hx hb dX3_bodyIsSound_3 rfl (lv_at hl 0 rfl) ?_
  refine lv_aload_n hx hb dX3_bodyIsSound_4 rfl (lv_at hl 1 rfl) ?_
  refine g_get (own := RX3) (C := RX3) (T := TX3) (N := 2) (ci := 2) (v := .ref b) hx hb hts (fun _ h => List.mem_cons_of_mem _ (List.mem_append_left _ (List.mem_append_right _ h))) hown hB 0 rfl rfl 0 (by decide) (hts (.fieldLink RX3 16 "PointReports$Frame" "bytes" "LPointReports$Bytes;") (by decide +kernel)) rfl rfl dX3_bodyIsSound_5 ?_
  refine g_calliA (wr := [(fa, .inr (2, [.ref b, .int (nI (sd + 1))]))]) (wc := [(b, .inr (0, [.ref r, .int (nI bl.length)])), (r, .inl (G.2.2.2.1, n, .inl f))]) (av := []) (rest := [.int (nI 10)]) ⟨hx, hb, hml, hown, hts⟩ (k_Bytes_size l G b r n f bl hp hbn hn) (cwV 0 hts gX3_bodyIsSound_X1_size rfl rfl rfl (by decide +kernel) ⟨Nat.le_of_ble_eq_true rfl, Nat.le_of_ble_eq_true rfl⟩) hB (q0 := 0) (ci := 0) rfl rfl rfl rfl hl.1 rfl (Nat.le_of_ble_eq_true rfl) dX3_bodyIsSound_8 ⟨Nat.le_of_ble_eq_true rfl, Nat.le_of_ble_eq_true rfl⟩ (fun r9 u H locs hw hB => ?_)
  obtain ⟨rfl, rfl⟩ := hw
  have hB : gB G.1 (rT G) A s H locs [(fa, .inr (2, [.ref b, .int (nI (sd + 1))])), (b, .inr (0, [.ref r, .int (nI bl.length)])), (r, .inl (G.2.2.2.1, n, .inl f))] := hB
  refine lv_icmp_ge (tgt := 62) hx hb dX3_bodyIsSound_11 (by decide) (fun c_1 => ?_) (fun c_1 => ?_)
  · have c_1 : bl.length ≤ 10 := (nI_leI (a := bl.length) (b := 10) (by omega) (by omega)).mp c_1
    exact absurd c_1 (by omega)
  · have c_1 : ¬ bl.length ≤ 10 := fun h9 => c_1 ((nI_leI (a := bl.length) (b := 10) (by omega) (by omega)).mpr h9)
    refine lv_bipush (v := nI 16) hx hb dX3_bodyIsSound_14 (by decide) ?_
    refine lv_aload_n hx hb dX3_bodyIsSound_16 rfl (lv_at hl 1 rfl) ?_
    refine g_get (own := RX3) (C := RX3) (T := TX3) (N := 2) (ci := 2) (v := .ref b) hx hb hts (fun _ h => List.mem_cons_of_mem _ (List.mem_append_left _ (List.mem_append_right _ h))) hown hB 0 rfl rfl 0 (by decide) (hts (.fieldLink RX3 16 "PointReports$Frame" "bytes" "LPointReports$Bytes;") (by decide +kernel)) rfl rfl dX3_bodyIsSound_17 ?_
    refine g_calliA (wr := [(fa, .inr (2, [.ref b, .int (nI (sd + 1))]))]) (wc := [(b, .inr (0, [.ref r, .int (nI bl.length)])), (r, .inl (G.2.2.2.1, n, .inl f))]) (av := []) (rest := [.int (nI 16)]) ⟨hx, hb, hml, hown, hts⟩ (k_Bytes_size l G b r n f bl hp hbn hn) (cwV 0 hts gX3_bodyIsSound_X1_size rfl rfl rfl (by decide +kernel) ⟨Nat.le_of_ble_eq_true rfl, Nat.le_of_ble_eq_true rfl⟩) hB (q0 := 0) (ci := 0) rfl rfl rfl rfl hl.1 rfl (Nat.le_of_ble_eq_true rfl) dX3_bodyIsSound_20 ⟨Nat.le_of_ble_eq_true rfl, Nat.le_of_ble_eq_true rfl⟩ (fun r9 u H locs hw hB => ?_)
    obtain ⟨rfl, rfl⟩ := hw
    have hB : gB G.1 (rT G) A s H locs [(fa, .inr (2, [.ref b, .int (nI (sd + 1))])), (b, .inr (0, [.ref r, .int (nI bl.length)])), (r, .inl (G.2.2.2.1, n, .inl f))] := hB
    refine lv_iconst (v := nI 2) hx hb dX3_bodyIsSound_23 (by decide) ?_
    refine lv_isub hx hb dX3_bodyIsSound_24 ?_
    refine g_top (y := nI (bl.length - 2)) (pk_sub (by omega)) ?_
    refine lv_iload_n hx hb dX3_bodyIsSound_25 rfl (lv_at hl 0 rfl) ?_
    refine lv_isub hx hb dX3_bodyIsSound_26 ?_
    refine g_top (y := nI (bl.length - 12)) ((pk_sub (by omega)).trans (by congr 1)) ?_
    refine va_mmin (x := nI 16) (y := nI (bl.length - 12)) hx hb (hml.trans hl.1.symm) hown (hts (.methodLink RX3 69 Lib.Math.min.name) (by decide +kernel)) (hts (.static Lib.Math.min.name) (by decide +kernel)) (hts (.initialized "java/lang/Math") (by decide +kernel)) (hts (.code Lib.Math.min.name Lib.Math.min.code 2 (some .int)) (by decide +kernel)) (Nat.le_of_ble_eq_true rfl) (Nat.le_of_ble_eq_true rfl) (Nat.zero_le _) (Nat.zero_le _) dX3_bodyIsSound_27 ?_
    refine g_top (y := nI (mnN 16 (bl.length - 12))) (mn_nI (a := 16) (by decide) (by omega)) ?_
    have m10 : mnN 16 (bl.length - 12) ≤ bl.length - 12 ∧ mnN 16 (bl.length - 12) ≤ 16 := by unfold mnN; split <;> omega
    refine lv_istore_n (lv' := [(2, .int (nI (mnN 16 (bl.length - 12)))), (1, .int (nI 10)), (0, .ref fa)]) hx hb dX3_bodyIsSound_30 rfl hl (by decide) rfl (fun ls hl => ?_)
    refine lv_aload_n hx hb dX3_bodyIsSound_31 rfl (lv_at hl 2 rfl) ?_
    refine g_get (own := RX3) (C := RX3) (T := TX3) (N := 2) (ci := 2) (v := .ref b) hx hb hts (fun _ h => List.mem_cons_of_mem _ (List.mem_append_left _ (List.mem_append_right _ h))) hown hB 0 rfl rfl 0 (by decide) (hts (.fieldLink RX3 16 "PointReports$Frame" "bytes" "LPointReports$Bytes;") (by decide +kernel)) rfl rfl dX3_bodyIsSound_32 ?_
    refine lv_iload_n hx hb dX3_bodyIsSound_35 rfl (lv_at hl 1 rfl) ?_
    refine lv_iload_n hx hb dX3_bodyIsSound_36 rfl (lv_at hl 0 rfl) ?_
    refine lv_iadd hx hb dX3_bodyIsSound_37 ?_
    refine g_top (y := nI (10 + (mnN 16 (bl.length - 12)))) (nI_add _ _) ?_
    refine lv_iconst (v := nI 2) hx hb dX3_bodyIsSound_38 (by decide) ?_
    refine g_calliA (wr := [(fa, .inr (2, [.ref b, .int (nI (sd + 1))]))]) (wc := [(b, .inr (0, [.ref r, .int (nI bl.length)])), (r, .inl (G.2.2.2.1, n, .inl f))]) (av := [.int (nI (10 + (mnN 16 (bl.length - 12)))), .int (nI 2)]) (rest := []) ⟨hx, hb, hml, hown, hts⟩ (k_Bytes_number l G b r n f bl hp hbn hn hB9 (10 + mnN 16 (bl.length - 12)) 2 (by decide) (by omega)) (cwV 2 hts gX3_bodyIsSound_X1_number rfl rfl rfl (by decide +kernel) ⟨Nat.le_of_ble_eq_true rfl, Nat.le_of_ble_eq_true rfl⟩) hB (q0 := 0) (ci := 0) rfl rfl rfl rfl hl.1 rfl (Nat.le_of_ble_eq_true rfl) dX3_bodyIsSound_39 ⟨Nat.le_of_ble_eq_true rfl, Nat.le_of_ble_eq_true rfl⟩ (fun r9 u H locs hw hB => ?_)
    obtain ⟨rfl, rfl⟩ := hw
    have hB : gB G.1 (rT G) A s H locs [(fa, .inr (2, [.ref b, .int (nI (sd + 1))])), (b, .inr (0, [.ref r, .int (nI bl.length)])), (r, .inl (G.2.2.2.1, n, .inl f))] := hB
    refine lv_aload_n hx hb dX3_bodyIsSound_42 rfl (lv_at hl 2 rfl) ?_
    refine g_get (own := RX3) (C := RX3) (T := TX3) (N := 2) (ci := 2) (v := .ref b) hx hb hts (fun _ h => List.mem_cons_of_mem _ (List.mem_append_left _ (List.mem_append_right _ h))) hown hB 0 rfl rfl 0 (by decide) (hts (.fieldLink RX3 16 "PointReports$Frame" "bytes" "LPointReports$Bytes;") (by decide +kernel)) rfl rfl dX3_bodyIsSound_43 ?_
    refine lv_iload_n hx hb dX3_bodyIsSound_46 rfl (lv_at hl 1 rfl) ?_
    refine lv_iload_n hx hb dX3_bodyIsSound_47 rfl (lv_at hl 0 rfl) ?_
    refine g_calliA (wr := [(fa, .inr (2, [.ref b, .int (nI (sd + 1))]))]) (wc := [(b, .inr (0, [.ref r, .int (nI bl.length)])), (r, .inl (G.2.2.2.1, n, .inl f))]) (av := [.int (nI 10), .int (nI (mnN 16 (bl.length - 12)))]) (rest := [.int (nI (loN bl (10 + mnN 16 (bl.length - 12)) 2))]) ⟨hx, hb, hml, hown, hts⟩ (k_Bytes_check l G b r n f bl hp hbn hn hB9 10 (mnN 16 (bl.length - 12)) (by omega)) (cwV 2 hts gX3_bodyIsSound_X1_check rfl rfl rfl (by decide +kernel) ⟨Nat.le_of_ble_eq_true rfl, Nat.le_of_ble_eq_true rfl⟩) hB (q0 := 0) (ci := 0) rfl rfl rfl rfl hl.1 rfl (Nat.le_of_ble_eq_true rfl) dX3_bodyIsSound_48 ⟨Nat.le_of_ble_eq_true rfl, Nat.le_of_ble_eq_true rfl⟩ (fun r9 u H locs hw hB => ?_)
    obtain ⟨rfl, rfl⟩ := hw
    have hB : gB G.1 (rT G) A s H locs [(fa, .inr (2, [.ref b, .int (nI (sd + 1))])), (b, .inr (0, [.ref r, .int (nI bl.length)])), (r, .inl (G.2.2.2.1, n, .inl f))] := hB
    refine lv_icmp_eq (tgt := 56) hx hb dX3_bodyIsSound_51 (by decide) (fun c_2 => ?_) (fun c_2 => ?_)
    · have c_2 := c_2
      refine lv_iinc (v := nI (10 + 18)) (lv' := [(1, .int (nI (10 + 18))), (2, .int (nI (mnN 16 (bl.length - 12)))), (0, .ref fa)]) hx hb dX3_bodyIsSound_56 hl (k := 1) rfl (nI_add _ _) (by decide) rfl (fun ls hl => ?_)
      refine lv_goto (tgt := 3) hx hb dX3_bodyIsSound_59 (by decide) ?_
      refine lv_iload_n hx hb dX3_bodyIsSound_3 rfl (lv_at hl 0 rfl) ?_
      refine lv_aload_n hx hb dX3_bodyIsSound_4 rfl (lv_at hl 2 rfl) ?_
      refine g_get (own := RX3) (C := RX3) (T := TX3) (N := 2) (ci := 2) (v := .ref b) hx hb hts (fun _ h => List.mem_cons_of_mem _ (List.mem_append_left _ (List.mem_append_right _ h))) hown hB 0 rfl rfl 0 (by decide) (hts (.fieldLink RX3 16 "PointReports$Frame" "bytes" "LPointReports$Bytes;") (by decide +kernel)) rfl rfl dX3_bodyIsSound_5 ?_
      refine g_calliA (wr := [(fa, .inr (2, [.ref b, .int (nI (sd + 1))]))]) (wc := [(b, .inr (0, [.ref r, .int (nI bl.length)])), (r, .inl (G.2.2.2.1, n, .inl f))]) (av := []) (rest := [.int (nI (10 + 18))]) ⟨hx, hb, hml, hown, hts⟩ (k_Bytes_size l G b r n f bl hp hbn hn) (cwV 0 hts gX3_bodyIsSound_X1_size rfl rfl rfl (by decide +kernel) ⟨Nat.le_of_ble_eq_true rfl, Nat.le_of_ble_eq_true rfl⟩) hB (q0 := 0) (ci := 0) rfl rfl rfl rfl hl.1 rfl (Nat.le_of_ble_eq_true rfl) dX3_bodyIsSound_8 ⟨Nat.le_of_ble_eq_true rfl, Nat.le_of_ble_eq_true rfl⟩ (fun r9 u H locs hw hB => ?_)
      obtain ⟨rfl, rfl⟩ := hw
      have hB : gB G.1 (rT G) A s H locs [(fa, .inr (2, [.ref b, .int (nI (sd + 1))])), (b, .inr (0, [.ref r, .int (nI bl.length)])), (r, .inl (G.2.2.2.1, n, .inl f))] := hB
      refine lv_icmp_ge (tgt := 62) hx hb dX3_bodyIsSound_11 (by decide) (fun c_3 => ?_) (fun c_3 => ?_)
      · have c_3 : bl.length ≤ (10 + 18) := (nI_leI (a := bl.length) (b := (10 + 18)) (by omega) (by omega)).mp c_3
        refine lv_iconst (v := nI 1) hx hb dX3_bodyIsSound_62 (by decide) ?_
        exact g_zret (Wd := fW G fa b r n) (v := nI 1) (nI (sd + 1), nI bl.length, f) hB hx hb hr hlocks rfl (narrow_z (Or.inr rfl)) ⟨Or.inl ⟨rfl, c_2, fun z => absurd z (by omega)⟩, rfl⟩ dX3_bodyIsSound_63
      · have c_3 : ¬ bl.length ≤ (10 + 18) := fun h9 => c_3 ((nI_leI (a := bl.length) (b := (10 + 18)) (by omega) (by omega)).mpr h9)
        have h31 := h31 (by omega)
        refine lv_bipush (v := nI 16) hx hb dX3_bodyIsSound_14 (by decide) ?_
        refine lv_aload_n hx hb dX3_bodyIsSound_16 rfl (lv_at hl 2 rfl) ?_
        refine g_get (own := RX3) (C := RX3) (T := TX3) (N := 2) (ci := 2) (v := .ref b) hx hb hts (fun _ h => List.mem_cons_of_mem _ (List.mem_append_left _ (List.mem_append_right _ h))) hown hB 0 rfl rfl 0 (by decide) (hts (.fieldLink RX3 16 "PointReports$Frame" "bytes" "LPointReports$Bytes;") (by decide +kernel)) rfl rfl dX3_bodyIsSound_17 ?_
        refine g_calliA (wr := [(fa, .inr (2, [.ref b, .int (nI (sd + 1))]))]) (wc := [(b, .inr (0, [.ref r, .int (nI bl.length)])), (r, .inl (G.2.2.2.1, n, .inl f))]) (av := []) (rest := [.int (nI 16)]) ⟨hx, hb, hml, hown, hts⟩ (k_Bytes_size l G b r n f bl hp hbn hn) (cwV 0 hts gX3_bodyIsSound_X1_size rfl rfl rfl (by decide +kernel) ⟨Nat.le_of_ble_eq_true rfl, Nat.le_of_ble_eq_true rfl⟩) hB (q0 := 0) (ci := 0) rfl rfl rfl rfl hl.1 rfl (Nat.le_of_ble_eq_true rfl) dX3_bodyIsSound_20 ⟨Nat.le_of_ble_eq_true rfl, Nat.le_of_ble_eq_true rfl⟩ (fun r9 u H locs hw hB => ?_)
        obtain ⟨rfl, rfl⟩ := hw
        have hB : gB G.1 (rT G) A s H locs [(fa, .inr (2, [.ref b, .int (nI (sd + 1))])), (b, .inr (0, [.ref r, .int (nI bl.length)])), (r, .inl (G.2.2.2.1, n, .inl f))] := hB
        refine lv_iconst (v := nI 2) hx hb dX3_bodyIsSound_23 (by decide) ?_
        refine lv_isub hx hb dX3_bodyIsSound_24 ?_
        refine g_top (y := nI (bl.length - 2)) (pk_sub (by omega)) ?_
        refine lv_iload_n hx hb dX3_bodyIsSound_25 rfl (lv_at hl 0 rfl) ?_
        refine lv_isub hx hb dX3_bodyIsSound_26 ?_
        refine g_top (y := nI (bl.length - 30)) ((pk_sub (by omega)).trans (by congr 1)) ?_
        refine va_mmin (x := nI 16) (y := nI (bl.length - 30)) hx hb (hml.trans hl.1.symm) hown (hts (.methodLink RX3 69 Lib.Math.min.name) (by decide +kernel)) (hts (.static Lib.Math.min.name) (by decide +kernel)) (hts (.initialized "java/lang/Math") (by decide +kernel)) (hts (.code Lib.Math.min.name Lib.Math.min.code 2 (some .int)) (by decide +kernel)) (Nat.le_of_ble_eq_true rfl) (Nat.le_of_ble_eq_true rfl) (Nat.zero_le _) (Nat.zero_le _) dX3_bodyIsSound_27 ?_
        refine g_top (y := nI (mnN 16 (bl.length - 30))) (mn_nI (a := 16) (by decide) (by omega)) ?_
        have m28 : mnN 16 (bl.length - 30) ≤ bl.length - 30 ∧ mnN 16 (bl.length - 30) ≤ 16 := by unfold mnN; split <;> omega
        refine lv_istore_n (lv' := [(2, .int (nI (mnN 16 (bl.length - 30)))), (1, .int (nI (10 + 18))), (0, .ref fa)]) hx hb dX3_bodyIsSound_30 rfl hl (by decide) rfl (fun ls hl => ?_)
        refine lv_aload_n hx hb dX3_bodyIsSound_31 rfl (lv_at hl 2 rfl) ?_
        refine g_get (own := RX3) (C := RX3) (T := TX3) (N := 2) (ci := 2) (v := .ref b) hx hb hts (fun _ h => List.mem_cons_of_mem _ (List.mem_append_left _ (List.mem_append_right _ h))) hown hB 0 rfl rfl 0 (by decide) (hts (.fieldLink RX3 16 "PointReports$Frame" "bytes" "LPointReports$Bytes;") (by decide +kernel)) rfl rfl dX3_bodyIsSound_32 ?_
        refine lv_iload_n hx hb dX3_bodyIsSound_35 rfl (lv_at hl 1 rfl) ?_
        refine lv_iload_n hx hb dX3_bodyIsSound_36 rfl (lv_at hl 0 rfl) ?_
        refine lv_iadd hx hb dX3_bodyIsSound_37 ?_
        refine g_top (y := nI ((10 + 18) + (mnN 16 (bl.length - 30)))) (nI_add _ _) ?_
        refine lv_iconst (v := nI 2) hx hb dX3_bodyIsSound_38 (by decide) ?_
        refine g_calliA (wr := [(fa, .inr (2, [.ref b, .int (nI (sd + 1))]))]) (wc := [(b, .inr (0, [.ref r, .int (nI bl.length)])), (r, .inl (G.2.2.2.1, n, .inl f))]) (av := [.int (nI ((10 + 18) + (mnN 16 (bl.length - 30)))), .int (nI 2)]) (rest := []) ⟨hx, hb, hml, hown, hts⟩ (k_Bytes_number l G b r n f bl hp hbn hn hB9 (28 + mnN 16 (bl.length - 30)) 2 (by decide) (by omega)) (cwV 2 hts gX3_bodyIsSound_X1_number rfl rfl rfl (by decide +kernel) ⟨Nat.le_of_ble_eq_true rfl, Nat.le_of_ble_eq_true rfl⟩) hB (q0 := 0) (ci := 0) rfl rfl rfl rfl hl.1 rfl (Nat.le_of_ble_eq_true rfl) dX3_bodyIsSound_39 ⟨Nat.le_of_ble_eq_true rfl, Nat.le_of_ble_eq_true rfl⟩ (fun r9 u H locs hw hB => ?_)
        obtain ⟨rfl, rfl⟩ := hw
        have hB : gB G.1 (rT G) A s H locs [(fa, .inr (2, [.ref b, .int (nI (sd + 1))])), (b, .inr (0, [.ref r, .int (nI bl.length)])), (r, .inl (G.2.2.2.1, n, .inl f))] := hB
        refine lv_aload_n hx hb dX3_bodyIsSound_42 rfl (lv_at hl 2 rfl) ?_
        refine g_get (own := RX3) (C := RX3) (T := TX3) (N := 2) (ci := 2) (v := .ref b) hx hb hts (fun _ h => List.mem_cons_of_mem _ (List.mem_append_left _ (List.mem_append_right _ h))) hown hB 0 rfl rfl 0 (by decide) (hts (.fieldLink RX3 16 "PointReports$Frame" "bytes" "LPointReports$Bytes;") (by decide +kernel)) rfl rfl dX3_bodyIsSound_43 ?_
        refine lv_iload_n hx hb dX3_bodyIsSound_46 rfl (lv_at hl 1 rfl) ?_
        refine lv_iload_n hx hb dX3_bodyIsSound_47 rfl (lv_at hl 0 rfl) ?_
        refine g_calliA (wr := [(fa, .inr (2, [.ref b, .int (nI (sd + 1))]))]) (wc := [(b, .inr (0, [.ref r, .int (nI bl.length)])), (r, .inl (G.2.2.2.1, n, .inl f))]) (av := [.int (nI (10 + 18)), .int (nI (mnN 16 (bl.length - 30)))]) (rest := [.int (nI (loN bl (28 + mnN 16 (bl.length - 30)) 2))]) ⟨hx, hb, hml, hown, hts⟩ (k_Bytes_check l G b r n f bl hp hbn hn hB9 28 (mnN 16 (bl.length - 30)) (by omega)) (cwV 2 hts gX3_bodyIsSound_X1_check rfl rfl rfl (by decide +kernel) ⟨Nat.le_of_ble_eq_true rfl, Nat.le_of_ble_eq_true rfl⟩) hB (q0 := 0) (ci := 0) rfl rfl rfl rfl hl.1 rfl (Nat.le_of_ble_eq_true rfl) dX3_bodyIsSound_48 ⟨Nat.le_of_ble_eq_true rfl, Nat.le_of_ble_eq_true rfl⟩ (fun r9 u H locs hw hB => ?_)
        obtain ⟨rfl, rfl⟩ := hw
        have hB : gB G.1 (rT G) A s H locs [(fa, .inr (2, [.ref b, .int (nI (sd + 1))])), (b, .inr (0, [.ref r, .int (nI bl.length)])), (r, .inl (G.2.2.2.1, n, .inl f))] := hB
        refine lv_icmp_eq (tgt := 56) hx hb dX3_bodyIsSound_51 (by decide) (fun c_4 => ?_) (fun c_4 => ?_)
        · have c_4 := c_4
          refine lv_iinc (v := nI (10 + 18 + 18)) (lv' := [(1, .int (nI (10 + 18 + 18))), (2, .int (nI (mnN 16 (bl.length - 30)))), (0, .ref fa)]) hx hb dX3_bodyIsSound_56 hl (k := 1) rfl (nI_add _ _) (by decide) rfl (fun ls hl => ?_)
          refine lv_goto (tgt := 3) hx hb dX3_bodyIsSound_59 (by decide) ?_
          refine lv_iload_n hx hb dX3_bodyIsSound_3 rfl (lv_at hl 0 rfl) ?_
          refine lv_aload_n hx hb dX3_bodyIsSound_4 rfl (lv_at hl 2 rfl) ?_
          refine g_get (own := RX3) (C := RX3) (T := TX3) (N := 2) (ci := 2) (v := .ref b) hx hb hts (fun _ h => List.mem_cons_of_mem _ (List.mem_append_left _ (List.mem_append_right _ h))) hown hB 0 rfl rfl 0 (by decide) (hts (.fieldLink RX3 16 "PointReports$Frame" "bytes" "LPointReports$Bytes;") (by decide +kernel)) rfl rfl dX3_bodyIsSound_5 ?_
          refine g_calliA (wr := [(fa, .inr (2, [.ref b, .int (nI (sd + 1))]))]) (wc := [(b, .inr (0, [.ref r, .int (nI bl.length)])), (r, .inl (G.2.2.2.1, n, .inl f))]) (av := []) (rest := [.int (nI (10 + 18 + 18))]) ⟨hx, hb, hml, hown, hts⟩ (k_Bytes_size l G b r n f bl hp hbn hn) (cwV 0 hts gX3_bodyIsSound_X1_size rfl rfl rfl (by decide +kernel) ⟨Nat.le_of_ble_eq_true rfl, Nat.le_of_ble_eq_true rfl⟩) hB (q0 := 0) (ci := 0) rfl rfl rfl rfl hl.1 rfl (Nat.le_of_ble_eq_true rfl) dX3_bodyIsSound_8 ⟨Nat.le_of_ble_eq_true rfl, Nat.le_of_ble_eq_true rfl⟩ (fun r9 u H locs hw hB => ?_)
          obtain ⟨rfl, rfl⟩ := hw
          have hB : gB G.1 (rT G) A s H locs [(fa, .inr (2, [.ref b, .int (nI (sd + 1))])), (b, .inr (0, [.ref r, .int (nI bl.length)])), (r, .inl (G.2.2.2.1, n, .inl f))] := hB
          refine lv_icmp_ge (tgt := 62) hx hb dX3_bodyIsSound_11 (by decide) (fun c_5 => ?_) (fun c_5 => ?_)
          · have c_5 : bl.length ≤ (10 + 18 + 18) := (nI_leI (a := bl.length) (b := (10 + 18 + 18)) (by omega) (by omega)).mp c_5
            refine lv_iconst (v := nI 1) hx hb dX3_bodyIsSound_62 (by decide) ?_
            exact g_zret (Wd := fW G fa b r n) (v := nI 1) (nI (sd + 1), nI bl.length, f) hB hx hb hr hlocks rfl (narrow_z (Or.inr rfl)) ⟨Or.inl ⟨rfl, c_2, fun _ => c_4⟩, rfl⟩ dX3_bodyIsSound_63
          · have c_5 : ¬ bl.length ≤ (10 + 18 + 18) := fun h9 => c_5 ((nI_leI (a := bl.length) (b := (10 + 18 + 18)) (by omega) (by omega)).mpr h9)
            exact absurd (by omega) c_5
        · have c_4 := c_4
          refine lv_iconst (v := nI 0) hx hb dX3_bodyIsSound_54 (by decide) ?_
          exact g_zret (Wd := fW G fa b r n) (v := nI 0) (nI (sd + 1), nI bl.length, f) hB hx hb hr hlocks rfl (narrow_z (Or.inl rfl)) ⟨Or.inr ⟨rfl, fun z => c_4 (z.2 (by omega))⟩, rfl⟩ dX3_bodyIsSound_55
    · have c_2 := c_2
      refine lv_iconst (v := nI 0) hx hb dX3_bodyIsSound_54 (by decide) ?_
      exact g_zret (Wd := fW G fa b r n) (v := nI 0) (nI (sd + 1), nI bl.length, f) hB hx hb hr hlocks rfl (narrow_z (Or.inl rfl)) ⟨Or.inr ⟨rfl, fun z => c_2 z.1⟩, rfl⟩ dX3_bodyIsSound_55
set_option maxRecDepth 100000 in
set_option maxHeartbeats 4000000 in
/-- Frame.isSound() -/
theorem k_Frame_isSound (l : Launch) (G : rG) (fa : Nat) (sd : Nat) (hsd : sd ≤ 1) (b r n : Nat) (f : Nat → Int32) (bl : List Int32) (hp : pfx f bl) (hbn : bl.length ≤ n) (hn : n < 1000000) (hB9 : ∀ x ∈ bl, isB x) (h13 : 13 ≤ bl.length) : gM l G.1 (rT G) yX3_isSound wsX3_isSound { frames := 3, cells := 0, slots := 0, locals := 68 } [.ref fa] [(fa, .inr (2, [.ref b, .int (nI (sd + 1))])), (b, .inr (0, [.ref r, .int (nI bl.length)])), (r, .inl (G.2.2.2.1, n, .inl f))] (gQi G.1 (rT G) (fun (r : Int32) (u : Int32 × Int32 × (Nat → Int32)) => ((r = nI 1 ∧ okC sd bl) ∨ (r = nI 0 ∧ ¬ okC sd bl)) ∧ u = (nI (sd + 1), nI bl.length, f)) (fW G fa b r n)) 0 0 := by
  refine gM.of (cc := cX3_isSound) (maxL := 2) (ret := (some .boolean)) (by decide) rfl (Nat.le_of_ble_eq_true rfl) ?_
  intro p e s m below meth c A ls hx hb hr hml hown hts hlocks hnm hB hl
  have hl : lv_has ls 2 [(0, .ref fa)] := hl
  refine lv_aload_n hx hb dX3_isSound_0 rfl (lv_at hl 0 rfl) ?_
  refine g_calliA (wr := []) (wc := [(fa, .inr (2, [.ref b, .int (nI (sd + 1))])), (b, .inr (0, [.ref r, .int (nI bl.length)])), (r, .inl (G.2.2.2.1, n, .inl f))]) (av := []) (rest := []) ⟨hx, hb, hml, hown, hts⟩ (k_Frame_carries l G fa sd hsd b r n f bl hp hbn hn hB9 h13) (cwV 0 hts gX3_isSound_X3_carries rfl rfl rfl (by decide +kernel) ⟨Nat.le_of_ble_eq_true rfl, Nat.le_of_ble_eq_true rfl⟩) hB (q0 := 0) (ci := 2) rfl rfl rfl rfl hl.1 rfl (Nat.le_of_ble_eq_true rfl) dX3_isSound_1 ⟨Nat.le_of_ble_eq_true rfl, Nat.le_of_ble_eq_true rfl⟩ (fun r9 u H locs hw hB => ?_)
  obtain ⟨rfl, rfl⟩ := hw
  have hB : gB G.1 (rT G) A s H locs [(fa, .inr (2, [.ref b, .int (nI (sd + 1))])), (b, .inr (0, [.ref r, .int (nI bl.length)])), (r, .inl (G.2.2.2.1, n, .inl f))] := hB
  have q2 := (bq_at hB9 (j := 2) (by omega)).2
  have hb2 := lt2_nI (x := bq bl 2) q2
  refine lv_istore_n (lv' := [(1, .int (nI (bq bl 2) - nI 5)), (0, .ref fa)]) hx hb dX3_isSound_4 rfl hl (by decide) rfl (fun ls hl => ?_)
  refine lv_iload_n hx hb dX3_isSound_5 rfl (lv_at hl 0 rfl) ?_
  refine lv_iconst (v := nI 2) hx hb dX3_isSound_6 (by decide) ?_
  refine lv_icmp_lt (tgt := 60) hx hb dX3_isSound_7 (by decide) (fun c_1 => ?_) (fun c_1 => ?_)
  · have c_1 := c_1
    have h7 : bq bl 2 < 2 + 5 := (hb2 2 (by decide)).mp c_1
    refine lv_iconst (v := nI 0) hx hb dX3_isSound_60 (by decide) ?_
    exact g_zret (Wd := fW G fa b r n) (v := nI 0) (nI (sd + 1), nI bl.length, f) hB hx hb hr hlocks rfl (narrow_z (Or.inl rfl)) ⟨Or.inr ⟨rfl, fun z => by have := z.1; omega⟩, rfl⟩ dX3_isSound_61
  · have c_1 := c_1
    have h7 : ¬ bq bl 2 < 2 + 5 := fun z => c_1 ((hb2 2 (by decide)).mpr z)
    have hnn : nI (bq bl 2) - nI 5 = nI (nF bl) := pk_sub (by omega)
    have hnF : nF bl = bq bl 2 - 5 := rfl
    rw [hnn] at hl
    refine lv_iload_n hx hb dX3_isSound_10 rfl (lv_at hl 0 rfl) ?_
    refine lv_bipush (v := nI 21) hx hb dX3_isSound_11 (by decide) ?_
    refine lv_icmp_gt (tgt := 60) hx hb dX3_isSound_13 (by decide) (fun c_2 => ?_) (fun c_2 => ?_)
    · have c_2 : 21 < (nF bl) := (nI_ltI (a := 21) (b := (nF bl)) (by omega) (by omega)).mp c_2
      refine lv_iconst (v := nI 0) hx hb dX3_isSound_60 (by decide) ?_
      exact g_zret (Wd := fW G fa b r n) (v := nI 0) (nI (sd + 1), nI bl.length, f) hB hx hb hr hlocks rfl (narrow_z (Or.inl rfl)) ⟨Or.inr ⟨rfl, fun z => by have := z.2.1; omega⟩, rfl⟩ dX3_isSound_61
    · have c_2 : ¬ 21 < (nF bl) := fun h9 => c_2 ((nI_ltI (a := 21) (b := (nF bl)) (by omega) (by omega)).mpr h9)
      refine lv_aload_n hx hb dX3_isSound_16 rfl (lv_at hl 1 rfl) ?_
      refine g_get (own := RX3) (C := RX3) (T := TX3) (N := 2) (ci := 2) (v := .ref b) hx hb hts (fun _ h => List.mem_cons_of_mem _ (List.mem_append_left _ (List.mem_append_right _ h))) hown hB 0 rfl rfl 0 (by decide) (hts (.fieldLink RX3 16 "PointReports$Frame" "bytes" "LPointReports$Bytes;") (by decide +kernel)) rfl rfl dX3_isSound_17 ?_
      refine g_calliA (wr := [(fa, .inr (2, [.ref b, .int (nI (sd + 1))]))]) (wc := [(b, .inr (0, [.ref r, .int (nI bl.length)])), (r, .inl (G.2.2.2.1, n, .inl f))]) (av := []) (rest := []) ⟨hx, hb, hml, hown, hts⟩ (k_Bytes_size l G b r n f bl hp hbn hn) (cwV 0 hts gX3_isSound_X1_size rfl rfl rfl (by decide +kernel) ⟨Nat.le_of_ble_eq_true rfl, Nat.le_of_ble_eq_true rfl⟩) hB (q0 := 0) (ci := 0) rfl rfl rfl rfl hl.1 rfl (Nat.le_of_ble_eq_true rfl) dX3_isSound_20 ⟨Nat.le_of_ble_eq_true rfl, Nat.le_of_ble_eq_true rfl⟩ (fun r9 u H locs hw hB => ?_)
      obtain ⟨rfl, rfl⟩ := hw
      have hB : gB G.1 (rT G) A s H locs [(fa, .inr (2, [.ref b, .int (nI (sd + 1))])), (b, .inr (0, [.ref r, .int (nI bl.length)])), (r, .inl (G.2.2.2.1, n, .inl f))] := hB
      refine lv_bipush (v := nI 10) hx hb dX3_isSound_23 (by decide) ?_
      refine lv_iload_n hx hb dX3_isSound_25 rfl (lv_at hl 0 rfl) ?_
      refine lv_iadd hx hb dX3_isSound_26 ?_
      refine g_top (y := nI (10 + (nF bl))) (nI_add _ _) ?_
      refine lv_iload_n hx hb dX3_isSound_27 rfl (lv_at hl 0 rfl) ?_
      refine lv_bipush (v := nI 16) hx hb dX3_isSound_28 (by decide) ?_
      refine lv_iadd hx hb dX3_isSound_30 ?_
      refine g_top (y := nI ((nF bl) + 16)) (nI_add _ _) ?_
      refine lv_iconst (v := nI 1) hx hb dX3_isSound_31 (by decide) ?_
      refine lv_isub hx hb dX3_isSound_32 ?_
      refine g_top (y := nI (nF bl + 15)) ((pk_sub (by omega)).trans (by congr 1)) ?_
      refine lv_bipush (v := nI 16) hx hb dX3_isSound_33 (by decide) ?_
      refine lv_idiv hx hb dX3_isSound_35 (by decide) ?_
      refine g_top (y := nI ((nF bl + 15) / 16)) (pk_div (by omega) (by decide) (by decide)) ?_
      refine lv_iconst (v := nI 2) hx hb dX3_isSound_36 (by decide) ?_
      refine lv_imul hx hb dX3_isSound_37 ?_
      refine g_top (y := nI (((nF bl + 15) / 16) * 2)) (pk_mul _ _) ?_
      refine lv_iadd hx hb dX3_isSound_38 ?_
      refine g_top (y := nI ((10 + (nF bl)) + (((nF bl + 15) / 16) * 2))) (nI_add _ _) ?_
      refine lv_icmp_ne (tgt := 60) hx hb dX3_isSound_39 (by decide) (fun c_3 => ?_) (fun c_3 => ?_)
      · have c_3 : ¬ bl.length = ((10 + (nF bl)) + (((nF bl + 15) / 16) * 2)) := fun h9 => c_3 ((nI_eq (a := bl.length) (b := ((10 + (nF bl)) + (((nF bl + 15) / 16) * 2))) (by omega) (by omega)).mpr h9)
        refine lv_iconst (v := nI 0) hx hb dX3_isSound_60 (by decide) ?_
        exact g_zret (Wd := fW G fa b r n) (v := nI 0) (nI (sd + 1), nI bl.length, f) hB hx hb hr hlocks rfl (narrow_z (Or.inl rfl)) ⟨Or.inr ⟨rfl, fun z => c_3 z.2.2.1⟩, rfl⟩ dX3_isSound_61
      · have c_3 : bl.length = ((10 + (nF bl)) + (((nF bl + 15) / 16) * 2)) := (nI_eq (a := bl.length) (b := ((10 + (nF bl)) + (((nF bl + 15) / 16) * 2))) (by omega) (by omega)).mp c_3
        refine lv_aload_n hx hb dX3_isSound_42 rfl (lv_at hl 1 rfl) ?_
        refine g_calliA (wr := []) (wc := [(fa, .inr (2, [.ref b, .int (nI (sd + 1))])), (b, .inr (0, [.ref r, .int (nI bl.length)])), (r, .inl (G.2.2.2.1, n, .inl f))]) (av := []) (rest := []) ⟨hx, hb, hml, hown, hts⟩ (k_Frame_headIsSound l G fa sd hsd b r n f bl hp hbn hn hB9 h13) (cwV 0 hts gX3_isSound_X3_headIsSound rfl rfl rfl (by decide +kernel) ⟨Nat.le_of_ble_eq_true rfl, Nat.le_of_ble_eq_true rfl⟩) hB (q0 := 0) (ci := 2) rfl rfl rfl rfl hl.1 rfl (Nat.le_of_ble_eq_true rfl) dX3_isSound_43 ⟨Nat.le_of_ble_eq_true rfl, Nat.le_of_ble_eq_true rfl⟩ (fun r9 u H locs hw hB => ?_)
        obtain ⟨hh, rfl⟩ := hw
        have hB : gB G.1 (rT G) A s H locs [(fa, .inr (2, [.ref b, .int (nI (sd + 1))])), (b, .inr (0, [.ref r, .int (nI bl.length)])), (r, .inl (G.2.2.2.1, n, .inl f))] := hB
        refine lv_if_eq (tgt := 60) hx hb dX3_isSound_46 (by decide) (fun c_4 => ?_) (fun c_4 => ?_)
        · have c_4 := c_4
          have hn1 : ¬ hdOk sd bl := by rcases hh with ⟨h1, h2⟩ | ⟨h1, h2⟩; exact absurd (h1.symm.trans c_4) (by decide); exact h2
          refine lv_iconst (v := nI 0) hx hb dX3_isSound_60 (by decide) ?_
          exact g_zret (Wd := fW G fa b r n) (v := nI 0) (nI (sd + 1), nI bl.length, f) hB hx hb hr hlocks rfl (narrow_z (Or.inl rfl)) ⟨Or.inr ⟨rfl, fun z => hn1 z.2.2.2.1⟩, rfl⟩ dX3_isSound_61
        · have c_4 := c_4
          have hn1 : hdOk sd bl := by rcases hh with ⟨h1, h2⟩ | ⟨h1, h2⟩; exact h2; exact absurd h1 c_4
          refine lv_aload_n hx hb dX3_isSound_49 rfl (lv_at hl 1 rfl) ?_
          refine g_calliA (wr := []) (wc := [(fa, .inr (2, [.ref b, .int (nI (sd + 1))])), (b, .inr (0, [.ref r, .int (nI bl.length)])), (r, .inl (G.2.2.2.1, n, .inl f))]) (av := []) (rest := []) ⟨hx, hb, hml, hown, hts⟩ (k_Frame_bodyIsSound l G fa sd hsd b r n f bl hp hbn hn hB9 (by omega) (by omega) (by omega)) (cwV 0 hts gX3_isSound_X3_bodyIsSound rfl rfl rfl (by decide +kernel) ⟨Nat.le_of_ble_eq_true rfl, Nat.le_of_ble_eq_true rfl⟩) hB (q0 := 0) (ci := 2) rfl rfl rfl rfl hl.1 rfl (Nat.le_of_ble_eq_true rfl) dX3_isSound_50 ⟨Nat.le_of_ble_eq_true rfl, Nat.le_of_ble_eq_true rfl⟩ (fun r9 u H locs hw hB => ?_)
          obtain ⟨hh2, rfl⟩ := hw
          have hB : gB G.1 (rT G) A s H locs [(fa, .inr (2, [.ref b, .int (nI (sd + 1))])), (b, .inr (0, [.ref r, .int (nI bl.length)])), (r, .inl (G.2.2.2.1, n, .inl f))] := hB
          refine lv_if_eq (tgt := 60) hx hb dX3_isSound_53 (by decide) (fun c_5 => ?_) (fun c_5 => ?_)
          · have c_5 := c_5
            have hn2 : ¬ bdOk bl := by rcases hh2 with ⟨h1, h2⟩ | ⟨h1, h2⟩; exact absurd (h1.symm.trans c_5) (by decide); exact h2
            refine lv_iconst (v := nI 0) hx hb dX3_isSound_60 (by decide) ?_
            exact g_zret (Wd := fW G fa b r n) (v := nI 0) (nI (sd + 1), nI bl.length, f) hB hx hb hr hlocks rfl (narrow_z (Or.inl rfl)) ⟨Or.inr ⟨rfl, fun z => hn2 z.2.2.2.2⟩, rfl⟩ dX3_isSound_61
          · have c_5 := c_5
            have hn2 : bdOk bl := by rcases hh2 with ⟨h1, h2⟩ | ⟨h1, h2⟩; exact h2; exact absurd h1 c_5
            refine lv_iconst (v := nI 1) hx hb dX3_isSound_56 (by decide) ?_
            refine lv_goto (tgt := 61) hx hb dX3_isSound_57 (by decide) ?_
            exact g_zret (Wd := fW G fa b r n) (v := nI 1) (nI (sd + 1), nI bl.length, f) hB hx hb hr hlocks rfl (narrow_z (Or.inr rfl)) ⟨Or.inl ⟨rfl, by omega, by omega, c_3, hn1, hn2⟩, rfl⟩ dX3_isSound_61
