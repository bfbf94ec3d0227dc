/-- the first ten bytes of a frame are as they must be, as the class looks at them -/
def hdOk (sd : Nat) (bl : List Int32) : Prop := bq bl 0 = 5 ∧ bq bl 1 = 100 ∧ bq bl 3 = (if sd = 1 then 196 else 68) ∧ loN bl 4 2 = sd + 1 ∧ loN bl 6 2 = (if sd = 1 then 1 else 2) ∧ nI (loN bl 8 2) = ck (sub bl 0 8)
theorem lo2_lt {bl : List Int32} (hB : ∀ x ∈ bl, isB x) {a : Nat} (h : a + 2 ≤ bl.length) : loN bl a 2 < 65536 := loN_lt 2 (fun j hj => (bq_at hB (by omega)).2)
set_option maxRecDepth 100000 in
set_option maxHeartbeats 4000000 in
/-- Frame.headIsSound() -/
theorem k_Frame_headIsSound (l : Launch) (G : rG) (fa : Nat) (sd : Nat) (hsd : sd ≤ 1) (b r n : Nat) (f : Nat → Int32) (bl : List Int32) (hp : pfx f bl) (hbn : bl.length ≤ n) (hn : n < 1000000) (hB9 : ∀ x ∈ bl, isB x) (h13 : 13 ≤ bl.length) : gM l G.1 (rT G) yX3_headIsSound wsX3_headIsSound { frames := 2, cells := 0, slots := 0, locals := 46 } [.ref fa] [(fa, .inr (2, [.ref b, .int (nI (sd + 1))])), (b, .inr (0, [.ref r, .int (nI bl.length)])), (r, .inl (G.2.2.2.1, n, .inl f))] (gQi G.1 (rT G) (fun (r : Int32) (u : Int32 × Int32 × (Nat → Int32)) => ((r = nI 1 ∧ hdOk sd bl) ∨ (r = nI 0 ∧ ¬ hdOk sd bl)) ∧ u = (nI (sd + 1), nI bl.length, f)) (fW G fa b r n)) 0 0 := by
  refine gM.of (cc := cX3_headIsSound) (maxL := 1) (ret := (some .boolean)) (by decide) rfl (Nat.le_of_ble_eq_true rfl) ?_
  intro p e s m below meth c A ls hx hb hr hml hown hts hlocks hnm hB hl
  have hl : lv_has ls 1 [(0, .ref fa)] := hl
  have c3l : (if sd = 1 then 196 else 68) < 256 := by split <;> decide
  have c6l : (if sd = 1 then 1 else 2) < 256 := by split <;> decide
  refine lv_aload_n hx hb dX3_headIsSound_0 rfl (lv_at hl 0 rfl) ?_
  refine g_get (own := RX3) (C := RX3) (T := TX3) (N := 2) (ci := 2) (v := .ref b) hx hb hts (fun _ h => List.mem_cons_of_mem _ (List.mem_append_left _ (List.mem_append_right _ h))) hown hB 0 rfl rfl 0 (by decide) (hts (.fieldLink RX3 16 "PointReports$Frame" "bytes" "LPointReports$Bytes;") (by decide +kernel)) rfl rfl dX3_headIsSound_1 ?_
  refine lv_iconst (v := nI 0) hx hb dX3_headIsSound_4 (by decide) ?_
  refine g_calliA (wr := [(fa, .inr (2, [.ref b, .int (nI (sd + 1))]))]) (wc := [(b, .inr (0, [.ref r, .int (nI bl.length)])), (r, .inl (G.2.2.2.1, n, .inl f))]) (av := [.int (nI 0)]) (rest := []) ⟨hx, hb, hml, hown, hts⟩ (k_Bytes_get l G b r n f bl hp hbn hn (nI 0)) (cwV 1 hts gX3_headIsSound_X1_get rfl rfl rfl (by decide +kernel) ⟨Nat.le_of_ble_eq_true rfl, Nat.le_of_ble_eq_true rfl⟩) hB (q0 := 0) (ci := 0) rfl rfl rfl rfl hl.1 rfl (Nat.le_of_ble_eq_true rfl) dX3_headIsSound_5 ⟨Nat.le_of_ble_eq_true rfl, Nat.le_of_ble_eq_true rfl⟩ (fun r9 u H locs hw hB => ?_)
  obtain ⟨er, rfl⟩ := hw
  have hB : gB G.1 (rT G) A s H locs [(fa, .inr (2, [.ref b, .int (nI (sd + 1))])), (b, .inr (0, [.ref r, .int (nI bl.length)])), (r, .inl (G.2.2.2.1, n, .inl f))] := hB
  have er : r9 = nI (bq bl (0)) := by rw [er, if_neg (by rintro (z | z); exact nI_pos (by omega) z; exact absurd ((nI_leI (by omega) (by omega)).mp z) (by omega)), nI_clamp (by omega)]; exact (bq_at hB9 (by omega)).1
  have lt0 := (bq_at hB9 (j := 0) (by omega)).2
  subst er
  refine lv_iconst (v := nI 5) hx hb dX3_headIsSound_8 (by decide) ?_
  refine lv_icmp_ne (tgt := 100) hx hb dX3_headIsSound_9 (by decide) (fun c_1 => ?_) (fun c_1 => ?_)
  · have c_1 : ¬ (bq bl 0) = 5 := fun h9 => c_1 ((nI_eq (a := (bq bl 0)) (b := 5) (by omega) (by omega)).mpr h9)
    refine lv_iconst (v := nI 0) hx hb dX3_headIsSound_100 (by decide) ?_
    exact g_zret (Wd := fW G fa b r n) (v := nI 0) (nI (sd + 1), nI bl.length, f) hB hx hb hr hlocks rfl (narrow_z (Or.inl rfl)) ⟨Or.inr ⟨rfl, fun z => c_1 z.1⟩, rfl⟩ dX3_headIsSound_101
  · have c_1 : (bq bl 0) = 5 := (nI_eq (a := (bq bl 0)) (b := 5) (by omega) (by omega)).mp c_1
    refine lv_aload_n hx hb dX3_headIsSound_12 rfl (lv_at hl 0 rfl) ?_
    refine g_get (own := RX3) (C := RX3) (T := TX3) (N := 2) (ci := 2) (v := .ref b) hx hb hts (fun _ h => List.mem_cons_of_mem _ (List.mem_append_left _ (List.mem_append_right _ h))) hown hB 0 rfl rfl 0 (by decide) (hts (.fieldLink RX3 16 "PointReports$Frame" "bytes" "LPointReports$Bytes;") (by decide +kernel)) rfl rfl dX3_headIsSound_13 ?_
    refine lv_iconst (v := nI 1) hx hb dX3_headIsSound_16 (by decide) ?_
    refine g_calliA (wr := [(fa, .inr (2, [.ref b, .int (nI (sd + 1))]))]) (wc := [(b, .inr (0, [.ref r, .int (nI bl.length)])), (r, .inl (G.2.2.2.1, n, .inl f))]) (av := [.int (nI 1)]) (rest := []) ⟨hx, hb, hml, hown, hts⟩ (k_Bytes_get l G b r n f bl hp hbn hn (nI 1)) (cwV 1 hts gX3_headIsSound_X1_get rfl rfl rfl (by decide +kernel) ⟨Nat.le_of_ble_eq_true rfl, Nat.le_of_ble_eq_true rfl⟩) hB (q0 := 0) (ci := 0) rfl rfl rfl rfl hl.1 rfl (Nat.le_of_ble_eq_true rfl) dX3_headIsSound_17 ⟨Nat.le_of_ble_eq_true rfl, Nat.le_of_ble_eq_true rfl⟩ (fun r9 u H locs hw hB => ?_)
    obtain ⟨er, rfl⟩ := hw
    have hB : gB G.1 (rT G) A s H locs [(fa, .inr (2, [.ref b, .int (nI (sd + 1))])), (b, .inr (0, [.ref r, .int (nI bl.length)])), (r, .inl (G.2.2.2.1, n, .inl f))] := hB
    have er : r9 = nI (bq bl (1)) := by rw [er, if_neg (by rintro (z | z); exact nI_pos (by omega) z; exact absurd ((nI_leI (by omega) (by omega)).mp z) (by omega)), nI_clamp (by omega)]; exact (bq_at hB9 (by omega)).1
    have lt1 := (bq_at hB9 (j := 1) (by omega)).2
    subst er
    refine lv_bipush (v := nI 100) hx hb dX3_headIsSound_20 (by decide) ?_
    refine lv_icmp_ne (tgt := 100) hx hb dX3_headIsSound_22 (by decide) (fun c_2 => ?_) (fun c_2 => ?_)
    · have c_2 : ¬ (bq bl 1) = 100 := fun h9 => c_2 ((nI_eq (a := (bq bl 1)) (b := 100) (by omega) (by omega)).mpr h9)
      refine lv_iconst (v := nI 0) hx hb dX3_headIsSound_100 (by decide) ?_
      exact g_zret (Wd := fW G fa b r n) (v := nI 0) (nI (sd + 1), nI bl.length, f) hB hx hb hr hlocks rfl (narrow_z (Or.inl rfl)) ⟨Or.inr ⟨rfl, fun z => c_2 z.2.1⟩, rfl⟩ dX3_headIsSound_101
    · have c_2 : (bq bl 1) = 100 := (nI_eq (a := (bq bl 1)) (b := 100) (by omega) (by omega)).mp c_2
      refine lv_aload_n hx hb dX3_headIsSound_25 rfl (lv_at hl 0 rfl) ?_
      refine g_get (own := RX3) (C := RX3) (T := TX3) (N := 2) (ci := 2) (v := .ref b) hx hb hts (fun _ h => List.mem_cons_of_mem _ (List.mem_append_left _ (List.mem_append_right _ h))) hown hB 0 rfl rfl 0 (by decide) (hts (.fieldLink RX3 16 "PointReports$Frame" "bytes" "LPointReports$Bytes;") (by decide +kernel)) rfl rfl dX3_headIsSound_26 ?_
      refine lv_iconst (v := nI 3) hx hb dX3_headIsSound_29 (by decide) ?_
      refine g_calliA (wr := [(fa, .inr (2, [.ref b, .int (nI (sd + 1))]))]) (wc := [(b, .inr (0, [.ref r, .int (nI bl.length)])), (r, .inl (G.2.2.2.1, n, .inl f))]) (av := [.int (nI 3)]) (rest := []) ⟨hx, hb, hml, hown, hts⟩ (k_Bytes_get l G b r n f bl hp hbn hn (nI 3)) (cwV 1 hts gX3_headIsSound_X1_get rfl rfl rfl (by decide +kernel) ⟨Nat.le_of_ble_eq_true rfl, Nat.le_of_ble_eq_true rfl⟩) hB (q0 := 0) (ci := 0) rfl rfl rfl rfl hl.1 rfl (Nat.le_of_ble_eq_true rfl) dX3_headIsSound_30 ⟨Nat.le_of_ble_eq_true rfl, Nat.le_of_ble_eq_true rfl⟩ (fun r9 u H locs hw hB => ?_)
      obtain ⟨er, rfl⟩ := hw
      have hB : gB G.1 (rT G) A s H locs [(fa, .inr (2, [.ref b, .int (nI (sd + 1))])), (b, .inr (0, [.ref r, .int (nI bl.length)])), (r, .inl (G.2.2.2.1, n, .inl f))] := hB
      have er : r9 = nI (bq bl (3)) := by rw [er, if_neg (by rintro (z | z); exact nI_pos (by omega) z; exact absurd ((nI_leI (by omega) (by omega)).mp z) (by omega)), nI_clamp (by omega)]; exact (bq_at hB9 (by omega)).1
      have lt3 := (bq_at hB9 (j := 3) (by omega)).2
      subst er
      refine lv_aload_n hx hb dX3_headIsSound_33 rfl (lv_at hl 0 rfl) ?_
      refine g_calliA (wr := []) (wc := [(fa, .inr (2, [.ref b, .int (nI (sd + 1))])), (b, .inr (0, [.ref r, .int (nI bl.length)])), (r, .inl (G.2.2.2.1, n, .inl f))]) (av := []) (rest := [.int (nI (bq bl 3))]) ⟨hx, hb, hml, hown, hts⟩ (k_Frame_control l G fa sd hsd b r n f bl hp hbn hn) (cwV 0 hts gX3_headIsSound_X3_control rfl rfl rfl (by decide +kernel) ⟨Nat.le_of_ble_eq_true rfl, Nat.le_of_ble_eq_true rfl⟩) hB (q0 := 0) (ci := 2) rfl rfl rfl rfl hl.1 rfl (Nat.le_of_ble_eq_true rfl) dX3_headIsSound_34 ⟨Nat.le_of_ble_eq_true rfl, Nat.le_of_ble_eq_true rfl⟩ (fun r9 u H locs hw hB => ?_)
      obtain ⟨rfl, rfl⟩ := hw
      have hB : gB G.1 (rT G) A s H locs [(fa, .inr (2, [.ref b, .int (nI (sd + 1))])), (b, .inr (0, [.ref r, .int (nI bl.length)])), (r, .inl (G.2.2.2.1, n, .inl f))] := hB
      refine lv_icmp_ne (tgt := 100) hx hb dX3_headIsSound_37 (by decide) (fun c_3 => ?_) (fun c_3 => ?_)
      · have c_3 : ¬ (bq bl 3) = (if sd = 1 then 196 else 68) := fun h9 => c_3 ((nI_eq (a := (bq bl 3)) (b := (if sd = 1 then 196 else 68)) (by omega) (by omega)).mpr h9)
        refine lv_iconst (v := nI 0) hx hb dX3_headIsSound_100 (by decide) ?_
        exact g_zret (Wd := fW G fa b r n) (v := nI 0) (nI (sd + 1), nI bl.length, f) hB hx hb hr hlocks rfl (narrow_z (Or.inl rfl)) ⟨Or.inr ⟨rfl, fun z => c_3 z.2.2.1⟩, rfl⟩ dX3_headIsSound_101
      · have c_3 : (bq bl 3) = (if sd = 1 then 196 else 68) := (nI_eq (a := (bq bl 3)) (b := (if sd = 1 then 196 else 68)) (by omega) (by omega)).mp c_3
        refine lv_aload_n hx hb dX3_headIsSound_40 rfl (lv_at hl 0 rfl) ?_
        refine g_get (own := RX3) (C := RX3) (T := TX3) (N := 2) (ci := 2) (v := .ref b) hx hb hts (fun _ h => List.mem_cons_of_mem _ (List.mem_append_left _ (List.mem_append_right _ h))) hown hB 0 rfl rfl 0 (by decide) (hts (.fieldLink RX3 16 "PointReports$Frame" "bytes" "LPointReports$Bytes;") (by decide +kernel)) rfl rfl dX3_headIsSound_41 ?_
        refine lv_iconst (v := nI 4) hx hb dX3_headIsSound_44 (by decide) ?_
        refine lv_iconst (v := nI 2) hx hb dX3_headIsSound_45 (by decide) ?_
        refine g_calliA (wr := [(fa, .inr (2, [.ref b, .int (nI (sd + 1))]))]) (wc := [(b, .inr (0, [.ref r, .int (nI bl.length)])), (r, .inl (G.2.2.2.1, n, .inl f))]) (av := [.int (nI 4), .int (nI 2)]) (rest := []) ⟨hx, hb, hml, hown, hts⟩ (k_Bytes_number l G b r n f bl hp hbn hn hB9 4 2 (by decide) (by omega)) (cwV 2 hts gX3_headIsSound_X1_number rfl rfl rfl (by decide +kernel) ⟨Nat.le_of_ble_eq_true rfl, Nat.le_of_ble_eq_true rfl⟩) hB (q0 := 0) (ci := 0) rfl rfl rfl rfl hl.1 rfl (Nat.le_of_ble_eq_true rfl) dX3_headIsSound_46 ⟨Nat.le_of_ble_eq_true rfl, Nat.le_of_ble_eq_true rfl⟩ (fun r9 u H locs hw hB => ?_)
        obtain ⟨rfl, rfl⟩ := hw
        have hB : gB G.1 (rT G) A s H locs [(fa, .inr (2, [.ref b, .int (nI (sd + 1))])), (b, .inr (0, [.ref r, .int (nI bl.length)])), (r, .inl (G.2.2.2.1, n, .inl f))] := hB
        have lo4 := lo2_lt hB9 (a := 4) (by omega)
        refine lv_aload_n hx hb dX3_headIsSound_49 rfl (lv_at hl 0 rfl) ?_
        refine g_get (own := RX3) (C := RX3) (T := TX3) (N := 2) (ci := 2) (v := .int (nI (sd + 1))) hx hb hts (fun _ h => List.mem_cons_of_mem _ (List.mem_append_left _ (List.mem_append_right _ h))) hown hB 0 rfl rfl 1 (by decide) (hts (.fieldLink RX3 20 "PointReports$Frame" "goesTo" "I") (by decide +kernel)) rfl rfl dX3_headIsSound_50 ?_
        refine lv_icmp_ne (tgt := 100) hx hb dX3_headIsSound_53 (by decide) (fun c_4 => ?_) (fun c_4 => ?_)
        · have c_4 : ¬ (loN bl 4 2) = (sd + 1) := fun h9 => c_4 ((nI_eq (a := (loN bl 4 2)) (b := (sd + 1)) (by omega) (by omega)).mpr h9)
          refine lv_iconst (v := nI 0) hx hb dX3_headIsSound_100 (by decide) ?_
          exact g_zret (Wd := fW G fa b r n) (v := nI 0) (nI (sd + 1), nI bl.length, f) hB hx hb hr hlocks rfl (narrow_z (Or.inl rfl)) ⟨Or.inr ⟨rfl, fun z => c_4 z.2.2.2.1⟩, rfl⟩ dX3_headIsSound_101
        · have c_4 : (loN bl 4 2) = (sd + 1) := (nI_eq (a := (loN bl 4 2)) (b := (sd + 1)) (by omega) (by omega)).mp c_4
          refine lv_aload_n hx hb dX3_headIsSound_56 rfl (lv_at hl 0 rfl) ?_
          refine g_get (own := RX3) (C := RX3) (T := TX3) (N := 2) (ci := 2) (v := .ref b) hx hb hts (fun _ h => List.mem_cons_of_mem _ (List.mem_append_left _ (List.mem_append_right _ h))) hown hB 0 rfl rfl 0 (by decide) (hts (.fieldLink RX3 16 "PointReports$Frame" "bytes" "LPointReports$Bytes;") (by decide +kernel)) rfl rfl dX3_headIsSound_57 ?_
          refine lv_bipush (v := nI 6) hx hb dX3_headIsSound_60 (by decide) ?_
          refine lv_iconst (v := nI 2) hx hb dX3_headIsSound_62 (by decide) ?_
          refine g_calliA (wr := [(fa, .inr (2, [.ref b, .int (nI (sd + 1))]))]) (wc := [(b, .inr (0, [.ref r, .int (nI bl.length)])), (r, .inl (G.2.2.2.1, n, .inl f))]) (av := [.int (nI 6), .int (nI 2)]) (rest := []) ⟨hx, hb, hml, hown, hts⟩ (k_Bytes_number l G b r n f bl hp hbn hn hB9 6 2 (by decide) (by omega)) (cwV 2 hts gX3_headIsSound_X1_number rfl rfl rfl (by decide +kernel) ⟨Nat.le_of_ble_eq_true rfl, Nat.le_of_ble_eq_true rfl⟩) hB (q0 := 0) (ci := 0) rfl rfl rfl rfl hl.1 rfl (Nat.le_of_ble_eq_true rfl) dX3_headIsSound_63 ⟨Nat.le_of_ble_eq_true rfl, Nat.le_of_ble_eq_true rfl⟩ (fun r9 u H locs hw hB => ?_)
          obtain ⟨rfl, rfl⟩ := hw
          have hB : gB G.1 (rT G) A s H locs [(fa, .inr (2, [.ref b, .int (nI (sd + 1))])), (b, .inr (0, [.ref r, .int (nI bl.length)])), (r, .inl (G.2.2.2.1, n, .inl f))] := hB
          have lo6 := lo2_lt hB9 (a := 6) (by omega)
          refine lv_aload_n hx hb dX3_headIsSound_66 rfl (lv_at hl 0 rfl) ?_
          refine g_calliA (wr := []) (wc := [(fa, .inr (2, [.ref b, .int (nI (sd + 1))])), (b, .inr (0, [.ref r, .int (nI bl.length)])), (r, .inl (G.2.2.2.1, n, .inl f))]) (av := []) (rest := [.int (nI (loN bl 6 2))]) ⟨hx, hb, hml, hown, hts⟩ (k_Frame_comesFrom l G fa sd hsd b r n f bl hp hbn hn) (cwV 0 hts gX3_headIsSound_X3_comesFrom rfl rfl rfl (by decide +kernel) ⟨Nat.le_of_ble_eq_true rfl, Nat.le_of_ble_eq_true rfl⟩) hB (q0 := 0) (ci := 2) rfl rfl rfl rfl hl.1 rfl (Nat.le_of_ble_eq_true rfl) dX3_headIsSound_67 ⟨Nat.le_of_ble_eq_true rfl, Nat.le_of_ble_eq_true rfl⟩ (fun r9 u H locs hw hB => ?_)
          obtain ⟨rfl, rfl⟩ := hw
          have hB : gB G.1 (rT G) A s H locs [(fa, .inr (2, [.ref b, .int (nI (sd + 1))])), (b, .inr (0, [.ref r, .int (nI bl.length)])), (r, .inl (G.2.2.2.1, n, .inl f))] := hB
          refine lv_icmp_ne (tgt := 100) hx hb dX3_headIsSound_70 (by decide) (fun c_5 => ?_) (fun c_5 => ?_)
          · have c_5 : ¬ (loN bl 6 2) = (if sd = 1 then 1 else 2) := fun h9 => c_5 ((nI_eq (a := (loN bl 6 2)) (b := (if sd = 1 then 1 else 2)) (by omega) (by omega)).mpr h9)
            refine lv_iconst (v := nI 0) hx hb dX3_headIsSound_100 (by decide) ?_
            exact g_zret (Wd := fW G fa b r n) (v := nI 0) (nI (sd + 1), nI bl.length, f) hB hx hb hr hlocks rfl (narrow_z (Or.inl rfl)) ⟨Or.inr ⟨rfl, fun z => c_5 z.2.2.2.2.1⟩, rfl⟩ dX3_headIsSound_101
          · have c_5 : (loN bl 6 2) = (if sd = 1 then 1 else 2) := (nI_eq (a := (loN bl 6 2)) (b := (if sd = 1 then 1 else 2)) (by omega) (by omega)).mp c_5
            refine lv_aload_n hx hb dX3_headIsSound_73 rfl (lv_at hl 0 rfl) ?_
            refine g_get (own := RX3) (C := RX3) (T := TX3) (N := 2) (ci := 2) (v := .ref b) hx hb hts (fun _ h => List.mem_cons_of_mem _ (List.mem_append_left _ (List.mem_append_right _ h))) hown hB 0 rfl rfl 0 (by decide) (hts (.fieldLink RX3 16 "PointReports$Frame" "bytes" "LPointReports$Bytes;") (by decide +kernel)) rfl rfl dX3_headIsSound_74 ?_
            refine lv_bipush (v := nI 8) hx hb dX3_headIsSound_77 (by decide) ?_
            refine lv_iconst (v := nI 2) hx hb dX3_headIsSound_79 (by decide) ?_
            refine g_calliA (wr := [(fa, .inr (2, [.ref b, .int (nI (sd + 1))]))]) (wc := [(b, .inr (0, [.ref r, .int (nI bl.length)])), (r, .inl (G.2.2.2.1, n, .inl f))]) (av := [.int (nI 8), .int (nI 2)]) (rest := []) ⟨hx, hb, hml, hown, hts⟩ (k_Bytes_number l G b r n f bl hp hbn hn hB9 8 2 (by decide) (by omega)) (cwV 2 hts gX3_headIsSound_X1_number rfl rfl rfl (by decide +kernel) ⟨Nat.le_of_ble_eq_true rfl, Nat.le_of_ble_eq_true rfl⟩) hB (q0 := 0) (ci := 0) rfl rfl rfl rfl hl.1 rfl (Nat.le_of_ble_eq_true rfl) dX3_headIsSound_80 ⟨Nat.le_of_ble_eq_true rfl, Nat.le_of_ble_eq_true rfl⟩ (fun r9 u H locs hw hB => ?_)
            obtain ⟨rfl, rfl⟩ := hw
            have hB : gB G.1 (rT G) A s H locs [(fa, .inr (2, [.ref b, .int (nI (sd + 1))])), (b, .inr (0, [.ref r, .int (nI bl.length)])), (r, .inl (G.2.2.2.1, n, .inl f))] := hB
            have lo8 := lo2_lt hB9 (a := 8) (by omega)
            refine lv_aload_n hx hb dX3_headIsSound_83 rfl (lv_at hl 0 rfl) ?_
            refine g_get (own := RX3) (C := RX3) (T := TX3) (N := 2) (ci := 2) (v := .ref b) hx hb hts (fun _ h => List.mem_cons_of_mem _ (List.mem_append_left _ (List.mem_append_right _ h))) hown hB 0 rfl rfl 0 (by decide) (hts (.fieldLink RX3 16 "PointReports$Frame" "bytes" "LPointReports$Bytes;") (by decide +kernel)) rfl rfl dX3_headIsSound_84 ?_
            refine lv_iconst (v := nI 0) hx hb dX3_headIsSound_87 (by decide) ?_
            refine lv_bipush (v := nI 8) hx hb dX3_headIsSound_88 (by decide) ?_
            refine g_calliA (wr := [(fa, .inr (2, [.ref b, .int (nI (sd + 1))]))]) (wc := [(b, .inr (0, [.ref r, .int (nI bl.length)])), (r, .inl (G.2.2.2.1, n, .inl f))]) (av := [.int (nI 0), .int (nI 8)]) (rest := [.int (nI (loN bl 8 2))]) ⟨hx, hb, hml, hown, hts⟩ (k_Bytes_check l G b r n f bl hp hbn hn hB9 0 8 (by omega)) (cwV 2 hts gX3_headIsSound_X1_check rfl rfl rfl (by decide +kernel) ⟨Nat.le_of_ble_eq_true rfl, Nat.le_of_ble_eq_true rfl⟩) hB (q0 := 0) (ci := 0) rfl rfl rfl rfl hl.1 rfl (Nat.le_of_ble_eq_true rfl) dX3_headIsSound_90 ⟨Nat.le_of_ble_eq_true rfl, Nat.le_of_ble_eq_true rfl⟩ (fun r9 u H locs hw hB => ?_)
            obtain ⟨rfl, rfl⟩ := hw
            have hB : gB G.1 (rT G) A s H locs [(fa, .inr (2, [.ref b, .int (nI (sd + 1))])), (b, .inr (0, [.ref r, .int (nI bl.length)])), (r, .inl (G.2.2.2.1, n, .inl f))] := hB
            refine lv_icmp_ne (tgt := 100) hx hb dX3_headIsSound_93 (by decide) (fun c_6 => ?_) (fun c_6 => ?_)
            · have c_6 := c_6
              refine lv_iconst (v := nI 0) hx hb dX3_headIsSound_100 (by decide) ?_
              exact g_zret (Wd := fW G fa b r n) (v := nI 0) (nI (sd + 1), nI bl.length, f) hB hx hb hr hlocks rfl (narrow_z (Or.inl rfl)) ⟨Or.inr ⟨rfl, fun z => c_6 z.2.2.2.2.2⟩, rfl⟩ dX3_headIsSound_101
            · have c_6 := c_6
              refine lv_iconst (v := nI 1) hx hb dX3_headIsSound_96 (by decide) ?_
              refine lv_goto (tgt := 101) hx hb dX3_headIsSound_97 (by decide) ?_
              exact g_zret (Wd := fW G fa b r n) (v := nI 1) (nI (sd + 1), nI bl.length, f) hB hx hb hr hlocks rfl (narrow_z (Or.inr rfl)) ⟨Or.inl ⟨rfl, c_1, c_2, c_3, c_4, c_5, c_6⟩, rfl⟩ dX3_headIsSound_101
