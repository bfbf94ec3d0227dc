theorem bN2 (x : Int32) : bN x 2 = [x &&& 255, (x >>> (nI 8 &&& 31)) &&& 255] := by
  show [(x >>> (nI (8 * 0) &&& 31)) &&& 255, (x >>> (nI (8 * 1) &&& 31)) &&& 255] = _
  rw [show x >>> (nI (8 * 0) &&& 31) = x from sb_shr0 x]
theorem bN2_sd {c : Nat} (h : c ≤ 2) : bN (nI c) 2 = [nI c &&& 255, nI 0 &&& 255] := by
  rw [bN2]
  rcases (show c = 0 ∨ c = 1 ∨ c = 2 by omega) with rfl | rfl | rfl <;> rfl
theorem bN_ck (l : List Int32) : bN (ck l) 2 = ck2 l := bN2 _
set_option maxRecDepth 100000 in
set_option maxHeartbeats 1000000 in
/-- Frame.pack(side, first, fragment, from, many) -/
theorem k_Frame_pack (l : Launch) (G : rG) (fa : Nat) (sd old : Nat) (hsd : sd ≤ 1) (b r : Nat) (f : Nat → Int32) (b0 : List Int32) (hp0 : pfx f b0) (hb0 : b0.length ≤ 35) (ca da kz : Nat) (g : Nat → Int32) (fl : List Int32) (hq : pfx g fl) (hqn : fl.length ≤ kz) (hk9 : kz < 1000000) (hFB : ∀ x ∈ fl, isB x) (fst : Nat) (hfst : fst < 256) (a n : Nat) (hn20 : n ≤ 20) (han : a + n ≤ fl.length) : gM l G.1 (rT G) yX3_pack wsX3_pack { frames := 2, cells := 0, slots := 0, locals := 46 } [.ref fa, .int (nI (sd + 1)), .int (nI fst), .ref ca, .int (nI a), .int (nI n)] [(ca, .inr (0, [.ref da, .int (nI fl.length)])), (da, .inl (G.2.2.2.1, kz, .inl g)), (fa, .inr (2, [.ref b, .int (nI old)])), (b, .inr (0, [.ref r, .int (nI b0.length)])), (r, .inl (G.2.2.2.1, 35, .inl f))] (gQv G.1 (rT G) (fun u : (Int32 × (Nat → Int32)) × (Int32 × Int32 × (Nat → Int32)) => ∃ f2, pfx f2 (frm sd (nI fst) (sub fl a n)) ∧ (frm sd (nI fst) (sub fl a n)).length ≤ 35 ∧ u = ((nI fl.length, g), (nI (sd + 1), nI (frm sd (nI fst) (sub fl a n)).length, f2))) (fun u => bW G ca da kz u.1 ++ fW G fa b r 35 u.2)) 0 0 := by
  refine gM.of (cc := cX3_pack) (maxL := 8) (ret := none) (by decide) rfl (Nat.le_of_ble_eq_true rfl) ?_
  intro p e s m below meth c A ls hx hb hr hml hown hts hlocks hnm hB hl
  have hl : lv_has ls 8 [(0, .ref fa), (1, .int (nI (sd + 1))), (2, .int (nI fst)), (3, .ref ca), (4, .int (nI a)), (5, .int (nI n))] := hl
  refine lv_aload_n hx hb dX3_pack_0 rfl (lv_at hl 0 rfl) ?_
  refine lv_iload_n hx hb dX3_pack_1 rfl (lv_at hl 1 rfl) ?_
  refine g_put (own := RX3) (C := RX3) (T := TX3) (N := 2) (ci := 2) (v := .int (nI (sd + 1))) hx hb ([(ca, .inr (0, [.ref da, .int (nI fl.length)])), (da, .inl (G.2.2.2.1, kz, .inl g)), (fa, .inr (2, [.ref b, .int (nI (sd + 1))])), (b, .inr (0, [.ref r, .int (nI b0.length)])), (r, .inl (G.2.2.2.1, 35, .inl f))]) hts (fun _ h => List.mem_cons_of_mem _ (List.mem_append_left _ (List.mem_append_right _ h))) tyX3 tyX3_ok nmX3 hown hB 2 rfl rfl 1 (by decide) (hts (.fieldLink RX3 20 "PointReports$Frame" "goesTo" "I") (by decide +kernel)) rfl rfl (ty := .int) rfl rfl rfl (Nat.le_of_ble_eq_true rfl) rfl dX3_pack_2 (fun H locs hB => ?_)
  refine lv_aload_n hx hb dX3_pack_5 rfl (lv_at hl 0 rfl) ?_
  refine g_get (own := RX3) (C := RX3) (T := TX3) (N := 2) (ci := 2) (v := .ref b) hx hb hts (fun _ h => List.mem_cons_of_mem _ (List.mem_append_left _ (List.mem_append_right _ h))) hown hB 2 rfl rfl 0 (by decide) (hts (.fieldLink RX3 16 "PointReports$Frame" "bytes" "LPointReports$Bytes;") (by decide +kernel)) rfl rfl dX3_pack_6 ?_
  refine g_callvA (wr := [(ca, .inr (0, [.ref da, .int (nI fl.length)])), (da, .inl (G.2.2.2.1, kz, .inl g)), (fa, .inr (2, [.ref b, .int (nI (sd + 1))]))]) (wc := [(b, .inr (0, [.ref r, .int (nI b0.length)])), (r, .inl (G.2.2.2.1, 35, .inl f))]) (av := []) (rest := []) ⟨hx, hb, hml, hown, hts⟩ (k_Bytes_clear l G b r 35 f b0 hp0 hb0 (by decide)) (cwV 0 hts gX3_pack_X1_clear rfl rfl rfl (by decide +kernel) ⟨Nat.le_of_ble_eq_true rfl, Nat.le_of_ble_eq_true rfl⟩) hB (q0 := 0) (ci := 0) rfl rfl rfl rfl hl.1 rfl (Nat.le_of_ble_eq_true rfl) dX3_pack_9 ⟨Nat.le_of_ble_eq_true rfl, Nat.le_of_ble_eq_true rfl⟩ (fun u H locs hw hB => ?_)
  obtain rfl := hw
  have hB : gB G.1 (rT G) A s H locs [(ca, .inr (0, [.ref da, .int (nI fl.length)])), (da, .inl (G.2.2.2.1, kz, .inl g)), (fa, .inr (2, [.ref b, .int (nI (sd + 1))])), (b, .inr (0, [.ref r, .int (nI 0)])), (r, .inl (G.2.2.2.1, 35, .inl f))] := hB
  obtain ⟨L_1, eL_1⟩ : ∃ L9 : List Int32, L9 = [] := ⟨_, rfl⟩
  have hL_1 : pfx f L_1 := by rw [eL_1]; exact pfx_nil _
  have nL_1 : L_1.length = 0 := by rw [eL_1]; rfl
  have lL_1 : L_1.length ≤ 35 := by omega
  have bL_1 : ∀ x ∈ L_1, isB x := by rw [eL_1]; exact fun _ h => absurd h List.not_mem_nil
  have hB : gB G.1 (rT G) A s H locs [(ca, .inr (0, [.ref da, .int (nI fl.length)])), (da, .inl (G.2.2.2.1, kz, .inl g)), (fa, .inr (2, [.ref b, .int (nI (sd + 1))])), (b, .inr (0, [.ref r, .int (nI L_1.length)])), (r, .inl (G.2.2.2.1, 35, .inl f))] := by rw [nL_1]; exact hB
  refine lv_aload_n hx hb dX3_pack_12 rfl (lv_at hl 0 rfl) ?_
  refine g_get (own := RX3) (C := RX3) (T := TX3) (N := 2) (ci := 2) (v := .ref b) hx hb hts (fun _ h => List.mem_cons_of_mem _ (List.mem_append_left _ (List.mem_append_right _ h))) hown hB 2 rfl rfl 0 (by decide) (hts (.fieldLink RX3 16 "PointReports$Frame" "bytes" "LPointReports$Bytes;") (by decide +kernel)) rfl rfl dX3_pack_13 ?_
  refine lv_iconst (v := nI 5) hx hb dX3_pack_16 (by decide) ?_
  refine g_calliA (wr := [(ca, .inr (0, [.ref da, .int (nI fl.length)])), (da, .inl (G.2.2.2.1, kz, .inl g)), (fa, .inr (2, [.ref b, .int (nI (sd + 1))]))]) (wc := [(b, .inr (0, [.ref r, .int (nI L_1.length)])), (r, .inl (G.2.2.2.1, 35, .inl f))]) (av := [.int (nI 5)]) (rest := []) ⟨hx, hb, hml, hown, hts⟩ (k_Bytes_add l G b r 35 f L_1 hL_1 lL_1 (by decide) (nI 5)) (cwV 1 hts gX3_pack_X1_add rfl rfl rfl (by decide +kernel) ⟨Nat.le_of_ble_eq_true rfl, Nat.le_of_ble_eq_true rfl⟩) hB (q0 := 0) (ci := 0) rfl rfl rfl rfl hl.1 rfl (Nat.le_of_ble_eq_true rfl) dX3_pack_17 ⟨Nat.le_of_ble_eq_true rfl, Nat.le_of_ble_eq_true rfl⟩ (fun r9 u H locs hw hB => ?_)
  have hpo := hw
  have hB : gB G.1 (rT G) A s H locs [(ca, .inr (0, [.ref da, .int (nI fl.length)])), (da, .inl (G.2.2.2.1, kz, .inl g)), (fa, .inr (2, [.ref b, .int (nI (sd + 1))])), (b, .inr (0, [.ref r, .int u.1])), (r, .inl (G.2.2.2.1, 35, .inl u.2))] := hB
  rw [if_pos (show L_1.length < 35 from by omega)] at hpo
  obtain ⟨-, f_2, q_2, rfl⟩ := hpo
  obtain ⟨L_2, eL_2⟩ : ∃ L9 : List Int32, L9 = L_1 ++ [(nI 5) &&& 255] := ⟨_, rfl⟩
  have hL_2 : pfx f_2 L_2 := by rw [eL_2]; exact q_2
  have nL_2 : L_2.length = L_1.length + 1 := by rw [eL_2]; rw [List.length_append]; rfl
  have lL_2 : L_2.length ≤ 35 := by omega
  have bL_2 : ∀ x ∈ L_2, isB x := by rw [eL_2]; exact isB_app bL_1 (fun x h => by rw [List.mem_singleton.mp h]; exact isB_and _)
  have hB : gB G.1 (rT G) A s H locs [(ca, .inr (0, [.ref da, .int (nI fl.length)])), (da, .inl (G.2.2.2.1, kz, .inl g)), (fa, .inr (2, [.ref b, .int (nI (sd + 1))])), (b, .inr (0, [.ref r, .int (nI L_2.length)])), (r, .inl (G.2.2.2.1, 35, .inl f_2))] := by rw [nL_2]; exact hB
  refine lv_pop hx hb dX3_pack_20 rfl ?_
  refine lv_aload_n hx hb dX3_pack_21 rfl (lv_at hl 0 rfl) ?_
  refine g_get (own := RX3) (C := RX3) (T := TX3) (N := 2) (ci := 2) (v := .ref b) hx hb hts (fun _ h => List.mem_cons_of_mem _ (List.mem_append_left _ (List.mem_append_right _ h))) hown hB 2 rfl rfl 0 (by decide) (hts (.fieldLink RX3 16 "PointReports$Frame" "bytes" "LPointReports$Bytes;") (by decide +kernel)) rfl rfl dX3_pack_22 ?_
  refine lv_bipush (v := nI 100) hx hb dX3_pack_25 (by decide) ?_
  refine g_calliA (wr := [(ca, .inr (0, [.ref da, .int (nI fl.length)])), (da, .inl (G.2.2.2.1, kz, .inl g)), (fa, .inr (2, [.ref b, .int (nI (sd + 1))]))]) (wc := [(b, .inr (0, [.ref r, .int (nI L_2.length)])), (r, .inl (G.2.2.2.1, 35, .inl f_2))]) (av := [.int (nI 100)]) (rest := []) ⟨hx, hb, hml, hown, hts⟩ (k_Bytes_add l G b r 35 f_2 L_2 hL_2 lL_2 (by decide) (nI 100)) (cwV 1 hts gX3_pack_X1_add rfl rfl rfl (by decide +kernel) ⟨Nat.le_of_ble_eq_true rfl, Nat.le_of_ble_eq_true rfl⟩) hB (q0 := 0) (ci := 0) rfl rfl rfl rfl hl.1 rfl (Nat.le_of_ble_eq_true rfl) dX3_pack_27 ⟨Nat.le_of_ble_eq_true rfl, Nat.le_of_ble_eq_true rfl⟩ (fun r9 u H locs hw hB => ?_)
  have hpo := hw
  have hB : gB G.1 (rT G) A s H locs [(ca, .inr (0, [.ref da, .int (nI fl.length)])), (da, .inl (G.2.2.2.1, kz, .inl g)), (fa, .inr (2, [.ref b, .int (nI (sd + 1))])), (b, .inr (0, [.ref r, .int u.1])), (r, .inl (G.2.2.2.1, 35, .inl u.2))] := hB
  rw [if_pos (show L_2.length < 35 from by omega)] at hpo
  obtain ⟨-, f_3, q_3, rfl⟩ := hpo
  obtain ⟨L_3, eL_3⟩ : ∃ L9 : List Int32, L9 = L_2 ++ [(nI 100) &&& 255] := ⟨_, rfl⟩
  have hL_3 : pfx f_3 L_3 := by rw [eL_3]; exact q_3
  have nL_3 : L_3.length = L_2.length + 1 := by rw [eL_3]; rw [List.length_append]; rfl
  have lL_3 : L_3.length ≤ 35 := by omega
  have bL_3 : ∀ x ∈ L_3, isB x := by rw [eL_3]; exact isB_app bL_2 (fun x h => by rw [List.mem_singleton.mp h]; exact isB_and _)
  have hB : gB G.1 (rT G) A s H locs [(ca, .inr (0, [.ref da, .int (nI fl.length)])), (da, .inl (G.2.2.2.1, kz, .inl g)), (fa, .inr (2, [.ref b, .int (nI (sd + 1))])), (b, .inr (0, [.ref r, .int (nI L_3.length)])), (r, .inl (G.2.2.2.1, 35, .inl f_3))] := by rw [nL_3]; exact hB
  refine lv_pop hx hb dX3_pack_30 rfl ?_
  refine lv_aload_n hx hb dX3_pack_31 rfl (lv_at hl 0 rfl) ?_
  refine g_get (own := RX3) (C := RX3) (T := TX3) (N := 2) (ci := 2) (v := .ref b) hx hb hts (fun _ h => List.mem_cons_of_mem _ (List.mem_append_left _ (List.mem_append_right _ h))) hown hB 2 rfl rfl 0 (by decide) (hts (.fieldLink RX3 16 "PointReports$Frame" "bytes" "LPointReports$Bytes;") (by decide +kernel)) rfl rfl dX3_pack_32 ?_
  refine lv_bipush (v := nI 6) hx hb dX3_pack_35 (by decide) ?_
  refine lv_iload hx hb dX3_pack_37 (lv_at hl 5 rfl) ?_
  refine lv_iadd hx hb dX3_pack_39 ?_
  refine g_top (y := nI (6 + n)) (nI_add _ _) ?_
  refine g_calliA (wr := [(ca, .inr (0, [.ref da, .int (nI fl.length)])), (da, .inl (G.2.2.2.1, kz, .inl g)), (fa, .inr (2, [.ref b, .int (nI (sd + 1))]))]) (wc := [(b, .inr (0, [.ref r, .int (nI L_3.length)])), (r, .inl (G.2.2.2.1, 35, .inl f_3))]) (av := [.int (nI (6 + n))]) (rest := []) ⟨hx, hb, hml, hown, hts⟩ (k_Bytes_add l G b r 35 f_3 L_3 hL_3 lL_3 (by decide) (nI (6 + n))) (cwV 1 hts gX3_pack_X1_add rfl rfl rfl (by decide +kernel) ⟨Nat.le_of_ble_eq_true rfl, Nat.le_of_ble_eq_true rfl⟩) hB (q0 := 0) (ci := 0) rfl rfl rfl rfl hl.1 rfl (Nat.le_of_ble_eq_true rfl) dX3_pack_40 ⟨Nat.le_of_ble_eq_true rfl, Nat.le_of_ble_eq_true rfl⟩ (fun r9 u H locs hw hB => ?_)
  have hpo := hw
  have hB : gB G.1 (rT G) A s H locs [(ca, .inr (0, [.ref da, .int (nI fl.length)])), (da, .inl (G.2.2.2.1, kz, .inl g)), (fa, .inr (2, [.ref b, .int (nI (sd + 1))])), (b, .inr (0, [.ref r, .int u.1])), (r, .inl (G.2.2.2.1, 35, .inl u.2))] := hB
  rw [if_pos (show L_3.length < 35 from by omega)] at hpo
  obtain ⟨-, f_4, q_4, rfl⟩ := hpo
  obtain ⟨L_4, eL_4⟩ : ∃ L9 : List Int32, L9 = L_3 ++ [(nI (6 + n)) &&& 255] := ⟨_, rfl⟩
  have hL_4 : pfx f_4 L_4 := by rw [eL_4]; exact q_4
  have nL_4 : L_4.length = L_3.length + 1 := by rw [eL_4]; rw [List.length_append]; rfl
  have lL_4 : L_4.length ≤ 35 := by omega
  have bL_4 : ∀ x ∈ L_4, isB x := by rw [eL_4]; exact isB_app bL_3 (fun x h => by rw [List.mem_singleton.mp h]; exact isB_and _)
  have hB : gB G.1 (rT G) A s H locs [(ca, .inr (0, [.ref da, .int (nI fl.length)])), (da, .inl (G.2.2.2.1, kz, .inl g)), (fa, .inr (2, [.ref b, .int (nI (sd + 1))])), (b, .inr (0, [.ref r, .int (nI L_4.length)])), (r, .inl (G.2.2.2.1, 35, .inl f_4))] := by rw [nL_4]; exact hB
  refine lv_pop hx hb dX3_pack_43 rfl ?_
  refine lv_aload_n hx hb dX3_pack_44 rfl (lv_at hl 0 rfl) ?_
  refine g_get (own := RX3) (C := RX3) (T := TX3) (N := 2) (ci := 2) (v := .ref b) hx hb hts (fun _ h => List.mem_cons_of_mem _ (List.mem_append_left _ (List.mem_append_right _ h))) hown hB 2 rfl rfl 0 (by decide) (hts (.fieldLink RX3 16 "PointReports$Frame" "bytes" "LPointReports$Bytes;") (by decide +kernel)) rfl rfl dX3_pack_45 ?_
  refine lv_aload_n hx hb dX3_pack_48 rfl (lv_at hl 0 rfl) ?_
  refine g_calliA (wr := [(ca, .inr (0, [.ref da, .int (nI fl.length)])), (da, .inl (G.2.2.2.1, kz, .inl g))]) (wc := [(fa, .inr (2, [.ref b, .int (nI (sd + 1))])), (b, .inr (0, [.ref r, .int (nI L_4.length)])), (r, .inl (G.2.2.2.1, 35, .inl f_4))]) (av := []) (rest := [.ref b]) ⟨hx, hb, hml, hown, hts⟩ (k_Frame_control l G fa sd hsd b r 35 f_4 L_4 hL_4 lL_4 (by decide)) (cwV 0 hts gX3_pack_X3_control rfl rfl rfl (by decide +kernel) ⟨Nat.le_of_ble_eq_true rfl, Nat.le_of_ble_eq_true rfl⟩) hB (q0 := 0) (ci := 2) rfl rfl rfl rfl hl.1 rfl (Nat.le_of_ble_eq_true rfl) dX3_pack_49 ⟨Nat.le_of_ble_eq_true rfl, Nat.le_of_ble_eq_true rfl⟩ (fun r9 u H locs hw hB => ?_)
  obtain ⟨rfl, rfl⟩ := hw
  have hB : gB G.1 (rT G) A s H locs [(ca, .inr (0, [.ref da, .int (nI fl.length)])), (da, .inl (G.2.2.2.1, kz, .inl g)), (fa, .inr (2, [.ref b, .int (nI (sd + 1))])), (b, .inr (0, [.ref r, .int (nI L_4.length)])), (r, .inl (G.2.2.2.1, 35, .inl f_4))] := hB
  refine g_calliA (wr := [(ca, .inr (0, [.ref da, .int (nI fl.length)])), (da, .inl (G.2.2.2.1, kz, .inl g)), (fa, .inr (2, [.ref b, .int (nI (sd + 1))]))]) (wc := [(b, .inr (0, [.ref r, .int (nI L_4.length)])), (r, .inl (G.2.2.2.1, 35, .inl f_4))]) (av := [.int (nI (if sd = 1 then 196 else 68))]) (rest := []) ⟨hx, hb, hml, hown, hts⟩ (k_Bytes_add l G b r 35 f_4 L_4 hL_4 lL_4 (by decide) (nI (if sd = 1 then 196 else 68))) (cwV 1 hts gX3_pack_X1_add rfl rfl rfl (by decide +kernel) ⟨Nat.le_of_ble_eq_true rfl, Nat.le_of_ble_eq_true rfl⟩) hB (q0 := 0) (ci := 0) rfl rfl rfl rfl hl.1 rfl (Nat.le_of_ble_eq_true rfl) dX3_pack_52 ⟨Nat.le_of_ble_eq_true rfl, Nat.le_of_ble_eq_true rfl⟩ (fun r9 u H locs hw hB => ?_)
  have hpo := hw
  have hB : gB G.1 (rT G) A s H locs [(ca, .inr (0, [.ref da, .int (nI fl.length)])), (da, .inl (G.2.2.2.1, kz, .inl g)), (fa, .inr (2, [.ref b, .int (nI (sd + 1))])), (b, .inr (0, [.ref r, .int u.1])), (r, .inl (G.2.2.2.1, 35, .inl u.2))] := hB
  rw [if_pos (show L_4.length < 35 from by omega)] at hpo
  obtain ⟨-, f_5, q_5, rfl⟩ := hpo
  obtain ⟨L_5, eL_5⟩ : ∃ L9 : List Int32, L9 = L_4 ++ [(nI (if sd = 1 then 196 else 68)) &&& 255] := ⟨_, rfl⟩
  have hL_5 : pfx f_5 L_5 := by rw [eL_5]; exact q_5
  have nL_5 : L_5.length = L_4.length + 1 := by rw [eL_5]; rw [List.length_append]; rfl
  have lL_5 : L_5.length ≤ 35 := by omega
  have bL_5 : ∀ x ∈ L_5, isB x := by rw [eL_5]; exact isB_app bL_4 (fun x h => by rw [List.mem_singleton.mp h]; exact isB_and _)
  have hB : gB G.1 (rT G) A s H locs [(ca, .inr (0, [.ref da, .int (nI fl.length)])), (da, .inl (G.2.2.2.1, kz, .inl g)), (fa, .inr (2, [.ref b, .int (nI (sd + 1))])), (b, .inr (0, [.ref r, .int (nI L_5.length)])), (r, .inl (G.2.2.2.1, 35, .inl f_5))] := by rw [nL_5]; exact hB
  refine lv_pop hx hb dX3_pack_55 rfl ?_
  refine lv_aload_n hx hb dX3_pack_56 rfl (lv_at hl 0 rfl) ?_
  refine g_get (own := RX3) (C := RX3) (T := TX3) (N := 2) (ci := 2) (v := .ref b) hx hb hts (fun _ h => List.mem_cons_of_mem _ (List.mem_append_left _ (List.mem_append_right _ h))) hown hB 2 rfl rfl 0 (by decide) (hts (.fieldLink RX3 16 "PointReports$Frame" "bytes" "LPointReports$Bytes;") (by decide +kernel)) rfl rfl dX3_pack_57 ?_
  refine lv_aload_n hx hb dX3_pack_60 rfl (lv_at hl 0 rfl) ?_
  refine g_get (own := RX3) (C := RX3) (T := TX3) (N := 2) (ci := 2) (v := .int (nI (sd + 1))) hx hb hts (fun _ h => List.mem_cons_of_mem _ (List.mem_append_left _ (List.mem_append_right _ h))) hown hB 2 rfl rfl 1 (by decide) (hts (.fieldLink RX3 20 "PointReports$Frame" "goesTo" "I") (by decide +kernel)) rfl rfl dX3_pack_61 ?_
  refine lv_iconst (v := nI 2) hx hb dX3_pack_64 (by decide) ?_
  refine g_callvA (wr := [(ca, .inr (0, [.ref da, .int (nI fl.length)])), (da, .inl (G.2.2.2.1, kz, .inl g)), (fa, .inr (2, [.ref b, .int (nI (sd + 1))]))]) (wc := [(b, .inr (0, [.ref r, .int (nI L_5.length)])), (r, .inl (G.2.2.2.1, 35, .inl f_5))]) (av := [.int (nI (sd + 1)), .int (nI 2)]) (rest := []) ⟨hx, hb, hml, hown, hts⟩ (k_Bytes_addNumber l G b r 35 f_5 L_5 hL_5 lL_5 (by decide) (nI (sd + 1)) 2 (by decide) (by omega)) (cwV 2 hts gX3_pack_X1_addNumber rfl rfl rfl (by decide +kernel) ⟨Nat.le_of_ble_eq_true rfl, Nat.le_of_ble_eq_true rfl⟩) hB (q0 := 0) (ci := 0) rfl rfl rfl rfl hl.1 rfl (Nat.le_of_ble_eq_true rfl) dX3_pack_65 ⟨Nat.le_of_ble_eq_true rfl, Nat.le_of_ble_eq_true rfl⟩ (fun u H locs hw hB => ?_)
  obtain ⟨f_6, q_6, rfl⟩ := hw
  have hB : gB G.1 (rT G) A s H locs [(ca, .inr (0, [.ref da, .int (nI fl.length)])), (da, .inl (G.2.2.2.1, kz, .inl g)), (fa, .inr (2, [.ref b, .int (nI (sd + 1))])), (b, .inr (0, [.ref r, .int (nI (L_5.length + 2))])), (r, .inl (G.2.2.2.1, 35, .inl f_6))] := hB
  obtain ⟨L_6, eL_6⟩ : ∃ L9 : List Int32, L9 = L_5 ++ bN (nI (sd + 1)) 2 := ⟨_, rfl⟩
  have hL_6 : pfx f_6 L_6 := by rw [eL_6]; exact q_6
  have nL_6 : L_6.length = L_5.length + 2 := by rw [eL_6]; rw [List.length_append, bN_len]
  have lL_6 : L_6.length ≤ 35 := by omega
  have bL_6 : ∀ x ∈ L_6, isB x := by rw [eL_6]; exact isB_app bL_5 (bN_B _ _)
  have hB : gB G.1 (rT G) A s H locs [(ca, .inr (0, [.ref da, .int (nI fl.length)])), (da, .inl (G.2.2.2.1, kz, .inl g)), (fa, .inr (2, [.ref b, .int (nI (sd + 1))])), (b, .inr (0, [.ref r, .int (nI L_6.length)])), (r, .inl (G.2.2.2.1, 35, .inl f_6))] := by rw [nL_6]; exact hB
  refine lv_aload_n hx hb dX3_pack_68 rfl (lv_at hl 0 rfl) ?_
  refine g_get (own := RX3) (C := RX3) (T := TX3) (N := 2) (ci := 2) (v := .ref b) hx hb hts (fun _ h => List.mem_cons_of_mem _ (List.mem_append_left _ (List.mem_append_right _ h))) hown hB 2 rfl rfl 0 (by decide) (hts (.fieldLink RX3 16 "PointReports$Frame" "bytes" "LPointReports$Bytes;") (by decide +kernel)) rfl rfl dX3_pack_69 ?_
  refine lv_aload_n hx hb dX3_pack_72 rfl (lv_at hl 0 rfl) ?_
  refine g_calliA (wr := [(ca, .inr (0, [.ref da, .int (nI fl.length)])), (da, .inl (G.2.2.2.1, kz, .inl g))]) (wc := [(fa, .inr (2, [.ref b, .int (nI (sd + 1))])), (b, .inr (0, [.ref r, .int (nI L_6.length)])), (r, .inl (G.2.2.2.1, 35, .inl f_6))]) (av := []) (rest := [.ref b]) ⟨hx, hb, hml, hown, hts⟩ (k_Frame_comesFrom l G fa sd hsd b r 35 f_6 L_6 hL_6 lL_6 (by decide)) (cwV 0 hts gX3_pack_X3_comesFrom rfl rfl rfl (by decide +kernel) ⟨Nat.le_of_ble_eq_true rfl, Nat.le_of_ble_eq_true rfl⟩) hB (q0 := 0) (ci := 2) rfl rfl rfl rfl hl.1 rfl (Nat.le_of_ble_eq_true rfl) dX3_pack_73 ⟨Nat.le_of_ble_eq_true rfl, Nat.le_of_ble_eq_true rfl⟩ (fun r9 u H locs hw hB => ?_)
  obtain ⟨rfl, rfl⟩ := hw
  have hB : gB G.1 (rT G) A s H locs [(ca, .inr (0, [.ref da, .int (nI fl.length)])), (da, .inl (G.2.2.2.1, kz, .inl g)), (fa, .inr (2, [.ref b, .int (nI (sd + 1))])), (b, .inr (0, [.ref r, .int (nI L_6.length)])), (r, .inl (G.2.2.2.1, 35, .inl f_6))] := hB
  refine lv_iconst (v := nI 2) hx hb dX3_pack_76 (by decide) ?_
  refine g_callvA (wr := [(ca, .inr (0, [.ref da, .int (nI fl.length)])), (da, .inl (G.2.2.2.1, kz, .inl g)), (fa, .inr (2, [.ref b, .int (nI (sd + 1))]))]) (wc := [(b, .inr (0, [.ref r, .int (nI L_6.length)])), (r, .inl (G.2.2.2.1, 35, .inl f_6))]) (av := [.int (nI (if sd = 1 then 1 else 2)), .int (nI 2)]) (rest := []) ⟨hx, hb, hml, hown, hts⟩ (k_Bytes_addNumber l G b r 35 f_6 L_6 hL_6 lL_6 (by decide) (nI (if sd = 1 then 1 else 2)) 2 (by decide) (by omega)) (cwV 2 hts gX3_pack_X1_addNumber rfl rfl rfl (by decide +kernel) ⟨Nat.le_of_ble_eq_true rfl, Nat.le_of_ble_eq_true rfl⟩) hB (q0 := 0) (ci := 0) rfl rfl rfl rfl hl.1 rfl (Nat.le_of_ble_eq_true rfl) dX3_pack_77 ⟨Nat.le_of_ble_eq_true rfl, Nat.le_of_ble_eq_true rfl⟩ (fun u H locs hw hB => ?_)
  obtain ⟨f_7, q_7, rfl⟩ := hw
  have hB : gB G.1 (rT G) A s H locs [(ca, .inr (0, [.ref da, .int (nI fl.length)])), (da, .inl (G.2.2.2.1, kz, .inl g)), (fa, .inr (2, [.ref b, .int (nI (sd + 1))])), (b, .inr (0, [.ref r, .int (nI (L_6.length + 2))])), (r, .inl (G.2.2.2.1, 35, .inl f_7))] := hB
  obtain ⟨L_7, eL_7⟩ : ∃ L9 : List Int32, L9 = L_6 ++ bN (nI (if sd = 1 then 1 else 2)) 2 := ⟨_, rfl⟩
  have hL_7 : pfx f_7 L_7 := by rw [eL_7]; exact q_7
  have nL_7 : L_7.length = L_6.length + 2 := by rw [eL_7]; rw [List.length_append, bN_len]
  have lL_7 : L_7.length ≤ 35 := by omega
  have bL_7 : ∀ x ∈ L_7, isB x := by rw [eL_7]; exact isB_app bL_6 (bN_B _ _)
  have hB : gB G.1 (rT G) A s H locs [(ca, .inr (0, [.ref da, .int (nI fl.length)])), (da, .inl (G.2.2.2.1, kz, .inl g)), (fa, .inr (2, [.ref b, .int (nI (sd + 1))])), (b, .inr (0, [.ref r, .int (nI L_7.length)])), (r, .inl (G.2.2.2.1, 35, .inl f_7))] := by rw [nL_7]; exact hB
  have ehd : L_7 = hdF sd n := by rw [eL_7, eL_6, eL_5, eL_4, eL_3, eL_2, eL_1, bN2_sd (show sd + 1 ≤ 2 by omega), bN2_sd (show (if sd = 1 then 1 else 2) ≤ 2 by split <;> decide)]; unfold hdF; rcases (show sd = 0 ∨ sd = 1 by omega) with rfl | rfl <;> rfl
  clear eL_2 eL_3 eL_4 eL_5 eL_6 eL_7
  refine lv_aload_n hx hb dX3_pack_80 rfl (lv_at hl 0 rfl) ?_
  refine g_get (own := RX3) (C := RX3) (T := TX3) (N := 2) (ci := 2) (v := .ref b) hx hb hts (fun _ h => List.mem_cons_of_mem _ (List.mem_append_left _ (List.mem_append_right _ h))) hown hB 2 rfl rfl 0 (by decide) (hts (.fieldLink RX3 16 "PointReports$Frame" "bytes" "LPointReports$Bytes;") (by decide +kernel)) rfl rfl dX3_pack_81 ?_
  refine lv_aload_n hx hb dX3_pack_84 rfl (lv_at hl 0 rfl) ?_
  refine g_get (own := RX3) (C := RX3) (T := TX3) (N := 2) (ci := 2) (v := .ref b) hx hb hts (fun _ h => List.mem_cons_of_mem _ (List.mem_append_left _ (List.mem_append_right _ h))) hown hB 2 rfl rfl 0 (by decide) (hts (.fieldLink RX3 16 "PointReports$Frame" "bytes" "LPointReports$Bytes;") (by decide +kernel)) rfl rfl dX3_pack_85 ?_
  refine lv_iconst (v := nI 0) hx hb dX3_pack_88 (by decide) ?_
  refine lv_bipush (v := nI 8) hx hb dX3_pack_89 (by decide) ?_
  refine g_calliA (wr := [(ca, .inr (0, [.ref da, .int (nI fl.length)])), (da, .inl (G.2.2.2.1, kz, .inl g)), (fa, .inr (2, [.ref b, .int (nI (sd + 1))]))]) (wc := [(b, .inr (0, [.ref r, .int (nI L_7.length)])), (r, .inl (G.2.2.2.1, 35, .inl f_7))]) (av := [.int (nI 0), .int (nI 8)]) (rest := [.ref b]) ⟨hx, hb, hml, hown, hts⟩ (k_Bytes_check l G b r 35 f_7 L_7 hL_7 lL_7 (by decide) bL_7 0 8 (by omega)) (cwV 2 hts gX3_pack_X1_check rfl rfl rfl (by decide +kernel) ⟨Nat.le_of_ble_eq_true rfl, Nat.le_of_ble_eq_true rfl⟩) hB (q0 := 0) (ci := 0) rfl rfl rfl rfl hl.1 rfl (Nat.le_of_ble_eq_true rfl) dX3_pack_91 ⟨Nat.le_of_ble_eq_true rfl, Nat.le_of_ble_eq_true rfl⟩ (fun r9 u H locs hw hB => ?_)
  obtain ⟨rfl, rfl⟩ := hw
  have hB : gB G.1 (rT G) A s H locs [(ca, .inr (0, [.ref da, .int (nI fl.length)])), (da, .inl (G.2.2.2.1, kz, .inl g)), (fa, .inr (2, [.ref b, .int (nI (sd + 1))])), (b, .inr (0, [.ref r, .int (nI L_7.length)])), (r, .inl (G.2.2.2.1, 35, .inl f_7))] := hB
  refine g_top (y := ck (hdF sd n)) (by rw [ehd]; exact congrArg ck (sub_end [] (hdF sd n))) ?_
  refine lv_iconst (v := nI 2) hx hb dX3_pack_94 (by decide) ?_
  refine g_callvA (wr := [(ca, .inr (0, [.ref da, .int (nI fl.length)])), (da, .inl (G.2.2.2.1, kz, .inl g)), (fa, .inr (2, [.ref b, .int (nI (sd + 1))]))]) (wc := [(b, .inr (0, [.ref r, .int (nI L_7.length)])), (r, .inl (G.2.2.2.1, 35, .inl f_7))]) (av := [.int (ck (hdF sd n)), .int (nI 2)]) (rest := []) ⟨hx, hb, hml, hown, hts⟩ (k_Bytes_addNumber l G b r 35 f_7 L_7 hL_7 lL_7 (by decide) (ck (hdF sd n)) 2 (by decide) (by omega)) (cwV 2 hts gX3_pack_X1_addNumber rfl rfl rfl (by decide +kernel) ⟨Nat.le_of_ble_eq_true rfl, Nat.le_of_ble_eq_true rfl⟩) hB (q0 := 0) (ci := 0) rfl rfl rfl rfl hl.1 rfl (Nat.le_of_ble_eq_true rfl) dX3_pack_95 ⟨Nat.le_of_ble_eq_true rfl, Nat.le_of_ble_eq_true rfl⟩ (fun u H locs hw hB => ?_)
  obtain ⟨f_8, q_8, rfl⟩ := hw
  have hB : gB G.1 (rT G) A s H locs [(ca, .inr (0, [.ref da, .int (nI fl.length)])), (da, .inl (G.2.2.2.1, kz, .inl g)), (fa, .inr (2, [.ref b, .int (nI (sd + 1))])), (b, .inr (0, [.ref r, .int (nI (L_7.length + 2))])), (r, .inl (G.2.2.2.1, 35, .inl f_8))] := hB
  obtain ⟨L_8, eL_8⟩ : ∃ L9 : List Int32, L9 = L_7 ++ bN (ck (hdF sd n)) 2 := ⟨_, rfl⟩
  have hL_8 : pfx f_8 L_8 := by rw [eL_8]; exact q_8
  have nL_8 : L_8.length = L_7.length + 2 := by rw [eL_8]; rw [List.length_append, bN_len]
  have lL_8 : L_8.length ≤ 35 := by omega
  have bL_8 : ∀ x ∈ L_8, isB x := by rw [eL_8]; exact isB_app bL_7 (bN_B _ _)
  have hB : gB G.1 (rT G) A s H locs [(ca, .inr (0, [.ref da, .int (nI fl.length)])), (da, .inl (G.2.2.2.1, kz, .inl g)), (fa, .inr (2, [.ref b, .int (nI (sd + 1))])), (b, .inr (0, [.ref r, .int (nI L_8.length)])), (r, .inl (G.2.2.2.1, 35, .inl f_8))] := by rw [nL_8]; exact hB
  refine lv_aload_n hx hb dX3_pack_98 rfl (lv_at hl 0 rfl) ?_
  refine g_get (own := RX3) (C := RX3) (T := TX3) (N := 2) (ci := 2) (v := .ref b) hx hb hts (fun _ h => List.mem_cons_of_mem _ (List.mem_append_left _ (List.mem_append_right _ h))) hown hB 2 rfl rfl 0 (by decide) (hts (.fieldLink RX3 16 "PointReports$Frame" "bytes" "LPointReports$Bytes;") (by decide +kernel)) rfl rfl dX3_pack_99 ?_
  refine g_calliA (wr := [(ca, .inr (0, [.ref da, .int (nI fl.length)])), (da, .inl (G.2.2.2.1, kz, .inl g)), (fa, .inr (2, [.ref b, .int (nI (sd + 1))]))]) (wc := [(b, .inr (0, [.ref r, .int (nI L_8.length)])), (r, .inl (G.2.2.2.1, 35, .inl f_8))]) (av := []) (rest := []) ⟨hx, hb, hml, hown, hts⟩ (k_Bytes_size l G b r 35 f_8 L_8 hL_8 lL_8 (by decide)) (cwV 0 hts gX3_pack_X1_size rfl rfl rfl (by decide +kernel) ⟨Nat.le_of_ble_eq_true rfl, Nat.le_of_ble_eq_true rfl⟩) hB (q0 := 0) (ci := 0) rfl rfl rfl rfl hl.1 rfl (Nat.le_of_ble_eq_true rfl) dX3_pack_102 ⟨Nat.le_of_ble_eq_true rfl, Nat.le_of_ble_eq_true rfl⟩ (fun r9 u H locs hw hB => ?_)
  obtain ⟨rfl, rfl⟩ := hw
  have hB : gB G.1 (rT G) A s H locs [(ca, .inr (0, [.ref da, .int (nI fl.length)])), (da, .inl (G.2.2.2.1, kz, .inl g)), (fa, .inr (2, [.ref b, .int (nI (sd + 1))])), (b, .inr (0, [.ref r, .int (nI L_8.length)])), (r, .inl (G.2.2.2.1, 35, .inl f_8))] := hB
  refine g_top (y := nI 10) (congrArg nI (by omega)) ?_
  refine lv_istore (lv' := [(6, .int (nI 10)), (0, .ref fa), (1, .int (nI (sd + 1))), (2, .int (nI fst)), (3, .ref ca), (4, .int (nI a)), (5, .int (nI n))]) hx hb dX3_pack_105 hl (by decide) rfl (fun ls hl => ?_)
  refine lv_aload_n hx hb dX3_pack_107 rfl (lv_at hl 1 rfl) ?_
  refine g_get (own := RX3) (C := RX3) (T := TX3) (N := 2) (ci := 2) (v := .ref b) hx hb hts (fun _ h => List.mem_cons_of_mem _ (List.mem_append_left _ (List.mem_append_right _ h))) hown hB 2 rfl rfl 0 (by decide) (hts (.fieldLink RX3 16 "PointReports$Frame" "bytes" "LPointReports$Bytes;") (by decide +kernel)) rfl rfl dX3_pack_108 ?_
  refine lv_iload_n hx hb dX3_pack_111 rfl (lv_at hl 3 rfl) ?_
  refine g_calliA (wr := [(ca, .inr (0, [.ref da, .int (nI fl.length)])), (da, .inl (G.2.2.2.1, kz, .inl g)), (fa, .inr (2, [.ref b, .int (nI (sd + 1))]))]) (wc := [(b, .inr (0, [.ref r, .int (nI L_8.length)])), (r, .inl (G.2.2.2.1, 35, .inl f_8))]) (av := [.int (nI fst)]) (rest := []) ⟨hx, hb, hml, hown, hts⟩ (k_Bytes_add l G b r 35 f_8 L_8 hL_8 lL_8 (by decide) (nI fst)) (cwV 1 hts gX3_pack_X1_add rfl rfl rfl (by decide +kernel) ⟨Nat.le_of_ble_eq_true rfl, Nat.le_of_ble_eq_true rfl⟩) hB (q0 := 0) (ci := 0) rfl rfl rfl rfl hl.1 rfl (Nat.le_of_ble_eq_true rfl) dX3_pack_112 ⟨Nat.le_of_ble_eq_true rfl, Nat.le_of_ble_eq_true rfl⟩ (fun r9 u H locs hw hB => ?_)
  have hpo := hw
  have hB : gB G.1 (rT G) A s H locs [(ca, .inr (0, [.ref da, .int (nI fl.length)])), (da, .inl (G.2.2.2.1, kz, .inl g)), (fa, .inr (2, [.ref b, .int (nI (sd + 1))])), (b, .inr (0, [.ref r, .int u.1])), (r, .inl (G.2.2.2.1, 35, .inl u.2))] := hB
  rw [if_pos (show L_8.length < 35 from by omega)] at hpo
  obtain ⟨-, f_9, q_9, rfl⟩ := hpo
  obtain ⟨L_9, eL_9⟩ : ∃ L9 : List Int32, L9 = L_8 ++ [(nI fst) &&& 255] := ⟨_, rfl⟩
  have hL_9 : pfx f_9 L_9 := by rw [eL_9]; exact q_9
  have nL_9 : L_9.length = L_8.length + 1 := by rw [eL_9]; rw [List.length_append]; rfl
  have lL_9 : L_9.length ≤ 35 := by omega
  have bL_9 : ∀ x ∈ L_9, isB x := by rw [eL_9]; exact isB_app bL_8 (fun x h => by rw [List.mem_singleton.mp h]; exact isB_and _)
  have hB : gB G.1 (rT G) A s H locs [(ca, .inr (0, [.ref da, .int (nI fl.length)])), (da, .inl (G.2.2.2.1, kz, .inl g)), (fa, .inr (2, [.ref b, .int (nI (sd + 1))])), (b, .inr (0, [.ref r, .int (nI L_9.length)])), (r, .inl (G.2.2.2.1, 35, .inl f_9))] := by rw [nL_9]; exact hB
  refine lv_pop hx hb dX3_pack_115 rfl ?_
  refine lv_iconst (v := nI 0) hx hb dX3_pack_116 (by decide) ?_
  refine lv_istore (lv' := [(7, .int (nI 0)), (6, .int (nI 10)), (0, .ref fa), (1, .int (nI (sd + 1))), (2, .int (nI fst)), (3, .ref ca), (4, .int (nI a)), (5, .int (nI n))]) hx hb dX3_pack_117 hl (by decide) rfl (fun ls hl => ?_)
  have hl : lv_has ls 8 [(7, .int (nI 0)), (6, .int (nI 10)), (0, .ref fa), (1, .int (nI (sd + 1))), (2, .int (nI fst)), (3, .ref ca), (4, .int (nI a)), (5, .int (nI n))] := lv_sub hl [0, 1, 2, 3, 4, 5, 6, 7] rfl
  have hB : gB G.1 (rT G) A s H locs [(ca, .inr (0, [.ref da, .int (nI fl.length)])), (da, .inl (G.2.2.2.1, kz, .inl g)), (fa, .inr (2, [.ref b, .int (nI (sd + 1))])), (b, .inr (0, [.ref r, .int (nI L_9.length)])), (r, .inl (G.2.2.2.1, 35, .inl f_9))] := hB
  refine g_loop (σ := Nat × (Nat → Int32) × (List Int32) × Nat) (fun d xv H locs ls => (xv.1 + d = n) ∧ (pfx xv.2.1 xv.2.2.1) ∧ (xv.2.2.1 = hdF sd n ++ ck2 (hdF sd n) ++ (pkN (nI fst) (fun y => fl.getD y 0) a xv.1).1) ∧ (xv.2.2.2 + (pkN (nI fst) (fun y => fl.getD y 0) a xv.1).2.length = xv.2.2.1.length) ∧ gB G.1 (rT G) A s H locs [(ca, .inr (0, [.ref da, .int (nI fl.length)])), (da, .inl (G.2.2.2.1, kz, .inl g)), (fa, .inr (2, [.ref b, .int (nI (sd + 1))])), (b, .inr (0, [.ref r, .int (nI xv.2.2.1.length)])), (r, .inl (G.2.2.2.1, 35, .inl xv.2.1))] ∧ lv_has ls 8 [(7, .int (nI xv.1)), (6, .int (nI xv.2.2.2)), (0, .ref fa), (1, .int (nI (sd + 1))), (2, .int (nI fst)), (3, .ref ca), (4, .int (nI a)), (5, .int (nI n))]) n (0, f_9, L_9, 10) ⟨by omega, hL_9, by rw [eL_9, eL_8, ehd, bN_ck]; rfl, by show 10 + 1 = L_9.length; omega, hB, hl⟩ ?_
  rintro d ⟨j, h, L, blk⟩ H locs ls ⟨hj, hh, hL, hk, hB, hl⟩ ih_1
  have hj : j + d = n := hj
  have hh : pfx h L := hh
  have hL : L = hdF sd n ++ ck2 (hdF sd n) ++ (pkN (nI fst) (fun y => fl.getD y 0) a j).1 := hL
  have hk : blk + (pkN (nI fst) (fun y => fl.getD y 0) a j).2.length = L.length := hk
  have hB : gB G.1 (rT G) A s H locs [(ca, .inr (0, [.ref da, .int (nI fl.length)])), (da, .inl (G.2.2.2.1, kz, .inl g)), (fa, .inr (2, [.ref b, .int (nI (sd + 1))])), (b, .inr (0, [.ref r, .int (nI L.length)])), (r, .inl (G.2.2.2.1, 35, .inl h))] := hB
  have hl : lv_has ls 8 [(7, .int (nI j)), (6, .int (nI blk)), (0, .ref fa), (1, .int (nI (sd + 1))), (2, .int (nI fst)), (3, .ref ca), (4, .int (nI a)), (5, .int (nI n))] := hl
  obtain ⟨p1, p2, z, p3⟩ := pkN_len (nI fst) (fun y => fl.getD y 0) a j (by omega)
  obtain ⟨cu, ecu⟩ : ∃ cu, cu = (pkN (nI fst) (fun y => fl.getD y 0) a j).2.length := ⟨_, rfl⟩
  have p4 : cu ≤ 16 ∧ 1 ≤ cu := by rw [ecu, p1]; split <;> omega
  have p5 : (pkN (nI fst) (fun y => fl.getD y 0) a j).1.length ≤ j + 3 := by rw [p2]; split <;> omega
  have p6 : z.length + cu = (pkN (nI fst) (fun y => fl.getD y 0) a j).1.length := by rw [ecu, p3, List.length_append]
  have p7 : (hdF sd n ++ ck2 (hdF sd n)).length = 10 := rfl
  have p8 : L.length = 10 + (pkN (nI fst) (fun y => fl.getD y 0) a j).1.length := by rw [hL, List.length_append, p7]
  have hl35 : L.length ≤ 35 := by omega
  have hk : blk + cu = L.length := by rw [ecu]; exact hk
  have pB : ∀ x ∈ L, isB x := by rw [hL]; exact isB_app (isB_app (hdF_B _ _) (ck2_B _)) (pkN_B _ _ _ _)
  have pS : sub L blk cu = (pkN (nI fst) (fun y => fl.getD y 0) a j).2 := by rw [ecu, hL, p3, ← List.append_assoc, show blk = (hdF sd n ++ ck2 (hdF sd n) ++ z).length by rw [List.length_append, p7]; omega]; exact sub_end _ _
  refine lv_iload hx hb dX3_pack_119 (lv_at hl 0 rfl) ?_
  refine lv_iload hx hb dX3_pack_121 (lv_at hl 7 rfl) ?_
  refine lv_icmp_ge (tgt := 192) hx hb dX3_pack_123 (by decide) (fun c_2 => ?_) (fun c_2 => ?_)
  · have c_2 : n ≤ j := (nI_leI (a := n) (b := j) (by omega) (by omega)).mp c_2
    have hj9 : j = n := by omega
    refine lv_aload_n hx hb dX3_pack_192 rfl (lv_at hl 2 rfl) ?_
    refine g_get (own := RX3) (C := RX3) (T := TX3) (N := 2) (ci := 2) (v := .ref b) hx hb hts (fun _ h => List.mem_cons_of_mem _ (List.mem_append_left _ (List.mem_append_right _ h))) hown hB 2 rfl rfl 0 (by decide) (hts (.fieldLink RX3 16 "PointReports$Frame" "bytes" "LPointReports$Bytes;") (by decide +kernel)) rfl rfl dX3_pack_193 ?_
    refine lv_aload_n hx hb dX3_pack_196 rfl (lv_at hl 2 rfl) ?_
    refine g_get (own := RX3) (C := RX3) (T := TX3) (N := 2) (ci := 2) (v := .ref b) hx hb hts (fun _ h => List.mem_cons_of_mem _ (List.mem_append_left _ (List.mem_append_right _ h))) hown hB 2 rfl rfl 0 (by decide) (hts (.fieldLink RX3 16 "PointReports$Frame" "bytes" "LPointReports$Bytes;") (by decide +kernel)) rfl rfl dX3_pack_197 ?_
    refine lv_iload hx hb dX3_pack_200 (lv_at hl 1 rfl) ?_
    refine lv_aload_n hx hb dX3_pack_202 rfl (lv_at hl 2 rfl) ?_
    refine g_get (own := RX3) (C := RX3) (T := TX3) (N := 2) (ci := 2) (v := .ref b) hx hb hts (fun _ h => List.mem_cons_of_mem _ (List.mem_append_left _ (List.mem_append_right _ h))) hown hB 2 rfl rfl 0 (by decide) (hts (.fieldLink RX3 16 "PointReports$Frame" "bytes" "LPointReports$Bytes;") (by decide +kernel)) rfl rfl dX3_pack_203 ?_
    refine g_calliA (wr := [(ca, .inr (0, [.ref da, .int (nI fl.length)])), (da, .inl (G.2.2.2.1, kz, .inl g)), (fa, .inr (2, [.ref b, .int (nI (sd + 1))]))]) (wc := [(b, .inr (0, [.ref r, .int (nI L.length)])), (r, .inl (G.2.2.2.1, 35, .inl h))]) (av := []) (rest := [.int (nI blk), .ref b, .ref b]) ⟨hx, hb, hml, hown, hts⟩ (k_Bytes_size l G b r 35 h L hh hl35 (by decide)) (cwV 0 hts gX3_pack_X1_size rfl rfl rfl (by decide +kernel) ⟨Nat.le_of_ble_eq_true rfl, Nat.le_of_ble_eq_true rfl⟩) hB (q0 := 0) (ci := 0) rfl rfl rfl rfl hl.1 rfl (Nat.le_of_ble_eq_true rfl) dX3_pack_206 ⟨Nat.le_of_ble_eq_true rfl, Nat.le_of_ble_eq_true rfl⟩ (fun r9 u H locs hw hB => ?_)
    obtain ⟨rfl, rfl⟩ := hw
    have hB : gB G.1 (rT G) A s H locs [(ca, .inr (0, [.ref da, .int (nI fl.length)])), (da, .inl (G.2.2.2.1, kz, .inl g)), (fa, .inr (2, [.ref b, .int (nI (sd + 1))])), (b, .inr (0, [.ref r, .int (nI L.length)])), (r, .inl (G.2.2.2.1, 35, .inl h))] := hB
    refine lv_iload hx hb dX3_pack_209 (lv_at hl 1 rfl) ?_
    refine lv_isub hx hb dX3_pack_211 ?_
    refine g_top (y := nI cu) ((pk_sub (by omega)).trans (congrArg nI (by omega))) ?_
    refine g_calliA (wr := [(ca, .inr (0, [.ref da, .int (nI fl.length)])), (da, .inl (G.2.2.2.1, kz, .inl g)), (fa, .inr (2, [.ref b, .int (nI (sd + 1))]))]) (wc := [(b, .inr (0, [.ref r, .int (nI L.length)])), (r, .inl (G.2.2.2.1, 35, .inl h))]) (av := [.int (nI blk), .int (nI cu)]) (rest := [.ref b]) ⟨hx, hb, hml, hown, hts⟩ (k_Bytes_check l G b r 35 h L hh hl35 (by decide) pB blk cu (by omega)) (cwV 2 hts gX3_pack_X1_check rfl rfl rfl (by decide +kernel) ⟨Nat.le_of_ble_eq_true rfl, Nat.le_of_ble_eq_true rfl⟩) hB (q0 := 0) (ci := 0) rfl rfl rfl rfl hl.1 rfl (Nat.le_of_ble_eq_true rfl) dX3_pack_212 ⟨Nat.le_of_ble_eq_true rfl, Nat.le_of_ble_eq_true rfl⟩ (fun r9 u H locs hw hB => ?_)
    obtain ⟨rfl, rfl⟩ := hw
    have hB : gB G.1 (rT G) A s H locs [(ca, .inr (0, [.ref da, .int (nI fl.length)])), (da, .inl (G.2.2.2.1, kz, .inl g)), (fa, .inr (2, [.ref b, .int (nI (sd + 1))])), (b, .inr (0, [.ref r, .int (nI L.length)])), (r, .inl (G.2.2.2.1, 35, .inl h))] := hB
    refine g_top (y := ck (pkN (nI fst) (fun y => fl.getD y 0) a j).2) (by rw [pS]) ?_
    refine lv_iconst (v := nI 2) hx hb dX3_pack_215 (by decide) ?_
    refine g_callvA (wr := [(ca, .inr (0, [.ref da, .int (nI fl.length)])), (da, .inl (G.2.2.2.1, kz, .inl g)), (fa, .inr (2, [.ref b, .int (nI (sd + 1))]))]) (wc := [(b, .inr (0, [.ref r, .int (nI L.length)])), (r, .inl (G.2.2.2.1, 35, .inl h))]) (av := [.int (ck (pkN (nI fst) (fun y => fl.getD y 0) a j).2), .int (nI 2)]) (rest := []) ⟨hx, hb, hml, hown, hts⟩ (k_Bytes_addNumber l G b r 35 h L hh hl35 (by decide) (ck (pkN (nI fst) (fun y => fl.getD y 0) a j).2) 2 (by decide) (by omega)) (cwV 2 hts gX3_pack_X1_addNumber rfl rfl rfl (by decide +kernel) ⟨Nat.le_of_ble_eq_true rfl, Nat.le_of_ble_eq_true rfl⟩) hB (q0 := 0) (ci := 0) rfl rfl rfl rfl hl.1 rfl (Nat.le_of_ble_eq_true rfl) dX3_pack_216 ⟨Nat.le_of_ble_eq_true rfl, Nat.le_of_ble_eq_true rfl⟩ (fun u H locs hw hB => ?_)
    obtain ⟨f_10, q_10, rfl⟩ := hw
    have hB : gB G.1 (rT G) A s H locs [(ca, .inr (0, [.ref da, .int (nI fl.length)])), (da, .inl (G.2.2.2.1, kz, .inl g)), (fa, .inr (2, [.ref b, .int (nI (sd + 1))])), (b, .inr (0, [.ref r, .int (nI (L.length + 2))])), (r, .inl (G.2.2.2.1, 35, .inl f_10))] := hB
    obtain ⟨L_10, eL_10⟩ : ∃ L9 : List Int32, L9 = L ++ bN (ck (pkN (nI fst) (fun y => fl.getD y 0) a j).2) 2 := ⟨_, rfl⟩
    have hL_10 : pfx f_10 L_10 := by rw [eL_10]; exact q_10
    have nL_10 : L_10.length = L.length + 2 := by rw [eL_10]; rw [List.length_append, bN_len]
    have lL_10 : L_10.length ≤ 35 := by omega
    have bL_10 : ∀ x ∈ L_10, isB x := by rw [eL_10]; exact isB_app pB (bN_B _ _)
    have hB : gB G.1 (rT G) A s H locs [(ca, .inr (0, [.ref da, .int (nI fl.length)])), (da, .inl (G.2.2.2.1, kz, .inl g)), (fa, .inr (2, [.ref b, .int (nI (sd + 1))])), (b, .inr (0, [.ref r, .int (nI L_10.length)])), (r, .inl (G.2.2.2.1, 35, .inl f_10))] := by rw [nL_10]; exact hB
    have efr : L_10 = (frm sd (nI fst) (sub fl a n)) := by
      have e1 : (pkN (nI fst) (fun y => fl.getD y 0) a j) = pkN (nI fst) (fun i => (sub fl a n).getD i 0) 0 n := by rw [hj9]; exact pkN_ext (fun i hi => by rw [Nat.zero_add, sub, seg_getD _ _ _ _ hi])
      rw [eL_10, hL, bN_ck, frm, sub_len, ← e1]
    exact g_vret (Wd := fun u => bW G ca da kz u.1 ++ fW G fa b r 35 u.2) ((nI fl.length, g), (nI (sd + 1), nI L_10.length, f_10)) hB hx hb hr hlocks rfl ⟨_, by rw [← efr]; exact hL_10, by rw [← efr]; exact lL_10, by rw [efr]⟩ dX3_pack_219
  · have c_2 : ¬ n ≤ j := fun h9 => c_2 ((nI_leI (a := n) (b := j) (by omega) (by omega)).mpr h9)
    refine lv_aload_n hx hb dX3_pack_126 rfl (lv_at hl 2 rfl) ?_
    refine g_get (own := RX3) (C := RX3) (T := TX3) (N := 2) (ci := 2) (v := .ref b) hx hb hts (fun _ h => List.mem_cons_of_mem _ (List.mem_append_left _ (List.mem_append_right _ h))) hown hB 2 rfl rfl 0 (by decide) (hts (.fieldLink RX3 16 "PointReports$Frame" "bytes" "LPointReports$Bytes;") (by decide +kernel)) rfl rfl dX3_pack_127 ?_
    refine g_calliA (wr := [(ca, .inr (0, [.ref da, .int (nI fl.length)])), (da, .inl (G.2.2.2.1, kz, .inl g)), (fa, .inr (2, [.ref b, .int (nI (sd + 1))]))]) (wc := [(b, .inr (0, [.ref r, .int (nI L.length)])), (r, .inl (G.2.2.2.1, 35, .inl h))]) (av := []) (rest := []) ⟨hx, hb, hml, hown, hts⟩ (k_Bytes_size l G b r 35 h L hh hl35 (by decide)) (cwV 0 hts gX3_pack_X1_size rfl rfl rfl (by decide +kernel) ⟨Nat.le_of_ble_eq_true rfl, Nat.le_of_ble_eq_true rfl⟩) hB (q0 := 0) (ci := 0) rfl rfl rfl rfl hl.1 rfl (Nat.le_of_ble_eq_true rfl) dX3_pack_130 ⟨Nat.le_of_ble_eq_true rfl, Nat.le_of_ble_eq_true rfl⟩ (fun r9 u H locs hw hB => ?_)
    obtain ⟨rfl, rfl⟩ := hw
    have hB : gB G.1 (rT G) A s H locs [(ca, .inr (0, [.ref da, .int (nI fl.length)])), (da, .inl (G.2.2.2.1, kz, .inl g)), (fa, .inr (2, [.ref b, .int (nI (sd + 1))])), (b, .inr (0, [.ref r, .int (nI L.length)])), (r, .inl (G.2.2.2.1, 35, .inl h))] := hB
    refine lv_iload hx hb dX3_pack_133 (lv_at hl 1 rfl) ?_
    refine lv_isub hx hb dX3_pack_135 ?_
    refine g_top (y := nI cu) ((pk_sub (by omega)).trans (congrArg nI (by omega))) ?_
    refine lv_bipush (v := nI 16) hx hb dX3_pack_136 (by decide) ?_
    refine lv_icmp_ne (tgt := 169) hx hb dX3_pack_138 (by decide) (fun c_3 => ?_) (fun c_3 => ?_)
    · have c_3 : ¬ cu = 16 := fun h9 => c_3 ((nI_eq (a := cu) (b := 16) (by omega) (by omega)).mpr h9)
      refine lv_aload_n hx hb dX3_pack_169 rfl (lv_at hl 2 rfl) ?_
      refine g_get (own := RX3) (C := RX3) (T := TX3) (N := 2) (ci := 2) (v := .ref b) hx hb hts (fun _ h => List.mem_cons_of_mem _ (List.mem_append_left _ (List.mem_append_right _ h))) hown hB 2 rfl rfl 0 (by decide) (hts (.fieldLink RX3 16 "PointReports$Frame" "bytes" "LPointReports$Bytes;") (by decide +kernel)) rfl rfl dX3_pack_170 ?_
      refine lv_aload_n hx hb dX3_pack_173 rfl (lv_at hl 5 rfl) ?_
      refine lv_iload hx hb dX3_pack_174 (lv_at hl 6 rfl) ?_
      refine lv_iload hx hb dX3_pack_176 (lv_at hl 0 rfl) ?_
      refine lv_iadd hx hb dX3_pack_178 ?_
      refine g_top (y := nI (a + j)) (nI_add _ _) ?_
      have hB : gB G.1 (rT G) A s H locs [(fa, .inr (2, [.ref b, .int (nI (sd + 1))])), (b, .inr (0, [.ref r, .int (nI L.length)])), (r, .inl (G.2.2.2.1, 35, .inl h)), (ca, .inr (0, [.ref da, .int (nI fl.length)])), (da, .inl (G.2.2.2.1, kz, .inl g))] := hB.order [2, 3, 4, 0, 1] (by decide) rfl rfl
      refine g_calliA (wr := [(fa, .inr (2, [.ref b, .int (nI (sd + 1))])), (b, .inr (0, [.ref r, .int (nI L.length)])), (r, .inl (G.2.2.2.1, 35, .inl h))]) (wc := [(ca, .inr (0, [.ref da, .int (nI fl.length)])), (da, .inl (G.2.2.2.1, kz, .inl g))]) (av := [.int (nI (a + j))]) (rest := [.ref b]) ⟨hx, hb, hml, hown, hts⟩ (k_Bytes_get l G ca da kz g fl hq hqn hk9 (nI (a + j))) (cwV 1 hts gX3_pack_X1_get rfl rfl rfl (by decide +kernel) ⟨Nat.le_of_ble_eq_true rfl, Nat.le_of_ble_eq_true rfl⟩) hB (q0 := 0) (ci := 0) rfl rfl rfl rfl hl.1 rfl (Nat.le_of_ble_eq_true rfl) dX3_pack_179 ⟨Nat.le_of_ble_eq_true rfl, Nat.le_of_ble_eq_true rfl⟩ (fun r9 u H locs hw hB => ?_)
      obtain ⟨er, rfl⟩ := hw
      have hB : gB G.1 (rT G) A s H locs [(fa, .inr (2, [.ref b, .int (nI (sd + 1))])), (b, .inr (0, [.ref r, .int (nI L.length)])), (r, .inl (G.2.2.2.1, 35, .inl h)), (ca, .inr (0, [.ref da, .int (nI fl.length)])), (da, .inl (G.2.2.2.1, kz, .inl g))] := hB
      have hlt9 : a + j < fl.length := by omega
      have er : r9 = nI (bq fl (a + j)) := er.trans (get_in hFB hlt9 (by omega))
      have g_4 : bq fl (a + j) < 256 := (bq_at hFB hlt9).2
      subst er
      have hB : gB G.1 (rT G) A s H locs [(fa, .inr (2, [.ref b, .int (nI (sd + 1))])), (ca, .inr (0, [.ref da, .int (nI fl.length)])), (da, .inl (G.2.2.2.1, kz, .inl g)), (b, .inr (0, [.ref r, .int (nI L.length)])), (r, .inl (G.2.2.2.1, 35, .inl h))] := hB.order [0, 3, 4, 1, 2] (by decide) rfl rfl
      refine g_calliA (wr := [(fa, .inr (2, [.ref b, .int (nI (sd + 1))])), (ca, .inr (0, [.ref da, .int (nI fl.length)])), (da, .inl (G.2.2.2.1, kz, .inl g))]) (wc := [(b, .inr (0, [.ref r, .int (nI L.length)])), (r, .inl (G.2.2.2.1, 35, .inl h))]) (av := [.int (nI (bq fl (a + j)))]) (rest := []) ⟨hx, hb, hml, hown, hts⟩ (k_Bytes_add l G b r 35 h L hh hl35 (by decide) (nI (bq fl (a + j)))) (cwV 1 hts gX3_pack_X1_add rfl rfl rfl (by decide +kernel) ⟨Nat.le_of_ble_eq_true rfl, Nat.le_of_ble_eq_true rfl⟩) hB (q0 := 0) (ci := 0) rfl rfl rfl rfl hl.1 rfl (Nat.le_of_ble_eq_true rfl) dX3_pack_182 ⟨Nat.le_of_ble_eq_true rfl, Nat.le_of_ble_eq_true rfl⟩ (fun r9 u H locs hw hB => ?_)
      have hpo := hw
      have hB : gB G.1 (rT G) A s H locs [(fa, .inr (2, [.ref b, .int (nI (sd + 1))])), (ca, .inr (0, [.ref da, .int (nI fl.length)])), (da, .inl (G.2.2.2.1, kz, .inl g)), (b, .inr (0, [.ref r, .int u.1])), (r, .inl (G.2.2.2.1, 35, .inl u.2))] := hB
      rw [if_pos (show L.length < 35 from by omega)] at hpo
      obtain ⟨-, f_11, q_11, rfl⟩ := hpo
      obtain ⟨L_11, eL_11⟩ : ∃ L9 : List Int32, L9 = L ++ [(nI (bq fl (a + j))) &&& 255] := ⟨_, rfl⟩
      have hL_11 : pfx f_11 L_11 := by rw [eL_11]; exact q_11
      have nL_11 : L_11.length = L.length + 1 := by rw [eL_11]; rw [List.length_append]; rfl
      have lL_11 : L_11.length ≤ 35 := by omega
      have bL_11 : ∀ x ∈ L_11, isB x := by rw [eL_11]; exact isB_app pB (fun x h => by rw [List.mem_singleton.mp h]; exact isB_and _)
      have hB : gB G.1 (rT G) A s H locs [(fa, .inr (2, [.ref b, .int (nI (sd + 1))])), (ca, .inr (0, [.ref da, .int (nI fl.length)])), (da, .inl (G.2.2.2.1, kz, .inl g)), (b, .inr (0, [.ref r, .int (nI L_11.length)])), (r, .inl (G.2.2.2.1, 35, .inl f_11))] := by rw [nL_11]; exact hB
      refine lv_pop hx hb dX3_pack_185 rfl ?_
      refine lv_iinc (v := nI (j + 1)) (lv' := [(7, .int (nI (j + 1))), (6, .int (nI blk)), (0, .ref fa), (1, .int (nI (sd + 1))), (2, .int (nI fst)), (3, .ref ca), (4, .int (nI a)), (5, .int (nI n))]) hx hb dX3_pack_186 hl (k := 0) rfl (nI_add _ _) (by decide) rfl (fun ls hl => ?_)
      refine lv_goto (tgt := 119) hx hb dX3_pack_189 (by decide) ?_
      have e2 : (pkN (nI fst) (fun y => fl.getD y 0) a (j + 1)) = ((pkN (nI fst) (fun y => fl.getD y 0) a j).1 ++ [fl.getD (a + j) 0 &&& 255], (pkN (nI fst) (fun y => fl.getD y 0) a j).2 ++ [fl.getD (a + j) 0 &&& 255]) := by rw [pkN, if_neg (by rw [← ecu]; exact c_3)]
      have hB : gB G.1 (rT G) A s H locs [(ca, .inr (0, [.ref da, .int (nI fl.length)])), (da, .inl (G.2.2.2.1, kz, .inl g)), (fa, .inr (2, [.ref b, .int (nI (sd + 1))])), (b, .inr (0, [.ref r, .int (nI L_11.length)])), (r, .inl (G.2.2.2.1, 35, .inl f_11))] := hB.order [1, 2, 0, 3, 4] (by decide) rfl rfl
      have hl : lv_has ls 8 [(7, .int (nI (j + 1))), (6, .int (nI blk)), (0, .ref fa), (1, .int (nI (sd + 1))), (2, .int (nI fst)), (3, .ref ca), (4, .int (nI a)), (5, .int (nI n))] := lv_sub hl [0, 1, 2, 3, 4, 5, 6, 7] rfl
      have hB : gB G.1 (rT G) A s H locs [(ca, .inr (0, [.ref da, .int (nI fl.length)])), (da, .inl (G.2.2.2.1, kz, .inl g)), (fa, .inr (2, [.ref b, .int (nI (sd + 1))])), (b, .inr (0, [.ref r, .int (nI L_11.length)])), (r, .inl (G.2.2.2.1, 35, .inl f_11))] := hB
      have b_5 : (j + 1) + (d - 1) = n := by omega
      have b_6 : pfx f_11 L_11 := hL_11
      have b_7 : L_11 = hdF sd n ++ ck2 (hdF sd n) ++ (pkN (nI fst) (fun y => fl.getD y 0) a (j + 1)).1 := by rw [e2, eL_11, hL, List.append_assoc, (bq_at hFB (show a + j < fl.length by omega)).1]
      have b_8 : blk + (pkN (nI fst) (fun y => fl.getD y 0) a (j + 1)).2.length = L_11.length := by rw [e2]; show blk + ((pkN (nI fst) (fun y => fl.getD y 0) a j).2 ++ [_]).length = _; rw [List.length_append, ← ecu]; show blk + (cu + 1) = _; omega
      exact ih_1 (d - 1) (j + 1, f_11, L_11, blk) H locs ls (by omega) ⟨b_5, b_6, b_7, b_8, hB, hl⟩
    · have c_3 : cu = 16 := (nI_eq (a := cu) (b := 16) (by omega) (by omega)).mp c_3
      refine lv_aload_n hx hb dX3_pack_141 rfl (lv_at hl 2 rfl) ?_
      refine g_get (own := RX3) (C := RX3) (T := TX3) (N := 2) (ci := 2) (v := .ref b) hx hb hts (fun _ h => List.mem_cons_of_mem _ (List.mem_append_left _ (List.mem_append_right _ h))) hown hB 2 rfl rfl 0 (by decide) (hts (.fieldLink RX3 16 "PointReports$Frame" "bytes" "LPointReports$Bytes;") (by decide +kernel)) rfl rfl dX3_pack_142 ?_
      refine lv_aload_n hx hb dX3_pack_145 rfl (lv_at hl 2 rfl) ?_
      refine g_get (own := RX3) (C := RX3) (T := TX3) (N := 2) (ci := 2) (v := .ref b) hx hb hts (fun _ h => List.mem_cons_of_mem _ (List.mem_append_left _ (List.mem_append_right _ h))) hown hB 2 rfl rfl 0 (by decide) (hts (.fieldLink RX3 16 "PointReports$Frame" "bytes" "LPointReports$Bytes;") (by decide +kernel)) rfl rfl dX3_pack_146 ?_
      refine lv_iload hx hb dX3_pack_149 (lv_at hl 1 rfl) ?_
      refine lv_bipush (v := nI 16) hx hb dX3_pack_151 (by decide) ?_
      refine g_calliA (wr := [(ca, .inr (0, [.ref da, .int (nI fl.length)])), (da, .inl (G.2.2.2.1, kz, .inl g)), (fa, .inr (2, [.ref b, .int (nI (sd + 1))]))]) (wc := [(b, .inr (0, [.ref r, .int (nI L.length)])), (r, .inl (G.2.2.2.1, 35, .inl h))]) (av := [.int (nI blk), .int (nI 16)]) (rest := [.ref b]) ⟨hx, hb, hml, hown, hts⟩ (k_Bytes_check l G b r 35 h L hh hl35 (by decide) pB blk 16 (by omega)) (cwV 2 hts gX3_pack_X1_check rfl rfl rfl (by decide +kernel) ⟨Nat.le_of_ble_eq_true rfl, Nat.le_of_ble_eq_true rfl⟩) hB (q0 := 0) (ci := 0) rfl rfl rfl rfl hl.1 rfl (Nat.le_of_ble_eq_true rfl) dX3_pack_153 ⟨Nat.le_of_ble_eq_true rfl, Nat.le_of_ble_eq_true rfl⟩ (fun r9 u H locs hw hB => ?_)
      obtain ⟨rfl, rfl⟩ := hw
      have hB : gB G.1 (rT G) A s H locs [(ca, .inr (0, [.ref da, .int (nI fl.length)])), (da, .inl (G.2.2.2.1, kz, .inl g)), (fa, .inr (2, [.ref b, .int (nI (sd + 1))])), (b, .inr (0, [.ref r, .int (nI L.length)])), (r, .inl (G.2.2.2.1, 35, .inl h))] := hB
      refine g_top (y := ck (pkN (nI fst) (fun y => fl.getD y 0) a j).2) (by rw [show (16 : Nat) = cu from c_3.symm, pS]) ?_
      refine lv_iconst (v := nI 2) hx hb dX3_pack_156 (by decide) ?_
      refine g_callvA (wr := [(ca, .inr (0, [.ref da, .int (nI fl.length)])), (da, .inl (G.2.2.2.1, kz, .inl g)), (fa, .inr (2, [.ref b, .int (nI (sd + 1))]))]) (wc := [(b, .inr (0, [.ref r, .int (nI L.length)])), (r, .inl (G.2.2.2.1, 35, .inl h))]) (av := [.int (ck (pkN (nI fst) (fun y => fl.getD y 0) a j).2), .int (nI 2)]) (rest := []) ⟨hx, hb, hml, hown, hts⟩ (k_Bytes_addNumber l G b r 35 h L hh hl35 (by decide) (ck (pkN (nI fst) (fun y => fl.getD y 0) a j).2) 2 (by decide) (by omega)) (cwV 2 hts gX3_pack_X1_addNumber rfl rfl rfl (by decide +kernel) ⟨Nat.le_of_ble_eq_true rfl, Nat.le_of_ble_eq_true rfl⟩) hB (q0 := 0) (ci := 0) rfl rfl rfl rfl hl.1 rfl (Nat.le_of_ble_eq_true rfl) dX3_pack_157 ⟨Nat.le_of_ble_eq_true rfl, Nat.le_of_ble_eq_true rfl⟩ (fun u H locs hw hB => ?_)
      obtain ⟨f_12, q_12, rfl⟩ := hw
      have hB : gB G.1 (rT G) A s H locs [(ca, .inr (0, [.ref da, .int (nI fl.length)])), (da, .inl (G.2.2.2.1, kz, .inl g)), (fa, .inr (2, [.ref b, .int (nI (sd + 1))])), (b, .inr (0, [.ref r, .int (nI (L.length + 2))])), (r, .inl (G.2.2.2.1, 35, .inl f_12))] := hB
      obtain ⟨L_12, eL_12⟩ : ∃ L9 : List Int32, L9 = L ++ bN (ck (pkN (nI fst) (fun y => fl.getD y 0) a j).2) 2 := ⟨_, rfl⟩
      have hL_12 : pfx f_12 L_12 := by rw [eL_12]; exact q_12
      have nL_12 : L_12.length = L.length + 2 := by rw [eL_12]; rw [List.length_append, bN_len]
      have lL_12 : L_12.length ≤ 35 := by omega
      have bL_12 : ∀ x ∈ L_12, isB x := by rw [eL_12]; exact isB_app pB (bN_B _ _)
      have hB : gB G.1 (rT G) A s H locs [(ca, .inr (0, [.ref da, .int (nI fl.length)])), (da, .inl (G.2.2.2.1, kz, .inl g)), (fa, .inr (2, [.ref b, .int (nI (sd + 1))])), (b, .inr (0, [.ref r, .int (nI L_12.length)])), (r, .inl (G.2.2.2.1, 35, .inl f_12))] := by rw [nL_12]; exact hB
      refine lv_aload_n hx hb dX3_pack_160 rfl (lv_at hl 2 rfl) ?_
      refine g_get (own := RX3) (C := RX3) (T := TX3) (N := 2) (ci := 2) (v := .ref b) hx hb hts (fun _ h => List.mem_cons_of_mem _ (List.mem_append_left _ (List.mem_append_right _ h))) hown hB 2 rfl rfl 0 (by decide) (hts (.fieldLink RX3 16 "PointReports$Frame" "bytes" "LPointReports$Bytes;") (by decide +kernel)) rfl rfl dX3_pack_161 ?_
      refine g_calliA (wr := [(ca, .inr (0, [.ref da, .int (nI fl.length)])), (da, .inl (G.2.2.2.1, kz, .inl g)), (fa, .inr (2, [.ref b, .int (nI (sd + 1))]))]) (wc := [(b, .inr (0, [.ref r, .int (nI L_12.length)])), (r, .inl (G.2.2.2.1, 35, .inl f_12))]) (av := []) (rest := []) ⟨hx, hb, hml, hown, hts⟩ (k_Bytes_size l G b r 35 f_12 L_12 hL_12 lL_12 (by decide)) (cwV 0 hts gX3_pack_X1_size rfl rfl rfl (by decide +kernel) ⟨Nat.le_of_ble_eq_true rfl, Nat.le_of_ble_eq_true rfl⟩) hB (q0 := 0) (ci := 0) rfl rfl rfl rfl hl.1 rfl (Nat.le_of_ble_eq_true rfl) dX3_pack_164 ⟨Nat.le_of_ble_eq_true rfl, Nat.le_of_ble_eq_true rfl⟩ (fun r9 u H locs hw hB => ?_)
      obtain ⟨rfl, rfl⟩ := hw
      have hB : gB G.1 (rT G) A s H locs [(ca, .inr (0, [.ref da, .int (nI fl.length)])), (da, .inl (G.2.2.2.1, kz, .inl g)), (fa, .inr (2, [.ref b, .int (nI (sd + 1))])), (b, .inr (0, [.ref r, .int (nI L_12.length)])), (r, .inl (G.2.2.2.1, 35, .inl f_12))] := hB
      refine lv_istore (lv' := [(6, .int (nI L_12.length)), (7, .int (nI j)), (0, .ref fa), (1, .int (nI (sd + 1))), (2, .int (nI fst)), (3, .ref ca), (4, .int (nI a)), (5, .int (nI n))]) hx hb dX3_pack_167 hl (by decide) rfl (fun ls hl => ?_)
      refine lv_aload_n hx hb dX3_pack_169 rfl (lv_at hl 2 rfl) ?_
      refine g_get (own := RX3) (C := RX3) (T := TX3) (N := 2) (ci := 2) (v := .ref b) hx hb hts (fun _ h => List.mem_cons_of_mem _ (List.mem_append_left _ (List.mem_append_right _ h))) hown hB 2 rfl rfl 0 (by decide) (hts (.fieldLink RX3 16 "PointReports$Frame" "bytes" "LPointReports$Bytes;") (by decide +kernel)) rfl rfl dX3_pack_170 ?_
      refine lv_aload_n hx hb dX3_pack_173 rfl (lv_at hl 5 rfl) ?_
      refine lv_iload hx hb dX3_pack_174 (lv_at hl 6 rfl) ?_
      refine lv_iload hx hb dX3_pack_176 (lv_at hl 1 rfl) ?_
      refine lv_iadd hx hb dX3_pack_178 ?_
      refine g_top (y := nI (a + j)) (nI_add _ _) ?_
      have hB : gB G.1 (rT G) A s H locs [(fa, .inr (2, [.ref b, .int (nI (sd + 1))])), (b, .inr (0, [.ref r, .int (nI L_12.length)])), (r, .inl (G.2.2.2.1, 35, .inl f_12)), (ca, .inr (0, [.ref da, .int (nI fl.length)])), (da, .inl (G.2.2.2.1, kz, .inl g))] := hB.order [2, 3, 4, 0, 1] (by decide) rfl rfl
      refine g_calliA (wr := [(fa, .inr (2, [.ref b, .int (nI (sd + 1))])), (b, .inr (0, [.ref r, .int (nI L_12.length)])), (r, .inl (G.2.2.2.1, 35, .inl f_12))]) (wc := [(ca, .inr (0, [.ref da, .int (nI fl.length)])), (da, .inl (G.2.2.2.1, kz, .inl g))]) (av := [.int (nI (a + j))]) (rest := [.ref b]) ⟨hx, hb, hml, hown, hts⟩ (k_Bytes_get l G ca da kz g fl hq hqn hk9 (nI (a + j))) (cwV 1 hts gX3_pack_X1_get rfl rfl rfl (by decide +kernel) ⟨Nat.le_of_ble_eq_true rfl, Nat.le_of_ble_eq_true rfl⟩) hB (q0 := 0) (ci := 0) rfl rfl rfl rfl hl.1 rfl (Nat.le_of_ble_eq_true rfl) dX3_pack_179 ⟨Nat.le_of_ble_eq_true rfl, Nat.le_of_ble_eq_true rfl⟩ (fun r9 u H locs hw hB => ?_)
      obtain ⟨er, rfl⟩ := hw
      have hB : gB G.1 (rT G) A s H locs [(fa, .inr (2, [.ref b, .int (nI (sd + 1))])), (b, .inr (0, [.ref r, .int (nI L_12.length)])), (r, .inl (G.2.2.2.1, 35, .inl f_12)), (ca, .inr (0, [.ref da, .int (nI fl.length)])), (da, .inl (G.2.2.2.1, kz, .inl g))] := hB
      have hlt9 : a + j < fl.length := by omega
      have er : r9 = nI (bq fl (a + j)) := er.trans (get_in hFB hlt9 (by omega))
      have g_9 : bq fl (a + j) < 256 := (bq_at hFB hlt9).2
      subst er
      have hB : gB G.1 (rT G) A s H locs [(fa, .inr (2, [.ref b, .int (nI (sd + 1))])), (ca, .inr (0, [.ref da, .int (nI fl.length)])), (da, .inl (G.2.2.2.1, kz, .inl g)), (b, .inr (0, [.ref r, .int (nI L_12.length)])), (r, .inl (G.2.2.2.1, 35, .inl f_12))] := hB.order [0, 3, 4, 1, 2] (by decide) rfl rfl
      refine g_calliA (wr := [(fa, .inr (2, [.ref b, .int (nI (sd + 1))])), (ca, .inr (0, [.ref da, .int (nI fl.length)])), (da, .inl (G.2.2.2.1, kz, .inl g))]) (wc := [(b, .inr (0, [.ref r, .int (nI L_12.length)])), (r, .inl (G.2.2.2.1, 35, .inl f_12))]) (av := [.int (nI (bq fl (a + j)))]) (rest := []) ⟨hx, hb, hml, hown, hts⟩ (k_Bytes_add l G b r 35 f_12 L_12 hL_12 lL_12 (by decide) (nI (bq fl (a + j)))) (cwV 1 hts gX3_pack_X1_add rfl rfl rfl (by decide +kernel) ⟨Nat.le_of_ble_eq_true rfl, Nat.le_of_ble_eq_true rfl⟩) hB (q0 := 0) (ci := 0) rfl rfl rfl rfl hl.1 rfl (Nat.le_of_ble_eq_true rfl) dX3_pack_182 ⟨Nat.le_of_ble_eq_true rfl, Nat.le_of_ble_eq_true rfl⟩ (fun r9 u H locs hw hB => ?_)
      have hpo := hw
      have hB : gB G.1 (rT G) A s H locs [(fa, .inr (2, [.ref b, .int (nI (sd + 1))])), (ca, .inr (0, [.ref da, .int (nI fl.length)])), (da, .inl (G.2.2.2.1, kz, .inl g)), (b, .inr (0, [.ref r, .int u.1])), (r, .inl (G.2.2.2.1, 35, .inl u.2))] := hB
      rw [if_pos (show L_12.length < 35 from by omega)] at hpo
      obtain ⟨-, f_13, q_13, rfl⟩ := hpo
      obtain ⟨L_13, eL_13⟩ : ∃ L9 : List Int32, L9 = L_12 ++ [(nI (bq fl (a + j))) &&& 255] := ⟨_, rfl⟩
      have hL_13 : pfx f_13 L_13 := by rw [eL_13]; exact q_13
      have nL_13 : L_13.length = L_12.length + 1 := by rw [eL_13]; rw [List.length_append]; rfl
      have lL_13 : L_13.length ≤ 35 := by omega
      have bL_13 : ∀ x ∈ L_13, isB x := by rw [eL_13]; exact isB_app bL_12 (fun x h => by rw [List.mem_singleton.mp h]; exact isB_and _)
      have hB : gB G.1 (rT G) A s H locs [(fa, .inr (2, [.ref b, .int (nI (sd + 1))])), (ca, .inr (0, [.ref da, .int (nI fl.length)])), (da, .inl (G.2.2.2.1, kz, .inl g)), (b, .inr (0, [.ref r, .int (nI L_13.length)])), (r, .inl (G.2.2.2.1, 35, .inl f_13))] := by rw [nL_13]; exact hB
      refine lv_pop hx hb dX3_pack_185 rfl ?_
      refine lv_iinc (v := nI (j + 1)) (lv' := [(7, .int (nI (j + 1))), (6, .int (nI L_12.length)), (0, .ref fa), (1, .int (nI (sd + 1))), (2, .int (nI fst)), (3, .ref ca), (4, .int (nI a)), (5, .int (nI n))]) hx hb dX3_pack_186 hl (k := 1) rfl (nI_add _ _) (by decide) rfl (fun ls hl => ?_)
      refine lv_goto (tgt := 119) hx hb dX3_pack_189 (by decide) ?_
      have e2 : (pkN (nI fst) (fun y => fl.getD y 0) a (j + 1)) = ((pkN (nI fst) (fun y => fl.getD y 0) a j).1 ++ ck2 (pkN (nI fst) (fun y => fl.getD y 0) a j).2 ++ [fl.getD (a + j) 0 &&& 255], [fl.getD (a + j) 0 &&& 255]) := by rw [pkN, if_pos (by rw [← ecu]; exact c_3)]
      have hB : gB G.1 (rT G) A s H locs [(ca, .inr (0, [.ref da, .int (nI fl.length)])), (da, .inl (G.2.2.2.1, kz, .inl g)), (fa, .inr (2, [.ref b, .int (nI (sd + 1))])), (b, .inr (0, [.ref r, .int (nI L_13.length)])), (r, .inl (G.2.2.2.1, 35, .inl f_13))] := hB.order [1, 2, 0, 3, 4] (by decide) rfl rfl
      have hl : lv_has ls 8 [(7, .int (nI (j + 1))), (6, .int (nI L_12.length)), (0, .ref fa), (1, .int (nI (sd + 1))), (2, .int (nI fst)), (3, .ref ca), (4, .int (nI a)), (5, .int (nI n))] := lv_sub hl [0, 1, 2, 3, 4, 5, 6, 7] rfl
      have hB : gB G.1 (rT G) A s H locs [(ca, .inr (0, [.ref da, .int (nI fl.length)])), (da, .inl (G.2.2.2.1, kz, .inl g)), (fa, .inr (2, [.ref b, .int (nI (sd + 1))])), (b, .inr (0, [.ref r, .int (nI L_13.length)])), (r, .inl (G.2.2.2.1, 35, .inl f_13))] := hB
      have b_10 : (j + 1) + (d - 1) = n := by omega
      have b_11 : pfx f_13 L_13 := hL_13
      have b_12 : L_13 = hdF sd n ++ ck2 (hdF sd n) ++ (pkN (nI fst) (fun y => fl.getD y 0) a (j + 1)).1 := by rw [e2, eL_13, eL_12, hL, bN_ck, (bq_at hFB (show a + j < fl.length by omega)).1]; simp only [List.append_assoc]
      have b_13 : L_12.length + (pkN (nI fst) (fun y => fl.getD y 0) a (j + 1)).2.length = L_13.length := by rw [e2]; exact nL_13.symm
      exact ih_1 (d - 1) (j + 1, f_13, L_13, L_12.length) H locs ls (by omega) ⟨b_10, b_11, b_12, b_13, hB, hl⟩
