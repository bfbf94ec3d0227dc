/-! PointReports$Asked, PointReports$Group, PointReports$Frame -/
def fW (G : rG) (fa b r n : Nat) (u : Int32 × Int32 × (Nat → Int32)) : va_W := [(fa, .inr (2, [.ref b, .int u.1])), (b, .inr (0, [.ref r, .int u.2.1])), (r, .inl (G.2.2.2.1, n, .inl u.2.2))]
set_option maxRecDepth 100000 in
set_option maxHeartbeats 4000000 in
theorem k_Asked_put (l : Launch) (G : rG) (b r n : Nat) (f : Nat → Int32) (bl : List Int32) (hp : pfx f bl) (hbn : bl.length ≤ n) (hn : n < 1000000) (v : Nat) (hv : v < 256) (hroom : bl.length + 3 ≤ n) : gM l G.1 (rT G) yX0_put wsX0_put { frames := 1, cells := 0, slots := 0, locals := 21 } [.ref b, .int (nI v)] [(b, .inr (0, [.ref r, .int (nI bl.length)])), (r, .inl (G.2.2.2.1, n, .inl f))] (gQv G.1 (rT G) (fun u : Int32 × (Nat → Int32) => ∃ f2, pfx f2 (bl ++ [nI 60 &&& 255, nI v &&& 255, nI 6 &&& 255]) ∧ u = (nI (bl.length + 3), f2)) (bW G b r n)) 0 0 := by
  refine gM.of (cc := cX0_put) (maxL := 2) (ret := none) (by decide) rfl (Nat.le_of_ble_eq_true rfl) ?_
  intro p e s m below meth c A ls hx hb hr hml hown hts hlocks hnm hB hl
  have hl : lv_has ls 2 [(0, .ref b), (1, .int (nI v))] := hl
  refine lv_aload_n hx hb dX0_put_0 rfl (lv_at hl 0 rfl) ?_
  refine lv_bipush (v := nI 60) hx hb dX0_put_1 (by decide) ?_
  have l0 : (bl).length = bl.length + 0 := rfl
  refine g_calliA (wr := []) (wc := [(b, .inr (0, [.ref r, .int (nI bl.length)])), (r, .inl (G.2.2.2.1, n, .inl f))]) (av := [.int (nI 60)]) (rest := []) ⟨hx, hb, hml, hown, hts⟩ (k_Bytes_add l G b r n f (bl) hp (by rw [l0]; omega) hn (nI 60)) (cwV 1 hts gX0_put_X1_add rfl rfl rfl (by decide +kernel) ⟨Nat.le_of_ble_eq_true rfl, Nat.le_of_ble_eq_true rfl⟩) hB (q0 := 0) (ci := 0) rfl rfl rfl rfl hl.1 rfl (Nat.le_of_ble_eq_true rfl) dX0_put_3 ⟨Nat.le_of_ble_eq_true rfl, Nat.le_of_ble_eq_true rfl⟩ (fun r9 u H locs hw hB => ?_)
  have hpo := hw
  have hB : gB G.1 (rT G) A s H locs [(b, .inr (0, [.ref r, .int u.1])), (r, .inl (G.2.2.2.1, n, .inl u.2))] := hB
  rw [if_pos (by rw [l0]; omega)] at hpo
  obtain ⟨-, k1, hk1, rfl⟩ := hpo
  have hB : gB G.1 (rT G) A s H locs [(b, .inr (0, [.ref r, .int (nI (bl.length + 1))])), (r, .inl (G.2.2.2.1, n, .inl k1))] := by exact hB
  refine lv_pop hx hb dX0_put_6 rfl ?_
  refine lv_aload_n hx hb dX0_put_7 rfl (lv_at hl 0 rfl) ?_
  refine lv_iload_n hx hb dX0_put_8 rfl (lv_at hl 1 rfl) ?_
  have hk1 : pfx k1 (bl ++ [nI 60 &&& 255]) := by simpa using hk1
  have l1 : (bl ++ [nI 60 &&& 255]).length = bl.length + 1 := by rw [List.length_append]; rfl
  have hB : gB G.1 (rT G) A s H locs [(b, .inr (0, [.ref r, .int (nI ((bl ++ [nI 60 &&& 255]).length))])), (r, .inl (G.2.2.2.1, n, .inl k1))] := by rw [l1]; exact hB
  refine g_calliA (wr := []) (wc := [(b, .inr (0, [.ref r, .int (nI ((bl ++ [nI 60 &&& 255]).length))])), (r, .inl (G.2.2.2.1, n, .inl k1))]) (av := [.int (nI v)]) (rest := []) ⟨hx, hb, hml, hown, hts⟩ (k_Bytes_add l G b r n k1 (bl ++ [nI 60 &&& 255]) hk1 (by rw [l1]; omega) hn (nI v)) (cwV 1 hts gX0_put_X1_add rfl rfl rfl (by decide +kernel) ⟨Nat.le_of_ble_eq_true rfl, Nat.le_of_ble_eq_true rfl⟩) hB (q0 := 0) (ci := 0) rfl rfl rfl rfl hl.1 rfl (Nat.le_of_ble_eq_true rfl) dX0_put_9 ⟨Nat.le_of_ble_eq_true rfl, Nat.le_of_ble_eq_true rfl⟩ (fun r9 u H locs hw hB => ?_)
  have hpo := hw
  have hB : gB G.1 (rT G) A s H locs [(b, .inr (0, [.ref r, .int u.1])), (r, .inl (G.2.2.2.1, n, .inl u.2))] := hB
  rw [if_pos (by rw [l1]; omega)] at hpo
  obtain ⟨-, k2, hk2, rfl⟩ := hpo
  have hB : gB G.1 (rT G) A s H locs [(b, .inr (0, [.ref r, .int (nI (bl.length + 2))])), (r, .inl (G.2.2.2.1, n, .inl k2))] := by rw [l1] at hB; exact hB
  refine lv_pop hx hb dX0_put_12 rfl ?_
  refine lv_aload_n hx hb dX0_put_13 rfl (lv_at hl 0 rfl) ?_
  refine lv_bipush (v := nI 6) hx hb dX0_put_14 (by decide) ?_
  have hk2 : pfx k2 (bl ++ [nI 60 &&& 255, nI v &&& 255]) := by simpa using hk2
  have l2 : (bl ++ [nI 60 &&& 255, nI v &&& 255]).length = bl.length + 2 := by rw [List.length_append]; rfl
  have hB : gB G.1 (rT G) A s H locs [(b, .inr (0, [.ref r, .int (nI ((bl ++ [nI 60 &&& 255, nI v &&& 255]).length))])), (r, .inl (G.2.2.2.1, n, .inl k2))] := by rw [l2]; exact hB
  refine g_calliA (wr := []) (wc := [(b, .inr (0, [.ref r, .int (nI ((bl ++ [nI 60 &&& 255, nI v &&& 255]).length))])), (r, .inl (G.2.2.2.1, n, .inl k2))]) (av := [.int (nI 6)]) (rest := []) ⟨hx, hb, hml, hown, hts⟩ (k_Bytes_add l G b r n k2 (bl ++ [nI 60 &&& 255, nI v &&& 255]) hk2 (by rw [l2]; omega) hn (nI 6)) (cwV 1 hts gX0_put_X1_add rfl rfl rfl (by decide +kernel) ⟨Nat.le_of_ble_eq_true rfl, Nat.le_of_ble_eq_true rfl⟩) hB (q0 := 0) (ci := 0) rfl rfl rfl rfl hl.1 rfl (Nat.le_of_ble_eq_true rfl) dX0_put_16 ⟨Nat.le_of_ble_eq_true rfl, Nat.le_of_ble_eq_true rfl⟩ (fun r9 u H locs hw hB => ?_)
  have hpo := hw
  have hB : gB G.1 (rT G) A s H locs [(b, .inr (0, [.ref r, .int u.1])), (r, .inl (G.2.2.2.1, n, .inl u.2))] := hB
  rw [if_pos (by rw [l2]; omega)] at hpo
  obtain ⟨-, k3, hk3, rfl⟩ := hpo
  have hB : gB G.1 (rT G) A s H locs [(b, .inr (0, [.ref r, .int (nI (bl.length + 3))])), (r, .inl (G.2.2.2.1, n, .inl k3))] := by rw [l2] at hB; exact hB
  refine lv_pop hx hb dX0_put_19 rfl ?_
  exact g_vret (Wd := bW G b r n) (nI (bl.length + 3), k3) hB hx hb hr hlocks rfl ⟨k3, by simpa using hk3, rfl⟩ dX0_put_20
set_option maxRecDepth 100000 in
set_option maxHeartbeats 4000000 in
theorem k_Group_isClass (l : Launch) (G : rG) (c0 : Int32) : gM l G.1 (rT G) yX4_isClass wsX4_isClass { frames := 0, cells := 0, slots := 0, locals := 0 } [.int c0] [] (gQi G.1 (rT G) (fun (r : Int32) (u : Unit) => (r = nI 1 ∧ ¬ c0 < nI 1 ∧ ¬ nI 3 < c0) ∨ (r = nI 0 ∧ (c0 < nI 1 ∨ nI 3 < c0))) (fun _ => [])) 0 0 := by
  refine gM.of (cc := cX4_isClass) (maxL := 1) (ret := (some .boolean)) (by decide) rfl (Nat.le_of_ble_eq_true rfl) ?_
  intro p e s m below meth c A ls hx hb hr hml hown hts hlocks hnm hB hl
  have hl : lv_has ls 1 [(0, .int c0)] := hl
  refine lv_iload_n hx hb dX4_isClass_0 rfl (lv_at hl 0 rfl) ?_
  refine lv_iconst (v := nI 1) hx hb dX4_isClass_1 (by decide) ?_
  refine lv_icmp_lt (tgt := 14) hx hb dX4_isClass_2 (by decide) (fun c_1 => ?_) (fun c_1 => ?_)
  · have c_1 := c_1
    refine lv_iconst (v := nI 0) hx hb dX4_isClass_14 (by decide) ?_
    exact g_zret (Wd := fun _ => []) (v := nI 0) () hB hx hb hr hlocks rfl (narrow_z (Or.inl rfl)) (Or.inr ⟨rfl, Or.inl c_1⟩) dX4_isClass_15
  · have c_1 := c_1
    refine lv_iload_n hx hb dX4_isClass_5 rfl (lv_at hl 0 rfl) ?_
    refine lv_iconst (v := nI 3) hx hb dX4_isClass_6 (by decide) ?_
    refine lv_icmp_gt (tgt := 14) hx hb dX4_isClass_7 (by decide) (fun c_2 => ?_) (fun c_2 => ?_)
    · have c_2 := c_2
      refine lv_iconst (v := nI 0) hx hb dX4_isClass_14 (by decide) ?_
      exact g_zret (Wd := fun _ => []) (v := nI 0) () hB hx hb hr hlocks rfl (narrow_z (Or.inl rfl)) (Or.inr ⟨rfl, Or.inr c_2⟩) dX4_isClass_15
    · have c_2 := c_2
      refine lv_iconst (v := nI 1) hx hb dX4_isClass_10 (by decide) ?_
      refine lv_goto (tgt := 15) hx hb dX4_isClass_11 (by decide) ?_
      exact g_zret (Wd := fun _ => []) (v := nI 1) () hB hx hb hr hlocks rfl (narrow_z (Or.inr rfl)) (Or.inl ⟨rfl, c_1, c_2⟩) dX4_isClass_15
set_option maxRecDepth 100000 in
set_option maxHeartbeats 4000000 in
theorem k_Frame_control (l : Launch) (G : rG) (fa : Nat) (sd : Nat) (hsd : sd ≤ 1) (b r n : Nat) (f : Nat → Int32) (bl : List Int32) (hp : pfx f bl) (hbn : bl.length ≤ n) (hn : n < 1000000) : gM l G.1 (rT G) yX3_control wsX3_control { frames := 0, cells := 0, slots := 0, locals := 0 } [.ref fa] [(fa, .inr (2, [.ref b, .int (nI (sd + 1))])), (b, .inr (0, [.ref r, .int (nI bl.length)])), (r, .inl (G.2.2.2.1, n, .inl f))] (gQi G.1 (rT G) (fun (r : Int32) (u : Int32 × Int32 × (Nat → Int32)) => r = nI (if sd = 1 then 196 else 68) ∧ u = (nI (sd + 1), nI bl.length, f)) (fW G fa b r n)) 0 0 := by
  refine gM.of (cc := cX3_control) (maxL := 1) (ret := (some .int)) (by decide) rfl (Nat.le_of_ble_eq_true rfl) ?_
  intro p e s m below meth c A ls hx hb hr hml hown hts hlocks hnm hB hl
  have hl : lv_has ls 1 [(0, .ref fa)] := hl
  refine lv_aload_n hx hb dX3_control_0 rfl (lv_at hl 0 rfl) ?_
  refine g_get (own := RX3) (C := RX3) (T := TX3) (N := 2) (ci := 2) (v := .int (nI (sd + 1))) hx hb hts (fun _ h => List.mem_cons_of_mem _ (List.mem_append_right _ h)) hown hB 0 rfl rfl 1 (by decide) (hts (.fieldLink RX3 20 "PointReports$Frame" "goesTo" "I") (by decide +kernel)) rfl rfl dX3_control_1 ?_
  refine lv_iconst (v := nI 2) hx hb dX3_control_4 (by decide) ?_
  refine lv_icmp_ne (tgt := 14) hx hb dX3_control_5 (by decide) (fun c_1 => ?_) (fun c_1 => ?_)
  · have c_1 : ¬ (sd + 1) = 2 := fun h9 => c_1 ((nI_eq (a := (sd + 1)) (b := 2) (by omega) (by omega)).mpr h9)
    refine lv_bipush (v := nI 68) hx hb dX3_control_14 (by decide) ?_
    exact g_iret (Wd := fW G fa b r n) (v := nI 68) (nI (sd + 1), nI bl.length, f) hB hx hb hr hlocks rfl ⟨by rw [if_neg (by omega)], rfl⟩ dX3_control_16
  · have c_1 : (sd + 1) = 2 := (nI_eq (a := (sd + 1)) (b := 2) (by omega) (by omega)).mp c_1
    refine lv_sipush (v := nI 196) hx hb dX3_control_8 (by decide) ?_
    refine lv_goto (tgt := 16) hx hb dX3_control_11 (by decide) ?_
    exact g_iret (Wd := fW G fa b r n) (v := nI 196) (nI (sd + 1), nI bl.length, f) hB hx hb hr hlocks rfl ⟨by rw [if_pos (by omega)], rfl⟩ dX3_control_16
set_option maxRecDepth 100000 in
set_option maxHeartbeats 4000000 in
theorem k_Frame_comesFrom (l : Launch) (G : rG) (fa : Nat) (sd : Nat) (hsd : sd ≤ 1) (b r n : Nat) (f : Nat → Int32) (bl : List Int32) (hp : pfx f bl) (hbn : bl.length ≤ n) (hn : n < 1000000) : gM l G.1 (rT G) yX3_comesFrom wsX3_comesFrom { frames := 0, cells := 0, slots := 0, locals := 0 } [.ref fa] [(fa, .inr (2, [.ref b, .int (nI (sd + 1))])), (b, .inr (0, [.ref r, .int (nI bl.length)])), (r, .inl (G.2.2.2.1, n, .inl f))] (gQi G.1 (rT G) (fun (r : Int32) (u : Int32 × Int32 × (Nat → Int32)) => r = nI (if sd = 1 then 1 else 2) ∧ u = (nI (sd + 1), nI bl.length, f)) (fW G fa b r n)) 0 0 := by
  refine gM.of (cc := cX3_comesFrom) (maxL := 1) (ret := (some .int)) (by decide) rfl (Nat.le_of_ble_eq_true rfl) ?_
  intro p e s m below meth c A ls hx hb hr hml hown hts hlocks hnm hB hl
  have hl : lv_has ls 1 [(0, .ref fa)] := hl
  refine lv_aload_n hx hb dX3_comesFrom_0 rfl (lv_at hl 0 rfl) ?_
  refine g_get (own := RX3) (C := RX3) (T := TX3) (N := 2) (ci := 2) (v := .int (nI (sd + 1))) hx hb hts (fun _ h => List.mem_cons_of_mem _ (List.mem_append_right _ h)) hown hB 0 rfl rfl 1 (by decide) (hts (.fieldLink RX3 20 "PointReports$Frame" "goesTo" "I") (by decide +kernel)) rfl rfl dX3_comesFrom_1 ?_
  refine lv_iconst (v := nI 2) hx hb dX3_comesFrom_4 (by decide) ?_
  refine lv_icmp_ne (tgt := 12) hx hb dX3_comesFrom_5 (by decide) (fun c_1 => ?_) (fun c_1 => ?_)
  · have c_1 : ¬ (sd + 1) = 2 := fun h9 => c_1 ((nI_eq (a := (sd + 1)) (b := 2) (by omega) (by omega)).mpr h9)
    refine lv_iconst (v := nI 2) hx hb dX3_comesFrom_12 (by decide) ?_
    exact g_iret (Wd := fW G fa b r n) (v := nI 2) (nI (sd + 1), nI bl.length, f) hB hx hb hr hlocks rfl ⟨by rw [if_neg (by omega)], rfl⟩ dX3_comesFrom_13
  · have c_1 : (sd + 1) = 2 := (nI_eq (a := (sd + 1)) (b := 2) (by omega) (by omega)).mp c_1
    refine lv_iconst (v := nI 1) hx hb dX3_comesFrom_8 (by decide) ?_
    refine lv_goto (tgt := 13) hx hb dX3_comesFrom_9 (by decide) ?_
    exact g_iret (Wd := fW G fa b r n) (v := nI 1) (nI (sd + 1), nI bl.length, f) hB hx hb hr hlocks rfl ⟨by rw [if_pos (by omega)], rfl⟩ dX3_comesFrom_13
set_option maxRecDepth 100000 in
set_option maxHeartbeats 4000000 in
theorem k_Frame_get (l : Launch) (G : rG) (fa : Nat) (sd : Nat) (hsd : sd ≤ 1) (b r n : Nat) (f : Nat → Int32) (bl : List Int32) (hp : pfx f bl) (hbn : bl.length ≤ n) (hn : n < 1000000) (k0 : Int32) : gM l G.1 (rT G) yX3_get wsX3_get { frames := 1, cells := 0, slots := 0, locals := 21 } [.ref fa, .int k0] [(fa, .inr (2, [.ref b, .int (nI (sd + 1))])), (b, .inr (0, [.ref r, .int (nI bl.length)])), (r, .inl (G.2.2.2.1, n, .inl f))] (gQi G.1 (rT G) (fun (r : Int32) (u : Int32 × Int32 × (Nat → Int32)) => r = (if k0 < 0 ∨ nI bl.length ≤ k0 then -1 else bl.getD (k0).toNatClampNeg 0) ∧ u = (nI (sd + 1), nI bl.length, f)) (fW G fa b r n)) 0 0 := by
  refine gM.of (cc := cX3_get) (maxL := 2) (ret := (some .int)) (by decide) rfl (Nat.le_of_ble_eq_true rfl) ?_
  intro p e s m below meth c A ls hx hb hr hml hown hts hlocks hnm hB hl
  have hl : lv_has ls 2 [(0, .ref fa), (1, .int k0)] := hl
  refine lv_aload_n hx hb dX3_get_0 rfl (lv_at hl 0 rfl) ?_
  refine g_get (own := RX3) (C := RX3) (T := TX3) (N := 2) (ci := 2) (v := .ref b) hx hb hts (fun _ h => List.mem_cons_of_mem _ (List.mem_append_left _ (List.mem_append_right _ h))) hown hB 0 rfl rfl 0 (by decide) (hts (.fieldLink RX3 16 "PointReports$Frame" "bytes" "LPointReports$Bytes;") (by decide +kernel)) rfl rfl dX3_get_1 ?_
  refine lv_iload_n hx hb dX3_get_4 rfl (lv_at hl 1 rfl) ?_
  refine g_calliA (wr := [(fa, .inr (2, [.ref b, .int (nI (sd + 1))]))]) (wc := [(b, .inr (0, [.ref r, .int (nI bl.length)])), (r, .inl (G.2.2.2.1, n, .inl f))]) (av := [.int k0]) (rest := []) ⟨hx, hb, hml, hown, hts⟩ (k_Bytes_get l G b r n f bl hp hbn hn (k0)) (cwV 1 hts gX3_get_X1_get rfl rfl rfl (by decide +kernel) ⟨Nat.le_of_ble_eq_true rfl, Nat.le_of_ble_eq_true rfl⟩) hB (q0 := 0) (ci := 0) rfl rfl rfl rfl hl.1 rfl (Nat.le_of_ble_eq_true rfl) dX3_get_5 ⟨Nat.le_of_ble_eq_true rfl, Nat.le_of_ble_eq_true rfl⟩ (fun r9 u H locs hw hB => ?_)
  obtain ⟨er, rfl⟩ := hw
  have hB : gB G.1 (rT G) A s H locs [(fa, .inr (2, [.ref b, .int (nI (sd + 1))])), (b, .inr (0, [.ref r, .int (nI bl.length)])), (r, .inl (G.2.2.2.1, n, .inl f))] := hB
  exact g_iret (Wd := fW G fa b r n) (v := r9) (nI (sd + 1), nI bl.length, f) hB hx hb hr hlocks rfl ⟨er, rfl⟩ dX3_get_8
set_option maxRecDepth 100000 in
set_option maxHeartbeats 4000000 in
theorem k_Frame_carries (l : Launch) (G : rG) (fa : Nat) (sd : Nat) (hsd : sd ≤ 1) (b r n : Nat) (f : Nat → Int32) (bl : List Int32) (hp : pfx f bl) (hbn : bl.length ≤ n) (hn : n < 1000000) (hB9 : ∀ x ∈ bl, isB x) (h13 : 13 ≤ bl.length) : gM l G.1 (rT G) yX3_carries wsX3_carries { frames := 1, cells := 0, slots := 0, locals := 21 } [.ref fa] [(fa, .inr (2, [.ref b, .int (nI (sd + 1))])), (b, .inr (0, [.ref r, .int (nI bl.length)])), (r, .inl (G.2.2.2.1, n, .inl f))] (gQi G.1 (rT G) (fun (r : Int32) (u : Int32 × Int32 × (Nat → Int32)) => r = nI (bq bl 2) - nI 5 ∧ u = (nI (sd + 1), nI bl.length, f)) (fW G fa b r n)) 0 0 := by
  refine gM.of (cc := cX3_carries) (maxL := 1) (ret := (some .int)) (by decide) rfl (Nat.le_of_ble_eq_true rfl) ?_
  intro p e s m below meth c A ls hx hb hr hml hown hts hlocks hnm hB hl
  have hl : lv_has ls 1 [(0, .ref fa)] := hl
  refine lv_aload_n hx hb dX3_carries_0 rfl (lv_at hl 0 rfl) ?_
  refine g_get (own := RX3) (C := RX3) (T := TX3) (N := 2) (ci := 2) (v := .ref b) hx hb hts (fun _ h => List.mem_cons_of_mem _ (List.mem_append_left _ (List.mem_append_right _ h))) hown hB 0 rfl rfl 0 (by decide) (hts (.fieldLink RX3 16 "PointReports$Frame" "bytes" "LPointReports$Bytes;") (by decide +kernel)) rfl rfl dX3_carries_1 ?_
  refine lv_iconst (v := nI 2) hx hb dX3_carries_4 (by decide) ?_
  refine g_calliA (wr := [(fa, .inr (2, [.ref b, .int (nI (sd + 1))]))]) (wc := [(b, .inr (0, [.ref r, .int (nI bl.length)])), (r, .inl (G.2.2.2.1, n, .inl f))]) (av := [.int (nI 2)]) (rest := []) ⟨hx, hb, hml, hown, hts⟩ (k_Bytes_get l G b r n f bl hp hbn hn (nI 2)) (cwV 1 hts gX3_carries_X1_get rfl rfl rfl (by decide +kernel) ⟨Nat.le_of_ble_eq_true rfl, Nat.le_of_ble_eq_true rfl⟩) hB (q0 := 0) (ci := 0) rfl rfl rfl rfl hl.1 rfl (Nat.le_of_ble_eq_true rfl) dX3_carries_5 ⟨Nat.le_of_ble_eq_true rfl, Nat.le_of_ble_eq_true rfl⟩ (fun r9 u H locs hw hB => ?_)
  obtain ⟨er, rfl⟩ := hw
  have hB : gB G.1 (rT G) A s H locs [(fa, .inr (2, [.ref b, .int (nI (sd + 1))])), (b, .inr (0, [.ref r, .int (nI bl.length)])), (r, .inl (G.2.2.2.1, n, .inl f))] := hB
  have er : r9 = nI (bq bl (2)) := by rw [er, if_neg (by rintro (z | z); exact nI_pos (by omega) z; exact absurd ((nI_leI (by omega) (by omega)).mp z) (by omega)), nI_clamp (by omega)]; exact (bq_at hB9 (by omega)).1
  refine lv_iconst (v := nI 5) hx hb dX3_carries_8 (by decide) ?_
  refine lv_isub hx hb dX3_carries_9 ?_
  exact g_iret (Wd := fW G fa b r n) (v := r9 - (nI 5)) (nI (sd + 1), nI bl.length, f) hB hx hb hr hlocks rfl ⟨by rw [er], rfl⟩ dX3_carries_10
set_option maxRecDepth 100000 in
set_option maxHeartbeats 4000000 in
theorem k_Frame_carried (l : Launch) (G : rG) (fa : Nat) (sd : Nat) (hsd : sd ≤ 1) (b r n : Nat) (f : Nat → Int32) (bl : List Int32) (hp : pfx f bl) (hbn : bl.length ≤ n) (hn : n < 1000000) (hB9 : ∀ x ∈ bl, isB x) (k : Nat) (hk : 10 + k + k / 16 * 2 < bl.length) : gM l G.1 (rT G) yX3_carried wsX3_carried { frames := 1, cells := 0, slots := 0, locals := 21 } [.ref fa, .int (nI k)] [(fa, .inr (2, [.ref b, .int (nI (sd + 1))])), (b, .inr (0, [.ref r, .int (nI bl.length)])), (r, .inl (G.2.2.2.1, n, .inl f))] (gQi G.1 (rT G) (fun (r : Int32) (u : Int32 × Int32 × (Nat → Int32)) => r = nI (bq bl (10 + k + k / 16 * 2)) ∧ u = (nI (sd + 1), nI bl.length, f)) (fW G fa b r n)) 0 0 := by
  refine gM.of (cc := cX3_carried) (maxL := 2) (ret := (some .int)) (by decide) rfl (Nat.le_of_ble_eq_true rfl) ?_
  intro p e s m below meth c A ls hx hb hr hml hown hts hlocks hnm hB hl
  have hl : lv_has ls 2 [(0, .ref fa), (1, .int (nI k))] := hl
  refine lv_aload_n hx hb dX3_carried_0 rfl (lv_at hl 0 rfl) ?_
  refine g_get (own := RX3) (C := RX3) (T := TX3) (N := 2) (ci := 2) (v := .ref b) hx hb hts (fun _ h => List.mem_cons_of_mem _ (List.mem_append_left _ (List.mem_append_right _ h))) hown hB 0 rfl rfl 0 (by decide) (hts (.fieldLink RX3 16 "PointReports$Frame" "bytes" "LPointReports$Bytes;") (by decide +kernel)) rfl rfl dX3_carried_1 ?_
  refine lv_bipush (v := nI 10) hx hb dX3_carried_4 (by decide) ?_
  refine lv_iload_n hx hb dX3_carried_6 rfl (lv_at hl 1 rfl) ?_
  refine lv_iadd hx hb dX3_carried_7 ?_
  refine g_top (y := nI (10 + k)) (nI_add _ _) ?_
  refine lv_iload_n hx hb dX3_carried_8 rfl (lv_at hl 1 rfl) ?_
  refine lv_bipush (v := nI 16) hx hb dX3_carried_9 (by decide) ?_
  refine lv_idiv hx hb dX3_carried_11 (by decide) ?_
  refine g_top (y := nI (k / 16)) (pk_div (by omega) (by decide) (by decide)) ?_
  refine lv_iconst (v := nI 2) hx hb dX3_carried_12 (by decide) ?_
  refine lv_imul hx hb dX3_carried_13 ?_
  refine g_top (y := nI ((k / 16) * 2)) (pk_mul _ _) ?_
  refine lv_iadd hx hb dX3_carried_14 ?_
  refine g_top (y := nI ((10 + k) + ((k / 16) * 2))) (nI_add _ _) ?_
  refine g_top (y := nI (10 + k + k / 16 * 2)) rfl ?_
  refine g_calliA (wr := [(fa, .inr (2, [.ref b, .int (nI (sd + 1))]))]) (wc := [(b, .inr (0, [.ref r, .int (nI bl.length)])), (r, .inl (G.2.2.2.1, n, .inl f))]) (av := [.int (nI (10 + k + k / 16 * 2))]) (rest := []) ⟨hx, hb, hml, hown, hts⟩ (k_Bytes_get l G b r n f bl hp hbn hn (nI (10 + k + k / 16 * 2))) (cwV 1 hts gX3_carried_X1_get rfl rfl rfl (by decide +kernel) ⟨Nat.le_of_ble_eq_true rfl, Nat.le_of_ble_eq_true rfl⟩) hB (q0 := 0) (ci := 0) rfl rfl rfl rfl hl.1 rfl (Nat.le_of_ble_eq_true rfl) dX3_carried_15 ⟨Nat.le_of_ble_eq_true rfl, Nat.le_of_ble_eq_true rfl⟩ (fun r9 u H locs hw hB => ?_)
  obtain ⟨er, rfl⟩ := hw
  have hB : gB G.1 (rT G) A s H locs [(fa, .inr (2, [.ref b, .int (nI (sd + 1))])), (b, .inr (0, [.ref r, .int (nI bl.length)])), (r, .inl (G.2.2.2.1, n, .inl f))] := hB
  have er : r9 = nI (bq bl (10 + k + k / 16 * 2)) := by rw [er, if_neg (by rintro (z | z); exact nI_pos (by omega) z; exact absurd ((nI_leI (by omega) (by omega)).mp z) (by omega)), nI_clamp (by omega)]; exact (bq_at hB9 (by omega)).1
  exact g_iret (Wd := fW G fa b r n) (v := r9) (nI (sd + 1), nI bl.length, f) hB hx hb hr hlocks rfl ⟨er, rfl⟩ dX3_carried_18
set_option maxRecDepth 100000 in
set_option maxHeartbeats 4000000 in
theorem k_Frame_spoil (l : Launch) (G : rG) (fa : Nat) (sd : Nat) (hsd : sd ≤ 1) (b r n : Nat) (f : Nat → Int32) (bl : List Int32) (hp : pfx f bl) (hbn : bl.length ≤ n) (hn : n < 1000000) (hB9 : ∀ x ∈ bl, isB x) (k0 : Int32) (mm : Nat) (hmm : mm < 256) : gM l G.1 (rT G) yX3_spoil wsX3_spoil { frames := 1, cells := 0, slots := 0, locals := 22 } [.ref fa, .int k0, .int (nI mm)] [(fa, .inr (2, [.ref b, .int (nI (sd + 1))])), (b, .inr (0, [.ref r, .int (nI bl.length)])), (r, .inl (G.2.2.2.1, n, .inl f))] (gQi G.1 (rT G) (fun (r : Int32) (u : Int32 × Int32 × (Nat → Int32)) => if k0 < 0 ∨ nI bl.length ≤ k0 then r = nI 0 ∧ u = (nI (sd + 1), nI bl.length, f) else r = nI 1 ∧ ∃ f2, pfx f2 (bl.set k0.toNatClampNeg (bl.getD k0.toNatClampNeg 0 ^^^ nI mm)) ∧ u = (nI (sd + 1), nI bl.length, f2)) (fW G fa b r n)) 0 0 := by
  refine gM.of (cc := cX3_spoil) (maxL := 3) (ret := (some .boolean)) (by decide) rfl (Nat.le_of_ble_eq_true rfl) ?_
  intro p e s m below meth c A ls hx hb hr hml hown hts hlocks hnm hB hl
  have hl : lv_has ls 3 [(0, .ref fa), (1, .int k0), (2, .int (nI mm))] := hl
  refine lv_iload_n hx hb dX3_spoil_0 rfl (lv_at hl 1 rfl) ?_
  refine lv_if_lt (tgt := 15) hx hb dX3_spoil_1 (by decide) (fun c_1 => ?_) (fun c_1 => ?_)
  · have c_1 := c_1
    refine lv_iconst (v := nI 0) hx hb dX3_spoil_15 (by decide) ?_
    exact g_zret (Wd := fW G fa b r n) (v := nI 0) (nI (sd + 1), nI bl.length, f) hB hx hb hr hlocks rfl (narrow_z (Or.inl rfl)) (by rw [if_pos (Or.inl c_1)]; exact ⟨rfl, rfl⟩) dX3_spoil_16
  · have c_1 := c_1
    refine lv_iload_n hx hb dX3_spoil_4 rfl (lv_at hl 1 rfl) ?_
    refine lv_aload_n hx hb dX3_spoil_5 rfl (lv_at hl 0 rfl) ?_
    refine g_get (own := RX3) (C := RX3) (T := TX3) (N := 2) (ci := 2) (v := .ref b) hx hb hts (fun _ h => List.mem_cons_of_mem _ (List.mem_append_left _ (List.mem_append_right _ h))) hown hB 0 rfl rfl 0 (by decide) (hts (.fieldLink RX3 16 "PointReports$Frame" "bytes" "LPointReports$Bytes;") (by decide +kernel)) rfl rfl dX3_spoil_6 ?_
    refine g_calliA (wr := [(fa, .inr (2, [.ref b, .int (nI (sd + 1))]))]) (wc := [(b, .inr (0, [.ref r, .int (nI bl.length)])), (r, .inl (G.2.2.2.1, n, .inl f))]) (av := []) (rest := [.int k0]) ⟨hx, hb, hml, hown, hts⟩ (k_Bytes_size l G b r n f bl hp hbn hn) (cwV 0 hts gX3_spoil_X1_size rfl rfl rfl (by decide +kernel) ⟨Nat.le_of_ble_eq_true rfl, Nat.le_of_ble_eq_true rfl⟩) hB (q0 := 0) (ci := 0) rfl rfl rfl rfl hl.1 rfl (Nat.le_of_ble_eq_true rfl) dX3_spoil_9 ⟨Nat.le_of_ble_eq_true rfl, Nat.le_of_ble_eq_true rfl⟩ (fun r9 u H locs hw hB => ?_)
    obtain ⟨rfl, rfl⟩ := hw
    have hB : gB G.1 (rT G) A s H locs [(fa, .inr (2, [.ref b, .int (nI (sd + 1))])), (b, .inr (0, [.ref r, .int (nI bl.length)])), (r, .inl (G.2.2.2.1, n, .inl f))] := hB
    refine lv_icmp_lt (tgt := 17) hx hb dX3_spoil_12 (by decide) (fun c_2 => ?_) (fun c_2 => ?_)
    · have c_2 := c_2
      obtain ⟨j, hj, ej⟩ : ∃ j : Nat, j < bl.length ∧ k0 = nI j := by rcases pk_ix k0 (n := bl.length) (by omega) with h | h | h; exact absurd h c_1; exact absurd c_2 (Int32.not_lt.mpr h); exact h
      subst ej
      refine lv_aload_n hx hb dX3_spoil_17 rfl (lv_at hl 0 rfl) ?_
      refine g_get (own := RX3) (C := RX3) (T := TX3) (N := 2) (ci := 2) (v := .ref b) hx hb hts (fun _ h => List.mem_cons_of_mem _ (List.mem_append_left _ (List.mem_append_right _ h))) hown hB 0 rfl rfl 0 (by decide) (hts (.fieldLink RX3 16 "PointReports$Frame" "bytes" "LPointReports$Bytes;") (by decide +kernel)) rfl rfl dX3_spoil_18 ?_
      refine lv_iload_n hx hb dX3_spoil_21 rfl (lv_at hl 1 rfl) ?_
      refine lv_aload_n hx hb dX3_spoil_22 rfl (lv_at hl 0 rfl) ?_
      refine g_get (own := RX3) (C := RX3) (T := TX3) (N := 2) (ci := 2) (v := .ref b) hx hb hts (fun _ h => List.mem_cons_of_mem _ (List.mem_append_left _ (List.mem_append_right _ h))) hown hB 0 rfl rfl 0 (by decide) (hts (.fieldLink RX3 16 "PointReports$Frame" "bytes" "LPointReports$Bytes;") (by decide +kernel)) rfl rfl dX3_spoil_23 ?_
      refine lv_iload_n hx hb dX3_spoil_26 rfl (lv_at hl 1 rfl) ?_
      refine g_calliA (wr := [(fa, .inr (2, [.ref b, .int (nI (sd + 1))]))]) (wc := [(b, .inr (0, [.ref r, .int (nI bl.length)])), (r, .inl (G.2.2.2.1, n, .inl f))]) (av := [.int (nI j)]) (rest := [.int (nI j), .ref b]) ⟨hx, hb, hml, hown, hts⟩ (k_Bytes_get l G b r n f bl hp hbn hn (nI j)) (cwV 1 hts gX3_spoil_X1_get rfl rfl rfl (by decide +kernel) ⟨Nat.le_of_ble_eq_true rfl, Nat.le_of_ble_eq_true rfl⟩) hB (q0 := 0) (ci := 0) rfl rfl rfl rfl hl.1 rfl (Nat.le_of_ble_eq_true rfl) dX3_spoil_27 ⟨Nat.le_of_ble_eq_true rfl, Nat.le_of_ble_eq_true rfl⟩ (fun r9 u H locs hw hB => ?_)
      obtain ⟨er, rfl⟩ := hw
      have hB : gB G.1 (rT G) A s H locs [(fa, .inr (2, [.ref b, .int (nI (sd + 1))])), (b, .inr (0, [.ref r, .int (nI bl.length)])), (r, .inl (G.2.2.2.1, n, .inl f))] := hB
      have lt9 := bq_at hB9 hj
      have er : r9 = nI (bq bl (j)) := by rw [er, if_neg (by rintro (z | z); exact nI_pos (by omega) z; exact absurd ((nI_leI (by omega) (by omega)).mp z) (by omega)), nI_clamp (by omega)]; exact (bq_at hB9 (by omega)).1
      subst er
      refine lv_iload_n hx hb dX3_spoil_30 rfl (lv_at hl 2 rfl) ?_
      refine lv_ixor hx hb dX3_spoil_31 ?_
      have e5 : (nI (bq bl j) ^^^ nI mm) &&& 255 = bl.getD j 0 ^^^ nI mm := by rw [lt9.1, nx_xor]; exact isB_255 ⟨_, Nat.xor_lt_two_pow (n := 8) lt9.2 hmm, rfl⟩
      refine g_callvA (wr := [(fa, .inr (2, [.ref b, .int (nI (sd + 1))]))]) (wc := [(b, .inr (0, [.ref r, .int (nI bl.length)])), (r, .inl (G.2.2.2.1, n, .inl f))]) (av := [.int (nI j), .int ((nI (bq bl j)) ^^^ (nI mm))]) (rest := []) ⟨hx, hb, hml, hown, hts⟩ (k_Bytes_set l G b r n f bl hp hbn hn j (nI (bq bl j) ^^^ nI mm) hj) (cwV 2 hts gX3_spoil_X1_set rfl rfl rfl (by decide +kernel) ⟨Nat.le_of_ble_eq_true rfl, Nat.le_of_ble_eq_true rfl⟩) hB (q0 := 0) (ci := 0) rfl rfl rfl rfl hl.1 rfl (Nat.le_of_ble_eq_true rfl) dX3_spoil_32 ⟨Nat.le_of_ble_eq_true rfl, Nat.le_of_ble_eq_true rfl⟩ (fun u H locs hw hB => ?_)
      obtain ⟨f2, hf2, rfl⟩ := hw
      have hB : gB G.1 (rT G) A s H locs [(fa, .inr (2, [.ref b, .int (nI (sd + 1))])), (b, .inr (0, [.ref r, .int (nI bl.length)])), (r, .inl (G.2.2.2.1, n, .inl f2))] := hB
      rw [e5] at hf2
      refine lv_iconst (v := nI 1) hx hb dX3_spoil_35 (by decide) ?_
      exact g_zret (Wd := fW G fa b r n) (v := nI 1) (nI (sd + 1), nI bl.length, f2) hB hx hb hr hlocks rfl (narrow_z (Or.inr rfl)) (by rw [if_neg (show ¬ (nI j < 0 ∨ nI bl.length ≤ nI j) by rintro (z | z); exact c_1 z; exact absurd c_2 (Int32.not_lt.mpr z)), nI_clamp (by omega)]; exact ⟨rfl, f2, hf2, rfl⟩) dX3_spoil_36
    · have c_2 := c_2
      refine lv_iconst (v := nI 0) hx hb dX3_spoil_15 (by decide) ?_
      exact g_zret (Wd := fW G fa b r n) (v := nI 0) (nI (sd + 1), nI bl.length, f) hB hx hb hr hlocks rfl (narrow_z (Or.inl rfl)) (by rw [if_pos (Or.inr (Int32.not_lt.mp c_2))]; exact ⟨rfl, rfl⟩) dX3_spoil_16
