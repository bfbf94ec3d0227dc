/-! PointReports$Master -/
theorem lo_h2 (bl : List Int32) (a : Nat) : loN bl a 2 = hN (rdN bl) a 2 := by
  simp only [loN, hN, rdN_get, Nat.add_assoc, Nat.reduceAdd, Nat.add_zero]; omega
theorem lo_h4 (bl : List Int32) (a : Nat) : loN bl a 4 = hN (rdN bl) a 4 := by
  simp only [loN, hN, rdN_get, Nat.add_assoc, Nat.reduceAdd, Nat.add_zero]; omega
theorem gpN_kind {rd : List Nat} {z : Nat} (h : ¬ gpN rd z = 0) : isPG rd z ∨ isEG rd z := by
  unfold gpN at h
  by_cases hc : z + 3 ≤ rd.length ∧ (isPG rd z ∨ isEG rd z) ∧ z + (3 + wdG rd z * rd.getD (z + 2) 0) ≤ rd.length ∧ gpF rd z (wdG rd z) (isPG rd z) inferInstance (rd.getD (z + 2) 0) = 1
  · exact hc.2.1
  · rw [if_neg hc] at h; exact absurd rfl h
abbrev mS : Type := (Nat → Nat) × (Nat → Int32) × (Nat → Int32) × (Nat → Int32)
def kTE (t : mS) (rd : List Nat) (z cls : Nat) : mS := if nI (hN rd (z + 3) 4) ≤ t.2.2.1 (rd.getD z 0) then (va_up t.1 8 (t.1 8 + 1), t.2) else (va_up t.1 7 (t.1 7 + 1), upd t.2.1 (rd.getD z 0) (nI (hN rd (z + 1) 2)), upd t.2.2.1 (rd.getD z 0) (nI (hN rd (z + 3) 4)), if t.1 7 < 200 then tkN t.2.2.2 (4 * t.1 7) (nI (rd.getD z 0)) (nI (hN rd (z + 1) 2)) (nI (hN rd (z + 3) 4)) (nI cls) else t.2.2.2)
def kTV (t : mS) (rd : List Nat) (z : Nat) : mS := (t.1, upd t.2.1 (rd.getD z 0) (nI (hN rd (z + 1) 2)), t.2.2)
def kTG (t : mS) (rd : List Nat) (z : Nat) : Nat → mS
  | 0 => t
  | k + 1 => if wd2 rd z = 3 then kTV (kTG t rd z k) rd (z + 3 + wd2 rd z * k) else kTE (kTG t rd z k) rd (z + 3 + wd2 rd z * k) (rd.getD (z + 1) 0)
def kMG (rd : List Nat) : Nat → Nat → mS → mS
  | 0, _, t => t
  | f + 1, z, t => if z < rd.length then kMG rd f (z + gpN rd z) (kTG t rd z (rd.getD (z + 2) 0)) else t
theorem kMG_end {rd : List Nat} {f z : Nat} {t : mS} (h : ¬ z < rd.length) : kMG rd f z t = t := by
  cases f with
  | zero => rfl
  | succ f => rw [kMG, if_neg h]
theorem kTE_n (t : mS) (rd : List Nat) (z cls : Nat) : (kTE t rd z cls).1 7 ≤ t.1 7 + 1 ∧ (kTE t rd z cls).1 8 ≤ t.1 8 + 1 ∧ ∀ j, j ≠ 7 → j ≠ 8 → (kTE t rd z cls).1 j = t.1 j := by
  unfold kTE
  split
  · exact ⟨by show t.1 7 ≤ _; omega, Nat.le_refl _, fun j h7 h8 => if_neg h8⟩
  · exact ⟨Nat.le_refl _, by show t.1 8 ≤ _; omega, fun j h7 h8 => if_neg h7⟩
theorem kTG_n (t : mS) (rd : List Nat) (z : Nat) : ∀ k, (kTG t rd z k).1 7 ≤ t.1 7 + k ∧ (kTG t rd z k).1 8 ≤ t.1 8 + k ∧ ∀ j, j ≠ 7 → j ≠ 8 → (kTG t rd z k).1 j = t.1 j := by
  intro k
  induction k with
  | zero => exact ⟨Nat.le_refl _, Nat.le_refl _, fun _ _ _ => rfl⟩
  | succ k ih =>
    rw [kTG]
    split
    · exact ⟨Nat.le_trans ih.1 (by omega), Nat.le_trans ih.2.1 (by omega), ih.2.2⟩
    · have h := kTE_n (kTG t rd z k) rd (z + 3 + wd2 rd z * k) (rd.getD (z + 1) 0)
      exact ⟨by omega, by omega, fun j h7 h8 => (h.2.2 j h7 h8).trans (ih.2.2 j h7 h8)⟩
abbrev wnC (nm : Nat → Nat) (rd : List Nat) : Prop := 4 ≤ rd.length ∧ (rd.getD 0 0 &&& 192) = 192 ∧ ((rd.getD 1 0 = 130 ∧ ¬ (rd.getD 0 0 &&& 16) = 0) ∨ (rd.getD 1 0 = 129 ∧ (rd.getD 0 0 &&& 16) = 0 ∧ nm 6 = 1 ∧ (rd.getD 0 0 &&& 15) = (nm 5 - 1) % 16))
def maO (ad nm : Nat → Nat) : Nat × va_E := (ad 24, .inr (4, [.ref (ad 25), .ref (ad 26), .ref (ad 28), .ref (ad 29), .ref (ad 30), .int (nI (nm 5)), .int (nI (nm 6)), .int (nI (nm 7)), .int (nI (nm 8)), .int (nI (nm 9)), .int (nI (nm 10)), .int (nI (nm 11))]))
def maW (G : rG) (ad : Nat → Nat) (t : mS) : va_W := [maO ad t.1, (ad 28, .inl (G.2.2.2.1, 10, .inl t.2.1)), (ad 29, .inl (G.2.2.2.1, 10, .inl t.2.2.1)), (ad 30, .inl (G.2.2.2.1, 800, .inl t.2.2.2))]
theorem nI_m1 {z : Nat} (h : z < 1000) : ¬ nI z < (-1 : Int32) := fun q => absurd (Int32.lt_trans q (by decide : (-1 : Int32) < nI 0)) (nI_pos (by omega))
set_option maxRecDepth 100000 in
set_option maxHeartbeats 2000000 in
/-- Master.isWanted(fragment) -/
theorem k_Master_isWanted (l : Launch) (G : rG) (ad nm : Nat → Nat) (h6 : nm 6 ≤ 1) (hbn : ∀ k, nm k ≤ 990000) (hq1 : nm 6 = 1 → 1 ≤ nm 5) (ca da kz : Nat) (g : Nat → Int32) (bl : List Int32) (hq : pfx g bl) (hqn : bl.length ≤ kz) (hk9 : kz < 1000000) (hFB : ∀ x ∈ bl, isB x) (rd : List Nat) (hrd : rd = rdN bl) (h4 : bl.length ≤ 400) : gM l G.1 (rT G) yX6_isWanted wsX6_isWanted { frames := 1, cells := 0, slots := 0, locals := 21 } [.ref (ad 24), .ref ca] [(ad 24, .inr (4, [.ref (ad 25), .ref (ad 26), .ref (ad 28), .ref (ad 29), .ref (ad 30), .int (nI (nm 5)), .int (nI (nm 6)), .int (nI (nm 7)), .int (nI (nm 8)), .int (nI (nm 9)), .int (nI (nm 10)), .int (nI (nm 11))])), (ca, .inr (0, [.ref da, .int (nI bl.length)])), (da, .inl (G.2.2.2.1, kz, .inl g))] (gQi G.1 (rT G) (fun (r : Int32) (u : Int32 × (Nat → Int32)) => ((r = nI 1 ∧ wnC nm rd) ∨ (r = nI 0 ∧ ¬ wnC nm rd)) ∧ u = (nI bl.length, g)) (fun u => maO ad nm :: bW G ca da kz u)) 0 0 := by
  refine gM.of (cc := cX6_isWanted) (maxL := 3) (ret := (some .boolean)) (by decide) rfl (Nat.le_of_ble_eq_true rfl) ?_
  intro p e s m below meth c A ls hx hb hr hml hown hts hlocks hnm hB hl
  have hl : lv_has ls 3 [(0, .ref (ad 24)), (1, .ref ca)] := hl
  have b5 := hbn 5
  have b6 := hbn 6
  have b7 := hbn 7
  have b8 := hbn 8
  have hrl2 : rd.length = bl.length := by rw [hrd, rdN_len]
  refine lv_aload_n hx hb dX6_isWanted_0 rfl (lv_at hl 1 rfl) ?_
  refine g_calliA (wr := [(ad 24, .inr (4, [.ref (ad 25), .ref (ad 26), .ref (ad 28), .ref (ad 29), .ref (ad 30), .int (nI (nm 5)), .int (nI (nm 6)), .int (nI (nm 7)), .int (nI (nm 8)), .int (nI (nm 9)), .int (nI (nm 10)), .int (nI (nm 11))]))]) (wc := [(ca, .inr (0, [.ref da, .int (nI bl.length)])), (da, .inl (G.2.2.2.1, kz, .inl g))]) (av := []) (rest := []) ⟨hx, hb, hml, hown, hts⟩ (k_Bytes_size l G (ca) (da) kz g bl hq hqn hk9) (cwV 0 hts gX6_isWanted_X1_size rfl rfl rfl (by decide +kernel) ⟨Nat.le_of_ble_eq_true rfl, Nat.le_of_ble_eq_true rfl⟩) hB (q0 := 0) (ci := 0) rfl rfl rfl rfl hl.1 rfl (Nat.le_of_ble_eq_true rfl) dX6_isWanted_1 ⟨Nat.le_of_ble_eq_true rfl, Nat.le_of_ble_eq_true rfl⟩ (fun r9 u H locs hw hB => ?_)
  obtain ⟨rfl, rfl⟩ := hw
  have hB : gB G.1 (rT G) A s H locs [(ad 24, .inr (4, [.ref (ad 25), .ref (ad 26), .ref (ad 28), .ref (ad 29), .ref (ad 30), .int (nI (nm 5)), .int (nI (nm 6)), .int (nI (nm 7)), .int (nI (nm 8)), .int (nI (nm 9)), .int (nI (nm 10)), .int (nI (nm 11))])), (ca, .inr (0, [.ref da, .int (nI bl.length)])), (da, .inl (G.2.2.2.1, kz, .inl g))] := hB
  refine lv_iconst (v := nI 4) hx hb dX6_isWanted_4 (by decide) ?_
  refine lv_icmp_lt (tgt := 23) hx hb dX6_isWanted_5 (by decide) (fun c_1 => ?_) (fun c_1 => ?_)
  · have c_1 : bl.length < 4 := (nI_ltI (a := bl.length) (b := 4) (by omega) (by omega)).mp c_1
    refine lv_iconst (v := nI 0) hx hb dX6_isWanted_23 (by decide) ?_
    exact g_zret (S := Int32 × (Nat → Int32)) (Wd := fun u => maO ad nm :: bW G ca da kz u) (v := nI 0) (nI bl.length, g) hB hx hb hr hlocks rfl (narrow_z (Or.inl rfl)) ⟨Or.inr ⟨rfl, fun z => by have := z.1; omega⟩, rfl⟩ dX6_isWanted_24
  · have c_1 : ¬ bl.length < 4 := fun h9 => c_1 ((nI_ltI (a := bl.length) (b := 4) (by omega) (by omega)).mpr h9)
    refine lv_aload_n hx hb dX6_isWanted_8 rfl (lv_at hl 1 rfl) ?_
    refine lv_iconst (v := nI 0) hx hb dX6_isWanted_9 (by decide) ?_
    refine g_calliA (wr := [(ad 24, .inr (4, [.ref (ad 25), .ref (ad 26), .ref (ad 28), .ref (ad 29), .ref (ad 30), .int (nI (nm 5)), .int (nI (nm 6)), .int (nI (nm 7)), .int (nI (nm 8)), .int (nI (nm 9)), .int (nI (nm 10)), .int (nI (nm 11))]))]) (wc := [(ca, .inr (0, [.ref da, .int (nI bl.length)])), (da, .inl (G.2.2.2.1, kz, .inl g))]) (av := [.int (nI 0)]) (rest := []) ⟨hx, hb, hml, hown, hts⟩ (k_Bytes_get l G (ca) (da) kz g bl hq hqn hk9 (nI 0)) (cwV 1 hts gX6_isWanted_X1_get rfl rfl rfl (by decide +kernel) ⟨Nat.le_of_ble_eq_true rfl, Nat.le_of_ble_eq_true rfl⟩) hB (q0 := 0) (ci := 0) rfl rfl rfl rfl hl.1 rfl (Nat.le_of_ble_eq_true rfl) dX6_isWanted_10 ⟨Nat.le_of_ble_eq_true rfl, Nat.le_of_ble_eq_true rfl⟩ (fun r9 u H locs hw hB => ?_)
    obtain ⟨er, rfl⟩ := hw
    have hB : gB G.1 (rT G) A s H locs [(ad 24, .inr (4, [.ref (ad 25), .ref (ad 26), .ref (ad 28), .ref (ad 29), .ref (ad 30), .int (nI (nm 5)), .int (nI (nm 6)), .int (nI (nm 7)), .int (nI (nm 8)), .int (nI (nm 9)), .int (nI (nm 10)), .int (nI (nm 11))])), (ca, .inr (0, [.ref da, .int (nI bl.length)])), (da, .inl (G.2.2.2.1, kz, .inl g))] := hB
    have hlt9 : 0 < bl.length := by omega
    have g_2 : rd.getD (0) 0 < 256 := by rw [hrd, rdN_get]; exact (bq_at hFB hlt9).2
    have er : r9 = nI (rd.getD (0) 0) := by rw [hrd, rdN_get]; exact er.trans (get_in hFB hlt9 (by omega))
    subst er
    refine lv_sipush (v := nI 192) hx hb dX6_isWanted_13 (by decide) ?_
    refine lv_iand hx hb dX6_isWanted_16 ?_
    refine g_top (y := nI (rd.getD (0) 0 &&& 192)) (nx_and _ _) ?_
    have hmk192 : (rd.getD (0) 0 &&& 192) ≤ 192 := Nat.and_le_right
    refine lv_sipush (v := nI 192) hx hb dX6_isWanted_17 (by decide) ?_
    refine lv_icmp_eq (tgt := 25) hx hb dX6_isWanted_20 (by decide) (fun c_3 => ?_) (fun c_3 => ?_)
    · have c_3 : (rd.getD (0) 0 &&& 192) = 192 := (nI_eq (a := (rd.getD (0) 0 &&& 192)) (b := 192) (by omega) (by omega)).mp c_3
      refine lv_aload_n hx hb dX6_isWanted_25 rfl (lv_at hl 1 rfl) ?_
      refine lv_iconst (v := nI 0) hx hb dX6_isWanted_26 (by decide) ?_
      refine g_calliA (wr := [(ad 24, .inr (4, [.ref (ad 25), .ref (ad 26), .ref (ad 28), .ref (ad 29), .ref (ad 30), .int (nI (nm 5)), .int (nI (nm 6)), .int (nI (nm 7)), .int (nI (nm 8)), .int (nI (nm 9)), .int (nI (nm 10)), .int (nI (nm 11))]))]) (wc := [(ca, .inr (0, [.ref da, .int (nI bl.length)])), (da, .inl (G.2.2.2.1, kz, .inl g))]) (av := [.int (nI 0)]) (rest := []) ⟨hx, hb, hml, hown, hts⟩ (k_Bytes_get l G (ca) (da) kz g bl hq hqn hk9 (nI 0)) (cwV 1 hts gX6_isWanted_X1_get rfl rfl rfl (by decide +kernel) ⟨Nat.le_of_ble_eq_true rfl, Nat.le_of_ble_eq_true rfl⟩) hB (q0 := 0) (ci := 0) rfl rfl rfl rfl hl.1 rfl (Nat.le_of_ble_eq_true rfl) dX6_isWanted_27 ⟨Nat.le_of_ble_eq_true rfl, Nat.le_of_ble_eq_true rfl⟩ (fun r9 u H locs hw hB => ?_)
      obtain ⟨er, rfl⟩ := hw
      have hB : gB G.1 (rT G) A s H locs [(ad 24, .inr (4, [.ref (ad 25), .ref (ad 26), .ref (ad 28), .ref (ad 29), .ref (ad 30), .int (nI (nm 5)), .int (nI (nm 6)), .int (nI (nm 7)), .int (nI (nm 8)), .int (nI (nm 9)), .int (nI (nm 10)), .int (nI (nm 11))])), (ca, .inr (0, [.ref da, .int (nI bl.length)])), (da, .inl (G.2.2.2.1, kz, .inl g))] := hB
      have hlt9 : 0 < bl.length := by omega
      have g_4 : rd.getD (0) 0 < 256 := by rw [hrd, rdN_get]; exact (bq_at hFB hlt9).2
      have er : r9 = nI (rd.getD (0) 0) := by rw [hrd, rdN_get]; exact er.trans (get_in hFB hlt9 (by omega))
      subst er
      refine lv_bipush (v := nI 16) hx hb dX6_isWanted_30 (by decide) ?_
      refine lv_iand hx hb dX6_isWanted_32 ?_
      refine g_top (y := nI (rd.getD (0) 0 &&& 16)) (nx_and _ _) ?_
      have hmk16 : (rd.getD (0) 0 &&& 16) ≤ 16 := Nat.and_le_right
      refine g_cut (σ := Unit) 41 (fun _ H locs ls => gB G.1 (rT G) A s H locs [(ad 24, .inr (4, [.ref (ad 25), .ref (ad 26), .ref (ad 28), .ref (ad 29), .ref (ad 30), .int (nI (nm 5)), .int (nI (nm 6)), .int (nI (nm 7)), .int (nI (nm 8)), .int (nI (nm 9)), .int (nI (nm 10)), .int (nI (nm 11))])), (ca, .inr (0, [.ref da, .int (nI bl.length)])), (da, .inl (G.2.2.2.1, kz, .inl g))] ∧ lv_has ls 3 [(0, .ref (ad 24)), (1, .ref ca)]) (fun _ => [.int (nI (if (rd.getD (0) 0 &&& 16) = 0 then 0 else 1))]) ?_ (fun cut => ?_)
      rotate_left
      · refine lv_if_eq (tgt := 40) hx hb dX6_isWanted_33 (by decide) (fun c_5 => ?_) (fun c_5 => ?_)
        · have c_5 : (rd.getD (0) 0 &&& 16) = 0 := (nI_eq (a := (rd.getD (0) 0 &&& 16)) (b := 0) (by omega) (by omega)).mp c_5
          refine lv_iconst (v := nI 0) hx hb dX6_isWanted_40 (by decide) ?_
          refine g_top (y := nI (if (rd.getD (0) 0 &&& 16) = 0 then 0 else 1)) (by rw [if_pos c_5]) ?_
          exact cut () H locs ls ⟨hB, hl⟩
        · have c_5 : ¬ (rd.getD (0) 0 &&& 16) = 0 := fun h9 => c_5 ((nI_eq (a := (rd.getD (0) 0 &&& 16)) (b := 0) (by omega) (by omega)).mpr h9)
          refine lv_iconst (v := nI 1) hx hb dX6_isWanted_36 (by decide) ?_
          refine lv_goto (tgt := 41) hx hb dX6_isWanted_37 (by decide) ?_
          refine g_top (y := nI (if (rd.getD (0) 0 &&& 16) = 0 then 0 else 1)) (by rw [if_neg c_5]) ?_
          exact cut () H locs ls ⟨hB, hl⟩
      rintro - H locs ls ⟨hB, hl⟩
      have hif : (if (rd.getD (0) 0 &&& 16) = 0 then 0 else 1) ≤ 1 := by split <;> decide
      refine lv_istore_n (lv' := [(2, .int (nI (if (rd.getD (0) 0 &&& 16) = 0 then 0 else 1))), (0, .ref (ad 24)), (1, .ref ca)]) hx hb dX6_isWanted_41 rfl hl (by decide) rfl (fun ls hl => ?_)
      refine lv_aload_n hx hb dX6_isWanted_42 rfl (lv_at hl 2 rfl) ?_
      refine lv_iconst (v := nI 1) hx hb dX6_isWanted_43 (by decide) ?_
      refine g_calliA (wr := [(ad 24, .inr (4, [.ref (ad 25), .ref (ad 26), .ref (ad 28), .ref (ad 29), .ref (ad 30), .int (nI (nm 5)), .int (nI (nm 6)), .int (nI (nm 7)), .int (nI (nm 8)), .int (nI (nm 9)), .int (nI (nm 10)), .int (nI (nm 11))]))]) (wc := [(ca, .inr (0, [.ref da, .int (nI bl.length)])), (da, .inl (G.2.2.2.1, kz, .inl g))]) (av := [.int (nI 1)]) (rest := []) ⟨hx, hb, hml, hown, hts⟩ (k_Bytes_get l G (ca) (da) kz g bl hq hqn hk9 (nI 1)) (cwV 1 hts gX6_isWanted_X1_get rfl rfl rfl (by decide +kernel) ⟨Nat.le_of_ble_eq_true rfl, Nat.le_of_ble_eq_true rfl⟩) hB (q0 := 0) (ci := 0) rfl rfl rfl rfl hl.1 rfl (Nat.le_of_ble_eq_true rfl) dX6_isWanted_44 ⟨Nat.le_of_ble_eq_true rfl, Nat.le_of_ble_eq_true rfl⟩ (fun r9 u H locs hw hB => ?_)
      obtain ⟨er, rfl⟩ := hw
      have hB : gB G.1 (rT G) A s H locs [(ad 24, .inr (4, [.ref (ad 25), .ref (ad 26), .ref (ad 28), .ref (ad 29), .ref (ad 30), .int (nI (nm 5)), .int (nI (nm 6)), .int (nI (nm 7)), .int (nI (nm 8)), .int (nI (nm 9)), .int (nI (nm 10)), .int (nI (nm 11))])), (ca, .inr (0, [.ref da, .int (nI bl.length)])), (da, .inl (G.2.2.2.1, kz, .inl g))] := hB
      have hlt9 : 1 < bl.length := by omega
      have g_6 : rd.getD (1) 0 < 256 := by rw [hrd, rdN_get]; exact (bq_at hFB hlt9).2
      have er : r9 = nI (rd.getD (1) 0) := by rw [hrd, rdN_get]; exact er.trans (get_in hFB hlt9 (by omega))
      subst er
      refine lv_sipush (v := nI 130) hx hb dX6_isWanted_47 (by decide) ?_
      refine lv_icmp_ne (tgt := 55) hx hb dX6_isWanted_50 (by decide) (fun c_7 => ?_) (fun c_7 => ?_)
      · have c_7 : ¬ (rd.getD (1) 0) = 130 := fun h9 => c_7 ((nI_eq (a := (rd.getD (1) 0)) (b := 130) (by omega) (by omega)).mpr h9)
        refine lv_aload_n hx hb dX6_isWanted_55 rfl (lv_at hl 2 rfl) ?_
        refine lv_iconst (v := nI 1) hx hb dX6_isWanted_56 (by decide) ?_
        refine g_calliA (wr := [(ad 24, .inr (4, [.ref (ad 25), .ref (ad 26), .ref (ad 28), .ref (ad 29), .ref (ad 30), .int (nI (nm 5)), .int (nI (nm 6)), .int (nI (nm 7)), .int (nI (nm 8)), .int (nI (nm 9)), .int (nI (nm 10)), .int (nI (nm 11))]))]) (wc := [(ca, .inr (0, [.ref da, .int (nI bl.length)])), (da, .inl (G.2.2.2.1, kz, .inl g))]) (av := [.int (nI 1)]) (rest := []) ⟨hx, hb, hml, hown, hts⟩ (k_Bytes_get l G (ca) (da) kz g bl hq hqn hk9 (nI 1)) (cwV 1 hts gX6_isWanted_X1_get rfl rfl rfl (by decide +kernel) ⟨Nat.le_of_ble_eq_true rfl, Nat.le_of_ble_eq_true rfl⟩) hB (q0 := 0) (ci := 0) rfl rfl rfl rfl hl.1 rfl (Nat.le_of_ble_eq_true rfl) dX6_isWanted_57 ⟨Nat.le_of_ble_eq_true rfl, Nat.le_of_ble_eq_true rfl⟩ (fun r9 u H locs hw hB => ?_)
        obtain ⟨er, rfl⟩ := hw
        have hB : gB G.1 (rT G) A s H locs [(ad 24, .inr (4, [.ref (ad 25), .ref (ad 26), .ref (ad 28), .ref (ad 29), .ref (ad 30), .int (nI (nm 5)), .int (nI (nm 6)), .int (nI (nm 7)), .int (nI (nm 8)), .int (nI (nm 9)), .int (nI (nm 10)), .int (nI (nm 11))])), (ca, .inr (0, [.ref da, .int (nI bl.length)])), (da, .inl (G.2.2.2.1, kz, .inl g))] := hB
        have hlt9 : 1 < bl.length := by omega
        have g_8 : rd.getD (1) 0 < 256 := by rw [hrd, rdN_get]; exact (bq_at hFB hlt9).2
        have er : r9 = nI (rd.getD (1) 0) := by rw [hrd, rdN_get]; exact er.trans (get_in hFB hlt9 (by omega))
        subst er
        refine lv_sipush (v := nI 129) hx hb dX6_isWanted_60 (by decide) ?_
        refine lv_icmp_ne (tgt := 101) hx hb dX6_isWanted_63 (by decide) (fun c_9 => ?_) (fun c_9 => ?_)
        · have c_9 : ¬ (rd.getD (1) 0) = 129 := fun h9 => c_9 ((nI_eq (a := (rd.getD (1) 0)) (b := 129) (by omega) (by omega)).mpr h9)
          refine lv_iconst (v := nI 0) hx hb dX6_isWanted_101 (by decide) ?_
          exact g_zret (S := Int32 × (Nat → Int32)) (Wd := fun u => maO ad nm :: bW G ca da kz u) (v := nI 0) (nI bl.length, g) hB hx hb hr hlocks rfl (narrow_z (Or.inl rfl)) ⟨Or.inr ⟨rfl, fun z => by rcases z.2.2 with z | z; exact c_7 z.1; exact c_9 z.1⟩, rfl⟩ dX6_isWanted_102
        · have c_9 : (rd.getD (1) 0) = 129 := (nI_eq (a := (rd.getD (1) 0)) (b := 129) (by omega) (by omega)).mp c_9
          refine lv_iload_n hx hb dX6_isWanted_66 rfl (lv_at hl 0 rfl) ?_
          refine lv_if_ne (tgt := 101) hx hb dX6_isWanted_67 (by decide) (fun c_10 => ?_) (fun c_10 => ?_)
          · have c_10 : ¬ (if (rd.getD (0) 0 &&& 16) = 0 then 0 else 1) = 0 := fun h9 => c_10 ((nI_eq (a := (if (rd.getD (0) 0 &&& 16) = 0 then 0 else 1)) (b := 0) (by omega) (by omega)).mpr h9)
            have hu : ¬ (rd.getD 0 0 &&& 16) = 0 := fun z => c_10 (if_pos z)
            refine lv_iconst (v := nI 0) hx hb dX6_isWanted_101 (by decide) ?_
            exact g_zret (S := Int32 × (Nat → Int32)) (Wd := fun u => maO ad nm :: bW G ca da kz u) (v := nI 0) (nI bl.length, g) hB hx hb hr hlocks rfl (narrow_z (Or.inl rfl)) ⟨Or.inr ⟨rfl, fun z => by rcases z.2.2 with z | z; exact c_7 z.1; exact hu z.2.1⟩, rfl⟩ dX6_isWanted_102
          · have c_10 : (if (rd.getD (0) 0 &&& 16) = 0 then 0 else 1) = 0 := (nI_eq (a := (if (rd.getD (0) 0 &&& 16) = 0 then 0 else 1)) (b := 0) (by omega) (by omega)).mp c_10
            have hu : (rd.getD 0 0 &&& 16) = 0 := Classical.byContradiction (fun z => by have h1 := c_10; rw [if_neg z] at h1; exact absurd h1 (by decide))
            refine lv_aload_n hx hb dX6_isWanted_70 rfl (lv_at hl 1 rfl) ?_
            refine g_get (own := RX6) (C := RX6) (T := TX6) (N := 12) (ci := 4) (v := .int (nI (nm 6))) hx hb hts (fun _ h => List.mem_cons_of_mem _ (List.mem_append_left _ (List.mem_append_right _ h))) hown hB 0 rfl rfl 6 (by decide) (hts (.fieldLink RX6 57 "PointReports$Master" "awaitsResponse" "Z") (by decide +kernel)) rfl rfl dX6_isWanted_71 ?_
            refine lv_if_eq (tgt := 101) hx hb dX6_isWanted_74 (by decide) (fun c_11 => ?_) (fun c_11 => ?_)
            · have c_11 : (nm 6) = 0 := (nI_eq (a := (nm 6)) (b := 0) (by omega) (by omega)).mp c_11
              refine lv_iconst (v := nI 0) hx hb dX6_isWanted_101 (by decide) ?_
              exact g_zret (S := Int32 × (Nat → Int32)) (Wd := fun u => maO ad nm :: bW G ca da kz u) (v := nI 0) (nI bl.length, g) hB hx hb hr hlocks rfl (narrow_z (Or.inl rfl)) ⟨Or.inr ⟨rfl, fun z => by rcases z.2.2 with z | z; exact c_7 z.1; (have := z.2.2.1; omega)⟩, rfl⟩ dX6_isWanted_102
            · have c_11 : ¬ (nm 6) = 0 := fun h9 => c_11 ((nI_eq (a := (nm 6)) (b := 0) (by omega) (by omega)).mpr h9)
              have h61 : nm 6 = 1 := by omega
              have h51 := hq1 h61
              refine lv_aload_n hx hb dX6_isWanted_77 rfl (lv_at hl 2 rfl) ?_
              refine lv_iconst (v := nI 0) hx hb dX6_isWanted_78 (by decide) ?_
              refine g_calliA (wr := [(ad 24, .inr (4, [.ref (ad 25), .ref (ad 26), .ref (ad 28), .ref (ad 29), .ref (ad 30), .int (nI (nm 5)), .int (nI (nm 6)), .int (nI (nm 7)), .int (nI (nm 8)), .int (nI (nm 9)), .int (nI (nm 10)), .int (nI (nm 11))]))]) (wc := [(ca, .inr (0, [.ref da, .int (nI bl.length)])), (da, .inl (G.2.2.2.1, kz, .inl g))]) (av := [.int (nI 0)]) (rest := []) ⟨hx, hb, hml, hown, hts⟩ (k_Bytes_get l G (ca) (da) kz g bl hq hqn hk9 (nI 0)) (cwV 1 hts gX6_isWanted_X1_get rfl rfl rfl (by decide +kernel) ⟨Nat.le_of_ble_eq_true rfl, Nat.le_of_ble_eq_true rfl⟩) hB (q0 := 0) (ci := 0) rfl rfl rfl rfl hl.1 rfl (Nat.le_of_ble_eq_true rfl) dX6_isWanted_79 ⟨Nat.le_of_ble_eq_true rfl, Nat.le_of_ble_eq_true rfl⟩ (fun r9 u H locs hw hB => ?_)
              obtain ⟨er, rfl⟩ := hw
              have hB : gB G.1 (rT G) A s H locs [(ad 24, .inr (4, [.ref (ad 25), .ref (ad 26), .ref (ad 28), .ref (ad 29), .ref (ad 30), .int (nI (nm 5)), .int (nI (nm 6)), .int (nI (nm 7)), .int (nI (nm 8)), .int (nI (nm 9)), .int (nI (nm 10)), .int (nI (nm 11))])), (ca, .inr (0, [.ref da, .int (nI bl.length)])), (da, .inl (G.2.2.2.1, kz, .inl g))] := hB
              have hlt9 : 0 < bl.length := by omega
              have g_12 : rd.getD (0) 0 < 256 := by rw [hrd, rdN_get]; exact (bq_at hFB hlt9).2
              have er : r9 = nI (rd.getD (0) 0) := by rw [hrd, rdN_get]; exact er.trans (get_in hFB hlt9 (by omega))
              subst er
              refine lv_bipush (v := nI 15) hx hb dX6_isWanted_82 (by decide) ?_
              refine lv_iand hx hb dX6_isWanted_84 ?_
              refine g_top (y := nI (rd.getD (0) 0 &&& 15)) (nx_and _ _) ?_
              have hmk15 : (rd.getD (0) 0 &&& 15) ≤ 15 := Nat.and_le_right
              refine lv_aload_n hx hb dX6_isWanted_85 rfl (lv_at hl 1 rfl) ?_
              refine g_get (own := RX6) (C := RX6) (T := TX6) (N := 12) (ci := 4) (v := .int (nI (nm 5))) hx hb hts (fun _ h => List.mem_cons_of_mem _ (List.mem_append_left _ (List.mem_append_right _ h))) hown hB 0 rfl rfl 5 (by decide) (hts (.fieldLink RX6 36 "PointReports$Master" "readings" "I") (by decide +kernel)) rfl rfl dX6_isWanted_86 ?_
              refine lv_iconst (v := nI 1) hx hb dX6_isWanted_89 (by decide) ?_
              refine lv_isub hx hb dX6_isWanted_90 ?_
              refine g_top (y := nI (nm 5 - 1)) (pk_sub h51) ?_
              refine lv_bipush (v := nI 15) hx hb dX6_isWanted_91 (by decide) ?_
              refine lv_iand hx hb dX6_isWanted_93 ?_
              refine g_top (y := nI ((nm 5 - 1) % 16)) (and15 _) ?_
              refine lv_icmp_ne (tgt := 101) hx hb dX6_isWanted_94 (by decide) (fun c_13 => ?_) (fun c_13 => ?_)
              · have c_13 : ¬ (rd.getD (0) 0 &&& 15) = ((nm 5 - 1) % 16) := fun h9 => c_13 ((nI_eq (a := (rd.getD (0) 0 &&& 15)) (b := ((nm 5 - 1) % 16)) (by omega) (by omega)).mpr h9)
                refine lv_iconst (v := nI 0) hx hb dX6_isWanted_101 (by decide) ?_
                exact g_zret (S := Int32 × (Nat → Int32)) (Wd := fun u => maO ad nm :: bW G ca da kz u) (v := nI 0) (nI bl.length, g) hB hx hb hr hlocks rfl (narrow_z (Or.inl rfl)) ⟨Or.inr ⟨rfl, fun z => by rcases z.2.2 with z | z; exact c_7 z.1; exact c_13 z.2.2.2⟩, rfl⟩ dX6_isWanted_102
              · have c_13 : (rd.getD (0) 0 &&& 15) = ((nm 5 - 1) % 16) := (nI_eq (a := (rd.getD (0) 0 &&& 15)) (b := ((nm 5 - 1) % 16)) (by omega) (by omega)).mp c_13
                refine lv_iconst (v := nI 1) hx hb dX6_isWanted_97 (by decide) ?_
                refine lv_goto (tgt := 102) hx hb dX6_isWanted_98 (by decide) ?_
                exact g_zret (S := Int32 × (Nat → Int32)) (Wd := fun u => maO ad nm :: bW G ca da kz u) (v := nI 1) (nI bl.length, g) hB hx hb hr hlocks rfl (narrow_z (Or.inr rfl)) ⟨Or.inl ⟨rfl, by omega, c_3, Or.inr ⟨c_9, hu, h61, c_13⟩⟩, rfl⟩ dX6_isWanted_102
      · have c_7 : (rd.getD (1) 0) = 130 := (nI_eq (a := (rd.getD (1) 0)) (b := 130) (by omega) (by omega)).mp c_7
        refine lv_iload_n hx hb dX6_isWanted_53 rfl (lv_at hl 0 rfl) ?_
        have hz : (nI (if (rd.getD (0) 0 &&& 16) = 0 then 0 else 1) = nI 1 ∧ wnC nm rd) ∨ (nI (if (rd.getD (0) 0 &&& 16) = 0 then 0 else 1) = nI 0 ∧ ¬ wnC nm rd) := by by_cases z : (rd.getD (0) 0 &&& 16) = 0; (rw [if_pos z]; exact Or.inr ⟨rfl, fun y => by rcases y.2.2 with y | y; exact y.2 z; exact absurd (c_7.symm.trans y.1) (by decide)⟩); (rw [if_neg z]; exact Or.inl ⟨rfl, by omega, c_3, Or.inl ⟨c_7, z⟩⟩)
        exact g_zret (S := Int32 × (Nat → Int32)) (Wd := fun u => maO ad nm :: bW G ca da kz u) (v := nI (if (rd.getD (0) 0 &&& 16) = 0 then 0 else 1)) (nI bl.length, g) hB hx hb hr hlocks rfl (narrow_z (b01 hif)) ⟨hz, rfl⟩ dX6_isWanted_54
    · have c_3 : ¬ (rd.getD (0) 0 &&& 192) = 192 := fun h9 => c_3 ((nI_eq (a := (rd.getD (0) 0 &&& 192)) (b := 192) (by omega) (by omega)).mpr h9)
      refine lv_iconst (v := nI 0) hx hb dX6_isWanted_23 (by decide) ?_
      exact g_zret (S := Int32 × (Nat → Int32)) (Wd := fun u => maO ad nm :: bW G ca da kz u) (v := nI 0) (nI bl.length, g) hB hx hb hr hlocks rfl (narrow_z (Or.inl rfl)) ⟨Or.inr ⟨rfl, fun z => c_3 z.2.1⟩, rfl⟩ dX6_isWanted_24
set_option maxRecDepth 100000 in
set_option maxHeartbeats 2000000 in
/-- Master.groupsAreSound(fragment) -/
theorem k_Master_groupsAreSound (l : Launch) (G : rG) (ca da kz : Nat) (g : Nat → Int32) (bl : List Int32) (hq : pfx g bl) (hqn : bl.length ≤ kz) (hk9 : kz < 1000000) (hFB : ∀ x ∈ bl, isB x) (rd : List Nat) (hrd : rd = rdN bl) (h4 : bl.length ≤ 400) (h4l : 4 ≤ bl.length) : gM l G.1 (rT G) yX6_groupsAreSound wsX6_groupsAreSound { frames := 3, cells := 0, slots := 0, locals := 67 } [.ref ca] [(ca, .inr (0, [.ref da, .int (nI bl.length)])), (da, .inl (G.2.2.2.1, kz, .inl g))] (gQi G.1 (rT G) (fun (r : Int32) (u : Int32 × (Nat → Int32)) => ((r = nI 1 ∧ arG rd) ∨ (r = nI 0 ∧ ¬ arG rd)) ∧ u = (nI bl.length, g)) (bW G ca da kz)) 0 0 := by
  refine gM.of (cc := cX6_groupsAreSound) (maxL := 3) (ret := (some .boolean)) (by decide) rfl (Nat.le_of_ble_eq_true rfl) ?_
  intro p e s m below meth c A ls hx hb hr hml hown hts hlocks hnm hB hl
  have hl : lv_has ls 3 [(0, .ref ca)] := hl
  have hrl2 : rd.length = bl.length := by rw [hrd, rdN_len]
  refine lv_iconst (v := nI 4) hx hb dX6_groupsAreSound_0 (by decide) ?_
  refine lv_istore_n (lv' := [(1, .int (nI 4)), (0, .ref ca)]) hx hb dX6_groupsAreSound_1 rfl hl (by decide) rfl (fun ls hl => ?_)
  have hl : lv_has ls 3 [(1, .int (nI 4)), (0, .ref ca)] := lv_sub hl [0, 1] rfl
  have hB : gB G.1 (rT G) A s s.heap [] [(ca, .inr (0, [.ref da, .int (nI bl.length)])), (da, .inl (G.2.2.2.1, kz, .inl g))] := hB
  refine g_loop (σ := Nat) (fun d xv H locs ls => (agN rd d xv = agN rd 400 4) ∧ (xv ≤ bl.length) ∧ (bl.length ≤ xv + 3 * d) ∧ gB G.1 (rT G) A s H locs [(ca, .inr (0, [.ref da, .int (nI bl.length)])), (da, .inl (G.2.2.2.1, kz, .inl g))] ∧ lv_has ls 3 [(1, .int (nI xv)), (0, .ref ca)]) 400 (4) ⟨rfl, h4l, by show bl.length ≤ 4 + 3 * 400; omega, hB, hl⟩ ?_
  rintro d z H locs ls ⟨ha, hz, hd, hB, hl⟩ ih_1
  have ha : agN rd d z = agN rd 400 4 := ha
  have hz : z ≤ bl.length := hz
  have hd : bl.length ≤ z + 3 * d := hd
  have hB : gB G.1 (rT G) A s H locs [(ca, .inr (0, [.ref da, .int (nI bl.length)])), (da, .inl (G.2.2.2.1, kz, .inl g))] := hB
  have hl : lv_has ls 3 [(1, .int (nI z)), (0, .ref ca)] := hl
  refine lv_iload_n hx hb dX6_groupsAreSound_2 rfl (lv_at hl 0 rfl) ?_
  refine lv_aload_n hx hb dX6_groupsAreSound_3 rfl (lv_at hl 1 rfl) ?_
  refine g_calliA (wr := []) (wc := [(ca, .inr (0, [.ref da, .int (nI bl.length)])), (da, .inl (G.2.2.2.1, kz, .inl g))]) (av := []) (rest := [.int (nI z)]) ⟨hx, hb, hml, hown, hts⟩ (k_Bytes_size l G (ca) (da) kz g bl hq hqn hk9) (cwV 0 hts gX6_groupsAreSound_X1_size rfl rfl rfl (by decide +kernel) ⟨Nat.le_of_ble_eq_true rfl, Nat.le_of_ble_eq_true rfl⟩) hB (q0 := 0) (ci := 0) rfl rfl rfl rfl hl.1 rfl (Nat.le_of_ble_eq_true rfl) dX6_groupsAreSound_4 ⟨Nat.le_of_ble_eq_true rfl, Nat.le_of_ble_eq_true rfl⟩ (fun r9 u H locs hw hB => ?_)
  obtain ⟨rfl, rfl⟩ := hw
  have hB : gB G.1 (rT G) A s H locs [(ca, .inr (0, [.ref da, .int (nI bl.length)])), (da, .inl (G.2.2.2.1, kz, .inl g))] := hB
  refine lv_icmp_ge (tgt := 28) hx hb dX6_groupsAreSound_7 (by decide) (fun c_2 => ?_) (fun c_2 => ?_)
  · have c_2 : bl.length ≤ z := (nI_leI (a := bl.length) (b := z) (by omega) (by omega)).mp c_2
    refine lv_iconst (v := nI 1) hx hb dX6_groupsAreSound_28 (by decide) ?_
    rw [agN_end (by omega)] at ha
    exact g_zret (S := Int32 × (Nat → Int32)) (Wd := bW G ca da kz) (v := nI 1) (nI bl.length, g) hB hx hb hr hlocks rfl (narrow_z (Or.inr rfl)) ⟨Or.inl ⟨rfl, by omega, by omega⟩, rfl⟩ dX6_groupsAreSound_29
  · have c_2 : ¬ bl.length ≤ z := fun h9 => c_2 ((nI_leI (a := bl.length) (b := z) (by omega) (by omega)).mpr h9)
    obtain ⟨d1, ed⟩ : ∃ d1, d = d1 + 1 := ⟨d - 1, by omega⟩
    subst ed
    rw [agN, if_pos (by omega)] at ha
    refine lv_aload_n hx hb dX6_groupsAreSound_10 rfl (lv_at hl 1 rfl) ?_
    refine lv_iload_n hx hb dX6_groupsAreSound_11 rfl (lv_at hl 0 rfl) ?_
    refine g_callSiA (wr := []) (wc := [(ca, .inr (0, [.ref da, .int (nI bl.length)])), (da, .inl (G.2.2.2.1, kz, .inl g))]) (av := [.ref ca, .int (nI z)]) (rest := []) ⟨hx, hb, hml, hown, hts⟩ (k_Group_end l G (ca) (da) kz g bl hq hqn hk9 hFB rd hrd z hz h4) (va_cwS 2 hts gX6_groupsAreSound_X4_end rfl rfl rfl (by decide +kernel) ⟨Nat.le_of_ble_eq_true rfl, Nat.le_of_ble_eq_true rfl⟩) hB rfl hl.1 rfl (Nat.le_of_ble_eq_true rfl) dX6_groupsAreSound_12 ⟨Nat.le_of_ble_eq_true rfl, Nat.le_of_ble_eq_true rfl⟩ (fun r9 u H locs hw hB => ?_)
    obtain ⟨hge, rfl⟩ := hw
    have hB : gB G.1 (rT G) A s H locs [(ca, .inr (0, [.ref da, .int (nI bl.length)])), (da, .inl (G.2.2.2.1, kz, .inl g))] := hB
    refine lv_istore_n (lv' := [(2, .int r9), (1, .int (nI z)), (0, .ref ca)]) hx hb dX6_groupsAreSound_15 rfl hl (by decide) rfl (fun ls hl => ?_)
    refine lv_iload_n hx hb dX6_groupsAreSound_16 rfl (lv_at hl 0 rfl) ?_
    refine lv_iload_n hx hb dX6_groupsAreSound_17 rfl (lv_at hl 1 rfl) ?_
    have hgl := gpN_le rd z
    refine lv_icmp_gt (tgt := 23) hx hb dX6_groupsAreSound_18 (by decide) (fun c_3 => ?_) (fun c_3 => ?_)
    · have c_3 := c_3
      have hg0 : ¬ gpN rd z = 0 := by rcases hge with ⟨-, h1⟩ | ⟨h1, -⟩; (intro _; rw [h1] at c_3; exact nI_m1 (by omega) c_3); exact h1
      have er : r9 = nI (z + gpN rd z) := by rcases hge with ⟨h1, -⟩ | ⟨-, h1⟩; exact absurd h1 hg0; exact h1
      subst er
      rw [if_neg hg0] at ha
      refine lv_iload_n hx hb dX6_groupsAreSound_23 rfl (lv_at hl 0 rfl) ?_
      refine lv_istore_n (lv' := [(1, .int (nI (z + gpN rd z))), (2, .int (nI (z + gpN rd z))), (0, .ref ca)]) hx hb dX6_groupsAreSound_24 rfl hl (by decide) rfl (fun ls hl => ?_)
      refine lv_goto (tgt := 2) hx hb dX6_groupsAreSound_25 (by decide) ?_
      have hl : lv_has ls 3 [(1, .int (nI (z + gpN rd z))), (0, .ref ca)] := lv_sub hl [0, 2] rfl
      have hB : gB G.1 (rT G) A s H locs [(ca, .inr (0, [.ref da, .int (nI bl.length)])), (da, .inl (G.2.2.2.1, kz, .inl g))] := hB
      have b_4 : agN rd d1 (z + gpN rd z) = agN rd 400 4 := ha
      have b_5 : (z + gpN rd z) ≤ bl.length := by omega
      have b_6 : bl.length ≤ (z + gpN rd z) + 3 * d1 := by omega
      exact ih_1 d1 (z + gpN rd z) H locs ls (by omega) ⟨b_4, b_5, b_6, hB, hl⟩
    · have c_3 := c_3
      have hg0 : gpN rd z = 0 := by rcases hge with ⟨h1, -⟩ | ⟨h1, h2⟩; exact h1; exact absurd (show nI z < r9 by rw [h2]; exact (nI_ltI (by omega) (by omega)).mpr (by omega)) c_3
      rw [if_pos hg0] at ha
      refine lv_iconst (v := nI 0) hx hb dX6_groupsAreSound_21 (by decide) ?_
      exact g_zret (S := Int32 × (Nat → Int32)) (Wd := bW G ca da kz) (v := nI 0) (nI bl.length, g) hB hx hb hr hlocks rfl (narrow_z (Or.inl rfl)) ⟨Or.inr ⟨rfl, fun q => by have := q.2; omega⟩, rfl⟩ dX6_groupsAreSound_22
set_option maxRecDepth 100000 in
set_option maxHeartbeats 2000000 in
/-- Master.takeState(fragment, from) -/
theorem k_Master_takeState (l : Launch) (G : rG) (ad nm : Nat → Nat) (h6 : nm 6 ≤ 1) (hbn : ∀ k, nm k ≤ 990000) (v4 : Nat → Int32) (ca da kz : Nat) (g : Nat → Int32) (bl : List Int32) (hq : pfx g bl) (hqn : bl.length ≤ kz) (hk9 : kz < 1000000) (hFB : ∀ x ∈ bl, isB x) (rd : List Nat) (hrd : rd = rdN bl) (h4 : bl.length ≤ 400) (z : Nat) (hz : z + 3 ≤ bl.length) (hz10 : rd.getD z 0 < 10) : gM l G.1 (rT G) yX6_takeState wsX6_takeState { frames := 2, cells := 0, slots := 0, locals := 45 } [.ref (ad 24), .ref ca, .int (nI z)] [(ad 24, .inr (4, [.ref (ad 25), .ref (ad 26), .ref (ad 28), .ref (ad 29), .ref (ad 30), .int (nI (nm 5)), .int (nI (nm 6)), .int (nI (nm 7)), .int (nI (nm 8)), .int (nI (nm 9)), .int (nI (nm 10)), .int (nI (nm 11))])), (ad 28, .inl (G.2.2.2.1, 10, .inl v4)), (ca, .inr (0, [.ref da, .int (nI bl.length)])), (da, .inl (G.2.2.2.1, kz, .inl g))] (gQv G.1 (rT G) (fun u : Nat → Int32 => u = upd v4 (rd.getD z 0) (nI (hN rd (z + 1) 2))) (fun u => maO ad nm :: (ad 28, .inl (G.2.2.2.1, 10, .inl u)) :: bW G ca da kz (nI bl.length, g))) 0 0 := by
  refine gM.of (cc := cX6_takeState) (maxL := 4) (ret := none) (by decide) rfl (Nat.le_of_ble_eq_true rfl) ?_
  intro p e s m below meth c A ls hx hb hr hml hown hts hlocks hnm hB hl
  have hl : lv_has ls 4 [(0, .ref (ad 24)), (1, .ref ca), (2, .int (nI z))] := hl
  refine lv_aload_n hx hb dX6_takeState_0 rfl (lv_at hl 1 rfl) ?_
  refine lv_iload_n hx hb dX6_takeState_1 rfl (lv_at hl 2 rfl) ?_
  refine g_calliA (wr := [(ad 24, .inr (4, [.ref (ad 25), .ref (ad 26), .ref (ad 28), .ref (ad 29), .ref (ad 30), .int (nI (nm 5)), .int (nI (nm 6)), .int (nI (nm 7)), .int (nI (nm 8)), .int (nI (nm 9)), .int (nI (nm 10)), .int (nI (nm 11))])), (ad 28, .inl (G.2.2.2.1, 10, .inl v4))]) (wc := [(ca, .inr (0, [.ref da, .int (nI bl.length)])), (da, .inl (G.2.2.2.1, kz, .inl g))]) (av := [.int (nI z)]) (rest := []) ⟨hx, hb, hml, hown, hts⟩ (k_Bytes_get l G (ca) (da) kz g bl hq hqn hk9 (nI z)) (cwV 1 hts gX6_takeState_X1_get rfl rfl rfl (by decide +kernel) ⟨Nat.le_of_ble_eq_true rfl, Nat.le_of_ble_eq_true rfl⟩) hB (q0 := 0) (ci := 0) rfl rfl rfl rfl hl.1 rfl (Nat.le_of_ble_eq_true rfl) dX6_takeState_2 ⟨Nat.le_of_ble_eq_true rfl, Nat.le_of_ble_eq_true rfl⟩ (fun r9 u H locs hw hB => ?_)
  obtain ⟨er, rfl⟩ := hw
  have hB : gB G.1 (rT G) A s H locs [(ad 24, .inr (4, [.ref (ad 25), .ref (ad 26), .ref (ad 28), .ref (ad 29), .ref (ad 30), .int (nI (nm 5)), .int (nI (nm 6)), .int (nI (nm 7)), .int (nI (nm 8)), .int (nI (nm 9)), .int (nI (nm 10)), .int (nI (nm 11))])), (ad 28, .inl (G.2.2.2.1, 10, .inl v4)), (ca, .inr (0, [.ref da, .int (nI bl.length)])), (da, .inl (G.2.2.2.1, kz, .inl g))] := hB
  have hlt9 : z < bl.length := by omega
  have g_1 : rd.getD (z) 0 < 256 := by rw [hrd, rdN_get]; exact (bq_at hFB hlt9).2
  have er : r9 = nI (rd.getD (z) 0) := by rw [hrd, rdN_get]; exact er.trans (get_in hFB hlt9 (by omega))
  subst er
  refine lv_istore_n (lv' := [(3, .int (nI (rd.getD (z) 0))), (0, .ref (ad 24)), (1, .ref ca), (2, .int (nI z))]) hx hb dX6_takeState_5 rfl hl (by decide) rfl (fun ls hl => ?_)
  refine lv_iload_n hx hb dX6_takeState_6 rfl (lv_at hl 0 rfl) ?_
  refine lv_if_lt (tgt := 30) hx hb dX6_takeState_7 (by decide) (fun c_2 => ?_) (fun c_2 => ?_)
  · have c_2 : (rd.getD (z) 0) < 0 := (nI_ltI (a := (rd.getD (z) 0)) (b := 0) (by omega) (by omega)).mp c_2
    exact absurd c_2 (by omega)
  · have c_2 : ¬ (rd.getD (z) 0) < 0 := fun h9 => c_2 ((nI_ltI (a := (rd.getD (z) 0)) (b := 0) (by omega) (by omega)).mpr h9)
    refine lv_iload_n hx hb dX6_takeState_10 rfl (lv_at hl 0 rfl) ?_
    refine lv_bipush (v := nI 10) hx hb dX6_takeState_11 (by decide) ?_
    refine lv_icmp_ge (tgt := 30) hx hb dX6_takeState_13 (by decide) (fun c_3 => ?_) (fun c_3 => ?_)
    · have c_3 : 10 ≤ (rd.getD (z) 0) := (nI_leI (a := 10) (b := (rd.getD (z) 0)) (by omega) (by omega)).mp c_3
      exact absurd c_3 (by omega)
    · have c_3 : ¬ 10 ≤ (rd.getD (z) 0) := fun h9 => c_3 ((nI_leI (a := 10) (b := (rd.getD (z) 0)) (by omega) (by omega)).mpr h9)
      refine lv_aload_n hx hb dX6_takeState_16 rfl (lv_at hl 1 rfl) ?_
      refine g_get (own := RX6) (C := RX6) (T := TX6) (N := 12) (ci := 4) (v := .ref (ad 28)) hx hb hts (fun _ h => List.mem_cons_of_mem _ (List.mem_append_left _ (List.mem_append_right _ h))) hown hB 0 rfl rfl 2 (by decide) (hts (.fieldLink RX6 22 "PointReports$Master" "values" "[I") (by decide +kernel)) rfl rfl dX6_takeState_17 ?_
      refine lv_iload_n hx hb dX6_takeState_20 rfl (lv_at hl 0 rfl) ?_
      refine lv_aload_n hx hb dX6_takeState_21 rfl (lv_at hl 2 rfl) ?_
      refine lv_iload_n hx hb dX6_takeState_22 rfl (lv_at hl 3 rfl) ?_
      refine lv_iconst (v := nI 1) hx hb dX6_takeState_23 (by decide) ?_
      refine lv_iadd hx hb dX6_takeState_24 ?_
      refine g_top (y := nI (z + 1)) (nI_add _ _) ?_
      refine lv_iconst (v := nI 2) hx hb dX6_takeState_25 (by decide) ?_
      refine g_calliA (wr := [(ad 24, .inr (4, [.ref (ad 25), .ref (ad 26), .ref (ad 28), .ref (ad 29), .ref (ad 30), .int (nI (nm 5)), .int (nI (nm 6)), .int (nI (nm 7)), .int (nI (nm 8)), .int (nI (nm 9)), .int (nI (nm 10)), .int (nI (nm 11))])), (ad 28, .inl (G.2.2.2.1, 10, .inl v4))]) (wc := [(ca, .inr (0, [.ref da, .int (nI bl.length)])), (da, .inl (G.2.2.2.1, kz, .inl g))]) (av := [.int (nI (z + 1)), .int (nI 2)]) (rest := [.int (nI (rd.getD (z) 0)), .ref (ad 28)]) ⟨hx, hb, hml, hown, hts⟩ (k_Bytes_number l G (ca) (da) kz g bl hq hqn hk9 hFB (z + 1) 2 (by decide) (by omega)) (cwV 2 hts gX6_takeState_X1_number rfl rfl rfl (by decide +kernel) ⟨Nat.le_of_ble_eq_true rfl, Nat.le_of_ble_eq_true rfl⟩) hB (q0 := 0) (ci := 0) rfl rfl rfl rfl hl.1 rfl (Nat.le_of_ble_eq_true rfl) dX6_takeState_26 ⟨Nat.le_of_ble_eq_true rfl, Nat.le_of_ble_eq_true rfl⟩ (fun r9 u H locs hw hB => ?_)
      obtain ⟨rfl, rfl⟩ := hw
      have hB : gB G.1 (rT G) A s H locs [(ad 24, .inr (4, [.ref (ad 25), .ref (ad 26), .ref (ad 28), .ref (ad 29), .ref (ad 30), .int (nI (nm 5)), .int (nI (nm 6)), .int (nI (nm 7)), .int (nI (nm 8)), .int (nI (nm 9)), .int (nI (nm 10)), .int (nI (nm 11))])), (ad 28, .inl (G.2.2.2.1, 10, .inl v4)), (ca, .inr (0, [.ref da, .int (nI bl.length)])), (da, .inl (G.2.2.2.1, kz, .inl g))] := hB
      refine g_top (y := nI (hN rd (z + 1) 2)) (by rw [lo_h2, hrd]) ?_
      refine g_ast (x := nI (hN rd (z + 1) 2)) hx hb ([(ad 24, .inr (4, [.ref (ad 25), .ref (ad 26), .ref (ad 28), .ref (ad 29), .ref (ad 30), .int (nI (nm 5)), .int (nI (nm 6)), .int (nI (nm 7)), .int (nI (nm 8)), .int (nI (nm 9)), .int (nI (nm 10)), .int (nI (nm 11))])), (ad 28, .inl (G.2.2.2.1, 10, .inl (upd v4 (rd.getD (z) 0) (nI (hN rd (z + 1) 2))))), (ca, .inr (0, [.ref da, .int (nI bl.length)])), (da, .inl (G.2.2.2.1, kz, .inl g))]) hB 1 0 rfl rfl (rd.getD (z) 0) rfl (by omega) (by omega) rfl dX6_takeState_29 (fun H locs hB => ?_)
      exact g_vret (S := Nat → Int32) (Wd := fun u => maO ad nm :: (ad 28, .inl (G.2.2.2.1, 10, .inl u)) :: bW G ca da kz (nI bl.length, g)) (upd v4 (rd.getD (z) 0) (nI (hN rd (z + 1) 2))) hB hx hb hr hlocks rfl rfl dX6_takeState_30
set_option maxRecDepth 100000 in
set_option maxHeartbeats 2000000 in
/-- Master.takeEvent(fragment, from, cls) -/
theorem k_Master_takeEvent (l : Launch) (G : rG) (ad nm : Nat → Nat) (h6 : nm 6 ≤ 1) (hbn : ∀ k, nm k ≤ 990000) (v4 v5 v6 : Nat → Int32) (ca da kz : Nat) (g : Nat → Int32) (bl : List Int32) (hq : pfx g bl) (hqn : bl.length ≤ kz) (hk9 : kz < 1000000) (hFB : ∀ x ∈ bl, isB x) (rd : List Nat) (hrd : rd = rdN bl) (h4 : bl.length ≤ 400) (z cls : Nat) (hz : z + 7 ≤ bl.length) (hz10 : rd.getD z 0 < 10) : gM l G.1 (rT G) yX6_takeEvent wsX6_takeEvent { frames := 2, cells := 0, slots := 0, locals := 45 } [.ref (ad 24), .ref ca, .int (nI z), .int (nI cls)] [(ad 24, .inr (4, [.ref (ad 25), .ref (ad 26), .ref (ad 28), .ref (ad 29), .ref (ad 30), .int (nI (nm 5)), .int (nI (nm 6)), .int (nI (nm 7)), .int (nI (nm 8)), .int (nI (nm 9)), .int (nI (nm 10)), .int (nI (nm 11))])), (ad 28, .inl (G.2.2.2.1, 10, .inl v4)), (ad 29, .inl (G.2.2.2.1, 10, .inl v5)), (ad 30, .inl (G.2.2.2.1, 800, .inl v6)), (ca, .inr (0, [.ref da, .int (nI bl.length)])), (da, .inl (G.2.2.2.1, kz, .inl g))] (gQv G.1 (rT G) (fun u : mS => u = (kTE (nm, v4, v5, v6) rd z cls)) (fun u => maW G ad u ++ bW G ca da kz (nI bl.length, g))) 0 0 := by
  refine gM.of (cc := cX6_takeEvent) (maxL := 8) (ret := none) (by decide) rfl (Nat.le_of_ble_eq_true rfl) ?_
  intro p e s m below meth c A ls hx hb hr hml hown hts hlocks hnm hB hl
  have hl : lv_has ls 8 [(0, .ref (ad 24)), (1, .ref ca), (2, .int (nI z)), (3, .int (nI cls))] := hl
  have b5 := hbn 5
  have b6 := hbn 6
  have b7 := hbn 7
  have b8 := hbn 8
  refine lv_aload_n hx hb dX6_takeEvent_0 rfl (lv_at hl 1 rfl) ?_
  refine lv_iload_n hx hb dX6_takeEvent_1 rfl (lv_at hl 2 rfl) ?_
  refine g_calliA (wr := [(ad 24, .inr (4, [.ref (ad 25), .ref (ad 26), .ref (ad 28), .ref (ad 29), .ref (ad 30), .int (nI (nm 5)), .int (nI (nm 6)), .int (nI (nm 7)), .int (nI (nm 8)), .int (nI (nm 9)), .int (nI (nm 10)), .int (nI (nm 11))])), (ad 28, .inl (G.2.2.2.1, 10, .inl v4)), (ad 29, .inl (G.2.2.2.1, 10, .inl v5)), (ad 30, .inl (G.2.2.2.1, 800, .inl v6))]) (wc := [(ca, .inr (0, [.ref da, .int (nI bl.length)])), (da, .inl (G.2.2.2.1, kz, .inl g))]) (av := [.int (nI z)]) (rest := []) ⟨hx, hb, hml, hown, hts⟩ (k_Bytes_get l G (ca) (da) kz g bl hq hqn hk9 (nI z)) (cwV 1 hts gX6_takeEvent_X1_get rfl rfl rfl (by decide +kernel) ⟨Nat.le_of_ble_eq_true rfl, Nat.le_of_ble_eq_true rfl⟩) hB (q0 := 0) (ci := 0) rfl rfl rfl rfl hl.1 rfl (Nat.le_of_ble_eq_true rfl) dX6_takeEvent_2 ⟨Nat.le_of_ble_eq_true rfl, Nat.le_of_ble_eq_true rfl⟩ (fun r9 u H locs hw hB => ?_)
  obtain ⟨er, rfl⟩ := hw
  have hB : gB G.1 (rT G) A s H locs [(ad 24, .inr (4, [.ref (ad 25), .ref (ad 26), .ref (ad 28), .ref (ad 29), .ref (ad 30), .int (nI (nm 5)), .int (nI (nm 6)), .int (nI (nm 7)), .int (nI (nm 8)), .int (nI (nm 9)), .int (nI (nm 10)), .int (nI (nm 11))])), (ad 28, .inl (G.2.2.2.1, 10, .inl v4)), (ad 29, .inl (G.2.2.2.1, 10, .inl v5)), (ad 30, .inl (G.2.2.2.1, 800, .inl v6)), (ca, .inr (0, [.ref da, .int (nI bl.length)])), (da, .inl (G.2.2.2.1, kz, .inl g))] := hB
  have hlt9 : z < bl.length := by omega
  have g_1 : rd.getD (z) 0 < 256 := by rw [hrd, rdN_get]; exact (bq_at hFB hlt9).2
  have er : r9 = nI (rd.getD (z) 0) := by rw [hrd, rdN_get]; exact er.trans (get_in hFB hlt9 (by omega))
  subst er
  refine lv_istore (lv' := [(4, .int (nI (rd.getD (z) 0))), (0, .ref (ad 24)), (1, .ref ca), (2, .int (nI z)), (3, .int (nI cls))]) hx hb dX6_takeEvent_5 hl (by decide) rfl (fun ls hl => ?_)
  refine lv_iload hx hb dX6_takeEvent_7 (lv_at hl 0 rfl) ?_
  refine lv_if_lt (tgt := 19) hx hb dX6_takeEvent_9 (by decide) (fun c_2 => ?_) (fun c_2 => ?_)
  · have c_2 : (rd.getD (z) 0) < 0 := (nI_ltI (a := (rd.getD (z) 0)) (b := 0) (by omega) (by omega)).mp c_2
    exact absurd c_2 (by omega)
  · have c_2 : ¬ (rd.getD (z) 0) < 0 := fun h9 => c_2 ((nI_ltI (a := (rd.getD (z) 0)) (b := 0) (by omega) (by omega)).mpr h9)
    refine lv_iload hx hb dX6_takeEvent_12 (lv_at hl 0 rfl) ?_
    refine lv_bipush (v := nI 10) hx hb dX6_takeEvent_14 (by decide) ?_
    refine lv_icmp_lt (tgt := 20) hx hb dX6_takeEvent_16 (by decide) (fun c_3 => ?_) (fun c_3 => ?_)
    · have c_3 : (rd.getD (z) 0) < 10 := (nI_ltI (a := (rd.getD (z) 0)) (b := 10) (by omega) (by omega)).mp c_3
      refine lv_aload_n hx hb dX6_takeEvent_20 rfl (lv_at hl 2 rfl) ?_
      refine lv_iload_n hx hb dX6_takeEvent_21 rfl (lv_at hl 3 rfl) ?_
      refine lv_iconst (v := nI 1) hx hb dX6_takeEvent_22 (by decide) ?_
      refine lv_iadd hx hb dX6_takeEvent_23 ?_
      refine g_top (y := nI (z + 1)) (nI_add _ _) ?_
      refine lv_iconst (v := nI 2) hx hb dX6_takeEvent_24 (by decide) ?_
      refine g_calliA (wr := [(ad 24, .inr (4, [.ref (ad 25), .ref (ad 26), .ref (ad 28), .ref (ad 29), .ref (ad 30), .int (nI (nm 5)), .int (nI (nm 6)), .int (nI (nm 7)), .int (nI (nm 8)), .int (nI (nm 9)), .int (nI (nm 10)), .int (nI (nm 11))])), (ad 28, .inl (G.2.2.2.1, 10, .inl v4)), (ad 29, .inl (G.2.2.2.1, 10, .inl v5)), (ad 30, .inl (G.2.2.2.1, 800, .inl v6))]) (wc := [(ca, .inr (0, [.ref da, .int (nI bl.length)])), (da, .inl (G.2.2.2.1, kz, .inl g))]) (av := [.int (nI (z + 1)), .int (nI 2)]) (rest := []) ⟨hx, hb, hml, hown, hts⟩ (k_Bytes_number l G (ca) (da) kz g bl hq hqn hk9 hFB (z + 1) 2 (by decide) (by omega)) (cwV 2 hts gX6_takeEvent_X1_number rfl rfl rfl (by decide +kernel) ⟨Nat.le_of_ble_eq_true rfl, Nat.le_of_ble_eq_true rfl⟩) hB (q0 := 0) (ci := 0) rfl rfl rfl rfl hl.1 rfl (Nat.le_of_ble_eq_true rfl) dX6_takeEvent_25 ⟨Nat.le_of_ble_eq_true rfl, Nat.le_of_ble_eq_true rfl⟩ (fun r9 u H locs hw hB => ?_)
      obtain ⟨rfl, rfl⟩ := hw
      have hB : gB G.1 (rT G) A s H locs [(ad 24, .inr (4, [.ref (ad 25), .ref (ad 26), .ref (ad 28), .ref (ad 29), .ref (ad 30), .int (nI (nm 5)), .int (nI (nm 6)), .int (nI (nm 7)), .int (nI (nm 8)), .int (nI (nm 9)), .int (nI (nm 10)), .int (nI (nm 11))])), (ad 28, .inl (G.2.2.2.1, 10, .inl v4)), (ad 29, .inl (G.2.2.2.1, 10, .inl v5)), (ad 30, .inl (G.2.2.2.1, 800, .inl v6)), (ca, .inr (0, [.ref da, .int (nI bl.length)])), (da, .inl (G.2.2.2.1, kz, .inl g))] := hB
      refine g_top (y := nI (hN rd (z + 1) 2)) (by rw [lo_h2, hrd]) ?_
      refine lv_istore (lv' := [(5, .int (nI (hN rd (z + 1) 2))), (4, .int (nI (rd.getD (z) 0))), (0, .ref (ad 24)), (1, .ref ca), (2, .int (nI z)), (3, .int (nI cls))]) hx hb dX6_takeEvent_28 hl (by decide) rfl (fun ls hl => ?_)
      refine lv_aload_n hx hb dX6_takeEvent_30 rfl (lv_at hl 3 rfl) ?_
      refine lv_iload_n hx hb dX6_takeEvent_31 rfl (lv_at hl 4 rfl) ?_
      refine lv_iconst (v := nI 3) hx hb dX6_takeEvent_32 (by decide) ?_
      refine lv_iadd hx hb dX6_takeEvent_33 ?_
      refine g_top (y := nI (z + 3)) (nI_add _ _) ?_
      refine lv_iconst (v := nI 4) hx hb dX6_takeEvent_34 (by decide) ?_
      refine g_calliA (wr := [(ad 24, .inr (4, [.ref (ad 25), .ref (ad 26), .ref (ad 28), .ref (ad 29), .ref (ad 30), .int (nI (nm 5)), .int (nI (nm 6)), .int (nI (nm 7)), .int (nI (nm 8)), .int (nI (nm 9)), .int (nI (nm 10)), .int (nI (nm 11))])), (ad 28, .inl (G.2.2.2.1, 10, .inl v4)), (ad 29, .inl (G.2.2.2.1, 10, .inl v5)), (ad 30, .inl (G.2.2.2.1, 800, .inl v6))]) (wc := [(ca, .inr (0, [.ref da, .int (nI bl.length)])), (da, .inl (G.2.2.2.1, kz, .inl g))]) (av := [.int (nI (z + 3)), .int (nI 4)]) (rest := []) ⟨hx, hb, hml, hown, hts⟩ (k_Bytes_number l G (ca) (da) kz g bl hq hqn hk9 hFB (z + 3) 4 (by decide) (by omega)) (cwV 2 hts gX6_takeEvent_X1_number rfl rfl rfl (by decide +kernel) ⟨Nat.le_of_ble_eq_true rfl, Nat.le_of_ble_eq_true rfl⟩) hB (q0 := 0) (ci := 0) rfl rfl rfl rfl hl.1 rfl (Nat.le_of_ble_eq_true rfl) dX6_takeEvent_35 ⟨Nat.le_of_ble_eq_true rfl, Nat.le_of_ble_eq_true rfl⟩ (fun r9 u H locs hw hB => ?_)
      obtain ⟨rfl, rfl⟩ := hw
      have hB : gB G.1 (rT G) A s H locs [(ad 24, .inr (4, [.ref (ad 25), .ref (ad 26), .ref (ad 28), .ref (ad 29), .ref (ad 30), .int (nI (nm 5)), .int (nI (nm 6)), .int (nI (nm 7)), .int (nI (nm 8)), .int (nI (nm 9)), .int (nI (nm 10)), .int (nI (nm 11))])), (ad 28, .inl (G.2.2.2.1, 10, .inl v4)), (ad 29, .inl (G.2.2.2.1, 10, .inl v5)), (ad 30, .inl (G.2.2.2.1, 800, .inl v6)), (ca, .inr (0, [.ref da, .int (nI bl.length)])), (da, .inl (G.2.2.2.1, kz, .inl g))] := hB
      refine g_top (y := nI (hN rd (z + 3) 4)) (by rw [lo_h4, hrd]) ?_
      refine lv_istore (lv' := [(6, .int (nI (hN rd (z + 3) 4))), (5, .int (nI (hN rd (z + 1) 2))), (4, .int (nI (rd.getD (z) 0))), (0, .ref (ad 24)), (1, .ref ca), (2, .int (nI z)), (3, .int (nI cls))]) hx hb dX6_takeEvent_38 hl (by decide) rfl (fun ls hl => ?_)
      refine lv_iload hx hb dX6_takeEvent_40 (lv_at hl 0 rfl) ?_
      refine lv_aload_n hx hb dX6_takeEvent_42 rfl (lv_at hl 3 rfl) ?_
      refine g_get (own := RX6) (C := RX6) (T := TX6) (N := 12) (ci := 4) (v := .ref (ad 29)) hx hb hts (fun _ h => List.mem_cons_of_mem _ (List.mem_append_left _ (List.mem_append_right _ h))) hown hB 0 rfl rfl 3 (by decide) (hts (.fieldLink RX6 26 "PointReports$Master" "times" "[I") (by decide +kernel)) rfl rfl dX6_takeEvent_43 ?_
      refine lv_iload hx hb dX6_takeEvent_46 (lv_at hl 2 rfl) ?_
      refine g_ald hx hb hB 2 0 rfl rfl (rd.getD (z) 0) rfl (by omega) (by omega) dX6_takeEvent_48 ?_
      refine lv_icmp_gt (tgt := 63) hx hb dX6_takeEvent_49 (by decide) (fun c_4 => ?_) (fun c_4 => ?_)
      · have c_4 := c_4
        have hgt : ¬ nI (hN rd (z + 3) 4) ≤ v5 (rd.getD (z) 0) := Int32.not_le.mpr c_4
        refine lv_aload_n hx hb dX6_takeEvent_63 rfl (lv_at hl 3 rfl) ?_
        refine g_get (own := RX6) (C := RX6) (T := TX6) (N := 12) (ci := 4) (v := .ref (ad 28)) hx hb hts (fun _ h => List.mem_cons_of_mem _ (List.mem_append_left _ (List.mem_append_right _ h))) hown hB 0 rfl rfl 2 (by decide) (hts (.fieldLink RX6 22 "PointReports$Master" "values" "[I") (by decide +kernel)) rfl rfl dX6_takeEvent_64 ?_
        refine lv_iload hx hb dX6_takeEvent_67 (lv_at hl 2 rfl) ?_
        refine lv_iload hx hb dX6_takeEvent_69 (lv_at hl 1 rfl) ?_
        refine g_ast (x := nI (hN rd (z + 1) 2)) hx hb ([(ad 24, .inr (4, [.ref (ad 25), .ref (ad 26), .ref (ad 28), .ref (ad 29), .ref (ad 30), .int (nI (nm 5)), .int (nI (nm 6)), .int (nI (nm 7)), .int (nI (nm 8)), .int (nI (nm 9)), .int (nI (nm 10)), .int (nI (nm 11))])), (ad 28, .inl (G.2.2.2.1, 10, .inl (upd v4 (rd.getD (z) 0) (nI (hN rd (z + 1) 2))))), (ad 29, .inl (G.2.2.2.1, 10, .inl v5)), (ad 30, .inl (G.2.2.2.1, 800, .inl v6)), (ca, .inr (0, [.ref da, .int (nI bl.length)])), (da, .inl (G.2.2.2.1, kz, .inl g))]) hB 1 0 rfl rfl (rd.getD (z) 0) rfl (by omega) (by omega) rfl dX6_takeEvent_71 (fun H locs hB => ?_)
        refine lv_aload_n hx hb dX6_takeEvent_72 rfl (lv_at hl 3 rfl) ?_
        refine g_get (own := RX6) (C := RX6) (T := TX6) (N := 12) (ci := 4) (v := .ref (ad 29)) hx hb hts (fun _ h => List.mem_cons_of_mem _ (List.mem_append_left _ (List.mem_append_right _ h))) hown hB 0 rfl rfl 3 (by decide) (hts (.fieldLink RX6 26 "PointReports$Master" "times" "[I") (by decide +kernel)) rfl rfl dX6_takeEvent_73 ?_
        refine lv_iload hx hb dX6_takeEvent_76 (lv_at hl 2 rfl) ?_
        refine lv_iload hx hb dX6_takeEvent_78 (lv_at hl 0 rfl) ?_
        refine g_ast (x := nI (hN rd (z + 3) 4)) hx hb ([(ad 24, .inr (4, [.ref (ad 25), .ref (ad 26), .ref (ad 28), .ref (ad 29), .ref (ad 30), .int (nI (nm 5)), .int (nI (nm 6)), .int (nI (nm 7)), .int (nI (nm 8)), .int (nI (nm 9)), .int (nI (nm 10)), .int (nI (nm 11))])), (ad 28, .inl (G.2.2.2.1, 10, .inl (upd v4 (rd.getD (z) 0) (nI (hN rd (z + 1) 2))))), (ad 29, .inl (G.2.2.2.1, 10, .inl (upd v5 (rd.getD (z) 0) (nI (hN rd (z + 3) 4))))), (ad 30, .inl (G.2.2.2.1, 800, .inl v6)), (ca, .inr (0, [.ref da, .int (nI bl.length)])), (da, .inl (G.2.2.2.1, kz, .inl g))]) hB 2 0 rfl rfl (rd.getD (z) 0) rfl (by omega) (by omega) rfl dX6_takeEvent_80 (fun H locs hB => ?_)
        refine lv_aload_n hx hb dX6_takeEvent_81 rfl (lv_at hl 3 rfl) ?_
        refine g_get (own := RX6) (C := RX6) (T := TX6) (N := 12) (ci := 4) (v := .int (nI (nm 7))) hx hb hts (fun _ h => List.mem_cons_of_mem _ (List.mem_append_left _ (List.mem_append_right _ h))) hown hB 0 rfl rfl 7 (by decide) (hts (.fieldLink RX6 111 "PointReports$Master" "eventsTaken" "I") (by decide +kernel)) rfl rfl dX6_takeEvent_82 ?_
        refine lv_sipush (v := nI 200) hx hb dX6_takeEvent_85 (by decide) ?_
        refine lv_icmp_ge (tgt := 140) hx hb dX6_takeEvent_88 (by decide) (fun c_5 => ?_) (fun c_5 => ?_)
        · have c_5 : 200 ≤ (nm 7) := (nI_leI (a := 200) (b := (nm 7)) (by omega) (by omega)).mp c_5
          refine lv_aload_n hx hb dX6_takeEvent_140 rfl (lv_at hl 3 rfl) ?_
          refine lv_dup hx hb dX6_takeEvent_141 rfl ?_
          refine g_get (own := RX6) (C := RX6) (T := TX6) (N := 12) (ci := 4) (v := .int (nI (nm 7))) hx hb hts (fun _ h => List.mem_cons_of_mem _ (List.mem_append_left _ (List.mem_append_right _ h))) hown hB 0 rfl rfl 7 (by decide) (hts (.fieldLink RX6 111 "PointReports$Master" "eventsTaken" "I") (by decide +kernel)) rfl rfl dX6_takeEvent_142 ?_
          refine lv_iconst (v := nI 1) hx hb dX6_takeEvent_145 (by decide) ?_
          refine lv_iadd hx hb dX6_takeEvent_146 ?_
          refine g_top (y := nI ((nm 7) + 1)) (nI_add _ _) ?_
          refine g_put (own := RX6) (C := RX6) (T := TX6) (N := 12) (ci := 4) (v := .int (nI ((nm 7) + 1))) hx hb ([(ad 24, .inr (4, [.ref (ad 25), .ref (ad 26), .ref (ad 28), .ref (ad 29), .ref (ad 30), .int (nI (nm 5)), .int (nI (nm 6)), .int (nI ((nm 7) + 1)), .int (nI (nm 8)), .int (nI (nm 9)), .int (nI (nm 10)), .int (nI (nm 11))])), (ad 28, .inl (G.2.2.2.1, 10, .inl (upd v4 (rd.getD (z) 0) (nI (hN rd (z + 1) 2))))), (ad 29, .inl (G.2.2.2.1, 10, .inl (upd v5 (rd.getD (z) 0) (nI (hN rd (z + 3) 4))))), (ad 30, .inl (G.2.2.2.1, 800, .inl v6)), (ca, .inr (0, [.ref da, .int (nI bl.length)])), (da, .inl (G.2.2.2.1, kz, .inl g))]) hts (fun _ h => List.mem_cons_of_mem _ (List.mem_append_left _ (List.mem_append_right _ h))) tyX6 tyX6_ok nmX6 hown hB 0 rfl rfl 7 (by decide) (hts (.fieldLink RX6 111 "PointReports$Master" "eventsTaken" "I") (by decide +kernel)) rfl rfl (ty := .int) rfl rfl rfl (Nat.le_of_ble_eq_true rfl) rfl dX6_takeEvent_147 (fun H locs hB => ?_)
          have ek : (kTE (nm, v4, v5, v6) rd z cls) = (va_up nm 7 (nm 7 + 1), upd v4 (rd.getD (z) 0) (nI (hN rd (z + 1) 2)), upd v5 (rd.getD (z) 0) (nI (hN rd (z + 3) 4)), v6) := (if_neg hgt).trans (by show (_, _, _, ite _ _ _) = _; rw [if_neg (show ¬ nm 7 < 200 by omega)])
          exact g_vret (S := mS) (Wd := fun u => maW G ad u ++ bW G ca da kz (nI bl.length, g)) (va_up nm 7 (nm 7 + 1), upd v4 (rd.getD (z) 0) (nI (hN rd (z + 1) 2)), upd v5 (rd.getD (z) 0) (nI (hN rd (z + 3) 4)), v6) hB hx hb hr hlocks rfl (by rw [ek]) dX6_takeEvent_150
        · have c_5 : ¬ 200 ≤ (nm 7) := fun h9 => c_5 ((nI_leI (a := 200) (b := (nm 7)) (by omega) (by omega)).mpr h9)
          have h200 : nm 7 < 200 := by omega
          refine lv_aload_n hx hb dX6_takeEvent_91 rfl (lv_at hl 3 rfl) ?_
          refine g_get (own := RX6) (C := RX6) (T := TX6) (N := 12) (ci := 4) (v := .int (nI (nm 7))) hx hb hts (fun _ h => List.mem_cons_of_mem _ (List.mem_append_left _ (List.mem_append_right _ h))) hown hB 0 rfl rfl 7 (by decide) (hts (.fieldLink RX6 111 "PointReports$Master" "eventsTaken" "I") (by decide +kernel)) rfl rfl dX6_takeEvent_92 ?_
          refine lv_iconst (v := nI 4) hx hb dX6_takeEvent_95 (by decide) ?_
          refine lv_imul hx hb dX6_takeEvent_96 ?_
          refine g_top (y := nI ((nm 7) * 4)) (pk_mul _ _) ?_
          refine g_top (y := nI (4 * nm 7)) (congrArg nI (Nat.mul_comm _ _)) ?_
          refine lv_istore (lv' := [(7, .int (nI (4 * nm 7))), (6, .int (nI (hN rd (z + 3) 4))), (5, .int (nI (hN rd (z + 1) 2))), (4, .int (nI (rd.getD (z) 0))), (0, .ref (ad 24)), (1, .ref ca), (2, .int (nI z)), (3, .int (nI cls))]) hx hb dX6_takeEvent_97 hl (by decide) rfl (fun ls hl => ?_)
          refine lv_aload_n hx hb dX6_takeEvent_99 rfl (lv_at hl 4 rfl) ?_
          refine g_get (own := RX6) (C := RX6) (T := TX6) (N := 12) (ci := 4) (v := .ref (ad 30)) hx hb hts (fun _ h => List.mem_cons_of_mem _ (List.mem_append_left _ (List.mem_append_right _ h))) hown hB 0 rfl rfl 4 (by decide) (hts (.fieldLink RX6 29 "PointReports$Master" "firstTaken" "[I") (by decide +kernel)) rfl rfl dX6_takeEvent_100 ?_
          refine lv_iload hx hb dX6_takeEvent_103 (lv_at hl 0 rfl) ?_
          refine lv_iload hx hb dX6_takeEvent_105 (lv_at hl 3 rfl) ?_
          refine g_ast (x := nI (rd.getD (z) 0)) hx hb ([(ad 24, .inr (4, [.ref (ad 25), .ref (ad 26), .ref (ad 28), .ref (ad 29), .ref (ad 30), .int (nI (nm 5)), .int (nI (nm 6)), .int (nI (nm 7)), .int (nI (nm 8)), .int (nI (nm 9)), .int (nI (nm 10)), .int (nI (nm 11))])), (ad 28, .inl (G.2.2.2.1, 10, .inl (upd v4 (rd.getD (z) 0) (nI (hN rd (z + 1) 2))))), (ad 29, .inl (G.2.2.2.1, 10, .inl (upd v5 (rd.getD (z) 0) (nI (hN rd (z + 3) 4))))), (ad 30, .inl (G.2.2.2.1, 800, .inl (upd v6 (4 * nm 7) (nI (rd.getD (z) 0))))), (ca, .inr (0, [.ref da, .int (nI bl.length)])), (da, .inl (G.2.2.2.1, kz, .inl g))]) hB 3 0 rfl rfl (4 * nm 7) rfl (by omega) (by omega) rfl dX6_takeEvent_107 (fun H locs hB => ?_)
          refine lv_aload_n hx hb dX6_takeEvent_108 rfl (lv_at hl 4 rfl) ?_
          refine g_get (own := RX6) (C := RX6) (T := TX6) (N := 12) (ci := 4) (v := .ref (ad 30)) hx hb hts (fun _ h => List.mem_cons_of_mem _ (List.mem_append_left _ (List.mem_append_right _ h))) hown hB 0 rfl rfl 4 (by decide) (hts (.fieldLink RX6 29 "PointReports$Master" "firstTaken" "[I") (by decide +kernel)) rfl rfl dX6_takeEvent_109 ?_
          refine lv_iload hx hb dX6_takeEvent_112 (lv_at hl 0 rfl) ?_
          refine lv_iconst (v := nI 1) hx hb dX6_takeEvent_114 (by decide) ?_
          refine lv_iadd hx hb dX6_takeEvent_115 ?_
          refine g_top (y := nI ((4 * nm 7) + 1)) (nI_add _ _) ?_
          refine lv_iload hx hb dX6_takeEvent_116 (lv_at hl 2 rfl) ?_
          refine g_ast (x := nI (hN rd (z + 1) 2)) hx hb ([(ad 24, .inr (4, [.ref (ad 25), .ref (ad 26), .ref (ad 28), .ref (ad 29), .ref (ad 30), .int (nI (nm 5)), .int (nI (nm 6)), .int (nI (nm 7)), .int (nI (nm 8)), .int (nI (nm 9)), .int (nI (nm 10)), .int (nI (nm 11))])), (ad 28, .inl (G.2.2.2.1, 10, .inl (upd v4 (rd.getD (z) 0) (nI (hN rd (z + 1) 2))))), (ad 29, .inl (G.2.2.2.1, 10, .inl (upd v5 (rd.getD (z) 0) (nI (hN rd (z + 3) 4))))), (ad 30, .inl (G.2.2.2.1, 800, .inl (upd (upd v6 (4 * nm 7) (nI (rd.getD (z) 0))) ((4 * nm 7) + 1) (nI (hN rd (z + 1) 2))))), (ca, .inr (0, [.ref da, .int (nI bl.length)])), (da, .inl (G.2.2.2.1, kz, .inl g))]) hB 3 0 rfl rfl ((4 * nm 7) + 1) rfl (by omega) (by omega) rfl dX6_takeEvent_118 (fun H locs hB => ?_)
          refine lv_aload_n hx hb dX6_takeEvent_119 rfl (lv_at hl 4 rfl) ?_
          refine g_get (own := RX6) (C := RX6) (T := TX6) (N := 12) (ci := 4) (v := .ref (ad 30)) hx hb hts (fun _ h => List.mem_cons_of_mem _ (List.mem_append_left _ (List.mem_append_right _ h))) hown hB 0 rfl rfl 4 (by decide) (hts (.fieldLink RX6 29 "PointReports$Master" "firstTaken" "[I") (by decide +kernel)) rfl rfl dX6_takeEvent_120 ?_
          refine lv_iload hx hb dX6_takeEvent_123 (lv_at hl 0 rfl) ?_
          refine lv_iconst (v := nI 2) hx hb dX6_takeEvent_125 (by decide) ?_
          refine lv_iadd hx hb dX6_takeEvent_126 ?_
          refine g_top (y := nI ((4 * nm 7) + 2)) (nI_add _ _) ?_
          refine lv_iload hx hb dX6_takeEvent_127 (lv_at hl 1 rfl) ?_
          refine g_ast (x := nI (hN rd (z + 3) 4)) hx hb ([(ad 24, .inr (4, [.ref (ad 25), .ref (ad 26), .ref (ad 28), .ref (ad 29), .ref (ad 30), .int (nI (nm 5)), .int (nI (nm 6)), .int (nI (nm 7)), .int (nI (nm 8)), .int (nI (nm 9)), .int (nI (nm 10)), .int (nI (nm 11))])), (ad 28, .inl (G.2.2.2.1, 10, .inl (upd v4 (rd.getD (z) 0) (nI (hN rd (z + 1) 2))))), (ad 29, .inl (G.2.2.2.1, 10, .inl (upd v5 (rd.getD (z) 0) (nI (hN rd (z + 3) 4))))), (ad 30, .inl (G.2.2.2.1, 800, .inl (upd (upd (upd v6 (4 * nm 7) (nI (rd.getD (z) 0))) ((4 * nm 7) + 1) (nI (hN rd (z + 1) 2))) ((4 * nm 7) + 2) (nI (hN rd (z + 3) 4))))), (ca, .inr (0, [.ref da, .int (nI bl.length)])), (da, .inl (G.2.2.2.1, kz, .inl g))]) hB 3 0 rfl rfl ((4 * nm 7) + 2) rfl (by omega) (by omega) rfl dX6_takeEvent_129 (fun H locs hB => ?_)
          refine lv_aload_n hx hb dX6_takeEvent_130 rfl (lv_at hl 4 rfl) ?_
          refine g_get (own := RX6) (C := RX6) (T := TX6) (N := 12) (ci := 4) (v := .ref (ad 30)) hx hb hts (fun _ h => List.mem_cons_of_mem _ (List.mem_append_left _ (List.mem_append_right _ h))) hown hB 0 rfl rfl 4 (by decide) (hts (.fieldLink RX6 29 "PointReports$Master" "firstTaken" "[I") (by decide +kernel)) rfl rfl dX6_takeEvent_131 ?_
          refine lv_iload hx hb dX6_takeEvent_134 (lv_at hl 0 rfl) ?_
          refine lv_iconst (v := nI 3) hx hb dX6_takeEvent_136 (by decide) ?_
          refine lv_iadd hx hb dX6_takeEvent_137 ?_
          refine g_top (y := nI ((4 * nm 7) + 3)) (nI_add _ _) ?_
          refine lv_iload_n hx hb dX6_takeEvent_138 rfl (lv_at hl 7 rfl) ?_
          refine g_ast (x := nI cls) hx hb ([(ad 24, .inr (4, [.ref (ad 25), .ref (ad 26), .ref (ad 28), .ref (ad 29), .ref (ad 30), .int (nI (nm 5)), .int (nI (nm 6)), .int (nI (nm 7)), .int (nI (nm 8)), .int (nI (nm 9)), .int (nI (nm 10)), .int (nI (nm 11))])), (ad 28, .inl (G.2.2.2.1, 10, .inl (upd v4 (rd.getD (z) 0) (nI (hN rd (z + 1) 2))))), (ad 29, .inl (G.2.2.2.1, 10, .inl (upd v5 (rd.getD (z) 0) (nI (hN rd (z + 3) 4))))), (ad 30, .inl (G.2.2.2.1, 800, .inl (upd (upd (upd (upd v6 (4 * nm 7) (nI (rd.getD (z) 0))) ((4 * nm 7) + 1) (nI (hN rd (z + 1) 2))) ((4 * nm 7) + 2) (nI (hN rd (z + 3) 4))) ((4 * nm 7) + 3) (nI cls)))), (ca, .inr (0, [.ref da, .int (nI bl.length)])), (da, .inl (G.2.2.2.1, kz, .inl g))]) hB 3 0 rfl rfl ((4 * nm 7) + 3) rfl (by omega) (by omega) rfl dX6_takeEvent_139 (fun H locs hB => ?_)
          refine lv_aload_n hx hb dX6_takeEvent_140 rfl (lv_at hl 4 rfl) ?_
          refine lv_dup hx hb dX6_takeEvent_141 rfl ?_
          refine g_get (own := RX6) (C := RX6) (T := TX6) (N := 12) (ci := 4) (v := .int (nI (nm 7))) hx hb hts (fun _ h => List.mem_cons_of_mem _ (List.mem_append_left _ (List.mem_append_right _ h))) hown hB 0 rfl rfl 7 (by decide) (hts (.fieldLink RX6 111 "PointReports$Master" "eventsTaken" "I") (by decide +kernel)) rfl rfl dX6_takeEvent_142 ?_
          refine lv_iconst (v := nI 1) hx hb dX6_takeEvent_145 (by decide) ?_
          refine lv_iadd hx hb dX6_takeEvent_146 ?_
          refine g_top (y := nI ((nm 7) + 1)) (nI_add _ _) ?_
          refine g_put (own := RX6) (C := RX6) (T := TX6) (N := 12) (ci := 4) (v := .int (nI ((nm 7) + 1))) hx hb ([(ad 24, .inr (4, [.ref (ad 25), .ref (ad 26), .ref (ad 28), .ref (ad 29), .ref (ad 30), .int (nI (nm 5)), .int (nI (nm 6)), .int (nI ((nm 7) + 1)), .int (nI (nm 8)), .int (nI (nm 9)), .int (nI (nm 10)), .int (nI (nm 11))])), (ad 28, .inl (G.2.2.2.1, 10, .inl (upd v4 (rd.getD (z) 0) (nI (hN rd (z + 1) 2))))), (ad 29, .inl (G.2.2.2.1, 10, .inl (upd v5 (rd.getD (z) 0) (nI (hN rd (z + 3) 4))))), (ad 30, .inl (G.2.2.2.1, 800, .inl (upd (upd (upd (upd v6 (4 * nm 7) (nI (rd.getD (z) 0))) ((4 * nm 7) + 1) (nI (hN rd (z + 1) 2))) ((4 * nm 7) + 2) (nI (hN rd (z + 3) 4))) ((4 * nm 7) + 3) (nI cls)))), (ca, .inr (0, [.ref da, .int (nI bl.length)])), (da, .inl (G.2.2.2.1, kz, .inl g))]) hts (fun _ h => List.mem_cons_of_mem _ (List.mem_append_left _ (List.mem_append_right _ h))) tyX6 tyX6_ok nmX6 hown hB 0 rfl rfl 7 (by decide) (hts (.fieldLink RX6 111 "PointReports$Master" "eventsTaken" "I") (by decide +kernel)) rfl rfl (ty := .int) rfl rfl rfl (Nat.le_of_ble_eq_true rfl) rfl dX6_takeEvent_147 (fun H locs hB => ?_)
          have ek : (kTE (nm, v4, v5, v6) rd z cls) = (va_up nm 7 (nm 7 + 1), upd v4 (rd.getD (z) 0) (nI (hN rd (z + 1) 2)), upd v5 (rd.getD (z) 0) (nI (hN rd (z + 3) 4)), tkN v6 (4 * nm 7) (nI (rd.getD (z) 0)) (nI (hN rd (z + 1) 2)) (nI (hN rd (z + 3) 4)) (nI cls)) := (if_neg hgt).trans (by show (_, _, _, ite _ _ _) = _; rw [if_pos h200])
          exact g_vret (S := mS) (Wd := fun u => maW G ad u ++ bW G ca da kz (nI bl.length, g)) (va_up nm 7 (nm 7 + 1), upd v4 (rd.getD (z) 0) (nI (hN rd (z + 1) 2)), upd v5 (rd.getD (z) 0) (nI (hN rd (z + 3) 4)), tkN v6 (4 * nm 7) (nI (rd.getD (z) 0)) (nI (hN rd (z + 1) 2)) (nI (hN rd (z + 3) 4)) (nI cls)) hB hx hb hr hlocks rfl (by rw [ek]) dX6_takeEvent_150
      · have c_4 := c_4
        have hle : nI (hN rd (z + 3) 4) ≤ v5 (rd.getD (z) 0) := Int32.not_lt.mp c_4
        refine lv_aload_n hx hb dX6_takeEvent_52 rfl (lv_at hl 3 rfl) ?_
        refine lv_dup hx hb dX6_takeEvent_53 rfl ?_
        refine g_get (own := RX6) (C := RX6) (T := TX6) (N := 12) (ci := 4) (v := .int (nI (nm 8))) hx hb hts (fun _ h => List.mem_cons_of_mem _ (List.mem_append_left _ (List.mem_append_right _ h))) hown hB 0 rfl rfl 8 (by decide) (hts (.fieldLink RX6 108 "PointReports$Master" "eventsAgain" "I") (by decide +kernel)) rfl rfl dX6_takeEvent_54 ?_
        refine lv_iconst (v := nI 1) hx hb dX6_takeEvent_57 (by decide) ?_
        refine lv_iadd hx hb dX6_takeEvent_58 ?_
        refine g_top (y := nI ((nm 8) + 1)) (nI_add _ _) ?_
        refine g_put (own := RX6) (C := RX6) (T := TX6) (N := 12) (ci := 4) (v := .int (nI ((nm 8) + 1))) hx hb ([(ad 24, .inr (4, [.ref (ad 25), .ref (ad 26), .ref (ad 28), .ref (ad 29), .ref (ad 30), .int (nI (nm 5)), .int (nI (nm 6)), .int (nI (nm 7)), .int (nI ((nm 8) + 1)), .int (nI (nm 9)), .int (nI (nm 10)), .int (nI (nm 11))])), (ad 28, .inl (G.2.2.2.1, 10, .inl v4)), (ad 29, .inl (G.2.2.2.1, 10, .inl v5)), (ad 30, .inl (G.2.2.2.1, 800, .inl v6)), (ca, .inr (0, [.ref da, .int (nI bl.length)])), (da, .inl (G.2.2.2.1, kz, .inl g))]) hts (fun _ h => List.mem_cons_of_mem _ (List.mem_append_left _ (List.mem_append_right _ h))) tyX6 tyX6_ok nmX6 hown hB 0 rfl rfl 8 (by decide) (hts (.fieldLink RX6 108 "PointReports$Master" "eventsAgain" "I") (by decide +kernel)) rfl rfl (ty := .int) rfl rfl rfl (Nat.le_of_ble_eq_true rfl) rfl dX6_takeEvent_59 (fun H locs hB => ?_)
        have ek : (kTE (nm, v4, v5, v6) rd z cls) = (va_up nm 8 (nm 8 + 1), v4, v5, v6) := if_pos hle
        exact g_vret (S := mS) (Wd := fun u => maW G ad u ++ bW G ca da kz (nI bl.length, g)) (va_up nm 8 (nm 8 + 1), v4, v5, v6) hB hx hb hr hlocks rfl (by rw [ek]) dX6_takeEvent_62
    · have c_3 : ¬ (rd.getD (z) 0) < 10 := fun h9 => c_3 ((nI_ltI (a := (rd.getD (z) 0)) (b := 10) (by omega) (by omega)).mpr h9)
      exact absurd c_3 (by omega)
set_option maxRecDepth 100000 in
set_option maxHeartbeats 2000000 in
/-- Master.takeGroups(fragment) -/
theorem k_Master_takeGroups (l : Launch) (G : rG) (ad nm : Nat → Nat) (h6 : nm 6 ≤ 1) (hbn : ∀ k, nm k ≤ 900000) (v4 v5 v6 : Nat → Int32) (ca da kz : Nat) (g : Nat → Int32) (bl : List Int32) (hq : pfx g bl) (hqn : bl.length ≤ kz) (hk9 : kz < 1000000) (hFB : ∀ x ∈ bl, isB x) (rd : List Nat) (hrd : rd = rdN bl) (h4 : bl.length ≤ 400) (har : arG rd) : gM l G.1 (rT G) yX6_takeGroups wsX6_takeGroups { frames := 3, cells := 0, slots := 0, locals := 72 } [.ref (ad 24), .ref ca] [(ad 24, .inr (4, [.ref (ad 25), .ref (ad 26), .ref (ad 28), .ref (ad 29), .ref (ad 30), .int (nI (nm 5)), .int (nI (nm 6)), .int (nI (nm 7)), .int (nI (nm 8)), .int (nI (nm 9)), .int (nI (nm 10)), .int (nI (nm 11))])), (ad 28, .inl (G.2.2.2.1, 10, .inl v4)), (ad 29, .inl (G.2.2.2.1, 10, .inl v5)), (ad 30, .inl (G.2.2.2.1, 800, .inl v6)), (ca, .inr (0, [.ref da, .int (nI bl.length)])), (da, .inl (G.2.2.2.1, kz, .inl g))] (gQv G.1 (rT G) (fun u : mS => u = kMG rd 400 4 (nm, v4, v5, v6) ∧ (∀ j, j ≠ 7 → j ≠ 8 → u.1 j = nm j) ∧ u.1 7 ≤ nm 7 + 400 ∧ u.1 8 ≤ nm 8 + 400) (fun u => maW G ad u ++ bW G ca da kz (nI bl.length, g))) 0 0 := by
  refine gM.of (cc := cX6_takeGroups) (maxL := 8) (ret := none) (by decide) rfl (Nat.le_of_ble_eq_true rfl) ?_
  intro p e s m below meth c A ls hx hb hr hml hown hts hlocks hnm hB hl
  have hl : lv_has ls 8 [(0, .ref (ad 24)), (1, .ref ca)] := hl
  have b5 := hbn 5
  have b6 := hbn 6
  have b7 := hbn 7
  have b8 := hbn 8
  have hrl2 : rd.length = bl.length := by rw [hrd, rdN_len]
  refine lv_iconst (v := nI 4) hx hb dX6_takeGroups_0 (by decide) ?_
  refine lv_istore_n (lv' := [(2, .int (nI 4)), (0, .ref (ad 24)), (1, .ref ca)]) hx hb dX6_takeGroups_1 rfl hl (by decide) rfl (fun ls hl => ?_)
  have hl : lv_has ls 8 [(2, .int (nI 4)), (0, .ref (ad 24)), (1, .ref ca)] := lv_sub hl [0, 1, 2] rfl
  have hB : gB G.1 (rT G) A s s.heap [] [(ad 24, .inr (4, [.ref (ad 25), .ref (ad 26), .ref (ad 28), .ref (ad 29), .ref (ad 30), .int (nI (nm 5)), .int (nI (nm 6)), .int (nI (nm 7)), .int (nI (nm 8)), .int (nI (nm 9)), .int (nI (nm 10)), .int (nI (nm 11))])), (ad 28, .inl (G.2.2.2.1, 10, .inl v4)), (ad 29, .inl (G.2.2.2.1, 10, .inl v5)), (ad 30, .inl (G.2.2.2.1, 800, .inl v6)), (ca, .inr (0, [.ref da, .int (nI bl.length)])), (da, .inl (G.2.2.2.1, kz, .inl g))] := hB
  refine g_loop (σ := Nat × (Nat → Nat) × (Nat → Int32) × (Nat → Int32) × (Nat → Int32)) (fun d xv H locs ls => (kMG rd d xv.1 (xv.2.1, xv.2.2.1, xv.2.2.2.1, xv.2.2.2.2) = kMG rd 400 4 (nm, v4, v5, v6)) ∧ (agN rd d xv.1 = rd.length) ∧ (xv.1 ≤ bl.length) ∧ (bl.length ≤ xv.1 + 3 * d) ∧ (∀ j, j ≠ 7 → j ≠ 8 → xv.2.1 j = nm j) ∧ (xv.2.1 7 ≤ nm 7 + xv.1) ∧ (xv.2.1 8 ≤ nm 8 + xv.1) ∧ gB G.1 (rT G) A s H locs [(ad 24, .inr (4, [.ref (ad 25), .ref (ad 26), .ref (ad 28), .ref (ad 29), .ref (ad 30), .int (nI (xv.2.1 5)), .int (nI (xv.2.1 6)), .int (nI (xv.2.1 7)), .int (nI (xv.2.1 8)), .int (nI (xv.2.1 9)), .int (nI (xv.2.1 10)), .int (nI (xv.2.1 11))])), (ad 28, .inl (G.2.2.2.1, 10, .inl xv.2.2.1)), (ad 29, .inl (G.2.2.2.1, 10, .inl xv.2.2.2.1)), (ad 30, .inl (G.2.2.2.1, 800, .inl xv.2.2.2.2)), (ca, .inr (0, [.ref da, .int (nI bl.length)])), (da, .inl (G.2.2.2.1, kz, .inl g))] ∧ lv_has ls 8 [(2, .int (nI xv.1)), (0, .ref (ad 24)), (1, .ref ca)]) 400 (4, nm, v4, v5, v6) ⟨rfl, har.2, by have := har.1; omega, by show bl.length ≤ 4 + 3 * 400; omega, fun _ _ _ => rfl, by show nm 7 ≤ nm 7 + 4; omega, by show nm 8 ≤ nm 8 + 4; omega, hB, hl⟩ ?_
  rintro d ⟨z, n1, u4, u5, u6⟩ H locs ls ⟨hk, ha, hz, hd, hn, hn7, hn8, hB, hl⟩ ih_1
  have hk : kMG rd d z (n1, u4, u5, u6) = kMG rd 400 4 (nm, v4, v5, v6) := hk
  have ha : agN rd d z = rd.length := ha
  have hz : z ≤ bl.length := hz
  have hd : bl.length ≤ z + 3 * d := hd
  have hn : ∀ j, j ≠ 7 → j ≠ 8 → n1 j = nm j := hn
  have hn7 : n1 7 ≤ nm 7 + z := hn7
  have hn8 : n1 8 ≤ nm 8 + z := hn8
  have hB : gB G.1 (rT G) A s H locs [(ad 24, .inr (4, [.ref (ad 25), .ref (ad 26), .ref (ad 28), .ref (ad 29), .ref (ad 30), .int (nI (n1 5)), .int (nI (n1 6)), .int (nI (n1 7)), .int (nI (n1 8)), .int (nI (n1 9)), .int (nI (n1 10)), .int (nI (n1 11))])), (ad 28, .inl (G.2.2.2.1, 10, .inl u4)), (ad 29, .inl (G.2.2.2.1, 10, .inl u5)), (ad 30, .inl (G.2.2.2.1, 800, .inl u6)), (ca, .inr (0, [.ref da, .int (nI bl.length)])), (da, .inl (G.2.2.2.1, kz, .inl g))] := hB
  have hl : lv_has ls 8 [(2, .int (nI z)), (0, .ref (ad 24)), (1, .ref ca)] := hl
  have h61 : n1 6 ≤ 1 := by rw [hn 6 (by decide) (by decide)]; exact h6
  refine lv_iload_n hx hb dX6_takeGroups_2 rfl (lv_at hl 0 rfl) ?_
  refine lv_aload_n hx hb dX6_takeGroups_3 rfl (lv_at hl 2 rfl) ?_
  refine g_calliA (wr := [(ad 24, .inr (4, [.ref (ad 25), .ref (ad 26), .ref (ad 28), .ref (ad 29), .ref (ad 30), .int (nI (n1 5)), .int (nI (n1 6)), .int (nI (n1 7)), .int (nI (n1 8)), .int (nI (n1 9)), .int (nI (n1 10)), .int (nI (n1 11))])), (ad 28, .inl (G.2.2.2.1, 10, .inl u4)), (ad 29, .inl (G.2.2.2.1, 10, .inl u5)), (ad 30, .inl (G.2.2.2.1, 800, .inl u6))]) (wc := [(ca, .inr (0, [.ref da, .int (nI bl.length)])), (da, .inl (G.2.2.2.1, kz, .inl g))]) (av := []) (rest := [.int (nI z)]) ⟨hx, hb, hml, hown, hts⟩ (k_Bytes_size l G (ca) (da) kz g bl hq hqn hk9) (cwV 0 hts gX6_takeGroups_X1_size rfl rfl rfl (by decide +kernel) ⟨Nat.le_of_ble_eq_true rfl, Nat.le_of_ble_eq_true rfl⟩) hB (q0 := 0) (ci := 0) rfl rfl rfl rfl hl.1 rfl (Nat.le_of_ble_eq_true rfl) dX6_takeGroups_4 ⟨Nat.le_of_ble_eq_true rfl, Nat.le_of_ble_eq_true rfl⟩ (fun r9 u H locs hw hB => ?_)
  obtain ⟨rfl, rfl⟩ := hw
  have hB : gB G.1 (rT G) A s H locs [(ad 24, .inr (4, [.ref (ad 25), .ref (ad 26), .ref (ad 28), .ref (ad 29), .ref (ad 30), .int (nI (n1 5)), .int (nI (n1 6)), .int (nI (n1 7)), .int (nI (n1 8)), .int (nI (n1 9)), .int (nI (n1 10)), .int (nI (n1 11))])), (ad 28, .inl (G.2.2.2.1, 10, .inl u4)), (ad 29, .inl (G.2.2.2.1, 10, .inl u5)), (ad 30, .inl (G.2.2.2.1, 800, .inl u6)), (ca, .inr (0, [.ref da, .int (nI bl.length)])), (da, .inl (G.2.2.2.1, kz, .inl g))] := hB
  refine lv_icmp_ge (tgt := 106) hx hb dX6_takeGroups_7 (by decide) (fun c_2 => ?_) (fun c_2 => ?_)
  · have c_2 : bl.length ≤ z := (nI_leI (a := bl.length) (b := z) (by omega) (by omega)).mp c_2
    rw [kMG_end (by omega)] at hk
    exact g_vret (S := mS) (Wd := fun u => maW G ad u ++ bW G ca da kz (nI bl.length, g)) (n1, u4, u5, u6) hB hx hb hr hlocks rfl ⟨hk, hn, by show n1 7 ≤ _; omega, by show n1 8 ≤ _; omega⟩ dX6_takeGroups_106
  · have c_2 : ¬ bl.length ≤ z := fun h9 => c_2 ((nI_leI (a := bl.length) (b := z) (by omega) (by omega)).mpr h9)
    obtain ⟨d1, ed⟩ : ∃ d1, d = d1 + 1 := ⟨d - 1, by omega⟩
    subst ed
    rw [agN, if_pos (by omega)] at ha
    rw [kMG, if_pos (by omega)] at hk
    have hg0 : ¬ gpN rd z = 0 := fun q => by rw [if_pos q] at ha; omega
    rw [if_neg hg0] at ha
    obtain ⟨g1, g2, g3, g4, g5, g6⟩ := gpN_at hg0
    have gk := gpN_kind hg0
    refine lv_iload_n hx hb dX6_takeGroups_10 rfl (lv_at hl 0 rfl) ?_
    refine lv_iconst (v := nI 3) hx hb dX6_takeGroups_11 (by decide) ?_
    refine lv_iadd hx hb dX6_takeGroups_12 ?_
    refine g_top (y := nI (z + 3)) (nI_add _ _) ?_
    refine lv_istore_n (lv' := [(3, .int (nI (z + 3))), (2, .int (nI z)), (0, .ref (ad 24)), (1, .ref ca)]) hx hb dX6_takeGroups_13 rfl hl (by decide) rfl (fun ls hl => ?_)
    refine lv_aload_n hx hb dX6_takeGroups_14 rfl (lv_at hl 3 rfl) ?_
    refine lv_iload_n hx hb dX6_takeGroups_15 rfl (lv_at hl 1 rfl) ?_
    refine lv_iconst (v := nI 2) hx hb dX6_takeGroups_16 (by decide) ?_
    refine lv_iadd hx hb dX6_takeGroups_17 ?_
    refine g_top (y := nI (z + 2)) (nI_add _ _) ?_
    refine g_calliA (wr := [(ad 24, .inr (4, [.ref (ad 25), .ref (ad 26), .ref (ad 28), .ref (ad 29), .ref (ad 30), .int (nI (n1 5)), .int (nI (n1 6)), .int (nI (n1 7)), .int (nI (n1 8)), .int (nI (n1 9)), .int (nI (n1 10)), .int (nI (n1 11))])), (ad 28, .inl (G.2.2.2.1, 10, .inl u4)), (ad 29, .inl (G.2.2.2.1, 10, .inl u5)), (ad 30, .inl (G.2.2.2.1, 800, .inl u6))]) (wc := [(ca, .inr (0, [.ref da, .int (nI bl.length)])), (da, .inl (G.2.2.2.1, kz, .inl g))]) (av := [.int (nI (z + 2))]) (rest := []) ⟨hx, hb, hml, hown, hts⟩ (k_Bytes_get l G (ca) (da) kz g bl hq hqn hk9 (nI (z + 2))) (cwV 1 hts gX6_takeGroups_X1_get rfl rfl rfl (by decide +kernel) ⟨Nat.le_of_ble_eq_true rfl, Nat.le_of_ble_eq_true rfl⟩) hB (q0 := 0) (ci := 0) rfl rfl rfl rfl hl.1 rfl (Nat.le_of_ble_eq_true rfl) dX6_takeGroups_18 ⟨Nat.le_of_ble_eq_true rfl, Nat.le_of_ble_eq_true rfl⟩ (fun r9 u H locs hw hB => ?_)
    obtain ⟨er, rfl⟩ := hw
    have hB : gB G.1 (rT G) A s H locs [(ad 24, .inr (4, [.ref (ad 25), .ref (ad 26), .ref (ad 28), .ref (ad 29), .ref (ad 30), .int (nI (n1 5)), .int (nI (n1 6)), .int (nI (n1 7)), .int (nI (n1 8)), .int (nI (n1 9)), .int (nI (n1 10)), .int (nI (n1 11))])), (ad 28, .inl (G.2.2.2.1, 10, .inl u4)), (ad 29, .inl (G.2.2.2.1, 10, .inl u5)), (ad 30, .inl (G.2.2.2.1, 800, .inl u6)), (ca, .inr (0, [.ref da, .int (nI bl.length)])), (da, .inl (G.2.2.2.1, kz, .inl g))] := hB
    have hlt9 : z + 2 < bl.length := by omega
    have g_3 : rd.getD (z + 2) 0 < 256 := by rw [hrd, rdN_get]; exact (bq_at hFB hlt9).2
    have er : r9 = nI (rd.getD (z + 2) 0) := by rw [hrd, rdN_get]; exact er.trans (get_in hFB hlt9 (by omega))
    subst er
    refine lv_istore (lv' := [(4, .int (nI (rd.getD (z + 2) 0))), (3, .int (nI (z + 3))), (2, .int (nI z)), (0, .ref (ad 24)), (1, .ref ca)]) hx hb dX6_takeGroups_21 hl (by decide) rfl (fun ls hl => ?_)
    refine lv_aload_n hx hb dX6_takeGroups_23 rfl (lv_at hl 4 rfl) ?_
    refine lv_iload_n hx hb dX6_takeGroups_24 rfl (lv_at hl 2 rfl) ?_
    refine g_calliA (wr := [(ad 24, .inr (4, [.ref (ad 25), .ref (ad 26), .ref (ad 28), .ref (ad 29), .ref (ad 30), .int (nI (n1 5)), .int (nI (n1 6)), .int (nI (n1 7)), .int (nI (n1 8)), .int (nI (n1 9)), .int (nI (n1 10)), .int (nI (n1 11))])), (ad 28, .inl (G.2.2.2.1, 10, .inl u4)), (ad 29, .inl (G.2.2.2.1, 10, .inl u5)), (ad 30, .inl (G.2.2.2.1, 800, .inl u6))]) (wc := [(ca, .inr (0, [.ref da, .int (nI bl.length)])), (da, .inl (G.2.2.2.1, kz, .inl g))]) (av := [.int (nI z)]) (rest := []) ⟨hx, hb, hml, hown, hts⟩ (k_Bytes_get l G (ca) (da) kz g bl hq hqn hk9 (nI z)) (cwV 1 hts gX6_takeGroups_X1_get rfl rfl rfl (by decide +kernel) ⟨Nat.le_of_ble_eq_true rfl, Nat.le_of_ble_eq_true rfl⟩) hB (q0 := 0) (ci := 0) rfl rfl rfl rfl hl.1 rfl (Nat.le_of_ble_eq_true rfl) dX6_takeGroups_25 ⟨Nat.le_of_ble_eq_true rfl, Nat.le_of_ble_eq_true rfl⟩ (fun r9 u H locs hw hB => ?_)
    obtain ⟨er, rfl⟩ := hw
    have hB : gB G.1 (rT G) A s H locs [(ad 24, .inr (4, [.ref (ad 25), .ref (ad 26), .ref (ad 28), .ref (ad 29), .ref (ad 30), .int (nI (n1 5)), .int (nI (n1 6)), .int (nI (n1 7)), .int (nI (n1 8)), .int (nI (n1 9)), .int (nI (n1 10)), .int (nI (n1 11))])), (ad 28, .inl (G.2.2.2.1, 10, .inl u4)), (ad 29, .inl (G.2.2.2.1, 10, .inl u5)), (ad 30, .inl (G.2.2.2.1, 800, .inl u6)), (ca, .inr (0, [.ref da, .int (nI bl.length)])), (da, .inl (G.2.2.2.1, kz, .inl g))] := hB
    have hlt9 : z < bl.length := by omega
    have g_4 : rd.getD (z) 0 < 256 := by rw [hrd, rdN_get]; exact (bq_at hFB hlt9).2
    have er : r9 = nI (rd.getD (z) 0) := by rw [hrd, rdN_get]; exact er.trans (get_in hFB hlt9 (by omega))
    subst er
    refine lv_bipush (v := nI 32) hx hb dX6_takeGroups_28 (by decide) ?_
    refine lv_icmp_ne (tgt := 37) hx hb dX6_takeGroups_30 (by decide) (fun c_5 => ?_) (fun c_5 => ?_)
    · have c_5 : ¬ (rd.getD (z) 0) = 32 := fun h9 => c_5 ((nI_eq (a := (rd.getD (z) 0)) (b := 32) (by omega) (by omega)).mpr h9)
      have h30 : rd.getD z 0 = 30 := by rcases gk with q | q; exact q.1; exact absurd q.1 c_5
      have hw : wd2 rd z = 3 := if_pos h30
      rw [hw] at g3 g5
      refine lv_iconst (v := nI 0) hx hb dX6_takeGroups_37 (by decide) ?_
      refine lv_istore (lv' := [(5, .int (nI 0)), (4, .int (nI (rd.getD (z + 2) 0))), (3, .int (nI (z + 3))), (2, .int (nI z)), (0, .ref (ad 24)), (1, .ref ca)]) hx hb dX6_takeGroups_38 hl (by decide) rfl (fun ls hl => ?_)
      refine lv_iload hx hb dX6_takeGroups_40 (lv_at hl 0 rfl) ?_
      refine lv_if_eq (tgt := 50) hx hb dX6_takeGroups_42 (by decide) (fun _ => ?_) (fun c9 => absurd c9 (by decide))
      refine lv_iconst (v := nI 3) hx hb dX6_takeGroups_50 (by decide) ?_
      refine lv_istore (lv' := [(6, .int (nI 3)), (5, .int (nI 0)), (4, .int (nI (rd.getD (z + 2) 0))), (3, .int (nI (z + 3))), (2, .int (nI z)), (0, .ref (ad 24)), (1, .ref ca)]) hx hb dX6_takeGroups_51 hl (by decide) rfl (fun ls hl => ?_)
      refine lv_iconst (v := nI 0) hx hb dX6_takeGroups_53 (by decide) ?_
      refine lv_istore (lv' := [(7, .int (nI 0)), (6, .int (nI 3)), (5, .int (nI 0)), (4, .int (nI (rd.getD (z + 2) 0))), (3, .int (nI (z + 3))), (2, .int (nI z)), (0, .ref (ad 24)), (1, .ref ca)]) hx hb dX6_takeGroups_54 hl (by decide) rfl (fun ls hl => ?_)
      have hl : lv_has ls 8 [(7, .int (nI 0)), (6, .int (nI 3)), (5, .int (nI 0)), (4, .int (nI (rd.getD (z + 2) 0))), (3, .int (nI (z + 3 + 3 * 0))), (2, .int (nI z)), (0, .ref (ad 24)), (1, .ref ca)] := hl
      have hl : lv_has ls 8 [(7, .int (nI 0)), (3, .int (nI (z + 3 + 3 * 0))), (0, .ref (ad 24)), (1, .ref ca), (2, .int (nI z)), (4, .int (nI (rd.getD (z + 2) 0))), (5, .int (nI 0)), (6, .int (nI 3))] := lv_sub hl [0, 4, 6, 7, 5, 3, 2, 1] rfl
      have hB : gB G.1 (rT G) A s H locs [(ad 24, .inr (4, [.ref (ad 25), .ref (ad 26), .ref (ad 28), .ref (ad 29), .ref (ad 30), .int (nI (n1 5)), .int (nI (n1 6)), .int (nI (n1 7)), .int (nI (n1 8)), .int (nI (n1 9)), .int (nI (n1 10)), .int (nI (n1 11))])), (ad 28, .inl (G.2.2.2.1, 10, .inl u4)), (ad 29, .inl (G.2.2.2.1, 10, .inl u5)), (ad 30, .inl (G.2.2.2.1, 800, .inl u6)), (ca, .inr (0, [.ref da, .int (nI bl.length)])), (da, .inl (G.2.2.2.1, kz, .inl g))] := hB
      refine g_loop (σ := Nat × (Nat → Nat) × (Nat → Int32) × (Nat → Int32) × (Nat → Int32)) (fun d xv H locs ls => (xv.1 + d = rd.getD (z + 2) 0) ∧ (kTG (n1, u4, u5, u6) rd z xv.1 = (xv.2.1, xv.2.2.1, xv.2.2.2.1, xv.2.2.2.2)) ∧ gB G.1 (rT G) A s H locs [(ad 24, .inr (4, [.ref (ad 25), .ref (ad 26), .ref (ad 28), .ref (ad 29), .ref (ad 30), .int (nI (xv.2.1 5)), .int (nI (xv.2.1 6)), .int (nI (xv.2.1 7)), .int (nI (xv.2.1 8)), .int (nI (xv.2.1 9)), .int (nI (xv.2.1 10)), .int (nI (xv.2.1 11))])), (ad 28, .inl (G.2.2.2.1, 10, .inl xv.2.2.1)), (ad 29, .inl (G.2.2.2.1, 10, .inl xv.2.2.2.1)), (ad 30, .inl (G.2.2.2.1, 800, .inl xv.2.2.2.2)), (ca, .inr (0, [.ref da, .int (nI bl.length)])), (da, .inl (G.2.2.2.1, kz, .inl g))] ∧ lv_has ls 8 [(7, .int (nI xv.1)), (3, .int (nI (z + 3 + 3 * xv.1))), (0, .ref (ad 24)), (1, .ref ca), (2, .int (nI z)), (4, .int (nI (rd.getD (z + 2) 0))), (5, .int (nI 0)), (6, .int (nI 3))]) (rd.getD (z + 2) 0) (0, n1, u4, u5, u6) ⟨by omega, rfl, hB, hl⟩ ?_
      rintro d ⟨i, n2, w4, w5, w6⟩ H locs ls ⟨hi, hg, hB, hl⟩ ih_6
      have hi : i + d = rd.getD (z + 2) 0 := hi
      have hg : kTG (n1, u4, u5, u6) rd z i = (n2, w4, w5, w6) := hg
      have hB : gB G.1 (rT G) A s H locs [(ad 24, .inr (4, [.ref (ad 25), .ref (ad 26), .ref (ad 28), .ref (ad 29), .ref (ad 30), .int (nI (n2 5)), .int (nI (n2 6)), .int (nI (n2 7)), .int (nI (n2 8)), .int (nI (n2 9)), .int (nI (n2 10)), .int (nI (n2 11))])), (ad 28, .inl (G.2.2.2.1, 10, .inl w4)), (ad 29, .inl (G.2.2.2.1, 10, .inl w5)), (ad 30, .inl (G.2.2.2.1, 800, .inl w6)), (ca, .inr (0, [.ref da, .int (nI bl.length)])), (da, .inl (G.2.2.2.1, kz, .inl g))] := hB
      have hl : lv_has ls 8 [(7, .int (nI i)), (3, .int (nI (z + 3 + 3 * i))), (0, .ref (ad 24)), (1, .ref ca), (2, .int (nI z)), (4, .int (nI (rd.getD (z + 2) 0))), (5, .int (nI 0)), (6, .int (nI 3))] := hl
      have hgn := kTG_n (n1, u4, u5, u6) rd z i
      rw [hg] at hgn
      obtain ⟨gn7, gn8, gnj⟩ := hgn
      have gn7 : n2 7 ≤ n1 7 + i := gn7
      have gn8 : n2 8 ≤ n1 8 + i := gn8
      have gnj : ∀ j, j ≠ 7 → j ≠ 8 → n2 j = n1 j := gnj
      have h62 : n2 6 ≤ 1 := by rw [gnj 6 (by decide) (by decide)]; exact h61
      have hbn2 : ∀ k, n2 k ≤ 990000 := fun k => by by_cases q7 : k = 7; (rw [q7]; omega); (by_cases q8 : k = 8; (rw [q8]; omega); (rw [gnj k q7 q8, hn k q7 q8]; have := hbn k; omega))
      refine lv_iload hx hb dX6_takeGroups_56 (lv_at hl 0 rfl) ?_
      refine lv_iload hx hb dX6_takeGroups_58 (lv_at hl 5 rfl) ?_
      refine lv_icmp_ge (tgt := 101) hx hb dX6_takeGroups_60 (by decide) (fun c_7 => ?_) (fun c_7 => ?_)
      · have c_7 : (rd.getD (z + 2) 0) ≤ i := (nI_leI (a := (rd.getD (z + 2) 0)) (b := i) (by omega) (by omega)).mp c_7
        have hi9 : i = rd.getD (z + 2) 0 := by omega
        rw [hi9] at hg
        rw [hg] at hk
        refine lv_iload_n hx hb dX6_takeGroups_101 rfl (lv_at hl 1 rfl) ?_
        refine lv_istore_n (lv' := [(2, .int (nI (z + 3 + 3 * i))), (7, .int (nI i)), (3, .int (nI (z + 3 + 3 * i))), (0, .ref (ad 24)), (1, .ref ca), (4, .int (nI (rd.getD (z + 2) 0))), (5, .int (nI 0)), (6, .int (nI 3))]) hx hb dX6_takeGroups_102 rfl hl (by decide) rfl (fun ls hl => ?_)
        refine lv_goto (tgt := 2) hx hb dX6_takeGroups_103 (by decide) ?_
        rw [show z + 3 + 3 * i = z + gpN rd z from by rw [g3]; omega] at hl
        have hl : lv_has ls 8 [(2, .int (nI (z + gpN rd z))), (7, .int (nI i)), (3, .int (nI (z + gpN rd z))), (0, .ref (ad 24)), (1, .ref ca), (4, .int (nI (rd.getD (z + 2) 0))), (5, .int (nI 0)), (6, .int (nI 3))] := hl
        have hl : lv_has ls 8 [(2, .int (nI (z + gpN rd z))), (0, .ref (ad 24)), (1, .ref ca)] := lv_sub hl [0, 3, 4] rfl
        have hB : gB G.1 (rT G) A s H locs [(ad 24, .inr (4, [.ref (ad 25), .ref (ad 26), .ref (ad 28), .ref (ad 29), .ref (ad 30), .int (nI (n2 5)), .int (nI (n2 6)), .int (nI (n2 7)), .int (nI (n2 8)), .int (nI (n2 9)), .int (nI (n2 10)), .int (nI (n2 11))])), (ad 28, .inl (G.2.2.2.1, 10, .inl w4)), (ad 29, .inl (G.2.2.2.1, 10, .inl w5)), (ad 30, .inl (G.2.2.2.1, 800, .inl w6)), (ca, .inr (0, [.ref da, .int (nI bl.length)])), (da, .inl (G.2.2.2.1, kz, .inl g))] := hB
        have b_8 : kMG rd d1 (z + gpN rd z) (n2, w4, w5, w6) = kMG rd 400 4 (nm, v4, v5, v6) := hk
        have b_9 : agN rd d1 (z + gpN rd z) = rd.length := ha
        have b_10 : (z + gpN rd z) ≤ bl.length := by omega
        have b_11 : bl.length ≤ (z + gpN rd z) + 3 * d1 := by omega
        have b_12 : ∀ j, j ≠ 7 → j ≠ 8 → n2 j = nm j := fun j h7 h8 => (gnj j h7 h8).trans (hn j h7 h8)
        have b_13 : n2 7 ≤ nm 7 + (z + gpN rd z) := by omega
        have b_14 : n2 8 ≤ nm 8 + (z + gpN rd z) := by omega
        exact ih_1 d1 (z + gpN rd z, n2, w4, w5, w6) H locs ls (by omega) ⟨b_8, b_9, b_10, b_11, b_12, b_13, b_14, hB, hl⟩
      · have c_7 : ¬ (rd.getD (z + 2) 0) ≤ i := fun h9 => c_7 ((nI_leI (a := (rd.getD (z + 2) 0)) (b := i) (by omega) (by omega)).mpr h9)
        have hi8 : i < rd.getD (z + 2) 0 := by omega
        have g5i := g5 i hi8
        refine lv_iload hx hb dX6_takeGroups_63 (lv_at hl 6 rfl) ?_
        refine lv_if_eq (tgt := 84) hx hb dX6_takeGroups_65 (by decide) (fun _ => ?_) (fun c9 => absurd c9 (by decide))
        refine lv_aload_n hx hb dX6_takeGroups_84 rfl (lv_at hl 2 rfl) ?_
        refine lv_aload_n hx hb dX6_takeGroups_85 rfl (lv_at hl 3 rfl) ?_
        refine lv_iload_n hx hb dX6_takeGroups_86 rfl (lv_at hl 1 rfl) ?_
        have hB : gB G.1 (rT G) A s H locs [(ad 29, .inl (G.2.2.2.1, 10, .inl w5)), (ad 30, .inl (G.2.2.2.1, 800, .inl w6)), (ad 24, .inr (4, [.ref (ad 25), .ref (ad 26), .ref (ad 28), .ref (ad 29), .ref (ad 30), .int (nI (n2 5)), .int (nI (n2 6)), .int (nI (n2 7)), .int (nI (n2 8)), .int (nI (n2 9)), .int (nI (n2 10)), .int (nI (n2 11))])), (ad 28, .inl (G.2.2.2.1, 10, .inl w4)), (ca, .inr (0, [.ref da, .int (nI bl.length)])), (da, .inl (G.2.2.2.1, kz, .inl g))] := hB.order [2, 3, 0, 1, 4, 5] (by decide) rfl rfl
        refine g_callvA (wr := [(ad 29, .inl (G.2.2.2.1, 10, .inl w5)), (ad 30, .inl (G.2.2.2.1, 800, .inl w6))]) (wc := [(ad 24, .inr (4, [.ref (ad 25), .ref (ad 26), .ref (ad 28), .ref (ad 29), .ref (ad 30), .int (nI (n2 5)), .int (nI (n2 6)), .int (nI (n2 7)), .int (nI (n2 8)), .int (nI (n2 9)), .int (nI (n2 10)), .int (nI (n2 11))])), (ad 28, .inl (G.2.2.2.1, 10, .inl w4)), (ca, .inr (0, [.ref da, .int (nI bl.length)])), (da, .inl (G.2.2.2.1, kz, .inl g))]) (av := [.ref ca, .int (nI (z + 3 + 3 * i))]) (rest := []) ⟨hx, hb, hml, hown, hts⟩ (k_Master_takeState l G ad n2 h62 hbn2  w4 ca da kz g bl hq hqn hk9 hFB rd hrd h4 (z + 3 + 3 * i) (by omega) g5i) (cwV 2 hts gX6_takeGroups_X6_takeState rfl rfl rfl (by decide +kernel) ⟨Nat.le_of_ble_eq_true rfl, Nat.le_of_ble_eq_true rfl⟩) hB (q0 := 0) (ci := 4) rfl rfl rfl rfl hl.1 rfl (Nat.le_of_ble_eq_true rfl) dX6_takeGroups_87 ⟨Nat.le_of_ble_eq_true rfl, Nat.le_of_ble_eq_true rfl⟩ (fun u H locs hw hB => ?_)
        obtain rfl := hw
        have hg2 : kTG (n1, u4, u5, u6) rd z (i + 1) = (n2, upd w4 (rd.getD (z + 3 + 3 * i) 0) (nI (hN rd (z + 3 + 3 * i + 1) 2)), w5, w6) := by rw [kTG, if_pos hw, hg, hw]; rfl
        have hB : gB G.1 (rT G) A s H locs [(ad 29, .inl (G.2.2.2.1, 10, .inl w5)), (ad 30, .inl (G.2.2.2.1, 800, .inl w6)), (ad 24, .inr (4, [.ref (ad 25), .ref (ad 26), .ref (ad 28), .ref (ad 29), .ref (ad 30), .int (nI (n2 5)), .int (nI (n2 6)), .int (nI (n2 7)), .int (nI (n2 8)), .int (nI (n2 9)), .int (nI (n2 10)), .int (nI (n2 11))])), (ad 28, .inl (G.2.2.2.1, 10, .inl (upd w4 (rd.getD (z + 3 + 3 * i) 0) (nI (hN rd (z + 3 + 3 * i + 1) 2))))), (ca, .inr (0, [.ref da, .int (nI bl.length)])), (da, .inl (G.2.2.2.1, kz, .inl g))] := hB
        refine lv_iload_n hx hb dX6_takeGroups_90 rfl (lv_at hl 1 rfl) ?_
        refine lv_iload hx hb dX6_takeGroups_91 (lv_at hl 7 rfl) ?_
        refine lv_iadd hx hb dX6_takeGroups_93 ?_
        refine g_top (y := nI ((z + 3 + 3 * i) + 3)) (nI_add _ _) ?_
        refine lv_istore_n (lv' := [(3, .int (nI ((z + 3 + 3 * i) + 3))), (7, .int (nI i)), (0, .ref (ad 24)), (1, .ref ca), (2, .int (nI z)), (4, .int (nI (rd.getD (z + 2) 0))), (5, .int (nI 0)), (6, .int (nI 3))]) hx hb dX6_takeGroups_94 rfl hl (by decide) rfl (fun ls hl => ?_)
        refine lv_iinc (v := nI (i + 1)) (lv' := [(7, .int (nI (i + 1))), (3, .int (nI ((z + 3 + 3 * i) + 3))), (0, .ref (ad 24)), (1, .ref ca), (2, .int (nI z)), (4, .int (nI (rd.getD (z + 2) 0))), (5, .int (nI 0)), (6, .int (nI 3))]) hx hb dX6_takeGroups_95 hl (k := 1) rfl (nI_add _ _) (by decide) rfl (fun ls hl => ?_)
        refine lv_goto (tgt := 56) hx hb dX6_takeGroups_98 (by decide) ?_
        rw [show (z + 3 + 3 * i) + 3 = z + 3 + 3 * (i + 1) from by omega] at hl
        have hl : lv_has ls 8 [(7, .int (nI (i + 1))), (3, .int (nI (z + 3 + 3 * (i + 1)))), (0, .ref (ad 24)), (1, .ref ca), (2, .int (nI z)), (4, .int (nI (rd.getD (z + 2) 0))), (5, .int (nI 0)), (6, .int (nI 3))] := hl
        have hB : gB G.1 (rT G) A s H locs [(ad 24, .inr (4, [.ref (ad 25), .ref (ad 26), .ref (ad 28), .ref (ad 29), .ref (ad 30), .int (nI (n2 5)), .int (nI (n2 6)), .int (nI (n2 7)), .int (nI (n2 8)), .int (nI (n2 9)), .int (nI (n2 10)), .int (nI (n2 11))])), (ad 28, .inl (G.2.2.2.1, 10, .inl (upd w4 (rd.getD (z + 3 + 3 * i) 0) (nI (hN rd (z + 3 + 3 * i + 1) 2))))), (ad 29, .inl (G.2.2.2.1, 10, .inl w5)), (ad 30, .inl (G.2.2.2.1, 800, .inl w6)), (ca, .inr (0, [.ref da, .int (nI bl.length)])), (da, .inl (G.2.2.2.1, kz, .inl g))] := hB.order [2, 3, 0, 1, 4, 5] (by decide) rfl rfl
        have hl : lv_has ls 8 [(7, .int (nI (i + 1))), (3, .int (nI (z + 3 + 3 * (i + 1)))), (0, .ref (ad 24)), (1, .ref ca), (2, .int (nI z)), (4, .int (nI (rd.getD (z + 2) 0))), (5, .int (nI 0)), (6, .int (nI 3))] := lv_sub hl [0, 1, 2, 3, 4, 5, 6, 7] rfl
        have hB : gB G.1 (rT G) A s H locs [(ad 24, .inr (4, [.ref (ad 25), .ref (ad 26), .ref (ad 28), .ref (ad 29), .ref (ad 30), .int (nI (n2 5)), .int (nI (n2 6)), .int (nI (n2 7)), .int (nI (n2 8)), .int (nI (n2 9)), .int (nI (n2 10)), .int (nI (n2 11))])), (ad 28, .inl (G.2.2.2.1, 10, .inl (upd w4 (rd.getD (z + 3 + 3 * i) 0) (nI (hN rd (z + 3 + 3 * i + 1) 2))))), (ad 29, .inl (G.2.2.2.1, 10, .inl w5)), (ad 30, .inl (G.2.2.2.1, 800, .inl w6)), (ca, .inr (0, [.ref da, .int (nI bl.length)])), (da, .inl (G.2.2.2.1, kz, .inl g))] := hB
        have b_15 : (i + 1) + (d - 1) = rd.getD (z + 2) 0 := by omega
        have b_16 : kTG (n1, u4, u5, u6) rd z (i + 1) = (n2, (upd w4 (rd.getD (z + 3 + 3 * i) 0) (nI (hN rd (z + 3 + 3 * i + 1) 2))), w5, w6) := hg2
        exact ih_6 (d - 1) (i + 1, n2, upd w4 (rd.getD (z + 3 + 3 * i) 0) (nI (hN rd (z + 3 + 3 * i + 1) 2)), w5, w6) H locs ls (by omega) ⟨b_15, b_16, hB, hl⟩
    · have c_5 : (rd.getD (z) 0) = 32 := (nI_eq (a := (rd.getD (z) 0)) (b := 32) (by omega) (by omega)).mp c_5
      have hw : wd2 rd z = 7 := if_neg (by omega)
      rw [hw] at g3 g5
      refine lv_iconst (v := nI 1) hx hb dX6_takeGroups_33 (by decide) ?_
      refine lv_goto (tgt := 38) hx hb dX6_takeGroups_34 (by decide) ?_
      refine lv_istore (lv' := [(5, .int (nI 1)), (4, .int (nI (rd.getD (z + 2) 0))), (3, .int (nI (z + 3))), (2, .int (nI z)), (0, .ref (ad 24)), (1, .ref ca)]) hx hb dX6_takeGroups_38 hl (by decide) rfl (fun ls hl => ?_)
      refine lv_iload hx hb dX6_takeGroups_40 (lv_at hl 0 rfl) ?_
      refine lv_if_eq (tgt := 50) hx hb dX6_takeGroups_42 (by decide) (fun c9 => absurd c9 (by decide)) (fun _ => ?_)
      refine lv_bipush (v := nI 7) hx hb dX6_takeGroups_45 (by decide) ?_
      refine lv_goto (tgt := 51) hx hb dX6_takeGroups_47 (by decide) ?_
      refine lv_istore (lv' := [(6, .int (nI 7)), (5, .int (nI 1)), (4, .int (nI (rd.getD (z + 2) 0))), (3, .int (nI (z + 3))), (2, .int (nI z)), (0, .ref (ad 24)), (1, .ref ca)]) hx hb dX6_takeGroups_51 hl (by decide) rfl (fun ls hl => ?_)
      refine lv_iconst (v := nI 0) hx hb dX6_takeGroups_53 (by decide) ?_
      refine lv_istore (lv' := [(7, .int (nI 0)), (6, .int (nI 7)), (5, .int (nI 1)), (4, .int (nI (rd.getD (z + 2) 0))), (3, .int (nI (z + 3))), (2, .int (nI z)), (0, .ref (ad 24)), (1, .ref ca)]) hx hb dX6_takeGroups_54 hl (by decide) rfl (fun ls hl => ?_)
      have hl : lv_has ls 8 [(7, .int (nI 0)), (6, .int (nI 7)), (5, .int (nI 1)), (4, .int (nI (rd.getD (z + 2) 0))), (3, .int (nI (z + 3 + 7 * 0))), (2, .int (nI z)), (0, .ref (ad 24)), (1, .ref ca)] := hl
      have hl : lv_has ls 8 [(7, .int (nI 0)), (3, .int (nI (z + 3 + 7 * 0))), (0, .ref (ad 24)), (1, .ref ca), (2, .int (nI z)), (4, .int (nI (rd.getD (z + 2) 0))), (5, .int (nI 1)), (6, .int (nI 7))] := lv_sub hl [0, 4, 6, 7, 5, 3, 2, 1] rfl
      have hB : gB G.1 (rT G) A s H locs [(ad 24, .inr (4, [.ref (ad 25), .ref (ad 26), .ref (ad 28), .ref (ad 29), .ref (ad 30), .int (nI (n1 5)), .int (nI (n1 6)), .int (nI (n1 7)), .int (nI (n1 8)), .int (nI (n1 9)), .int (nI (n1 10)), .int (nI (n1 11))])), (ad 28, .inl (G.2.2.2.1, 10, .inl u4)), (ad 29, .inl (G.2.2.2.1, 10, .inl u5)), (ad 30, .inl (G.2.2.2.1, 800, .inl u6)), (ca, .inr (0, [.ref da, .int (nI bl.length)])), (da, .inl (G.2.2.2.1, kz, .inl g))] := hB
      refine g_loop (σ := Nat × (Nat → Nat) × (Nat → Int32) × (Nat → Int32) × (Nat → Int32)) (fun d xv H locs ls => (xv.1 + d = rd.getD (z + 2) 0) ∧ (kTG (n1, u4, u5, u6) rd z xv.1 = (xv.2.1, xv.2.2.1, xv.2.2.2.1, xv.2.2.2.2)) ∧ gB G.1 (rT G) A s H locs [(ad 24, .inr (4, [.ref (ad 25), .ref (ad 26), .ref (ad 28), .ref (ad 29), .ref (ad 30), .int (nI (xv.2.1 5)), .int (nI (xv.2.1 6)), .int (nI (xv.2.1 7)), .int (nI (xv.2.1 8)), .int (nI (xv.2.1 9)), .int (nI (xv.2.1 10)), .int (nI (xv.2.1 11))])), (ad 28, .inl (G.2.2.2.1, 10, .inl xv.2.2.1)), (ad 29, .inl (G.2.2.2.1, 10, .inl xv.2.2.2.1)), (ad 30, .inl (G.2.2.2.1, 800, .inl xv.2.2.2.2)), (ca, .inr (0, [.ref da, .int (nI bl.length)])), (da, .inl (G.2.2.2.1, kz, .inl g))] ∧ lv_has ls 8 [(7, .int (nI xv.1)), (3, .int (nI (z + 3 + 7 * xv.1))), (0, .ref (ad 24)), (1, .ref ca), (2, .int (nI z)), (4, .int (nI (rd.getD (z + 2) 0))), (5, .int (nI 1)), (6, .int (nI 7))]) (rd.getD (z + 2) 0) (0, n1, u4, u5, u6) ⟨by omega, rfl, hB, hl⟩ ?_
      rintro d ⟨i, n2, w4, w5, w6⟩ H locs ls ⟨hi, hg, hB, hl⟩ ih_17
      have hi : i + d = rd.getD (z + 2) 0 := hi
      have hg : kTG (n1, u4, u5, u6) rd z i = (n2, w4, w5, w6) := hg
      have hB : gB G.1 (rT G) A s H locs [(ad 24, .inr (4, [.ref (ad 25), .ref (ad 26), .ref (ad 28), .ref (ad 29), .ref (ad 30), .int (nI (n2 5)), .int (nI (n2 6)), .int (nI (n2 7)), .int (nI (n2 8)), .int (nI (n2 9)), .int (nI (n2 10)), .int (nI (n2 11))])), (ad 28, .inl (G.2.2.2.1, 10, .inl w4)), (ad 29, .inl (G.2.2.2.1, 10, .inl w5)), (ad 30, .inl (G.2.2.2.1, 800, .inl w6)), (ca, .inr (0, [.ref da, .int (nI bl.length)])), (da, .inl (G.2.2.2.1, kz, .inl g))] := hB
      have hl : lv_has ls 8 [(7, .int (nI i)), (3, .int (nI (z + 3 + 7 * i))), (0, .ref (ad 24)), (1, .ref ca), (2, .int (nI z)), (4, .int (nI (rd.getD (z + 2) 0))), (5, .int (nI 1)), (6, .int (nI 7))] := hl
      have hgn := kTG_n (n1, u4, u5, u6) rd z i
      rw [hg] at hgn
      obtain ⟨gn7, gn8, gnj⟩ := hgn
      have gn7 : n2 7 ≤ n1 7 + i := gn7
      have gn8 : n2 8 ≤ n1 8 + i := gn8
      have gnj : ∀ j, j ≠ 7 → j ≠ 8 → n2 j = n1 j := gnj
      have h62 : n2 6 ≤ 1 := by rw [gnj 6 (by decide) (by decide)]; exact h61
      have hbn2 : ∀ k, n2 k ≤ 990000 := fun k => by by_cases q7 : k = 7; (rw [q7]; omega); (by_cases q8 : k = 8; (rw [q8]; omega); (rw [gnj k q7 q8, hn k q7 q8]; have := hbn k; omega))
      refine lv_iload hx hb dX6_takeGroups_56 (lv_at hl 0 rfl) ?_
      refine lv_iload hx hb dX6_takeGroups_58 (lv_at hl 5 rfl) ?_
      refine lv_icmp_ge (tgt := 101) hx hb dX6_takeGroups_60 (by decide) (fun c_18 => ?_) (fun c_18 => ?_)
      · have c_18 : (rd.getD (z + 2) 0) ≤ i := (nI_leI (a := (rd.getD (z + 2) 0)) (b := i) (by omega) (by omega)).mp c_18
        have hi9 : i = rd.getD (z + 2) 0 := by omega
        rw [hi9] at hg
        rw [hg] at hk
        refine lv_iload_n hx hb dX6_takeGroups_101 rfl (lv_at hl 1 rfl) ?_
        refine lv_istore_n (lv' := [(2, .int (nI (z + 3 + 7 * i))), (7, .int (nI i)), (3, .int (nI (z + 3 + 7 * i))), (0, .ref (ad 24)), (1, .ref ca), (4, .int (nI (rd.getD (z + 2) 0))), (5, .int (nI 1)), (6, .int (nI 7))]) hx hb dX6_takeGroups_102 rfl hl (by decide) rfl (fun ls hl => ?_)
        refine lv_goto (tgt := 2) hx hb dX6_takeGroups_103 (by decide) ?_
        rw [show z + 3 + 7 * i = z + gpN rd z from by rw [g3]; omega] at hl
        have hl : lv_has ls 8 [(2, .int (nI (z + gpN rd z))), (7, .int (nI i)), (3, .int (nI (z + gpN rd z))), (0, .ref (ad 24)), (1, .ref ca), (4, .int (nI (rd.getD (z + 2) 0))), (5, .int (nI 1)), (6, .int (nI 7))] := hl
        have hl : lv_has ls 8 [(2, .int (nI (z + gpN rd z))), (0, .ref (ad 24)), (1, .ref ca)] := lv_sub hl [0, 3, 4] rfl
        have hB : gB G.1 (rT G) A s H locs [(ad 24, .inr (4, [.ref (ad 25), .ref (ad 26), .ref (ad 28), .ref (ad 29), .ref (ad 30), .int (nI (n2 5)), .int (nI (n2 6)), .int (nI (n2 7)), .int (nI (n2 8)), .int (nI (n2 9)), .int (nI (n2 10)), .int (nI (n2 11))])), (ad 28, .inl (G.2.2.2.1, 10, .inl w4)), (ad 29, .inl (G.2.2.2.1, 10, .inl w5)), (ad 30, .inl (G.2.2.2.1, 800, .inl w6)), (ca, .inr (0, [.ref da, .int (nI bl.length)])), (da, .inl (G.2.2.2.1, kz, .inl g))] := hB
        have b_19 : kMG rd d1 (z + gpN rd z) (n2, w4, w5, w6) = kMG rd 400 4 (nm, v4, v5, v6) := hk
        have b_20 : agN rd d1 (z + gpN rd z) = rd.length := ha
        have b_21 : (z + gpN rd z) ≤ bl.length := by omega
        have b_22 : bl.length ≤ (z + gpN rd z) + 3 * d1 := by omega
        have b_23 : ∀ j, j ≠ 7 → j ≠ 8 → n2 j = nm j := fun j h7 h8 => (gnj j h7 h8).trans (hn j h7 h8)
        have b_24 : n2 7 ≤ nm 7 + (z + gpN rd z) := by omega
        have b_25 : n2 8 ≤ nm 8 + (z + gpN rd z) := by omega
        exact ih_1 d1 (z + gpN rd z, n2, w4, w5, w6) H locs ls (by omega) ⟨b_19, b_20, b_21, b_22, b_23, b_24, b_25, hB, hl⟩
      · have c_18 : ¬ (rd.getD (z + 2) 0) ≤ i := fun h9 => c_18 ((nI_leI (a := (rd.getD (z + 2) 0)) (b := i) (by omega) (by omega)).mpr h9)
        have hi8 : i < rd.getD (z + 2) 0 := by omega
        have g5i := g5 i hi8
        refine lv_iload hx hb dX6_takeGroups_63 (lv_at hl 6 rfl) ?_
        refine lv_if_eq (tgt := 84) hx hb dX6_takeGroups_65 (by decide) (fun c9 => absurd c9 (by decide)) (fun _ => ?_)
        refine lv_aload_n hx hb dX6_takeGroups_68 rfl (lv_at hl 2 rfl) ?_
        refine lv_aload_n hx hb dX6_takeGroups_69 rfl (lv_at hl 3 rfl) ?_
        refine lv_iload_n hx hb dX6_takeGroups_70 rfl (lv_at hl 1 rfl) ?_
        refine lv_aload_n hx hb dX6_takeGroups_71 rfl (lv_at hl 3 rfl) ?_
        refine lv_iload_n hx hb dX6_takeGroups_72 rfl (lv_at hl 4 rfl) ?_
        refine lv_iconst (v := nI 1) hx hb dX6_takeGroups_73 (by decide) ?_
        refine lv_iadd hx hb dX6_takeGroups_74 ?_
        refine g_top (y := nI (z + 1)) (nI_add _ _) ?_
        refine g_calliA (wr := [(ad 24, .inr (4, [.ref (ad 25), .ref (ad 26), .ref (ad 28), .ref (ad 29), .ref (ad 30), .int (nI (n2 5)), .int (nI (n2 6)), .int (nI (n2 7)), .int (nI (n2 8)), .int (nI (n2 9)), .int (nI (n2 10)), .int (nI (n2 11))])), (ad 28, .inl (G.2.2.2.1, 10, .inl w4)), (ad 29, .inl (G.2.2.2.1, 10, .inl w5)), (ad 30, .inl (G.2.2.2.1, 800, .inl w6))]) (wc := [(ca, .inr (0, [.ref da, .int (nI bl.length)])), (da, .inl (G.2.2.2.1, kz, .inl g))]) (av := [.int (nI (z + 1))]) (rest := [.int (nI (z + 3 + 7 * i)), .ref ca, .ref (ad 24)]) ⟨hx, hb, hml, hown, hts⟩ (k_Bytes_get l G (ca) (da) kz g bl hq hqn hk9 (nI (z + 1))) (cwV 1 hts gX6_takeGroups_X1_get rfl rfl rfl (by decide +kernel) ⟨Nat.le_of_ble_eq_true rfl, Nat.le_of_ble_eq_true rfl⟩) hB (q0 := 0) (ci := 0) rfl rfl rfl rfl hl.1 rfl (Nat.le_of_ble_eq_true rfl) dX6_takeGroups_75 ⟨Nat.le_of_ble_eq_true rfl, Nat.le_of_ble_eq_true rfl⟩ (fun r9 u H locs hw hB => ?_)
        obtain ⟨er, rfl⟩ := hw
        have hB : gB G.1 (rT G) A s H locs [(ad 24, .inr (4, [.ref (ad 25), .ref (ad 26), .ref (ad 28), .ref (ad 29), .ref (ad 30), .int (nI (n2 5)), .int (nI (n2 6)), .int (nI (n2 7)), .int (nI (n2 8)), .int (nI (n2 9)), .int (nI (n2 10)), .int (nI (n2 11))])), (ad 28, .inl (G.2.2.2.1, 10, .inl w4)), (ad 29, .inl (G.2.2.2.1, 10, .inl w5)), (ad 30, .inl (G.2.2.2.1, 800, .inl w6)), (ca, .inr (0, [.ref da, .int (nI bl.length)])), (da, .inl (G.2.2.2.1, kz, .inl g))] := hB
        have hlt9 : z + 1 < bl.length := by omega
        have g_26 : rd.getD (z + 1) 0 < 256 := by rw [hrd, rdN_get]; exact (bq_at hFB hlt9).2
        have er : r9 = nI (rd.getD (z + 1) 0) := by rw [hrd, rdN_get]; exact er.trans (get_in hFB hlt9 (by omega))
        subst er
        refine g_callvA (wr := []) (wc := [(ad 24, .inr (4, [.ref (ad 25), .ref (ad 26), .ref (ad 28), .ref (ad 29), .ref (ad 30), .int (nI (n2 5)), .int (nI (n2 6)), .int (nI (n2 7)), .int (nI (n2 8)), .int (nI (n2 9)), .int (nI (n2 10)), .int (nI (n2 11))])), (ad 28, .inl (G.2.2.2.1, 10, .inl w4)), (ad 29, .inl (G.2.2.2.1, 10, .inl w5)), (ad 30, .inl (G.2.2.2.1, 800, .inl w6)), (ca, .inr (0, [.ref da, .int (nI bl.length)])), (da, .inl (G.2.2.2.1, kz, .inl g))]) (av := [.ref ca, .int (nI (z + 3 + 7 * i)), .int (nI (rd.getD (z + 1) 0))]) (rest := []) ⟨hx, hb, hml, hown, hts⟩ (k_Master_takeEvent l G ad n2 h62 hbn2  w4 w5 w6 ca da kz g bl hq hqn hk9 hFB rd hrd h4 (z + 3 + 7 * i) (rd.getD (z + 1) 0) (by omega) g5i) (cwV 3 hts gX6_takeGroups_X6_takeEvent rfl rfl rfl (by decide +kernel) ⟨Nat.le_of_ble_eq_true rfl, Nat.le_of_ble_eq_true rfl⟩) hB (q0 := 0) (ci := 4) rfl rfl rfl rfl hl.1 rfl (Nat.le_of_ble_eq_true rfl) dX6_takeGroups_78 ⟨Nat.le_of_ble_eq_true rfl, Nat.le_of_ble_eq_true rfl⟩ (fun u H locs hw hB => ?_)
        obtain rfl := hw
        obtain ⟨⟨n3, x4, x5, x6⟩, e3⟩ : ∃ t : mS, t = kTE (n2, w4, w5, w6) rd (z + 3 + 7 * i) (rd.getD (z + 1) 0) := ⟨_, rfl⟩
        rw [← e3] at hB
        have hg2 : kTG (n1, u4, u5, u6) rd z (i + 1) = (n3, x4, x5, x6) := by rw [kTG, if_neg (by rw [hw]; decide), hg, hw]; exact e3.symm
        have hB : gB G.1 (rT G) A s H locs [(ad 24, .inr (4, [.ref (ad 25), .ref (ad 26), .ref (ad 28), .ref (ad 29), .ref (ad 30), .int (nI (n3 5)), .int (nI (n3 6)), .int (nI (n3 7)), .int (nI (n3 8)), .int (nI (n3 9)), .int (nI (n3 10)), .int (nI (n3 11))])), (ad 28, .inl (G.2.2.2.1, 10, .inl x4)), (ad 29, .inl (G.2.2.2.1, 10, .inl x5)), (ad 30, .inl (G.2.2.2.1, 800, .inl x6)), (ca, .inr (0, [.ref da, .int (nI bl.length)])), (da, .inl (G.2.2.2.1, kz, .inl g))] := hB
        refine lv_goto (tgt := 90) hx hb dX6_takeGroups_81 (by decide) ?_
        refine lv_iload_n hx hb dX6_takeGroups_90 rfl (lv_at hl 1 rfl) ?_
        refine lv_iload hx hb dX6_takeGroups_91 (lv_at hl 7 rfl) ?_
        refine lv_iadd hx hb dX6_takeGroups_93 ?_
        refine g_top (y := nI ((z + 3 + 7 * i) + 7)) (nI_add _ _) ?_
        refine lv_istore_n (lv' := [(3, .int (nI ((z + 3 + 7 * i) + 7))), (7, .int (nI i)), (0, .ref (ad 24)), (1, .ref ca), (2, .int (nI z)), (4, .int (nI (rd.getD (z + 2) 0))), (5, .int (nI 1)), (6, .int (nI 7))]) hx hb dX6_takeGroups_94 rfl hl (by decide) rfl (fun ls hl => ?_)
        refine lv_iinc (v := nI (i + 1)) (lv' := [(7, .int (nI (i + 1))), (3, .int (nI ((z + 3 + 7 * i) + 7))), (0, .ref (ad 24)), (1, .ref ca), (2, .int (nI z)), (4, .int (nI (rd.getD (z + 2) 0))), (5, .int (nI 1)), (6, .int (nI 7))]) hx hb dX6_takeGroups_95 hl (k := 1) rfl (nI_add _ _) (by decide) rfl (fun ls hl => ?_)
        refine lv_goto (tgt := 56) hx hb dX6_takeGroups_98 (by decide) ?_
        rw [show (z + 3 + 7 * i) + 7 = z + 3 + 7 * (i + 1) from by omega] at hl
        have hl : lv_has ls 8 [(7, .int (nI (i + 1))), (3, .int (nI (z + 3 + 7 * (i + 1)))), (0, .ref (ad 24)), (1, .ref ca), (2, .int (nI z)), (4, .int (nI (rd.getD (z + 2) 0))), (5, .int (nI 1)), (6, .int (nI 7))] := hl
        have hl : lv_has ls 8 [(7, .int (nI (i + 1))), (3, .int (nI (z + 3 + 7 * (i + 1)))), (0, .ref (ad 24)), (1, .ref ca), (2, .int (nI z)), (4, .int (nI (rd.getD (z + 2) 0))), (5, .int (nI 1)), (6, .int (nI 7))] := lv_sub hl [0, 1, 2, 3, 4, 5, 6, 7] rfl
        have hB : gB G.1 (rT G) A s H locs [(ad 24, .inr (4, [.ref (ad 25), .ref (ad 26), .ref (ad 28), .ref (ad 29), .ref (ad 30), .int (nI (n3 5)), .int (nI (n3 6)), .int (nI (n3 7)), .int (nI (n3 8)), .int (nI (n3 9)), .int (nI (n3 10)), .int (nI (n3 11))])), (ad 28, .inl (G.2.2.2.1, 10, .inl x4)), (ad 29, .inl (G.2.2.2.1, 10, .inl x5)), (ad 30, .inl (G.2.2.2.1, 800, .inl x6)), (ca, .inr (0, [.ref da, .int (nI bl.length)])), (da, .inl (G.2.2.2.1, kz, .inl g))] := hB
        have b_27 : (i + 1) + (d - 1) = rd.getD (z + 2) 0 := by omega
        have b_28 : kTG (n1, u4, u5, u6) rd z (i + 1) = (n3, x4, x5, x6) := hg2
        exact ih_17 (d - 1) (i + 1, n3, x4, x5, x6) H locs ls (by omega) ⟨b_27, b_28, hB, hl⟩
set_option maxRecDepth 100000 in
set_option maxHeartbeats 2000000 in
/-- Master.makeConfirm(control) -/
theorem k_Master_makeConfirm (l : Launch) (G : rG) (ad nm : Nat → Nat) (h6 : nm 6 ≤ 1) (hbn : ∀ k, nm k ≤ 990000) (of : Nat → Int32) (ol : List Int32) (hop : pfx of ol) (hol : ol.length ≤ 14) (x : Nat) (hx2 : x < 256) : gM l G.1 (rT G) yX6_makeConfirm wsX6_makeConfirm { frames := 1, cells := 0, slots := 0, locals := 21 } [.ref (ad 24), .int (nI x)] [(ad 24, .inr (4, [.ref (ad 25), .ref (ad 26), .ref (ad 28), .ref (ad 29), .ref (ad 30), .int (nI (nm 5)), .int (nI (nm 6)), .int (nI (nm 7)), .int (nI (nm 8)), .int (nI (nm 9)), .int (nI (nm 10)), .int (nI (nm 11))])), (ad 26, .inr (0, [.ref (ad 27), .int (nI ol.length)])), (ad 27, .inl (G.2.2.2.1, 14, .inl of))] (gQv G.1 (rT G) (fun u : Int32 × (Nat → Int32) => ∃ f9, pfx f9 [(nI 192 + nI (x &&& 31)) &&& 255, nI 0 &&& 255] ∧ u = (nI 2, f9)) (fun u => maO ad nm :: bW G (ad 26) (ad 27) 14 u)) 0 0 := by
  refine gM.of (cc := cX6_makeConfirm) (maxL := 2) (ret := none) (by decide) rfl (Nat.le_of_ble_eq_true rfl) ?_
  intro p e s m below meth c A ls hx hb hr hml hown hts hlocks hnm hB hl
  have hl : lv_has ls 2 [(0, .ref (ad 24)), (1, .int (nI x))] := hl
  refine lv_aload_n hx hb dX6_makeConfirm_0 rfl (lv_at hl 0 rfl) ?_
  refine g_get (own := RX6) (C := RX6) (T := TX6) (N := 12) (ci := 4) (v := .ref (ad 26)) hx hb hts (fun _ h => List.mem_cons_of_mem _ (List.mem_append_left _ (List.mem_append_right _ h))) hown hB 0 rfl rfl 1 (by decide) (hts (.fieldLink RX6 18 "PointReports$Master" "outgoing" "LPointReports$Bytes;") (by decide +kernel)) rfl rfl dX6_makeConfirm_1 ?_
  refine g_callvA (wr := [(ad 24, .inr (4, [.ref (ad 25), .ref (ad 26), .ref (ad 28), .ref (ad 29), .ref (ad 30), .int (nI (nm 5)), .int (nI (nm 6)), .int (nI (nm 7)), .int (nI (nm 8)), .int (nI (nm 9)), .int (nI (nm 10)), .int (nI (nm 11))]))]) (wc := [(ad 26, .inr (0, [.ref (ad 27), .int (nI ol.length)])), (ad 27, .inl (G.2.2.2.1, 14, .inl of))]) (av := []) (rest := []) ⟨hx, hb, hml, hown, hts⟩ (k_Bytes_clear l G (ad 26) (ad 27) 14 of ol hop hol (by decide)) (cwV 0 hts gX6_makeConfirm_X1_clear rfl rfl rfl (by decide +kernel) ⟨Nat.le_of_ble_eq_true rfl, Nat.le_of_ble_eq_true rfl⟩) hB (q0 := 0) (ci := 0) rfl rfl rfl rfl hl.1 rfl (Nat.le_of_ble_eq_true rfl) dX6_makeConfirm_4 ⟨Nat.le_of_ble_eq_true rfl, Nat.le_of_ble_eq_true rfl⟩ (fun u H locs hw hB => ?_)
  obtain rfl := hw
  have hB : gB G.1 (rT G) A s H locs [(ad 24, .inr (4, [.ref (ad 25), .ref (ad 26), .ref (ad 28), .ref (ad 29), .ref (ad 30), .int (nI (nm 5)), .int (nI (nm 6)), .int (nI (nm 7)), .int (nI (nm 8)), .int (nI (nm 9)), .int (nI (nm 10)), .int (nI (nm 11))])), (ad 26, .inr (0, [.ref (ad 27), .int (nI 0)])), (ad 27, .inl (G.2.2.2.1, 14, .inl of))] := hB
  obtain ⟨L_33, eL_33⟩ : ∃ L9 : List Int32, L9 = [] := ⟨_, rfl⟩
  have hL_33 : pfx of L_33 := by rw [eL_33]; exact pfx_nil _
  have nL_33 : L_33.length = 0 := by rw [eL_33]; rfl
  have lL_33 : L_33.length ≤ 14 := by omega
  have bL_33 : ∀ x ∈ L_33, isB x := by rw [eL_33]; exact fun _ h => absurd h List.not_mem_nil
  have hB : gB G.1 (rT G) A s H locs [(ad 24, .inr (4, [.ref (ad 25), .ref (ad 26), .ref (ad 28), .ref (ad 29), .ref (ad 30), .int (nI (nm 5)), .int (nI (nm 6)), .int (nI (nm 7)), .int (nI (nm 8)), .int (nI (nm 9)), .int (nI (nm 10)), .int (nI (nm 11))])), (ad 26, .inr (0, [.ref (ad 27), .int (nI L_33.length)])), (ad 27, .inl (G.2.2.2.1, 14, .inl of))] := by rw [nL_33]; exact hB
  refine lv_aload_n hx hb dX6_makeConfirm_7 rfl (lv_at hl 0 rfl) ?_
  refine g_get (own := RX6) (C := RX6) (T := TX6) (N := 12) (ci := 4) (v := .ref (ad 26)) hx hb hts (fun _ h => List.mem_cons_of_mem _ (List.mem_append_left _ (List.mem_append_right _ h))) hown hB 0 rfl rfl 1 (by decide) (hts (.fieldLink RX6 18 "PointReports$Master" "outgoing" "LPointReports$Bytes;") (by decide +kernel)) rfl rfl dX6_makeConfirm_8 ?_
  refine lv_sipush (v := nI 192) hx hb dX6_makeConfirm_11 (by decide) ?_
  refine lv_iload_n hx hb dX6_makeConfirm_14 rfl (lv_at hl 1 rfl) ?_
  refine lv_bipush (v := nI 31) hx hb dX6_makeConfirm_15 (by decide) ?_
  refine lv_iand hx hb dX6_makeConfirm_17 ?_
  refine g_top (y := nI (x &&& 31)) (nx_and _ _) ?_
  refine lv_iadd hx hb dX6_makeConfirm_18 ?_
  refine g_top (y := nI (192 + (x &&& 31))) (nI_add _ _) ?_
  refine g_calliA (wr := [(ad 24, .inr (4, [.ref (ad 25), .ref (ad 26), .ref (ad 28), .ref (ad 29), .ref (ad 30), .int (nI (nm 5)), .int (nI (nm 6)), .int (nI (nm 7)), .int (nI (nm 8)), .int (nI (nm 9)), .int (nI (nm 10)), .int (nI (nm 11))]))]) (wc := [(ad 26, .inr (0, [.ref (ad 27), .int (nI L_33.length)])), (ad 27, .inl (G.2.2.2.1, 14, .inl of))]) (av := [.int (nI (192 + (x &&& 31)))]) (rest := []) ⟨hx, hb, hml, hown, hts⟩ (k_Bytes_add l G (ad 26) (ad 27) 14 of L_33 hL_33 lL_33 (by decide) (nI (192 + (x &&& 31)))) (cwV 1 hts gX6_makeConfirm_X1_add rfl rfl rfl (by decide +kernel) ⟨Nat.le_of_ble_eq_true rfl, Nat.le_of_ble_eq_true rfl⟩) hB (q0 := 0) (ci := 0) rfl rfl rfl rfl hl.1 rfl (Nat.le_of_ble_eq_true rfl) dX6_makeConfirm_19 ⟨Nat.le_of_ble_eq_true rfl, Nat.le_of_ble_eq_true rfl⟩ (fun r9 u H locs hw hB => ?_)
  have hpo := hw
  have hB : gB G.1 (rT G) A s H locs [(ad 24, .inr (4, [.ref (ad 25), .ref (ad 26), .ref (ad 28), .ref (ad 29), .ref (ad 30), .int (nI (nm 5)), .int (nI (nm 6)), .int (nI (nm 7)), .int (nI (nm 8)), .int (nI (nm 9)), .int (nI (nm 10)), .int (nI (nm 11))])), (ad 26, .inr (0, [.ref (ad 27), .int u.1])), (ad 27, .inl (G.2.2.2.1, 14, .inl u.2))] := hB
  rw [if_pos (show L_33.length < 14 from by omega)] at hpo
  obtain ⟨-, f_34, q_34, rfl⟩ := hpo
  obtain ⟨L_34, eL_34⟩ : ∃ L9 : List Int32, L9 = L_33 ++ [(nI (192 + (x &&& 31))) &&& 255] := ⟨_, rfl⟩
  have hL_34 : pfx f_34 L_34 := by rw [eL_34]; exact q_34
  have nL_34 : L_34.length = L_33.length + 1 := by rw [eL_34]; rw [List.length_append]; rfl
  have lL_34 : L_34.length ≤ 14 := by omega
  have bL_34 : ∀ x ∈ L_34, isB x := by rw [eL_34]; exact isB_app bL_33 (fun x h => by rw [List.mem_singleton.mp h]; exact isB_and _)
  have hB : gB G.1 (rT G) A s H locs [(ad 24, .inr (4, [.ref (ad 25), .ref (ad 26), .ref (ad 28), .ref (ad 29), .ref (ad 30), .int (nI (nm 5)), .int (nI (nm 6)), .int (nI (nm 7)), .int (nI (nm 8)), .int (nI (nm 9)), .int (nI (nm 10)), .int (nI (nm 11))])), (ad 26, .inr (0, [.ref (ad 27), .int (nI L_34.length)])), (ad 27, .inl (G.2.2.2.1, 14, .inl f_34))] := by rw [nL_34]; exact hB
  refine lv_pop hx hb dX6_makeConfirm_22 rfl ?_
  refine lv_aload_n hx hb dX6_makeConfirm_23 rfl (lv_at hl 0 rfl) ?_
  refine g_get (own := RX6) (C := RX6) (T := TX6) (N := 12) (ci := 4) (v := .ref (ad 26)) hx hb hts (fun _ h => List.mem_cons_of_mem _ (List.mem_append_left _ (List.mem_append_right _ h))) hown hB 0 rfl rfl 1 (by decide) (hts (.fieldLink RX6 18 "PointReports$Master" "outgoing" "LPointReports$Bytes;") (by decide +kernel)) rfl rfl dX6_makeConfirm_24 ?_
  refine lv_iconst (v := nI 0) hx hb dX6_makeConfirm_27 (by decide) ?_
  refine g_calliA (wr := [(ad 24, .inr (4, [.ref (ad 25), .ref (ad 26), .ref (ad 28), .ref (ad 29), .ref (ad 30), .int (nI (nm 5)), .int (nI (nm 6)), .int (nI (nm 7)), .int (nI (nm 8)), .int (nI (nm 9)), .int (nI (nm 10)), .int (nI (nm 11))]))]) (wc := [(ad 26, .inr (0, [.ref (ad 27), .int (nI L_34.length)])), (ad 27, .inl (G.2.2.2.1, 14, .inl f_34))]) (av := [.int (nI 0)]) (rest := []) ⟨hx, hb, hml, hown, hts⟩ (k_Bytes_add l G (ad 26) (ad 27) 14 f_34 L_34 hL_34 lL_34 (by decide) (nI 0)) (cwV 1 hts gX6_makeConfirm_X1_add rfl rfl rfl (by decide +kernel) ⟨Nat.le_of_ble_eq_true rfl, Nat.le_of_ble_eq_true rfl⟩) hB (q0 := 0) (ci := 0) rfl rfl rfl rfl hl.1 rfl (Nat.le_of_ble_eq_true rfl) dX6_makeConfirm_28 ⟨Nat.le_of_ble_eq_true rfl, Nat.le_of_ble_eq_true rfl⟩ (fun r9 u H locs hw hB => ?_)
  have hpo := hw
  have hB : gB G.1 (rT G) A s H locs [(ad 24, .inr (4, [.ref (ad 25), .ref (ad 26), .ref (ad 28), .ref (ad 29), .ref (ad 30), .int (nI (nm 5)), .int (nI (nm 6)), .int (nI (nm 7)), .int (nI (nm 8)), .int (nI (nm 9)), .int (nI (nm 10)), .int (nI (nm 11))])), (ad 26, .inr (0, [.ref (ad 27), .int u.1])), (ad 27, .inl (G.2.2.2.1, 14, .inl u.2))] := hB
  rw [if_pos (show L_34.length < 14 from by omega)] at hpo
  obtain ⟨-, f_35, q_35, rfl⟩ := hpo
  obtain ⟨L_35, eL_35⟩ : ∃ L9 : List Int32, L9 = L_34 ++ [(nI 0) &&& 255] := ⟨_, rfl⟩
  have hL_35 : pfx f_35 L_35 := by rw [eL_35]; exact q_35
  have nL_35 : L_35.length = L_34.length + 1 := by rw [eL_35]; rw [List.length_append]; rfl
  have lL_35 : L_35.length ≤ 14 := by omega
  have bL_35 : ∀ x ∈ L_35, isB x := by rw [eL_35]; exact isB_app bL_34 (fun x h => by rw [List.mem_singleton.mp h]; exact isB_and _)
  have hB : gB G.1 (rT G) A s H locs [(ad 24, .inr (4, [.ref (ad 25), .ref (ad 26), .ref (ad 28), .ref (ad 29), .ref (ad 30), .int (nI (nm 5)), .int (nI (nm 6)), .int (nI (nm 7)), .int (nI (nm 8)), .int (nI (nm 9)), .int (nI (nm 10)), .int (nI (nm 11))])), (ad 26, .inr (0, [.ref (ad 27), .int (nI L_35.length)])), (ad 27, .inl (G.2.2.2.1, 14, .inl f_35))] := by rw [nL_35]; exact hB
  have n2 : L_35.length = 2 := by omega
  refine lv_pop hx hb dX6_makeConfirm_31 rfl ?_
  exact g_vret (S := Int32 × (Nat → Int32)) (Wd := fun u => maO ad nm :: bW G (ad 26) (ad 27) 14 u) (nI L_35.length, f_35) hB hx hb hr hlocks rfl ⟨_, by have h9 := hL_35; rw [eL_35, eL_34, eL_33, ← nI_add] at h9; exact h9, by rw [n2]⟩ dX6_makeConfirm_32
set_option maxRecDepth 100000 in
set_option maxHeartbeats 2000000 in
/-- Master.seen(point, what) -/
theorem k_Master_seen (l : Launch) (G : rG) (ad nm : Nat → Nat) (h6 : nm 6 ≤ 1) (hbn : ∀ k, nm k ≤ 990000) (v4 v5 : Nat → Int32) (p0 w0 : Int32) : gM l G.1 (rT G) yX6_seen wsX6_seen { frames := 0, cells := 0, slots := 0, locals := 0 } [.ref (ad 24), .int p0, .int w0] [(ad 24, .inr (4, [.ref (ad 25), .ref (ad 26), .ref (ad 28), .ref (ad 29), .ref (ad 30), .int (nI (nm 5)), .int (nI (nm 6)), .int (nI (nm 7)), .int (nI (nm 8)), .int (nI (nm 9)), .int (nI (nm 10)), .int (nI (nm 11))])), (ad 28, .inl (G.2.2.2.1, 10, .inl v4)), (ad 29, .inl (G.2.2.2.1, 10, .inl v5))] (gQi G.1 (rT G) (fun (r : Int32) (u : Unit) => r = (if p0 < 0 ∨ nI 10 ≤ p0 ∨ w0 < 0 ∨ nI 1 < w0 then -1 else if w0 = 0 then v4 p0.toNatClampNeg else v5 p0.toNatClampNeg)) (fun _ => [maO ad nm, (ad 28, .inl (G.2.2.2.1, 10, .inl v4)), (ad 29, .inl (G.2.2.2.1, 10, .inl v5))])) 0 0 := by
  refine gM.of (cc := cX6_seen) (maxL := 3) (ret := (some .int)) (by decide) rfl (Nat.le_of_ble_eq_true rfl) ?_
  intro p e s m below meth c A ls hx hb hr hml hown hts hlocks hnm hB hl
  have hl : lv_has ls 3 [(0, .ref (ad 24)), (1, .int p0), (2, .int w0)] := hl
  refine lv_iload_n hx hb dX6_seen_0 rfl (lv_at hl 1 rfl) ?_
  refine lv_if_lt (tgt := 19) hx hb dX6_seen_1 (by decide) (fun c_1 => ?_) (fun c_1 => ?_)
  · have c_1 := c_1
    refine lv_iconst (v := (-1)) hx hb dX6_seen_19 (by decide) ?_
    exact g_iret (S := Unit) (Wd := fun _ => [maO ad nm, (ad 28, .inl (G.2.2.2.1, 10, .inl v4)), (ad 29, .inl (G.2.2.2.1, 10, .inl v5))]) (v := (-1)) () hB hx hb hr hlocks rfl (by rw [if_pos (Or.inl c_1)]) dX6_seen_20
  · have c_1 := c_1
    refine lv_iload_n hx hb dX6_seen_4 rfl (lv_at hl 1 rfl) ?_
    refine lv_bipush (v := nI 10) hx hb dX6_seen_5 (by decide) ?_
    refine lv_icmp_ge (tgt := 19) hx hb dX6_seen_7 (by decide) (fun c_2 => ?_) (fun c_2 => ?_)
    · have c_2 := c_2
      refine lv_iconst (v := (-1)) hx hb dX6_seen_19 (by decide) ?_
      exact g_iret (S := Unit) (Wd := fun _ => [maO ad nm, (ad 28, .inl (G.2.2.2.1, 10, .inl v4)), (ad 29, .inl (G.2.2.2.1, 10, .inl v5))]) (v := (-1)) () hB hx hb hr hlocks rfl (by rw [if_pos (Or.inr (Or.inl c_2))]) dX6_seen_20
    · have c_2 := c_2
      refine lv_iload_n hx hb dX6_seen_10 rfl (lv_at hl 2 rfl) ?_
      refine lv_if_lt (tgt := 19) hx hb dX6_seen_11 (by decide) (fun c_3 => ?_) (fun c_3 => ?_)
      · have c_3 := c_3
        refine lv_iconst (v := (-1)) hx hb dX6_seen_19 (by decide) ?_
        exact g_iret (S := Unit) (Wd := fun _ => [maO ad nm, (ad 28, .inl (G.2.2.2.1, 10, .inl v4)), (ad 29, .inl (G.2.2.2.1, 10, .inl v5))]) (v := (-1)) () hB hx hb hr hlocks rfl (by rw [if_pos (Or.inr (Or.inr (Or.inl c_3)))]) dX6_seen_20
      · have c_3 := c_3
        refine lv_iload_n hx hb dX6_seen_14 rfl (lv_at hl 2 rfl) ?_
        refine lv_iconst (v := nI 1) hx hb dX6_seen_15 (by decide) ?_
        refine lv_icmp_le (tgt := 21) hx hb dX6_seen_16 (by decide) (fun c_4 => ?_) (fun c_4 => ?_)
        · have c_4 := c_4
          obtain ⟨j, hj, ej⟩ : ∃ j : Nat, j < 10 ∧ p0 = nI j := by rcases pk_ix p0 (n := 10) (by omega) with q | q | q; exact absurd q c_1; exact absurd q c_2; exact q
          have hin : ¬ (p0 < 0 ∨ nI 10 ≤ p0 ∨ w0 < 0 ∨ nI 1 < w0) := by rintro (q | q | q | q); exact c_1 q; exact c_2 q; exact c_3 q; exact absurd q (Int32.not_lt.mpr c_4)
          have hcl : p0.toNatClampNeg = j := by rw [ej, nI_clamp (by omega)]
          rw [ej] at hl
          have hl : lv_has ls 3 [(0, .ref (ad 24)), (1, .int (nI j)), (2, .int w0)] := hl
          refine lv_iload_n hx hb dX6_seen_21 rfl (lv_at hl 2 rfl) ?_
          refine lv_if_ne (tgt := 34) hx hb dX6_seen_22 (by decide) (fun c_5 => ?_) (fun c_5 => ?_)
          · have c_5 := c_5
            refine lv_aload_n hx hb dX6_seen_34 rfl (lv_at hl 0 rfl) ?_
            refine g_get (own := RX6) (C := RX6) (T := TX6) (N := 12) (ci := 4) (v := .ref (ad 29)) hx hb hts (fun _ h => List.mem_cons_of_mem _ (List.mem_append_right _ h)) hown hB 0 rfl rfl 3 (by decide) (hts (.fieldLink RX6 26 "PointReports$Master" "times" "[I") (by decide +kernel)) rfl rfl dX6_seen_35 ?_
            refine lv_iload_n hx hb dX6_seen_38 rfl (lv_at hl 1 rfl) ?_
            refine g_ald hx hb hB 2 0 rfl rfl j rfl (by omega) (by omega) dX6_seen_39 ?_
            exact g_iret (S := Unit) (Wd := fun _ => [maO ad nm, (ad 28, .inl (G.2.2.2.1, 10, .inl v4)), (ad 29, .inl (G.2.2.2.1, 10, .inl v5))]) (v := v5 j) () hB hx hb hr hlocks rfl (by rw [if_neg hin, hcl, if_neg (by intro q; exact c_5 q)]) dX6_seen_40
          · have c_5 := c_5
            refine lv_aload_n hx hb dX6_seen_25 rfl (lv_at hl 0 rfl) ?_
            refine g_get (own := RX6) (C := RX6) (T := TX6) (N := 12) (ci := 4) (v := .ref (ad 28)) hx hb hts (fun _ h => List.mem_cons_of_mem _ (List.mem_append_right _ h)) hown hB 0 rfl rfl 2 (by decide) (hts (.fieldLink RX6 22 "PointReports$Master" "values" "[I") (by decide +kernel)) rfl rfl dX6_seen_26 ?_
            refine lv_iload_n hx hb dX6_seen_29 rfl (lv_at hl 1 rfl) ?_
            refine g_ald hx hb hB 1 0 rfl rfl j rfl (by omega) (by omega) dX6_seen_30 ?_
            refine lv_goto (tgt := 40) hx hb dX6_seen_31 (by decide) ?_
            exact g_iret (S := Unit) (Wd := fun _ => [maO ad nm, (ad 28, .inl (G.2.2.2.1, 10, .inl v4)), (ad 29, .inl (G.2.2.2.1, 10, .inl v5))]) (v := v4 j) () hB hx hb hr hlocks rfl (by rw [if_neg hin, hcl, if_pos c_5]) dX6_seen_40
        · have c_4 := c_4
          refine lv_iconst (v := (-1)) hx hb dX6_seen_19 (by decide) ?_
          exact g_iret (S := Unit) (Wd := fun _ => [maO ad nm, (ad 28, .inl (G.2.2.2.1, 10, .inl v4)), (ad 29, .inl (G.2.2.2.1, 10, .inl v5))]) (v := (-1)) () hB hx hb hr hlocks rfl (by rw [if_pos (Or.inr (Or.inr (Or.inr (Int32.not_le.mp c_4))))]) dX6_seen_20
set_option maxRecDepth 100000 in
set_option maxHeartbeats 2000000 in
/-- Master.takenEvent(k, what) -/
theorem k_Master_takenEvent (l : Launch) (G : rG) (ad nm : Nat → Nat) (h6 : nm 6 ≤ 1) (hbn : ∀ k, nm k ≤ 990000) (v6 : Nat → Int32) (k0 w0 : Int32) : gM l G.1 (rT G) yX6_takenEvent wsX6_takenEvent { frames := 0, cells := 0, slots := 0, locals := 0 } [.ref (ad 24), .int k0, .int w0] [(ad 24, .inr (4, [.ref (ad 25), .ref (ad 26), .ref (ad 28), .ref (ad 29), .ref (ad 30), .int (nI (nm 5)), .int (nI (nm 6)), .int (nI (nm 7)), .int (nI (nm 8)), .int (nI (nm 9)), .int (nI (nm 10)), .int (nI (nm 11))])), (ad 30, .inl (G.2.2.2.1, 800, .inl v6))] (gQi G.1 (rT G) (fun (r : Int32) (u : Unit) => r = (if k0 < 0 ∨ nI 200 ≤ k0 ∨ nI (nm 7) ≤ k0 ∨ w0 < 0 ∨ nI 4 ≤ w0 then -1 else v6 (k0.toNatClampNeg * 4 + w0.toNatClampNeg))) (fun _ => [maO ad nm, (ad 30, .inl (G.2.2.2.1, 800, .inl v6))])) 0 0 := by
  refine gM.of (cc := cX6_takenEvent) (maxL := 3) (ret := (some .int)) (by decide) rfl (Nat.le_of_ble_eq_true rfl) ?_
  intro p e s m below meth c A ls hx hb hr hml hown hts hlocks hnm hB hl
  have hl : lv_has ls 3 [(0, .ref (ad 24)), (1, .int k0), (2, .int w0)] := hl
  refine lv_iload_n hx hb dX6_takenEvent_0 rfl (lv_at hl 1 rfl) ?_
  refine lv_if_lt (tgt := 28) hx hb dX6_takenEvent_1 (by decide) (fun c_1 => ?_) (fun c_1 => ?_)
  · have c_1 := c_1
    refine lv_iconst (v := (-1)) hx hb dX6_takenEvent_28 (by decide) ?_
    exact g_iret (S := Unit) (Wd := fun _ => [maO ad nm, (ad 30, .inl (G.2.2.2.1, 800, .inl v6))]) (v := (-1)) () hB hx hb hr hlocks rfl (by rw [if_pos (Or.inl c_1)]) dX6_takenEvent_29
  · have c_1 := c_1
    refine lv_iload_n hx hb dX6_takenEvent_4 rfl (lv_at hl 1 rfl) ?_
    refine lv_sipush (v := nI 200) hx hb dX6_takenEvent_5 (by decide) ?_
    refine lv_icmp_ge (tgt := 28) hx hb dX6_takenEvent_8 (by decide) (fun c_2 => ?_) (fun c_2 => ?_)
    · have c_2 := c_2
      refine lv_iconst (v := (-1)) hx hb dX6_takenEvent_28 (by decide) ?_
      exact g_iret (S := Unit) (Wd := fun _ => [maO ad nm, (ad 30, .inl (G.2.2.2.1, 800, .inl v6))]) (v := (-1)) () hB hx hb hr hlocks rfl (by rw [if_pos (Or.inr (Or.inl c_2))]) dX6_takenEvent_29
    · have c_2 := c_2
      refine lv_iload_n hx hb dX6_takenEvent_11 rfl (lv_at hl 1 rfl) ?_
      refine lv_aload_n hx hb dX6_takenEvent_12 rfl (lv_at hl 0 rfl) ?_
      refine g_get (own := RX6) (C := RX6) (T := TX6) (N := 12) (ci := 4) (v := .int (nI (nm 7))) hx hb hts (fun _ h => List.mem_cons_of_mem _ (List.mem_append_right _ h)) hown hB 0 rfl rfl 7 (by decide) (hts (.fieldLink RX6 111 "PointReports$Master" "eventsTaken" "I") (by decide +kernel)) rfl rfl dX6_takenEvent_13 ?_
      refine lv_icmp_ge (tgt := 28) hx hb dX6_takenEvent_16 (by decide) (fun c_3 => ?_) (fun c_3 => ?_)
      · have c_3 := c_3
        refine lv_iconst (v := (-1)) hx hb dX6_takenEvent_28 (by decide) ?_
        exact g_iret (S := Unit) (Wd := fun _ => [maO ad nm, (ad 30, .inl (G.2.2.2.1, 800, .inl v6))]) (v := (-1)) () hB hx hb hr hlocks rfl (by rw [if_pos (Or.inr (Or.inr (Or.inl c_3)))]) dX6_takenEvent_29
      · have c_3 := c_3
        refine lv_iload_n hx hb dX6_takenEvent_19 rfl (lv_at hl 2 rfl) ?_
        refine lv_if_lt (tgt := 28) hx hb dX6_takenEvent_20 (by decide) (fun c_4 => ?_) (fun c_4 => ?_)
        · have c_4 := c_4
          refine lv_iconst (v := (-1)) hx hb dX6_takenEvent_28 (by decide) ?_
          exact g_iret (S := Unit) (Wd := fun _ => [maO ad nm, (ad 30, .inl (G.2.2.2.1, 800, .inl v6))]) (v := (-1)) () hB hx hb hr hlocks rfl (by rw [if_pos (Or.inr (Or.inr (Or.inr (Or.inl c_4))))]) dX6_takenEvent_29
        · have c_4 := c_4
          refine lv_iload_n hx hb dX6_takenEvent_23 rfl (lv_at hl 2 rfl) ?_
          refine lv_iconst (v := nI 4) hx hb dX6_takenEvent_24 (by decide) ?_
          refine lv_icmp_lt (tgt := 30) hx hb dX6_takenEvent_25 (by decide) (fun c_5 => ?_) (fun c_5 => ?_)
          · have c_5 := c_5
            obtain ⟨j, hj, ej⟩ : ∃ j : Nat, j < 200 ∧ k0 = nI j := by rcases pk_ix k0 (n := 200) (by omega) with q | q | q; exact absurd q c_1; exact absurd q c_2; exact q
            obtain ⟨jw, hjw, ejw⟩ : ∃ j : Nat, j < 4 ∧ w0 = nI j := by rcases pk_ix w0 (n := 4) (by omega) with q | q | q; exact absurd q c_4; exact absurd c_5 (Int32.not_lt.mpr q); exact q
            have hin : ¬ (k0 < 0 ∨ nI 200 ≤ k0 ∨ nI (nm 7) ≤ k0 ∨ w0 < 0 ∨ nI 4 ≤ w0) := by rintro (q | q | q | q | q); exact c_1 q; exact c_2 q; exact c_3 q; exact c_4 q; exact absurd c_5 (Int32.not_lt.mpr q)
            have hcl : k0.toNatClampNeg = j ∧ w0.toNatClampNeg = jw := by rw [ej, ejw, nI_clamp (by omega), nI_clamp (by omega)]; exact ⟨rfl, rfl⟩
            rw [ej, ejw] at hl
            have hl : lv_has ls 3 [(0, .ref (ad 24)), (1, .int (nI j)), (2, .int (nI jw))] := hl
            refine lv_aload_n hx hb dX6_takenEvent_30 rfl (lv_at hl 0 rfl) ?_
            refine g_get (own := RX6) (C := RX6) (T := TX6) (N := 12) (ci := 4) (v := .ref (ad 30)) hx hb hts (fun _ h => List.mem_cons_of_mem _ (List.mem_append_right _ h)) hown hB 0 rfl rfl 4 (by decide) (hts (.fieldLink RX6 29 "PointReports$Master" "firstTaken" "[I") (by decide +kernel)) rfl rfl dX6_takenEvent_31 ?_
            refine lv_iload_n hx hb dX6_takenEvent_34 rfl (lv_at hl 1 rfl) ?_
            refine lv_iconst (v := nI 4) hx hb dX6_takenEvent_35 (by decide) ?_
            refine lv_imul hx hb dX6_takenEvent_36 ?_
            refine g_top (y := nI (j * 4)) (pk_mul _ _) ?_
            refine lv_iload_n hx hb dX6_takenEvent_37 rfl (lv_at hl 2 rfl) ?_
            refine lv_iadd hx hb dX6_takenEvent_38 ?_
            refine g_top (y := nI ((j * 4) + jw)) (nI_add _ _) ?_
            refine g_ald hx hb hB 1 0 rfl rfl ((j * 4) + jw) rfl (by omega) (by omega) dX6_takenEvent_39 ?_
            exact g_iret (S := Unit) (Wd := fun _ => [maO ad nm, (ad 30, .inl (G.2.2.2.1, 800, .inl v6))]) (v := v6 ((j * 4) + jw)) () hB hx hb hr hlocks rfl (by rw [if_neg hin, hcl.1, hcl.2]) dX6_takenEvent_40
          · have c_5 := c_5
            refine lv_iconst (v := (-1)) hx hb dX6_takenEvent_28 (by decide) ?_
            exact g_iret (S := Unit) (Wd := fun _ => [maO ad nm, (ad 30, .inl (G.2.2.2.1, 800, .inl v6))]) (v := (-1)) () hB hx hb hr hlocks rfl (by rw [if_pos (Or.inr (Or.inr (Or.inr (Or.inr (Int32.not_lt.mp c_5)))))]) dX6_takenEvent_29
