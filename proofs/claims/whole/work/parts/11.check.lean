set_option maxRecDepth 100000 in
set_option maxHeartbeats 4000000 in
/-- checkOf(a, n): the check of n bytes of the frames -/
theorem c_checkOf (l : Launch) (G : rG) (sc : Nat → Int32) (ar : Nat → Nat → Int32) (a n : Nat) (h : a + n ≤ 1640) : gM l G.1 (rT G) yX12_checkOf wsX12_checkOf ({ frames := 0, cells := 0, slots := 0, locals := 0 }) [.ref G.2.1, .int (nI a), .int (nI n)] (rWs G (sc, ar)) (gQi G.1 (rT G) (fun (r : Int32) (u : rSt) => r = ck (seg (ar 31) a n) ∧ u = (sc, ar)) (rWs G)) 0 0 := by
  refine gM.of (cc := cX12_checkOf) (maxL := 6) (ret := (some .int)) (by decide) rfl (Nat.le_of_ble_eq_true rfl) ?_
  intro p e s m below meth c A ls hx hb hr hml hown hts hlocks hnm hB hl
  have hin : ∀ w ∈ wsX120, w ∈ wsX12_checkOf := fun w h => List.mem_cons_of_mem _ (List.mem_append_right _ h)
  have hl : lv_has ls 6 [(0, .ref G.2.1), (1, .int (nI a)), (2, .int (nI n))] := hl
  refine lv_iconst (v := nI 0) hx hb dX12_checkOf_0 (by decide) ?_
  refine lv_istore_n (lv' := [(3, .int (nI 0)), (0, .ref G.2.1), (1, .int (nI a)), (2, .int (nI n))]) hx hb dX12_checkOf_1 rfl hl (by decide) rfl (fun ls hl => ?_)
  refine lv_iload_n hx hb dX12_checkOf_2 rfl (lv_at hl 2 rfl) ?_
  refine lv_istore (lv' := [(4, .int (nI a)), (3, .int (nI 0)), (0, .ref G.2.1), (1, .int (nI a)), (2, .int (nI n))]) hx hb dX12_checkOf_3 hl (by decide) rfl (fun ls hl => ?_)
  have hl : lv_has ls 6 [(4, .int (nI (a + 0))), (3, .int (nI 0)), (0, .ref G.2.1), (1, .int (nI a)), (2, .int (nI n))] := lv_sub hl [0, 1, 2, 3, 4] rfl
  have hB : gB G.1 (rT G) A s s.heap [] (rWs G (sc, ar)) := hB
  refine g_loop (σ := Nat × Int32) (fun d xv H locs ls => (xv.1 + d = n) ∧ (xv.2 = ckF (seg (ar 31) a xv.1)) ∧ gB G.1 (rT G) A s H locs (rWs G (sc, ar)) ∧ lv_has ls 6 [(4, .int (nI (a + xv.1))), (3, .int xv.2), (0, .ref G.2.1), (1, .int (nI a)), (2, .int (nI n))]) n (0, nI 0) ⟨by omega, rfl, hB, hl⟩ ?_
  rintro d ⟨k, cv⟩ H locs ls ⟨hk, hc, hB, hl⟩ ih_1
  have hk : k + d = n := hk
  have hc : cv = ckF (seg (ar 31) a k) := hc
  have hB : gB G.1 (rT G) A s H locs (rWs G (sc, ar)) := hB
  have hl : lv_has ls 6 [(4, .int (nI (a + k))), (3, .int cv), (0, .ref G.2.1), (1, .int (nI a)), (2, .int (nI n))] := hl
  refine lv_iload hx hb dX12_checkOf_5 (lv_at hl 0 rfl) ?_
  refine lv_iload_n hx hb dX12_checkOf_7 rfl (lv_at hl 3 rfl) ?_
  refine lv_iload_n hx hb dX12_checkOf_8 rfl (lv_at hl 4 rfl) ?_
  refine lv_iadd hx hb dX12_checkOf_9 ?_
  refine g_top (y := nI (a + n)) (nI_add _ _) ?_
  refine lv_icmp_ge (tgt := 65) hx hb dX12_checkOf_10 (by decide) (fun c_2 => ?_) (fun c_2 => ?_)
  · have c_2 : (a + n) ≤ (a + k) := (nI_leI (a := (a + n)) (b := (a + k)) (by omega) (by omega)).mp c_2
    have hkn : k = n := by omega
    subst hkn
    refine lv_iload_n hx hb dX12_checkOf_65 rfl (lv_at hl 1 rfl) ?_
    refine lv_ldc (v := (65535)) hx hb hown (hts (.constant RX12 88 (65535)) (by decide +kernel)) dX12_checkOf_66 ?_
    refine lv_ixor hx hb dX12_checkOf_68 ?_
    exact g_iret (Wd := rWs G) (v := cv ^^^ (65535)) (sc, ar) hB hx hb hr hlocks rfl ⟨by rw [hc]; rfl, rfl⟩ dX12_checkOf_69
  · have c_2 : ¬ (a + n) ≤ (a + k) := fun h9 => c_2 ((nI_leI (a := (a + n)) (b := (a + k)) (by omega) (by omega)).mpr h9)
    refine lv_iload_n hx hb dX12_checkOf_13 rfl (lv_at hl 1 rfl) ?_
    refine lv_aload_n hx hb dX12_checkOf_14 rfl (lv_at hl 2 rfl) ?_
    refine r_get (u := (sc, ar)) (v := .ref (G.2.2.1 31)) hx hb hts hin hown hB 31 (by decide) (hts (.fieldLink RX12 51 "PointReportsModel" "frames" "[I") (by decide +kernel)) rfl rfl dX12_checkOf_15 ?_
    refine lv_iload hx hb dX12_checkOf_18 (lv_at hl 0 rfl) ?_
    refine r_ald (u := (sc, ar)) (f := ar 31) hx hb hB 13 rfl (a + k) rfl (by omega) (by decide) dX12_checkOf_20 ?_
    refine lv_ixor hx hb dX12_checkOf_21 ?_
    refine lv_istore_n (lv' := [(3, .int (cv ^^^ ((ar 31) (a + k)))), (4, .int (nI (a + k))), (0, .ref G.2.1), (1, .int (nI a)), (2, .int (nI n))]) hx hb dX12_checkOf_22 rfl hl (by decide) rfl (fun ls hl => ?_)
    refine lv_iconst (v := nI 0) hx hb dX12_checkOf_23 (by decide) ?_
    refine lv_istore (lv' := [(5, .int (nI 0)), (3, .int (cv ^^^ ((ar 31) (a + k)))), (4, .int (nI (a + k))), (0, .ref G.2.1), (1, .int (nI a)), (2, .int (nI n))]) hx hb dX12_checkOf_24 hl (by decide) rfl (fun ls hl => ?_)
    have hl : lv_has ls 6 [(5, .int (nI 0)), (3, .int (cv ^^^ (ar 31 (a + k)))), (4, .int (nI (a + k))), (0, .ref G.2.1), (1, .int (nI a)), (2, .int (nI n))] := lv_sub hl [0, 1, 2, 3, 4, 5] rfl
    have hB : gB G.1 (rT G) A s H locs (rWs G (sc, ar)) := hB
    refine g_loop (σ := Nat × Int32) (fun d xv H locs ls => (xv.1 + d = 8) ∧ (xv.2 = ckI xv.1 (cv ^^^ (ar 31 (a + k)))) ∧ gB G.1 (rT G) A s H locs (rWs G (sc, ar)) ∧ lv_has ls 6 [(5, .int (nI xv.1)), (3, .int xv.2), (4, .int (nI (a + k))), (0, .ref G.2.1), (1, .int (nI a)), (2, .int (nI n))]) 8 (0, cv ^^^ (ar 31 (a + k))) ⟨by omega, rfl, hB, hl⟩ ?_
    rintro d ⟨i, cw⟩ H locs ls ⟨hi, hw, hB, hl⟩ ih_3
    have hi : i + d = 8 := hi
    have hw : cw = ckI i (cv ^^^ (ar 31 (a + k))) := hw
    have hB : gB G.1 (rT G) A s H locs (rWs G (sc, ar)) := hB
    have hl : lv_has ls 6 [(5, .int (nI i)), (3, .int cw), (4, .int (nI (a + k))), (0, .ref G.2.1), (1, .int (nI a)), (2, .int (nI n))] := hl
    refine lv_iload hx hb dX12_checkOf_26 (lv_at hl 0 rfl) ?_
    refine lv_bipush (v := nI 8) hx hb dX12_checkOf_28 (by decide) ?_
    refine lv_icmp_ge (tgt := 59) hx hb dX12_checkOf_30 (by decide) (fun c_4 => ?_) (fun c_4 => ?_)
    · have c_4 : 8 ≤ i := (nI_leI (a := 8) (b := i) (by omega) (by omega)).mp c_4
      have hi8 : i = 8 := by omega
      rw [hi8] at hw
      refine lv_iinc (v := nI (a + k + 1)) (lv' := [(4, .int (nI (a + k + 1))), (5, .int (nI i)), (3, .int cw), (0, .ref G.2.1), (1, .int (nI a)), (2, .int (nI n))]) hx hb dX12_checkOf_59 hl (k := 2) rfl (nI_add _ _) (by decide) rfl (fun ls hl => ?_)
      refine lv_goto (tgt := 5) hx hb dX12_checkOf_62 (by decide) ?_
      have hl : lv_has ls 6 [(4, .int (nI (a + (k + 1)))), (3, .int cw), (0, .ref G.2.1), (1, .int (nI a)), (2, .int (nI n))] := lv_sub hl [0, 2, 3, 4, 5] rfl
      have hB : gB G.1 (rT G) A s H locs (rWs G (sc, ar)) := hB
      have b_5 : (k + 1) + (n - (k + 1)) = n := by omega
      have b_6 : cw = ckF (seg (ar 31) a (k + 1)) := by rw [seg, ckF_add, ← hc]; exact hw
      exact ih_1 (n - (k + 1)) (k + 1, cw) H locs ls (by omega) ⟨b_5, b_6, hB, hl⟩
    · have c_4 : ¬ 8 ≤ i := fun h9 => c_4 ((nI_leI (a := 8) (b := i) (by omega) (by omega)).mpr h9)
      refine lv_iload_n hx hb dX12_checkOf_33 rfl (lv_at hl 1 rfl) ?_
      refine lv_iconst (v := nI 1) hx hb dX12_checkOf_34 (by decide) ?_
      refine lv_iand hx hb dX12_checkOf_35 ?_
      refine lv_iconst (v := nI 1) hx hb dX12_checkOf_36 (by decide) ?_
      refine lv_icmp_ne (tgt := 49) hx hb dX12_checkOf_37 (by decide) (fun c_7 => ?_) (fun c_7 => ?_)
      · have c_7 := c_7
        refine lv_iload_n hx hb dX12_checkOf_49 rfl (lv_at hl 1 rfl) ?_
        refine lv_iconst (v := nI 1) hx hb dX12_checkOf_50 (by decide) ?_
        refine lv_ishr hx hb dX12_checkOf_51 ?_
        refine lv_istore_n (lv' := [(3, .int (cw >>> ((nI 1) &&& 31))), (5, .int (nI i)), (4, .int (nI (a + k))), (0, .ref G.2.1), (1, .int (nI a)), (2, .int (nI n))]) hx hb dX12_checkOf_52 rfl hl (by decide) rfl (fun ls hl => ?_)
        refine lv_iinc (v := nI (i + 1)) (lv' := [(5, .int (nI (i + 1))), (3, .int (cw >>> ((nI 1) &&& 31))), (4, .int (nI (a + k))), (0, .ref G.2.1), (1, .int (nI a)), (2, .int (nI n))]) hx hb dX12_checkOf_53 hl (k := 1) rfl (nI_add _ _) (by decide) rfl (fun ls hl => ?_)
        refine lv_goto (tgt := 26) hx hb dX12_checkOf_56 (by decide) ?_
        have hl : lv_has ls 6 [(5, .int (nI (i + 1))), (3, .int (cw >>> ((nI 1) &&& 31))), (4, .int (nI (a + k))), (0, .ref G.2.1), (1, .int (nI a)), (2, .int (nI n))] := lv_sub hl [0, 1, 2, 3, 4, 5] rfl
        have hB : gB G.1 (rT G) A s H locs (rWs G (sc, ar)) := hB
        have b_8 : (i + 1) + (8 - (i + 1)) = 8 := by omega
        have b_9 : (cw >>> ((nI 1) &&& 31)) = ckI (i + 1) (cv ^^^ (ar 31 (a + k))) := by have q9 : ¬ (cw &&& 1 = 1) := c_7; rw [ckI, ← hw, ckS, if_neg q9]; rfl
        exact ih_3 (8 - (i + 1)) (i + 1, cw >>> ((nI 1) &&& 31)) H locs ls (by omega) ⟨b_8, b_9, hB, hl⟩
      · have c_7 := c_7
        refine lv_iload_n hx hb dX12_checkOf_40 rfl (lv_at hl 1 rfl) ?_
        refine lv_iconst (v := nI 1) hx hb dX12_checkOf_41 (by decide) ?_
        refine lv_ishr hx hb dX12_checkOf_42 ?_
        refine lv_ldc (v := (42684)) hx hb hown (hts (.constant RX12 87 (42684)) (by decide +kernel)) dX12_checkOf_43 ?_
        refine lv_ixor hx hb dX12_checkOf_45 ?_
        refine lv_goto (tgt := 52) hx hb dX12_checkOf_46 (by decide) ?_
        refine lv_istore_n (lv' := [(3, .int ((cw >>> ((nI 1) &&& 31)) ^^^ (42684))), (5, .int (nI i)), (4, .int (nI (a + k))), (0, .ref G.2.1), (1, .int (nI a)), (2, .int (nI n))]) hx hb dX12_checkOf_52 rfl hl (by decide) rfl (fun ls hl => ?_)
        refine lv_iinc (v := nI (i + 1)) (lv' := [(5, .int (nI (i + 1))), (3, .int ((cw >>> ((nI 1) &&& 31)) ^^^ (42684))), (4, .int (nI (a + k))), (0, .ref G.2.1), (1, .int (nI a)), (2, .int (nI n))]) hx hb dX12_checkOf_53 hl (k := 1) rfl (nI_add _ _) (by decide) rfl (fun ls hl => ?_)
        refine lv_goto (tgt := 26) hx hb dX12_checkOf_56 (by decide) ?_
        have hl : lv_has ls 6 [(5, .int (nI (i + 1))), (3, .int ((cw >>> ((nI 1) &&& 31)) ^^^ (42684))), (4, .int (nI (a + k))), (0, .ref G.2.1), (1, .int (nI a)), (2, .int (nI n))] := lv_sub hl [0, 1, 2, 3, 4, 5] rfl
        have hB : gB G.1 (rT G) A s H locs (rWs G (sc, ar)) := hB
        have b_10 : (i + 1) + (8 - (i + 1)) = 8 := by omega
        have b_11 : ((cw >>> ((nI 1) &&& 31)) ^^^ (42684)) = ckI (i + 1) (cv ^^^ (ar 31 (a + k))) := by have q9 : (cw &&& 1 = 1) := c_7; rw [ckI, ← hw, ckS, if_pos q9]; rfl
        exact ih_3 (8 - (i + 1)) (i + 1, (cw >>> ((nI 1) &&& 31)) ^^^ (42684)) H locs ls (by omega) ⟨b_10, b_11, hB, hl⟩
set_option maxRecDepth 100000 in
set_option maxHeartbeats 4000000 in
/-- noneWaits(): nothing waits -/
theorem c_noneWaits (l : Launch) (G : rG) (sc : Nat → Int32) (ar : Nat → Nat → Int32)  : gM l G.1 (rT G) yX12_noneWaits wsX12_noneWaits ({ frames := 0, cells := 0, slots := 0, locals := 0 }) [.ref G.2.1] (rWs G (sc, ar)) (gQv G.1 (rT G) (fun u : rSt => ∃ f, (∀ j, j < 32 → f j = 0) ∧ u = (upd sc 11 (nI 0), va_up ar 8 f)) (rWs G)) 0 0 := by
  refine gM.of (cc := cX12_noneWaits) (maxL := 2) (ret := none) (by decide) rfl (Nat.le_of_ble_eq_true rfl) ?_
  intro p e s m below meth c A ls hx hb hr hml hown hts hlocks hnm hB hl
  have hin : ∀ w ∈ wsX120, w ∈ wsX12_noneWaits := fun w h => List.mem_cons_of_mem _ (List.mem_append_right _ h)
  have hl : lv_has ls 2 [(0, .ref G.2.1)] := hl
  refine lv_aload_n hx hb dX12_noneWaits_0 rfl (lv_at hl 0 rfl) ?_
  refine lv_iconst (v := nI 0) hx hb dX12_noneWaits_1 (by decide) ?_
  refine r_put (u := (sc, ar)) (v := nI 0) (upd sc 11 (nI 0)) hx hb hts hin hown hB 11 (by decide) (hts (.fieldLink RX12 147 "PointReportsModel" "waiting" "I") (by decide +kernel)) rfl (ty := .int) rfl rfl rfl rfl rfl dX12_noneWaits_2 (fun H locs hB => ?_)
  refine lv_iconst (v := nI 0) hx hb dX12_noneWaits_5 (by decide) ?_
  refine lv_istore_n (lv' := [(1, .int (nI 0)), (0, .ref G.2.1)]) hx hb dX12_noneWaits_6 rfl hl (by decide) rfl (fun ls hl => ?_)
  have hl : lv_has ls 2 [(1, .int (nI 0)), (0, .ref G.2.1)] := lv_sub hl [0, 1] rfl
  have hB : gB G.1 (rT G) A s H locs (rWs G (upd sc 11 (nI 0), va_up ar 8 (ar 8))) := by exact hB
  refine g_loop (σ := Nat × (Nat → Int32)) (fun d xv H locs ls => (xv.1 + d = 32) ∧ (∀ j, j < xv.1 → xv.2 j = 0) ∧ gB G.1 (rT G) A s H locs (rWs G (upd sc 11 (nI 0), va_up ar 8 xv.2)) ∧ lv_has ls 2 [(1, .int (nI xv.1)), (0, .ref G.2.1)]) 32 (0, ar 8) ⟨by omega, fun j h => absurd h (Nat.not_lt_zero j), hB, hl⟩ ?_
  rintro d ⟨k, f⟩ H locs ls ⟨hk, hf, hB, hl⟩ ih_1
  have hk : k + d = 32 := hk
  have hf : ∀ j, j < k → f j = 0 := hf
  have hB : gB G.1 (rT G) A s H locs (rWs G (upd sc 11 (nI 0), va_up ar 8 f)) := hB
  have hl : lv_has ls 2 [(1, .int (nI k)), (0, .ref G.2.1)] := hl
  refine lv_iload_n hx hb dX12_noneWaits_7 rfl (lv_at hl 0 rfl) ?_
  refine lv_bipush (v := nI 32) hx hb dX12_noneWaits_8 (by decide) ?_
  refine lv_icmp_ge (tgt := 26) hx hb dX12_noneWaits_10 (by decide) (fun c_2 => ?_) (fun c_2 => ?_)
  · have c_2 : 32 ≤ k := (nI_leI (a := 32) (b := k) (by omega) (by omega)).mp c_2
    exact g_vret (Wd := rWs G) (upd sc 11 (nI 0), va_up ar 8 f) hB hx hb hr hlocks rfl ⟨f, fun j h => hf j (by omega), rfl⟩ dX12_noneWaits_26
  · have c_2 : ¬ 32 ≤ k := fun h9 => c_2 ((nI_leI (a := 32) (b := k) (by omega) (by omega)).mpr h9)
    refine lv_aload_n hx hb dX12_noneWaits_13 rfl (lv_at hl 1 rfl) ?_
    refine r_get (u := (upd sc 11 (nI 0), va_up ar 8 f)) (v := .ref (G.2.2.1 8)) hx hb hts hin hown hB 8 (by decide) (hts (.fieldLink RX12 31 "PointReportsModel" "waits" "[Z") (by decide +kernel)) rfl rfl dX12_noneWaits_14 ?_
    refine lv_iload_n hx hb dX12_noneWaits_17 rfl (lv_at hl 0 rfl) ?_
    refine lv_iconst (v := nI 0) hx hb dX12_noneWaits_18 (by decide) ?_
    refine r_zast (u := (upd sc 11 (nI 0), va_up ar 8 f)) (f := f) (x := nI 0) (va_up ar 8 (upd f k (nI 0))) hx hb hB 8 rfl k rfl (by omega) (by decide) (Or.inl rfl) rfl dX12_noneWaits_19 (fun H locs hB => ?_)
    refine lv_iinc (v := nI (k + 1)) (lv' := [(1, .int (nI (k + 1))), (0, .ref G.2.1)]) hx hb dX12_noneWaits_20 hl (k := 0) rfl (nI_add _ _) (by decide) rfl (fun ls hl => ?_)
    refine lv_goto (tgt := 7) hx hb dX12_noneWaits_23 (by decide) ?_
    have hl : lv_has ls 2 [(1, .int (nI (k + 1))), (0, .ref G.2.1)] := lv_sub hl [0, 1] rfl
    have hB : gB G.1 (rT G) A s H locs (rWs G (upd sc 11 (nI 0), va_up ar 8 (upd f k (nI 0)))) := hB
    have b_3 : (k + 1) + (32 - (k + 1)) = 32 := by omega
    have b_4 : ∀ j, j < (k + 1) → (upd f k (nI 0)) j = 0 := fun j h => by (by_cases q : j = k); exact (by subst q; exact upd_self); exact (by rw [upd_ne q]; exact hf j (by omega))
    exact ih_1 (32 - (k + 1)) (k + 1, upd f k (nI 0)) H locs ls (by omega) ⟨b_3, b_4, hB, hl⟩
set_option maxRecDepth 100000 in
set_option maxHeartbeats 4000000 in
/-- moveEvent(a, b) -/
theorem c_moveEvent (l : Launch) (G : rG) (sc : Nat → Int32) (ar : Nat → Nat → Int32) (a b : Nat) (ha : a < 32) (hb2 : b < 32) (hz : ar 8 b = 0 ∨ ar 8 b = 1) : gM l G.1 (rT G) yX12_moveEvent wsX12_moveEvent ({ frames := 0, cells := 0, slots := 0, locals := 0 }) [.ref G.2.1, .int (nI a), .int (nI b)] (rWs G (sc, ar)) (gQv G.1 (rT G) (fun u : rSt => u = (sc, va_up (va_up (va_up (va_up ar 5 (upd (ar 5) a (ar 5 b))) 6 (upd (ar 6) a (ar 6 b))) 7 (upd (ar 7) a (ar 7 b))) 8 (upd (ar 8) a (ar 8 b)))) (rWs G)) 0 0 := by
  refine gM.of (cc := cX12_moveEvent) (maxL := 3) (ret := none) (by decide) rfl (Nat.le_of_ble_eq_true rfl) ?_
  intro p e s m below meth c A ls hx hb hr hml hown hts hlocks hnm hB hl
  have hin : ∀ w ∈ wsX120, w ∈ wsX12_moveEvent := fun w h => List.mem_cons_of_mem _ (List.mem_append_right _ h)
  have hl : lv_has ls 3 [(0, .ref G.2.1), (1, .int (nI a)), (2, .int (nI b))] := hl
  refine lv_aload_n hx hb dX12_moveEvent_0 rfl (lv_at hl 0 rfl) ?_
  refine r_get (u := (sc, ar)) (v := .ref (G.2.2.1 5)) hx hb hts hin hown hB 5 (by decide) (hts (.fieldLink RX12 22 "PointReportsModel" "points" "[I") (by decide +kernel)) rfl rfl dX12_moveEvent_1 ?_
  refine lv_iload_n hx hb dX12_moveEvent_4 rfl (lv_at hl 1 rfl) ?_
  refine lv_aload_n hx hb dX12_moveEvent_5 rfl (lv_at hl 0 rfl) ?_
  refine r_get (u := (sc, ar)) (v := .ref (G.2.2.1 5)) hx hb hts hin hown hB 5 (by decide) (hts (.fieldLink RX12 22 "PointReportsModel" "points" "[I") (by decide +kernel)) rfl rfl dX12_moveEvent_6 ?_
  refine lv_iload_n hx hb dX12_moveEvent_9 rfl (lv_at hl 2 rfl) ?_
  refine r_ald (u := (sc, ar)) (f := ar 5) hx hb hB 5 rfl b rfl (by omega) (by decide) dX12_moveEvent_10 ?_
  refine r_ast (u := (sc, ar)) (f := ar 5) (x := (ar 5) b) (va_up ar 5 (upd (ar 5) a ((ar 5) b))) hx hb hB 5 rfl a rfl (by omega) (by decide) rfl dX12_moveEvent_11 (fun H locs hB => ?_)
  refine lv_aload_n hx hb dX12_moveEvent_12 rfl (lv_at hl 0 rfl) ?_
  refine r_get (u := (sc, va_up ar 5 (upd (ar 5) a ((ar 5) b)))) (v := .ref (G.2.2.1 6)) hx hb hts hin hown hB 6 (by decide) (hts (.fieldLink RX12 25 "PointReportsModel" "eventValues" "[I") (by decide +kernel)) rfl rfl dX12_moveEvent_13 ?_
  refine lv_iload_n hx hb dX12_moveEvent_16 rfl (lv_at hl 1 rfl) ?_
  refine lv_aload_n hx hb dX12_moveEvent_17 rfl (lv_at hl 0 rfl) ?_
  refine r_get (u := (sc, va_up ar 5 (upd (ar 5) a ((ar 5) b)))) (v := .ref (G.2.2.1 6)) hx hb hts hin hown hB 6 (by decide) (hts (.fieldLink RX12 25 "PointReportsModel" "eventValues" "[I") (by decide +kernel)) rfl rfl dX12_moveEvent_18 ?_
  refine lv_iload_n hx hb dX12_moveEvent_21 rfl (lv_at hl 2 rfl) ?_
  refine r_ald (u := (sc, va_up ar 5 (upd (ar 5) a ((ar 5) b)))) (f := ar 6) hx hb hB 6 rfl b rfl (by omega) (by decide) dX12_moveEvent_22 ?_
  refine r_ast (u := (sc, va_up ar 5 (upd (ar 5) a ((ar 5) b)))) (f := ar 6) (x := (ar 6) b) (va_up (va_up ar 5 (upd (ar 5) a ((ar 5) b))) 6 (upd (ar 6) a ((ar 6) b))) hx hb hB 6 rfl a rfl (by omega) (by decide) rfl dX12_moveEvent_23 (fun H locs hB => ?_)
  refine lv_aload_n hx hb dX12_moveEvent_24 rfl (lv_at hl 0 rfl) ?_
  refine r_get (u := (sc, va_up (va_up ar 5 (upd (ar 5) a ((ar 5) b))) 6 (upd (ar 6) a ((ar 6) b)))) (v := .ref (G.2.2.1 7)) hx hb hts hin hown hB 7 (by decide) (hts (.fieldLink RX12 28 "PointReportsModel" "times" "[I") (by decide +kernel)) rfl rfl dX12_moveEvent_25 ?_
  refine lv_iload_n hx hb dX12_moveEvent_28 rfl (lv_at hl 1 rfl) ?_
  refine lv_aload_n hx hb dX12_moveEvent_29 rfl (lv_at hl 0 rfl) ?_
  refine r_get (u := (sc, va_up (va_up ar 5 (upd (ar 5) a ((ar 5) b))) 6 (upd (ar 6) a ((ar 6) b)))) (v := .ref (G.2.2.1 7)) hx hb hts hin hown hB 7 (by decide) (hts (.fieldLink RX12 28 "PointReportsModel" "times" "[I") (by decide +kernel)) rfl rfl dX12_moveEvent_30 ?_
  refine lv_iload_n hx hb dX12_moveEvent_33 rfl (lv_at hl 2 rfl) ?_
  refine r_ald (u := (sc, va_up (va_up ar 5 (upd (ar 5) a ((ar 5) b))) 6 (upd (ar 6) a ((ar 6) b)))) (f := ar 7) hx hb hB 7 rfl b rfl (by omega) (by decide) dX12_moveEvent_34 ?_
  refine r_ast (u := (sc, va_up (va_up ar 5 (upd (ar 5) a ((ar 5) b))) 6 (upd (ar 6) a ((ar 6) b)))) (f := ar 7) (x := (ar 7) b) (va_up (va_up (va_up ar 5 (upd (ar 5) a ((ar 5) b))) 6 (upd (ar 6) a ((ar 6) b))) 7 (upd (ar 7) a ((ar 7) b))) hx hb hB 7 rfl a rfl (by omega) (by decide) rfl dX12_moveEvent_35 (fun H locs hB => ?_)
  refine lv_aload_n hx hb dX12_moveEvent_36 rfl (lv_at hl 0 rfl) ?_
  refine r_get (u := (sc, va_up (va_up (va_up ar 5 (upd (ar 5) a ((ar 5) b))) 6 (upd (ar 6) a ((ar 6) b))) 7 (upd (ar 7) a ((ar 7) b)))) (v := .ref (G.2.2.1 8)) hx hb hts hin hown hB 8 (by decide) (hts (.fieldLink RX12 31 "PointReportsModel" "waits" "[Z") (by decide +kernel)) rfl rfl dX12_moveEvent_37 ?_
  refine lv_iload_n hx hb dX12_moveEvent_40 rfl (lv_at hl 1 rfl) ?_
  refine lv_aload_n hx hb dX12_moveEvent_41 rfl (lv_at hl 0 rfl) ?_
  refine r_get (u := (sc, va_up (va_up (va_up ar 5 (upd (ar 5) a ((ar 5) b))) 6 (upd (ar 6) a ((ar 6) b))) 7 (upd (ar 7) a ((ar 7) b)))) (v := .ref (G.2.2.1 8)) hx hb hts hin hown hB 8 (by decide) (hts (.fieldLink RX12 31 "PointReportsModel" "waits" "[Z") (by decide +kernel)) rfl rfl dX12_moveEvent_42 ?_
  refine lv_iload_n hx hb dX12_moveEvent_45 rfl (lv_at hl 2 rfl) ?_
  refine r_zald (u := (sc, va_up (va_up (va_up ar 5 (upd (ar 5) a ((ar 5) b))) 6 (upd (ar 6) a ((ar 6) b))) 7 (upd (ar 7) a ((ar 7) b)))) (f := ar 8) hx hb hB 8 rfl b rfl (by omega) (by decide) dX12_moveEvent_46 ?_
  refine r_zast (u := (sc, va_up (va_up (va_up ar 5 (upd (ar 5) a ((ar 5) b))) 6 (upd (ar 6) a ((ar 6) b))) 7 (upd (ar 7) a ((ar 7) b)))) (f := ar 8) (x := (ar 8) b) (va_up (va_up (va_up (va_up ar 5 (upd (ar 5) a ((ar 5) b))) 6 (upd (ar 6) a ((ar 6) b))) 7 (upd (ar 7) a ((ar 7) b))) 8 (upd (ar 8) a ((ar 8) b))) hx hb hB 8 rfl a rfl (by omega) (by decide) hz rfl dX12_moveEvent_47 (fun H locs hB => ?_)
  exact g_vret (Wd := rWs G) (sc, va_up (va_up (va_up (va_up ar 5 (upd (ar 5) a ((ar 5) b))) 6 (upd (ar 6) a ((ar 6) b))) 7 (upd (ar 7) a ((ar 7) b))) 8 (upd (ar 8) a ((ar 8) b))) hB hx hb hr hlocks rfl rfl dX12_moveEvent_48
