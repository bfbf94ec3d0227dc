theorem mx_nI {a b : Nat} (ha : a < 1000) (hb : b < 1000) : (if nI 0 < nI a - nI b then nI a - nI b else nI 0) = nI (a - b) := by
  by_cases h : b ≤ a
  · rw [pk_sub h]
    by_cases h2 : a - b = 0
    · rw [h2, if_neg (fun z => absurd ((nI_ltI (by decide) (by decide)).mp z) (Nat.lt_irrefl 0))]
    · rw [if_pos ((nI_ltI (by decide) (by omega)).mpr (by omega))]
  · rw [if_neg, show a - b = 0 by omega]
    intro z
    have h1 := Int32.lt_iff_toInt_lt.mp z
    rw [nI_toInt (by decide), pk_sub_toInt (by omega) (by omega)] at h1
    omega
theorem mn_nI {a b : Nat} (ha : a < 1000) (hb : b < 1000) : (if nI b < nI a then nI b else nI a) = nI (mnN a b) := by
  unfold mnN
  by_cases h : b < a
  · rw [if_pos ((nI_ltI (by omega) (by omega)).mpr h), if_neg (by omega)]
  · rw [if_neg (fun z => h ((nI_ltI (by omega) (by omega)).mp z))]
    by_cases h2 : a < b
    · rw [if_pos h2]
    · rw [if_neg h2, show a = b by omega]
set_option maxRecDepth 100000 in
set_option maxHeartbeats 4000000 in
/-- Events.dropOldest(k) -/
theorem k_Events_dropOldest (l : Launch) (G : rG) (ev po va ti : Nat) (fp fv ft : Nat → Int32) (E : List (Int32 × Int32 × Int32)) (hE : evC fp fv ft E) (hE8 : E.length ≤ 8) (wt : Nat) (hwt : wt ≤ E.length) (k : Nat) (hk : k ≤ E.length) : gM l G.1 (rT G) yX2_dropOldest wsX2_dropOldest { frames := 1, cells := 0, slots := 0, locals := 21 } [.ref ev, .int (nI k)] [(ev, .inr (1, [.ref po, .ref va, .ref ti, .int (nI E.length), .int (nI wt)])), (po, .inl (G.2.2.2.1, 8, .inl fp)), (va, .inl (G.2.2.2.1, 8, .inl fv)), (ti, .inl (G.2.2.2.1, 8, .inl ft))] (gQv G.1 (rT G) (fun u : Int32 × Int32 × (Nat → Int32) × (Nat → Int32) × (Nat → Int32) => ∃ gp gv gt, evC gp gv gt (E.drop k) ∧ u = (nI (E.length - k), nI (wt - k), gp, gv, gt)) (eW G ev po va ti)) 0 0 := by
  refine gM.of (cc := cX2_dropOldest) (maxL := 3) (ret := none) (by decide) rfl (Nat.le_of_ble_eq_true rfl) ?_
  intro p e s m below meth c A ls hx hb hr hml hown hts hlocks hnm hB hl
  have hl : lv_has ls 3 [(0, .ref ev), (1, .int (nI k))] := hl
  refine lv_iload_n hx hb dX2_dropOldest_0 rfl (lv_at hl 1 rfl) ?_
  refine lv_istore_n (lv' := [(2, .int (nI k)), (0, .ref ev), (1, .int (nI k))]) hx hb dX2_dropOldest_1 rfl hl (by decide) rfl (fun ls hl => ?_)
  have hl : lv_has ls 3 [(2, .int (nI (k + 0))), (0, .ref ev), (1, .int (nI k))] := lv_sub hl [0, 1, 2] rfl
  have hB : gB G.1 (rT G) A s s.heap [] [(ev, .inr (1, [.ref po, .ref va, .ref ti, .int (nI E.length), .int (nI wt)])), (po, .inl (G.2.2.2.1, 8, .inl fp)), (va, .inl (G.2.2.2.1, 8, .inl fv)), (ti, .inl (G.2.2.2.1, 8, .inl ft))] := hB
  refine g_loop (σ := Nat × (Nat → Int32) × (Nat → Int32) × (Nat → Int32)) (fun d xv H locs ls => (xv.1 + d = E.length - k) ∧ (∀ z, xv.2.1 z = if z < xv.1 then fp (z + k) else fp z) ∧ (∀ z, xv.2.2.1 z = if z < xv.1 then fv (z + k) else fv z) ∧ (∀ z, xv.2.2.2 z = if z < xv.1 then ft (z + k) else ft z) ∧ gB G.1 (rT G) A s H locs [(ev, .inr (1, [.ref po, .ref va, .ref ti, .int (nI E.length), .int (nI wt)])), (po, .inl (G.2.2.2.1, 8, .inl xv.2.1)), (va, .inl (G.2.2.2.1, 8, .inl xv.2.2.1)), (ti, .inl (G.2.2.2.1, 8, .inl xv.2.2.2))] ∧ lv_has ls 3 [(2, .int (nI (k + xv.1))), (0, .ref ev), (1, .int (nI k))]) (E.length - k) (0, fp, fv, ft) ⟨by omega, fun z => by rw [if_neg (Nat.not_lt_zero z)], fun z => by rw [if_neg (Nat.not_lt_zero z)], fun z => by rw [if_neg (Nat.not_lt_zero z)], hB, hl⟩ ?_
  rintro d ⟨i, gp, gv, gt⟩ H locs ls ⟨hi, g0, g1, g2, hB, hl⟩ ih_1
  have hi : i + d = E.length - k := hi
  have g0 : ∀ z, gp z = if z < i then fp (z + k) else fp z := g0
  have g1 : ∀ z, gv z = if z < i then fv (z + k) else fv z := g1
  have g2 : ∀ z, gt z = if z < i then ft (z + k) else ft z := g2
  have hB : gB G.1 (rT G) A s H locs [(ev, .inr (1, [.ref po, .ref va, .ref ti, .int (nI E.length), .int (nI wt)])), (po, .inl (G.2.2.2.1, 8, .inl gp)), (va, .inl (G.2.2.2.1, 8, .inl gv)), (ti, .inl (G.2.2.2.1, 8, .inl gt))] := hB
  have hl : lv_has ls 3 [(2, .int (nI (k + i))), (0, .ref ev), (1, .int (nI k))] := hl
  refine lv_iload_n hx hb dX2_dropOldest_2 rfl (lv_at hl 0 rfl) ?_
  refine lv_aload_n hx hb dX2_dropOldest_3 rfl (lv_at hl 1 rfl) ?_
  refine g_get (own := RX2) (C := RX2) (T := TX2) (N := 5) (ci := 1) (v := .int (nI E.length)) hx hb hts (fun _ h => List.mem_cons_of_mem _ (List.mem_append_right _ h)) hown hB 0 rfl rfl 3 (by decide) (hts (.fieldLink RX2 21 "PointReports$Events" "size" "I") (by decide +kernel)) rfl rfl dX2_dropOldest_4 ?_
  refine lv_icmp_ge (tgt := 58) hx hb dX2_dropOldest_7 (by decide) (fun c_2 => ?_) (fun c_2 => ?_)
  · have c_2 : E.length ≤ (k + i) := (nI_leI (a := E.length) (b := (k + i)) (by omega) (by omega)).mp c_2
    have hi9 : i = E.length - k := by omega
    rw [hi9] at g0 g1 g2
    refine lv_aload_n hx hb dX2_dropOldest_58 rfl (lv_at hl 1 rfl) ?_
    refine lv_dup hx hb dX2_dropOldest_59 rfl ?_
    refine g_get (own := RX2) (C := RX2) (T := TX2) (N := 5) (ci := 1) (v := .int (nI E.length)) hx hb hts (fun _ h => List.mem_cons_of_mem _ (List.mem_append_right _ h)) hown hB 0 rfl rfl 3 (by decide) (hts (.fieldLink RX2 21 "PointReports$Events" "size" "I") (by decide +kernel)) rfl rfl dX2_dropOldest_60 ?_
    refine lv_iload_n hx hb dX2_dropOldest_63 rfl (lv_at hl 2 rfl) ?_
    refine lv_isub hx hb dX2_dropOldest_64 ?_
    refine g_top (y := nI (E.length - k)) (pk_sub hk) ?_
    refine g_put (own := RX2) (C := RX2) (T := TX2) (N := 5) (ci := 1) (v := .int (nI (E.length - k))) hx hb ([(ev, .inr (1, [.ref po, .ref va, .ref ti, .int (nI (E.length - k)), .int (nI wt)])), (po, .inl (G.2.2.2.1, 8, .inl gp)), (va, .inl (G.2.2.2.1, 8, .inl gv)), (ti, .inl (G.2.2.2.1, 8, .inl gt))]) hts (fun _ h => List.mem_cons_of_mem _ (List.mem_append_right _ h)) tyX2 tyX2_ok nmX2 hown hB 0 rfl rfl 3 (by decide) (hts (.fieldLink RX2 21 "PointReports$Events" "size" "I") (by decide +kernel)) rfl rfl (ty := .int) rfl rfl rfl (Nat.le_of_ble_eq_true rfl) rfl dX2_dropOldest_65 (fun H locs hB => ?_)
    refine lv_aload_n hx hb dX2_dropOldest_68 rfl (lv_at hl 1 rfl) ?_
    refine lv_iconst (v := nI 0) hx hb dX2_dropOldest_69 (by decide) ?_
    refine lv_aload_n hx hb dX2_dropOldest_70 rfl (lv_at hl 1 rfl) ?_
    refine g_get (own := RX2) (C := RX2) (T := TX2) (N := 5) (ci := 1) (v := .int (nI wt)) hx hb hts (fun _ h => List.mem_cons_of_mem _ (List.mem_append_right _ h)) hown hB 0 rfl rfl 4 (by decide) (hts (.fieldLink RX2 29 "PointReports$Events" "waiting" "I") (by decide +kernel)) rfl rfl dX2_dropOldest_71 ?_
    refine lv_iload_n hx hb dX2_dropOldest_74 rfl (lv_at hl 2 rfl) ?_
    refine lv_isub hx hb dX2_dropOldest_75 ?_
    refine va_mmax (x := nI 0) (y := (nI wt) - (nI k)) hx hb (hml.trans hl.1.symm) hown (hts (.methodLink RX2 32 Lib.Math.max.name) (by decide +kernel)) (hts (.static Lib.Math.max.name) (by decide +kernel)) (hts (.initialized "java/lang/Math") (by decide +kernel)) (hts _ (List.mem_cons_of_mem _ (List.mem_append_left _ (List.mem_of_getElem? (i := 8) rfl)))) (Nat.le_of_ble_eq_true rfl) (Nat.le_of_ble_eq_true rfl) (Nat.zero_le _) (Nat.zero_le _) dX2_dropOldest_76 ?_
    refine g_top (y := nI (wt - k)) (mx_nI (by omega) (by omega)) ?_
    refine g_put (own := RX2) (C := RX2) (T := TX2) (N := 5) (ci := 1) (v := .int (nI (wt - k))) hx hb ([(ev, .inr (1, [.ref po, .ref va, .ref ti, .int (nI (E.length - k)), .int (nI (wt - k))])), (po, .inl (G.2.2.2.1, 8, .inl gp)), (va, .inl (G.2.2.2.1, 8, .inl gv)), (ti, .inl (G.2.2.2.1, 8, .inl gt))]) hts (fun _ h => List.mem_cons_of_mem _ (List.mem_append_right _ h)) tyX2 tyX2_ok nmX2 hown hB 0 rfl rfl 4 (by decide) (hts (.fieldLink RX2 29 "PointReports$Events" "waiting" "I") (by decide +kernel)) rfl rfl (ty := .int) rfl rfl rfl (Nat.le_of_ble_eq_true rfl) rfl dX2_dropOldest_79 (fun H locs hB => ?_)
    exact g_vret (Wd := eW G ev po va ti) (nI (E.length - k), nI (wt - k), gp, gv, gt) hB hx hb hr hlocks rfl ⟨gp, gv, gt, evC_drop hE g0 g1 g2, rfl⟩ dX2_dropOldest_82
  · have c_2 : ¬ E.length ≤ (k + i) := fun h9 => c_2 ((nI_leI (a := E.length) (b := (k + i)) (by omega) (by omega)).mpr h9)
    refine lv_aload_n hx hb dX2_dropOldest_10 rfl (lv_at hl 1 rfl) ?_
    refine g_get (own := RX2) (C := RX2) (T := TX2) (N := 5) (ci := 1) (v := .ref po) hx hb hts (fun _ h => List.mem_cons_of_mem _ (List.mem_append_right _ h)) hown hB 0 rfl rfl 0 (by decide) (hts (.fieldLink RX2 11 "PointReports$Events" "points" "[I") (by decide +kernel)) rfl rfl dX2_dropOldest_11 ?_
    refine lv_iload_n hx hb dX2_dropOldest_14 rfl (lv_at hl 0 rfl) ?_
    refine lv_iload_n hx hb dX2_dropOldest_15 rfl (lv_at hl 2 rfl) ?_
    refine lv_isub hx hb dX2_dropOldest_16 ?_
    refine g_top (y := nI i) ((pk_sub (by omega)).trans (by congr 1; omega)) ?_
    refine lv_aload_n hx hb dX2_dropOldest_17 rfl (lv_at hl 1 rfl) ?_
    refine g_get (own := RX2) (C := RX2) (T := TX2) (N := 5) (ci := 1) (v := .ref po) hx hb hts (fun _ h => List.mem_cons_of_mem _ (List.mem_append_right _ h)) hown hB 0 rfl rfl 0 (by decide) (hts (.fieldLink RX2 11 "PointReports$Events" "points" "[I") (by decide +kernel)) rfl rfl dX2_dropOldest_18 ?_
    refine lv_iload_n hx hb dX2_dropOldest_21 rfl (lv_at hl 0 rfl) ?_
    refine g_ald hx hb hB 1 0 rfl rfl (k + i) rfl (by omega) (by omega) dX2_dropOldest_22 ?_
    refine g_ast (x := gp (k + i)) hx hb ([(ev, .inr (1, [.ref po, .ref va, .ref ti, .int (nI E.length), .int (nI wt)])), (po, .inl (G.2.2.2.1, 8, .inl (upd gp i (gp (k + i))))), (va, .inl (G.2.2.2.1, 8, .inl gv)), (ti, .inl (G.2.2.2.1, 8, .inl gt))]) hB 1 0 rfl rfl i rfl (by omega) (by omega) rfl dX2_dropOldest_23 (fun H locs hB => ?_)
    refine lv_aload_n hx hb dX2_dropOldest_24 rfl (lv_at hl 1 rfl) ?_
    refine g_get (own := RX2) (C := RX2) (T := TX2) (N := 5) (ci := 1) (v := .ref va) hx hb hts (fun _ h => List.mem_cons_of_mem _ (List.mem_append_right _ h)) hown hB 0 rfl rfl 1 (by decide) (hts (.fieldLink RX2 15 "PointReports$Events" "values" "[I") (by decide +kernel)) rfl rfl dX2_dropOldest_25 ?_
    refine lv_iload_n hx hb dX2_dropOldest_28 rfl (lv_at hl 0 rfl) ?_
    refine lv_iload_n hx hb dX2_dropOldest_29 rfl (lv_at hl 2 rfl) ?_
    refine lv_isub hx hb dX2_dropOldest_30 ?_
    refine g_top (y := nI i) ((pk_sub (by omega)).trans (by congr 1; omega)) ?_
    refine lv_aload_n hx hb dX2_dropOldest_31 rfl (lv_at hl 1 rfl) ?_
    refine g_get (own := RX2) (C := RX2) (T := TX2) (N := 5) (ci := 1) (v := .ref va) hx hb hts (fun _ h => List.mem_cons_of_mem _ (List.mem_append_right _ h)) hown hB 0 rfl rfl 1 (by decide) (hts (.fieldLink RX2 15 "PointReports$Events" "values" "[I") (by decide +kernel)) rfl rfl dX2_dropOldest_32 ?_
    refine lv_iload_n hx hb dX2_dropOldest_35 rfl (lv_at hl 0 rfl) ?_
    refine g_ald hx hb hB 2 0 rfl rfl (k + i) rfl (by omega) (by omega) dX2_dropOldest_36 ?_
    refine g_ast (x := gv (k + i)) hx hb ([(ev, .inr (1, [.ref po, .ref va, .ref ti, .int (nI E.length), .int (nI wt)])), (po, .inl (G.2.2.2.1, 8, .inl (upd gp i (gp (k + i))))), (va, .inl (G.2.2.2.1, 8, .inl (upd gv i (gv (k + i))))), (ti, .inl (G.2.2.2.1, 8, .inl gt))]) hB 2 0 rfl rfl i rfl (by omega) (by omega) rfl dX2_dropOldest_37 (fun H locs hB => ?_)
    refine lv_aload_n hx hb dX2_dropOldest_38 rfl (lv_at hl 1 rfl) ?_
    refine g_get (own := RX2) (C := RX2) (T := TX2) (N := 5) (ci := 1) (v := .ref ti) hx hb hts (fun _ h => List.mem_cons_of_mem _ (List.mem_append_right _ h)) hown hB 0 rfl rfl 2 (by decide) (hts (.fieldLink RX2 18 "PointReports$Events" "times" "[I") (by decide +kernel)) rfl rfl dX2_dropOldest_39 ?_
    refine lv_iload_n hx hb dX2_dropOldest_42 rfl (lv_at hl 0 rfl) ?_
    refine lv_iload_n hx hb dX2_dropOldest_43 rfl (lv_at hl 2 rfl) ?_
    refine lv_isub hx hb dX2_dropOldest_44 ?_
    refine g_top (y := nI i) ((pk_sub (by omega)).trans (by congr 1; omega)) ?_
    refine lv_aload_n hx hb dX2_dropOldest_45 rfl (lv_at hl 1 rfl) ?_
    refine g_get (own := RX2) (C := RX2) (T := TX2) (N := 5) (ci := 1) (v := .ref ti) hx hb hts (fun _ h => List.mem_cons_of_mem _ (List.mem_append_right _ h)) hown hB 0 rfl rfl 2 (by decide) (hts (.fieldLink RX2 18 "PointReports$Events" "times" "[I") (by decide +kernel)) rfl rfl dX2_dropOldest_46 ?_
    refine lv_iload_n hx hb dX2_dropOldest_49 rfl (lv_at hl 0 rfl) ?_
    refine g_ald hx hb hB 3 0 rfl rfl (k + i) rfl (by omega) (by omega) dX2_dropOldest_50 ?_
    refine g_ast (x := gt (k + i)) hx hb ([(ev, .inr (1, [.ref po, .ref va, .ref ti, .int (nI E.length), .int (nI wt)])), (po, .inl (G.2.2.2.1, 8, .inl (upd gp i (gp (k + i))))), (va, .inl (G.2.2.2.1, 8, .inl (upd gv i (gv (k + i))))), (ti, .inl (G.2.2.2.1, 8, .inl (upd gt i (gt (k + i)))))]) hB 3 0 rfl rfl i rfl (by omega) (by omega) rfl dX2_dropOldest_51 (fun H locs hB => ?_)
    refine lv_iinc (v := nI (k + i + 1)) (lv' := [(2, .int (nI (k + i + 1))), (0, .ref ev), (1, .int (nI k))]) hx hb dX2_dropOldest_52 hl (k := 0) rfl (nI_add _ _) (by decide) rfl (fun ls hl => ?_)
    refine lv_goto (tgt := 2) hx hb dX2_dropOldest_55 (by decide) ?_
    have hl : lv_has ls 3 [(2, .int (nI (k + (i + 1)))), (0, .ref ev), (1, .int (nI k))] := lv_sub hl [0, 1, 2] rfl
    have hB : gB G.1 (rT G) A s H locs [(ev, .inr (1, [.ref po, .ref va, .ref ti, .int (nI E.length), .int (nI wt)])), (po, .inl (G.2.2.2.1, 8, .inl (upd gp i (gp (k + i))))), (va, .inl (G.2.2.2.1, 8, .inl (upd gv i (gv (k + i))))), (ti, .inl (G.2.2.2.1, 8, .inl (upd gt i (gt (k + i)))))] := hB
    have b_3 : (i + 1) + (E.length - k - (i + 1)) = E.length - k := by omega
    have b_4 : ∀ z, (upd gp i (gp (k + i))) z = if z < (i + 1) then fp (z + k) else fp z := fun z => by
        by_cases hz : z = i
        · subst hz; rw [upd_self, if_pos (by omega), g0, if_neg (by omega), Nat.add_comm]
        · rw [upd_ne hz, g0]
          by_cases hz2 : z < i
          · rw [if_pos hz2, if_pos (by omega)]
          · rw [if_neg hz2, if_neg (by omega)]
    have b_5 : ∀ z, (upd gv i (gv (k + i))) z = if z < (i + 1) then fv (z + k) else fv z := fun z => by
        by_cases hz : z = i
        · subst hz; rw [upd_self, if_pos (by omega), g1, if_neg (by omega), Nat.add_comm]
        · rw [upd_ne hz, g1]
          by_cases hz2 : z < i
          · rw [if_pos hz2, if_pos (by omega)]
          · rw [if_neg hz2, if_neg (by omega)]
    have b_6 : ∀ z, (upd gt i (gt (k + i))) z = if z < (i + 1) then ft (z + k) else ft z := fun z => by
        by_cases hz : z = i
        · subst hz; rw [upd_self, if_pos (by omega), g2, if_neg (by omega), Nat.add_comm]
        · rw [upd_ne hz, g2]
          by_cases hz2 : z < i
          · rw [if_pos hz2, if_pos (by omega)]
          · rw [if_neg hz2, if_neg (by omega)]
    exact ih_1 (E.length - k - (i + 1)) (i + 1, upd gp i (gp (k + i)), upd gv i (gv (k + i)), upd gt i (gt (k + i))) H locs ls (by omega) ⟨b_3, b_4, b_5, b_6, hB, hl⟩
set_option maxRecDepth 100000 in
set_option maxHeartbeats 4000000 in
/-- Events.dropWaiting() -/
theorem k_Events_dropWaiting (l : Launch) (G : rG) (ev po va ti : Nat) (fp fv ft : Nat → Int32) (E : List (Int32 × Int32 × Int32)) (hE : evC fp fv ft E) (hE8 : E.length ≤ 8) (wt : Nat) (hwt : wt ≤ E.length) : gM l G.1 (rT G) yX2_dropWaiting wsX2_dropWaiting { frames := 2, cells := 0, slots := 0, locals := 43 } [.ref ev] [(ev, .inr (1, [.ref po, .ref va, .ref ti, .int (nI E.length), .int (nI wt)])), (po, .inl (G.2.2.2.1, 8, .inl fp)), (va, .inl (G.2.2.2.1, 8, .inl fv)), (ti, .inl (G.2.2.2.1, 8, .inl ft))] (gQv G.1 (rT G) (fun u : Int32 × Int32 × (Nat → Int32) × (Nat → Int32) × (Nat → Int32) => ∃ gp gv gt, evC gp gv gt (E.drop wt) ∧ u = (nI (E.length - wt), nI (wt - wt), gp, gv, gt)) (eW G ev po va ti)) 0 0 := by
  refine gM.of (cc := cX2_dropWaiting) (maxL := 1) (ret := none) (by decide) rfl (Nat.le_of_ble_eq_true rfl) ?_
  intro p e s m below meth c A ls hx hb hr hml hown hts hlocks hnm hB hl
  have hl : lv_has ls 1 [(0, .ref ev)] := hl
  refine lv_aload_n hx hb dX2_dropWaiting_0 rfl (lv_at hl 0 rfl) ?_
  refine lv_aload_n hx hb dX2_dropWaiting_1 rfl (lv_at hl 0 rfl) ?_
  refine g_get (own := RX2) (C := RX2) (T := TX2) (N := 5) (ci := 1) (v := .int (nI wt)) hx hb hts (fun _ h => List.mem_cons_of_mem _ (List.mem_append_right _ h)) hown hB 0 rfl rfl 4 (by decide) (hts (.fieldLink RX2 29 "PointReports$Events" "waiting" "I") (by decide +kernel)) rfl rfl dX2_dropWaiting_2 ?_
  refine g_callvA (wr := []) (wc := [(ev, .inr (1, [.ref po, .ref va, .ref ti, .int (nI E.length), .int (nI wt)])), (po, .inl (G.2.2.2.1, 8, .inl fp)), (va, .inl (G.2.2.2.1, 8, .inl fv)), (ti, .inl (G.2.2.2.1, 8, .inl ft))]) (av := [.int (nI wt)]) (rest := []) ⟨hx, hb, hml, hown, hts⟩ (k_Events_dropOldest l G ev po va ti fp fv ft E hE hE8 wt hwt wt hwt) (cwV 1 hts gX2_dropWaiting_X2_dropOldest rfl rfl rfl (by decide +kernel) ⟨Nat.le_of_ble_eq_true rfl, Nat.le_of_ble_eq_true rfl⟩) hB (q0 := 0) (ci := 1) rfl rfl rfl rfl hl.1 rfl (Nat.le_of_ble_eq_true rfl) dX2_dropWaiting_5 ⟨Nat.le_of_ble_eq_true rfl, Nat.le_of_ble_eq_true rfl⟩ (fun u H locs hw hB => ?_)
  obtain ⟨gp, gv, gt, hg, rfl⟩ := hw
  have hB : gB G.1 (rT G) A s H locs [(ev, .inr (1, [.ref po, .ref va, .ref ti, .int (nI (E.length - wt)), .int (nI (wt - wt))])), (po, .inl (G.2.2.2.1, 8, .inl gp)), (va, .inl (G.2.2.2.1, 8, .inl gv)), (ti, .inl (G.2.2.2.1, 8, .inl gt))] := hB
  exact g_vret (Wd := eW G ev po va ti) (nI (E.length - wt), nI (wt - wt), gp, gv, gt) hB hx hb hr hlocks rfl ⟨gp, gv, gt, hg, rfl⟩ dX2_dropWaiting_8
set_option maxRecDepth 100000 in
set_option maxHeartbeats 4000000 in
/-- Events.add(p, v, t) -/
theorem k_Events_add (l : Launch) (G : rG) (ev po va ti : Nat) (fp fv ft : Nat → Int32) (E : List (Int32 × Int32 × Int32)) (hE : evC fp fv ft E) (hE8 : E.length ≤ 8) (wt : Nat) (hwt : wt ≤ E.length) (x1 x2 x3 : Int32) : gM l G.1 (rT G) yX2_add wsX2_add { frames := 2, cells := 0, slots := 0, locals := 43 } [.ref ev, .int x1, .int x2, .int x3] [(ev, .inr (1, [.ref po, .ref va, .ref ti, .int (nI E.length), .int (nI wt)])), (po, .inl (G.2.2.2.1, 8, .inl fp)), (va, .inl (G.2.2.2.1, 8, .inl fv)), (ti, .inl (G.2.2.2.1, 8, .inl ft))] (gQi G.1 (rT G) (fun (r : Int32) (u : Int32 × Int32 × (Nat → Int32) × (Nat → Int32) × (Nat → Int32)) => r = nI (if E.length = 8 then 1 else 0) ∧ ∃ gp gv gt, evC gp gv gt ((if E.length = 8 then E.drop 1 else E) ++ [(x1, x2, x3)]) ∧ u = (nI ((if E.length = 8 then E.drop 1 else E).length + 1), nI (if E.length = 8 then wt - 1 else wt), gp, gv, gt)) (eW G ev po va ti)) 0 0 := by
  refine gM.of (cc := cX2_add) (maxL := 5) (ret := (some .boolean)) (by decide) rfl (Nat.le_of_ble_eq_true rfl) ?_
  intro p e s m below meth c A ls hx hb hr hml hown hts hlocks hnm hB hl
  have hl : lv_has ls 5 [(0, .ref ev), (1, .int x1), (2, .int x2), (3, .int x3)] := hl
  refine lv_aload_n hx hb dX2_add_0 rfl (lv_at hl 0 rfl) ?_
  refine g_get (own := RX2) (C := RX2) (T := TX2) (N := 5) (ci := 1) (v := .int (nI E.length)) hx hb hts (fun _ h => List.mem_cons_of_mem _ (List.mem_append_right _ h)) hown hB 0 rfl rfl 3 (by decide) (hts (.fieldLink RX2 21 "PointReports$Events" "size" "I") (by decide +kernel)) rfl rfl dX2_add_1 ?_
  refine lv_bipush (v := nI 8) hx hb dX2_add_4 (by decide) ?_
  refine lv_icmp_ne (tgt := 13) hx hb dX2_add_6 (by decide) (fun c_1 => ?_) (fun c_1 => ?_)
  · have c_1 : ¬ E.length = 8 := fun h9 => c_1 ((nI_eq (a := E.length) (b := 8) (by omega) (by omega)).mpr h9)
    refine lv_iconst (v := nI 0) hx hb dX2_add_13 (by decide) ?_
    refine lv_istore (lv' := [(4, .int (nI 0)), (0, .ref ev), (1, .int x1), (2, .int x2), (3, .int x3)]) hx hb dX2_add_14 hl (by decide) rfl (fun ls hl => ?_)
    refine lv_iload hx hb dX2_add_16 (lv_at hl 0 rfl) ?_
    refine lv_if_eq (tgt := 26) hx hb dX2_add_18 (by decide) (fun c_2 => ?_) (fun c_2 => ?_)
    · have c_2 : 0 = 0 := (nI_eq (a := 0) (b := 0) (by omega) (by omega)).mp c_2
      refine lv_aload_n hx hb dX2_add_26 rfl (lv_at hl 1 rfl) ?_
      refine g_get (own := RX2) (C := RX2) (T := TX2) (N := 5) (ci := 1) (v := .ref po) hx hb hts (fun _ h => List.mem_cons_of_mem _ (List.mem_append_right _ h)) hown hB 0 rfl rfl 0 (by decide) (hts (.fieldLink RX2 11 "PointReports$Events" "points" "[I") (by decide +kernel)) rfl rfl dX2_add_27 ?_
      refine lv_aload_n hx hb dX2_add_30 rfl (lv_at hl 1 rfl) ?_
      refine g_get (own := RX2) (C := RX2) (T := TX2) (N := 5) (ci := 1) (v := .int (nI E.length)) hx hb hts (fun _ h => List.mem_cons_of_mem _ (List.mem_append_right _ h)) hown hB 0 rfl rfl 3 (by decide) (hts (.fieldLink RX2 21 "PointReports$Events" "size" "I") (by decide +kernel)) rfl rfl dX2_add_31 ?_
      refine lv_iload_n hx hb dX2_add_34 rfl (lv_at hl 2 rfl) ?_
      refine g_ast (x := x1) hx hb ([(ev, .inr (1, [.ref po, .ref va, .ref ti, .int (nI E.length), .int (nI wt)])), (po, .inl (G.2.2.2.1, 8, .inl (upd fp E.length x1))), (va, .inl (G.2.2.2.1, 8, .inl fv)), (ti, .inl (G.2.2.2.1, 8, .inl ft))]) hB 1 0 rfl rfl E.length rfl (by omega) (by omega) rfl dX2_add_35 (fun H locs hB => ?_)
      refine lv_aload_n hx hb dX2_add_36 rfl (lv_at hl 1 rfl) ?_
      refine g_get (own := RX2) (C := RX2) (T := TX2) (N := 5) (ci := 1) (v := .ref va) hx hb hts (fun _ h => List.mem_cons_of_mem _ (List.mem_append_right _ h)) hown hB 0 rfl rfl 1 (by decide) (hts (.fieldLink RX2 15 "PointReports$Events" "values" "[I") (by decide +kernel)) rfl rfl dX2_add_37 ?_
      refine lv_aload_n hx hb dX2_add_40 rfl (lv_at hl 1 rfl) ?_
      refine g_get (own := RX2) (C := RX2) (T := TX2) (N := 5) (ci := 1) (v := .int (nI E.length)) hx hb hts (fun _ h => List.mem_cons_of_mem _ (List.mem_append_right _ h)) hown hB 0 rfl rfl 3 (by decide) (hts (.fieldLink RX2 21 "PointReports$Events" "size" "I") (by decide +kernel)) rfl rfl dX2_add_41 ?_
      refine lv_iload_n hx hb dX2_add_44 rfl (lv_at hl 3 rfl) ?_
      refine g_ast (x := x2) hx hb ([(ev, .inr (1, [.ref po, .ref va, .ref ti, .int (nI E.length), .int (nI wt)])), (po, .inl (G.2.2.2.1, 8, .inl (upd fp E.length x1))), (va, .inl (G.2.2.2.1, 8, .inl (upd fv E.length x2))), (ti, .inl (G.2.2.2.1, 8, .inl ft))]) hB 2 0 rfl rfl E.length rfl (by omega) (by omega) rfl dX2_add_45 (fun H locs hB => ?_)
      refine lv_aload_n hx hb dX2_add_46 rfl (lv_at hl 1 rfl) ?_
      refine g_get (own := RX2) (C := RX2) (T := TX2) (N := 5) (ci := 1) (v := .ref ti) hx hb hts (fun _ h => List.mem_cons_of_mem _ (List.mem_append_right _ h)) hown hB 0 rfl rfl 2 (by decide) (hts (.fieldLink RX2 18 "PointReports$Events" "times" "[I") (by decide +kernel)) rfl rfl dX2_add_47 ?_
      refine lv_aload_n hx hb dX2_add_50 rfl (lv_at hl 1 rfl) ?_
      refine g_get (own := RX2) (C := RX2) (T := TX2) (N := 5) (ci := 1) (v := .int (nI E.length)) hx hb hts (fun _ h => List.mem_cons_of_mem _ (List.mem_append_right _ h)) hown hB 0 rfl rfl 3 (by decide) (hts (.fieldLink RX2 21 "PointReports$Events" "size" "I") (by decide +kernel)) rfl rfl dX2_add_51 ?_
      refine lv_iload_n hx hb dX2_add_54 rfl (lv_at hl 4 rfl) ?_
      refine g_ast (x := x3) hx hb ([(ev, .inr (1, [.ref po, .ref va, .ref ti, .int (nI E.length), .int (nI wt)])), (po, .inl (G.2.2.2.1, 8, .inl (upd fp E.length x1))), (va, .inl (G.2.2.2.1, 8, .inl (upd fv E.length x2))), (ti, .inl (G.2.2.2.1, 8, .inl (upd ft E.length x3)))]) hB 3 0 rfl rfl E.length rfl (by omega) (by omega) rfl dX2_add_55 (fun H locs hB => ?_)
      refine lv_aload_n hx hb dX2_add_56 rfl (lv_at hl 1 rfl) ?_
      refine lv_dup hx hb dX2_add_57 rfl ?_
      refine g_get (own := RX2) (C := RX2) (T := TX2) (N := 5) (ci := 1) (v := .int (nI E.length)) hx hb hts (fun _ h => List.mem_cons_of_mem _ (List.mem_append_right _ h)) hown hB 0 rfl rfl 3 (by decide) (hts (.fieldLink RX2 21 "PointReports$Events" "size" "I") (by decide +kernel)) rfl rfl dX2_add_58 ?_
      refine lv_iconst (v := nI 1) hx hb dX2_add_61 (by decide) ?_
      refine lv_iadd hx hb dX2_add_62 ?_
      refine g_top (y := nI (E.length + 1)) (nI_add _ _) ?_
      refine g_put (own := RX2) (C := RX2) (T := TX2) (N := 5) (ci := 1) (v := .int (nI (E.length + 1))) hx hb ([(ev, .inr (1, [.ref po, .ref va, .ref ti, .int (nI (E.length + 1)), .int (nI wt)])), (po, .inl (G.2.2.2.1, 8, .inl (upd fp E.length x1))), (va, .inl (G.2.2.2.1, 8, .inl (upd fv E.length x2))), (ti, .inl (G.2.2.2.1, 8, .inl (upd ft E.length x3)))]) hts (fun _ h => List.mem_cons_of_mem _ (List.mem_append_right _ h)) tyX2 tyX2_ok nmX2 hown hB 0 rfl rfl 3 (by decide) (hts (.fieldLink RX2 21 "PointReports$Events" "size" "I") (by decide +kernel)) rfl rfl (ty := .int) rfl rfl rfl (Nat.le_of_ble_eq_true rfl) rfl dX2_add_63 (fun H locs hB => ?_)
      refine lv_iload hx hb dX2_add_66 (lv_at hl 0 rfl) ?_
      exact g_zret (Wd := eW G ev po va ti) (v := nI 0) (nI (E.length + 1), nI wt, upd fp E.length x1, upd fv E.length x2, upd ft E.length x3) hB hx hb hr hlocks rfl (narrow_z (Or.inl rfl)) ⟨by rw [if_neg c_1], _, _, _, by rw [if_neg c_1]; exact evC_push (q := (x1, x2, x3)) hE, by rw [if_neg c_1, if_neg c_1]⟩ dX2_add_68
    · have c_2 : ¬ 0 = 0 := fun h9 => c_2 ((nI_eq (a := 0) (b := 0) (by omega) (by omega)).mpr h9)
      exact absurd rfl c_2
  · have c_1 : E.length = 8 := (nI_eq (a := E.length) (b := 8) (by omega) (by omega)).mp c_1
    refine lv_iconst (v := nI 1) hx hb dX2_add_9 (by decide) ?_
    refine lv_goto (tgt := 14) hx hb dX2_add_10 (by decide) ?_
    refine lv_istore (lv' := [(4, .int (nI 1)), (0, .ref ev), (1, .int x1), (2, .int x2), (3, .int x3)]) hx hb dX2_add_14 hl (by decide) rfl (fun ls hl => ?_)
    refine lv_iload hx hb dX2_add_16 (lv_at hl 0 rfl) ?_
    refine lv_if_eq (tgt := 26) hx hb dX2_add_18 (by decide) (fun c_3 => ?_) (fun c_3 => ?_)
    · have c_3 : 1 = 0 := (nI_eq (a := 1) (b := 0) (by omega) (by omega)).mp c_3
      exact absurd c_3 (by decide)
    · have c_3 : ¬ 1 = 0 := fun h9 => c_3 ((nI_eq (a := 1) (b := 0) (by omega) (by omega)).mpr h9)
      refine lv_aload_n hx hb dX2_add_21 rfl (lv_at hl 1 rfl) ?_
      refine lv_iconst (v := nI 1) hx hb dX2_add_22 (by decide) ?_
      refine g_callvA (wr := []) (wc := [(ev, .inr (1, [.ref po, .ref va, .ref ti, .int (nI E.length), .int (nI wt)])), (po, .inl (G.2.2.2.1, 8, .inl fp)), (va, .inl (G.2.2.2.1, 8, .inl fv)), (ti, .inl (G.2.2.2.1, 8, .inl ft))]) (av := [.int (nI 1)]) (rest := []) ⟨hx, hb, hml, hown, hts⟩ (k_Events_dropOldest l G ev po va ti fp fv ft E hE hE8 wt hwt 1 (by omega)) (cwV 1 hts gX2_add_X2_dropOldest rfl rfl rfl (by decide +kernel) ⟨Nat.le_of_ble_eq_true rfl, Nat.le_of_ble_eq_true rfl⟩) hB (q0 := 0) (ci := 1) rfl rfl rfl rfl hl.1 rfl (Nat.le_of_ble_eq_true rfl) dX2_add_23 ⟨Nat.le_of_ble_eq_true rfl, Nat.le_of_ble_eq_true rfl⟩ (fun u H locs hw hB => ?_)
      obtain ⟨gp, gv, gt, hg, rfl⟩ := hw
      have hB : gB G.1 (rT G) A s H locs [(ev, .inr (1, [.ref po, .ref va, .ref ti, .int (nI (E.length - 1)), .int (nI (wt - 1))])), (po, .inl (G.2.2.2.1, 8, .inl gp)), (va, .inl (G.2.2.2.1, 8, .inl gv)), (ti, .inl (G.2.2.2.1, 8, .inl gt))] := hB
      have le : (E.drop 1).length = E.length - 1 := List.length_drop
      refine lv_aload_n hx hb dX2_add_26 rfl (lv_at hl 1 rfl) ?_
      refine g_get (own := RX2) (C := RX2) (T := TX2) (N := 5) (ci := 1) (v := .ref po) hx hb hts (fun _ h => List.mem_cons_of_mem _ (List.mem_append_right _ h)) hown hB 0 rfl rfl 0 (by decide) (hts (.fieldLink RX2 11 "PointReports$Events" "points" "[I") (by decide +kernel)) rfl rfl dX2_add_27 ?_
      refine lv_aload_n hx hb dX2_add_30 rfl (lv_at hl 1 rfl) ?_
      refine g_get (own := RX2) (C := RX2) (T := TX2) (N := 5) (ci := 1) (v := .int (nI (E.length - 1))) hx hb hts (fun _ h => List.mem_cons_of_mem _ (List.mem_append_right _ h)) hown hB 0 rfl rfl 3 (by decide) (hts (.fieldLink RX2 21 "PointReports$Events" "size" "I") (by decide +kernel)) rfl rfl dX2_add_31 ?_
      refine lv_iload_n hx hb dX2_add_34 rfl (lv_at hl 2 rfl) ?_
      refine g_ast (x := x1) hx hb ([(ev, .inr (1, [.ref po, .ref va, .ref ti, .int (nI (E.length - 1)), .int (nI (wt - 1))])), (po, .inl (G.2.2.2.1, 8, .inl (upd gp (E.length - 1) x1))), (va, .inl (G.2.2.2.1, 8, .inl gv)), (ti, .inl (G.2.2.2.1, 8, .inl gt))]) hB 1 0 rfl rfl (E.length - 1) rfl (by omega) (by omega) rfl dX2_add_35 (fun H locs hB => ?_)
      refine lv_aload_n hx hb dX2_add_36 rfl (lv_at hl 1 rfl) ?_
      refine g_get (own := RX2) (C := RX2) (T := TX2) (N := 5) (ci := 1) (v := .ref va) hx hb hts (fun _ h => List.mem_cons_of_mem _ (List.mem_append_right _ h)) hown hB 0 rfl rfl 1 (by decide) (hts (.fieldLink RX2 15 "PointReports$Events" "values" "[I") (by decide +kernel)) rfl rfl dX2_add_37 ?_
      refine lv_aload_n hx hb dX2_add_40 rfl (lv_at hl 1 rfl) ?_
      refine g_get (own := RX2) (C := RX2) (T := TX2) (N := 5) (ci := 1) (v := .int (nI (E.length - 1))) hx hb hts (fun _ h => List.mem_cons_of_mem _ (List.mem_append_right _ h)) hown hB 0 rfl rfl 3 (by decide) (hts (.fieldLink RX2 21 "PointReports$Events" "size" "I") (by decide +kernel)) rfl rfl dX2_add_41 ?_
      refine lv_iload_n hx hb dX2_add_44 rfl (lv_at hl 3 rfl) ?_
      refine g_ast (x := x2) hx hb ([(ev, .inr (1, [.ref po, .ref va, .ref ti, .int (nI (E.length - 1)), .int (nI (wt - 1))])), (po, .inl (G.2.2.2.1, 8, .inl (upd gp (E.length - 1) x1))), (va, .inl (G.2.2.2.1, 8, .inl (upd gv (E.length - 1) x2))), (ti, .inl (G.2.2.2.1, 8, .inl gt))]) hB 2 0 rfl rfl (E.length - 1) rfl (by omega) (by omega) rfl dX2_add_45 (fun H locs hB => ?_)
      refine lv_aload_n hx hb dX2_add_46 rfl (lv_at hl 1 rfl) ?_
      refine g_get (own := RX2) (C := RX2) (T := TX2) (N := 5) (ci := 1) (v := .ref ti) hx hb hts (fun _ h => List.mem_cons_of_mem _ (List.mem_append_right _ h)) hown hB 0 rfl rfl 2 (by decide) (hts (.fieldLink RX2 18 "PointReports$Events" "times" "[I") (by decide +kernel)) rfl rfl dX2_add_47 ?_
      refine lv_aload_n hx hb dX2_add_50 rfl (lv_at hl 1 rfl) ?_
      refine g_get (own := RX2) (C := RX2) (T := TX2) (N := 5) (ci := 1) (v := .int (nI (E.length - 1))) hx hb hts (fun _ h => List.mem_cons_of_mem _ (List.mem_append_right _ h)) hown hB 0 rfl rfl 3 (by decide) (hts (.fieldLink RX2 21 "PointReports$Events" "size" "I") (by decide +kernel)) rfl rfl dX2_add_51 ?_
      refine lv_iload_n hx hb dX2_add_54 rfl (lv_at hl 4 rfl) ?_
      refine g_ast (x := x3) hx hb ([(ev, .inr (1, [.ref po, .ref va, .ref ti, .int (nI (E.length - 1)), .int (nI (wt - 1))])), (po, .inl (G.2.2.2.1, 8, .inl (upd gp (E.length - 1) x1))), (va, .inl (G.2.2.2.1, 8, .inl (upd gv (E.length - 1) x2))), (ti, .inl (G.2.2.2.1, 8, .inl (upd gt (E.length - 1) x3)))]) hB 3 0 rfl rfl (E.length - 1) rfl (by omega) (by omega) rfl dX2_add_55 (fun H locs hB => ?_)
      refine lv_aload_n hx hb dX2_add_56 rfl (lv_at hl 1 rfl) ?_
      refine lv_dup hx hb dX2_add_57 rfl ?_
      refine g_get (own := RX2) (C := RX2) (T := TX2) (N := 5) (ci := 1) (v := .int (nI (E.length - 1))) hx hb hts (fun _ h => List.mem_cons_of_mem _ (List.mem_append_right _ h)) hown hB 0 rfl rfl 3 (by decide) (hts (.fieldLink RX2 21 "PointReports$Events" "size" "I") (by decide +kernel)) rfl rfl dX2_add_58 ?_
      refine lv_iconst (v := nI 1) hx hb dX2_add_61 (by decide) ?_
      refine lv_iadd hx hb dX2_add_62 ?_
      refine g_top (y := nI ((E.length - 1) + 1)) (nI_add _ _) ?_
      refine g_put (own := RX2) (C := RX2) (T := TX2) (N := 5) (ci := 1) (v := .int (nI ((E.length - 1) + 1))) hx hb ([(ev, .inr (1, [.ref po, .ref va, .ref ti, .int (nI ((E.length - 1) + 1)), .int (nI (wt - 1))])), (po, .inl (G.2.2.2.1, 8, .inl (upd gp (E.length - 1) x1))), (va, .inl (G.2.2.2.1, 8, .inl (upd gv (E.length - 1) x2))), (ti, .inl (G.2.2.2.1, 8, .inl (upd gt (E.length - 1) x3)))]) hts (fun _ h => List.mem_cons_of_mem _ (List.mem_append_right _ h)) tyX2 tyX2_ok nmX2 hown hB 0 rfl rfl 3 (by decide) (hts (.fieldLink RX2 21 "PointReports$Events" "size" "I") (by decide +kernel)) rfl rfl (ty := .int) rfl rfl rfl (Nat.le_of_ble_eq_true rfl) rfl dX2_add_63 (fun H locs hB => ?_)
      refine lv_iload hx hb dX2_add_66 (lv_at hl 0 rfl) ?_
      have hp9 := evC_push (q := (x1, x2, x3)) hg
      rw [le] at hp9
      exact g_zret (Wd := eW G ev po va ti) (v := nI 1) (nI (E.length - 1 + 1), nI (wt - 1), upd gp (E.length - 1) x1, upd gv (E.length - 1) x2, upd gt (E.length - 1) x3) hB hx hb hr hlocks rfl (narrow_z (Or.inr rfl)) ⟨by rw [if_pos c_1], _, _, _, by rw [if_pos c_1]; exact hp9, by rw [if_pos c_1, if_pos c_1, le]⟩ dX2_add_68
