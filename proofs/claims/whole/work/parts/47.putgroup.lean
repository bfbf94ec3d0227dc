set_option maxRecDepth 100000 in
set_option maxHeartbeats 4000000 in
/-- Events.putGroup(out, cls, most) -/
theorem k_Events_putGroup (l : Launch) (G : rG) (ev po va ti : Nat) (fp fv ft : Nat → Int32) (E : List (Int32 × Int32 × Int32)) (hE : evC fp fv ft E) (hE8 : E.length ≤ 8) (wt : Nat) (hwt : wt ≤ E.length) (b r n : Nat) (f : Nat → Int32) (bl : List Int32) (hp : pfx f bl) (hbn : bl.length ≤ n) (hn : n < 1000000) (cl mo : Nat) (hcl : cl ≤ 3) (hmo : mo ≤ 16) (hroom : mnN E.length mo = 0 ∨ bl.length + 3 + 7 * mnN E.length mo ≤ n) : gM l G.1 (rT G) yX2_putGroup wsX2_putGroup { frames := 2, cells := 0, slots := 0, locals := 44 } [.ref ev, .ref b, .int (nI cl), .int (nI mo)] [(ev, .inr (1, [.ref po, .ref va, .ref ti, .int (nI E.length), .int (nI wt)])), (po, .inl (G.2.2.2.1, 8, .inl fp)), (va, .inl (G.2.2.2.1, 8, .inl fv)), (ti, .inl (G.2.2.2.1, 8, .inl ft)), (b, .inr (0, [.ref r, .int (nI bl.length)])), (r, .inl (G.2.2.2.1, n, .inl f))] (gQi G.1 (rT G) (fun (r : Int32) (u : (Int32 × Int32 × (Nat → Int32) × (Nat → Int32) × (Nat → Int32)) × (Int32 × (Nat → Int32))) => r = nI (mnN E.length mo) ∧ ∃ f2, pfx f2 (bl ++ grS E cl (mnN E.length mo)) ∧ u = ((nI E.length, nI (if (mnN E.length mo) = 0 then wt else (mnN E.length mo)), fp, fv, ft), (nI (bl ++ grS E cl (mnN E.length mo)).length, f2))) (fun u => eW G ev po va ti u.1 ++ bW G b r n u.2)) 0 0 := by
  refine gM.of (cc := cX2_putGroup) (maxL := 6) (ret := (some .int)) (by decide) rfl (Nat.le_of_ble_eq_true rfl) ?_
  intro p e s m below meth c A ls hx hb hr hml hown hts hlocks hnm hB hl
  have hl : lv_has ls 6 [(0, .ref ev), (1, .ref b), (2, .int (nI cl)), (3, .int (nI mo))] := hl
  refine lv_aload_n hx hb dX2_putGroup_0 rfl (lv_at hl 0 rfl) ?_
  refine g_get (own := RX2) (C := RX2) (T := TX2) (N := 5) (ci := 1) (v := .int (nI E.length)) hx hb hts (fun _ h => List.mem_cons_of_mem _ (List.mem_append_left _ (List.mem_append_right _ h))) hown hB 0 rfl rfl 3 (by decide) (hts (.fieldLink RX2 21 "PointReports$Events" "size" "I") (by decide +kernel)) rfl rfl dX2_putGroup_1 ?_
  refine lv_iload_n hx hb dX2_putGroup_4 rfl (lv_at hl 3 rfl) ?_
  refine va_mmin (x := nI E.length) (y := nI mo) hx hb (hml.trans hl.1.symm) hown (hts (.methodLink RX2 38 Lib.Math.min.name) (by decide +kernel)) (hts (.static Lib.Math.min.name) (by decide +kernel)) (hts (.initialized "java/lang/Math") (by decide +kernel)) (hts _ (List.mem_cons_of_mem _ (List.mem_append_left _ (List.mem_append_left _ (List.mem_of_getElem? (i := 4) rfl))))) (Nat.le_of_ble_eq_true rfl) (Nat.le_of_ble_eq_true rfl) (Nat.zero_le _) (Nat.zero_le _) dX2_putGroup_5 ?_
  refine g_top (y := nI (mnN E.length mo)) (mn_nI (by omega) (by omega)) ?_
  have hm8 : (mnN E.length mo) ≤ E.length ∧ (mnN E.length mo) ≤ 8 := by unfold mnN; split <;> omega
  generalize (mnN E.length mo) = m9 at hm8 hroom ⊢
  refine lv_istore (lv' := [(4, .int (nI m9)), (0, .ref ev), (1, .ref b), (2, .int (nI cl)), (3, .int (nI mo))]) hx hb dX2_putGroup_8 hl (by decide) rfl (fun ls hl => ?_)
  refine lv_iload hx hb dX2_putGroup_10 (lv_at hl 0 rfl) ?_
  refine lv_if_gt (tgt := 17) hx hb dX2_putGroup_12 (by decide) (fun c_1 => ?_) (fun c_1 => ?_)
  · have c_1 : 0 < m9 := (nI_ltI (a := 0) (b := m9) (by omega) (by omega)).mp c_1
    refine lv_aload_n hx hb dX2_putGroup_17 rfl (lv_at hl 2 rfl) ?_
    refine lv_bipush (v := nI 32) hx hb dX2_putGroup_18 (by decide) ?_
    have l0 : (bl).length = bl.length + 0 := rfl
    refine g_calliA (wr := [(ev, .inr (1, [.ref po, .ref va, .ref ti, .int (nI E.length), .int (nI wt)])), (po, .inl (G.2.2.2.1, 8, .inl fp)), (va, .inl (G.2.2.2.1, 8, .inl fv)), (ti, .inl (G.2.2.2.1, 8, .inl ft))]) (wc := [(b, .inr (0, [.ref r, .int (nI bl.length)])), (r, .inl (G.2.2.2.1, n, .inl f))]) (av := [.int (nI 32)]) (rest := []) ⟨hx, hb, hml, hown, hts⟩ (k_Bytes_add l G b r n f (bl) hp (by rw [l0]; omega) hn (nI 32)) (cwV 1 hts gX2_putGroup_X1_add rfl rfl rfl (by decide +kernel) ⟨Nat.le_of_ble_eq_true rfl, Nat.le_of_ble_eq_true rfl⟩) hB (q0 := 0) (ci := 0) rfl rfl rfl rfl hl.1 rfl (Nat.le_of_ble_eq_true rfl) dX2_putGroup_20 ⟨Nat.le_of_ble_eq_true rfl, Nat.le_of_ble_eq_true rfl⟩ (fun r9 u H locs hw hB => ?_)
    have hpo := hw
    have hB : gB G.1 (rT G) A s H locs [(ev, .inr (1, [.ref po, .ref va, .ref ti, .int (nI E.length), .int (nI wt)])), (po, .inl (G.2.2.2.1, 8, .inl fp)), (va, .inl (G.2.2.2.1, 8, .inl fv)), (ti, .inl (G.2.2.2.1, 8, .inl ft)), (b, .inr (0, [.ref r, .int u.1])), (r, .inl (G.2.2.2.1, n, .inl u.2))] := hB
    rw [if_pos (by rw [l0]; omega)] at hpo
    obtain ⟨-, k1, hk1, rfl⟩ := hpo
    have hB : gB G.1 (rT G) A s H locs [(ev, .inr (1, [.ref po, .ref va, .ref ti, .int (nI E.length), .int (nI wt)])), (po, .inl (G.2.2.2.1, 8, .inl fp)), (va, .inl (G.2.2.2.1, 8, .inl fv)), (ti, .inl (G.2.2.2.1, 8, .inl ft)), (b, .inr (0, [.ref r, .int (nI (bl.length + 1))])), (r, .inl (G.2.2.2.1, n, .inl k1))] := by exact hB
    refine lv_pop hx hb dX2_putGroup_23 rfl ?_
    refine lv_aload_n hx hb dX2_putGroup_24 rfl (lv_at hl 2 rfl) ?_
    refine lv_iload_n hx hb dX2_putGroup_25 rfl (lv_at hl 3 rfl) ?_
    have hk1 : pfx k1 (bl ++ [nI 32 &&& 255]) := by simpa using hk1
    have l1 : (bl ++ [nI 32 &&& 255]).length = bl.length + 1 := by rw [List.length_append]; rfl
    have hB : gB G.1 (rT G) A s H locs [(ev, .inr (1, [.ref po, .ref va, .ref ti, .int (nI E.length), .int (nI wt)])), (po, .inl (G.2.2.2.1, 8, .inl fp)), (va, .inl (G.2.2.2.1, 8, .inl fv)), (ti, .inl (G.2.2.2.1, 8, .inl ft)), (b, .inr (0, [.ref r, .int (nI ((bl ++ [nI 32 &&& 255]).length))])), (r, .inl (G.2.2.2.1, n, .inl k1))] := by rw [l1]; exact hB
    refine g_calliA (wr := [(ev, .inr (1, [.ref po, .ref va, .ref ti, .int (nI E.length), .int (nI wt)])), (po, .inl (G.2.2.2.1, 8, .inl fp)), (va, .inl (G.2.2.2.1, 8, .inl fv)), (ti, .inl (G.2.2.2.1, 8, .inl ft))]) (wc := [(b, .inr (0, [.ref r, .int (nI ((bl ++ [nI 32 &&& 255]).length))])), (r, .inl (G.2.2.2.1, n, .inl k1))]) (av := [.int (nI cl)]) (rest := []) ⟨hx, hb, hml, hown, hts⟩ (k_Bytes_add l G b r n k1 (bl ++ [nI 32 &&& 255]) hk1 (by rw [l1]; omega) hn (nI cl)) (cwV 1 hts gX2_putGroup_X1_add rfl rfl rfl (by decide +kernel) ⟨Nat.le_of_ble_eq_true rfl, Nat.le_of_ble_eq_true rfl⟩) hB (q0 := 0) (ci := 0) rfl rfl rfl rfl hl.1 rfl (Nat.le_of_ble_eq_true rfl) dX2_putGroup_26 ⟨Nat.le_of_ble_eq_true rfl, Nat.le_of_ble_eq_true rfl⟩ (fun r9 u H locs hw hB => ?_)
    have hpo := hw
    have hB : gB G.1 (rT G) A s H locs [(ev, .inr (1, [.ref po, .ref va, .ref ti, .int (nI E.length), .int (nI wt)])), (po, .inl (G.2.2.2.1, 8, .inl fp)), (va, .inl (G.2.2.2.1, 8, .inl fv)), (ti, .inl (G.2.2.2.1, 8, .inl ft)), (b, .inr (0, [.ref r, .int u.1])), (r, .inl (G.2.2.2.1, n, .inl u.2))] := hB
    rw [if_pos (by rw [l1]; omega)] at hpo
    obtain ⟨-, k2, hk2, rfl⟩ := hpo
    have hB : gB G.1 (rT G) A s H locs [(ev, .inr (1, [.ref po, .ref va, .ref ti, .int (nI E.length), .int (nI wt)])), (po, .inl (G.2.2.2.1, 8, .inl fp)), (va, .inl (G.2.2.2.1, 8, .inl fv)), (ti, .inl (G.2.2.2.1, 8, .inl ft)), (b, .inr (0, [.ref r, .int (nI (bl.length + 2))])), (r, .inl (G.2.2.2.1, n, .inl k2))] := by rw [l1] at hB; exact hB
    refine lv_pop hx hb dX2_putGroup_29 rfl ?_
    refine lv_aload_n hx hb dX2_putGroup_30 rfl (lv_at hl 2 rfl) ?_
    refine lv_iload hx hb dX2_putGroup_31 (lv_at hl 0 rfl) ?_
    have hk2 : pfx k2 (bl ++ [nI 32 &&& 255, nI cl &&& 255]) := by simpa using hk2
    have l2 : (bl ++ [nI 32 &&& 255, nI cl &&& 255]).length = bl.length + 2 := by rw [List.length_append]; rfl
    have hB : gB G.1 (rT G) A s H locs [(ev, .inr (1, [.ref po, .ref va, .ref ti, .int (nI E.length), .int (nI wt)])), (po, .inl (G.2.2.2.1, 8, .inl fp)), (va, .inl (G.2.2.2.1, 8, .inl fv)), (ti, .inl (G.2.2.2.1, 8, .inl ft)), (b, .inr (0, [.ref r, .int (nI ((bl ++ [nI 32 &&& 255, nI cl &&& 255]).length))])), (r, .inl (G.2.2.2.1, n, .inl k2))] := by rw [l2]; exact hB
    refine g_calliA (wr := [(ev, .inr (1, [.ref po, .ref va, .ref ti, .int (nI E.length), .int (nI wt)])), (po, .inl (G.2.2.2.1, 8, .inl fp)), (va, .inl (G.2.2.2.1, 8, .inl fv)), (ti, .inl (G.2.2.2.1, 8, .inl ft))]) (wc := [(b, .inr (0, [.ref r, .int (nI ((bl ++ [nI 32 &&& 255, nI cl &&& 255]).length))])), (r, .inl (G.2.2.2.1, n, .inl k2))]) (av := [.int (nI m9)]) (rest := []) ⟨hx, hb, hml, hown, hts⟩ (k_Bytes_add l G b r n k2 (bl ++ [nI 32 &&& 255, nI cl &&& 255]) hk2 (by rw [l2]; omega) hn (nI m9)) (cwV 1 hts gX2_putGroup_X1_add rfl rfl rfl (by decide +kernel) ⟨Nat.le_of_ble_eq_true rfl, Nat.le_of_ble_eq_true rfl⟩) hB (q0 := 0) (ci := 0) rfl rfl rfl rfl hl.1 rfl (Nat.le_of_ble_eq_true rfl) dX2_putGroup_33 ⟨Nat.le_of_ble_eq_true rfl, Nat.le_of_ble_eq_true rfl⟩ (fun r9 u H locs hw hB => ?_)
    have hpo := hw
    have hB : gB G.1 (rT G) A s H locs [(ev, .inr (1, [.ref po, .ref va, .ref ti, .int (nI E.length), .int (nI wt)])), (po, .inl (G.2.2.2.1, 8, .inl fp)), (va, .inl (G.2.2.2.1, 8, .inl fv)), (ti, .inl (G.2.2.2.1, 8, .inl ft)), (b, .inr (0, [.ref r, .int u.1])), (r, .inl (G.2.2.2.1, n, .inl u.2))] := hB
    rw [if_pos (by rw [l2]; omega)] at hpo
    obtain ⟨-, k3, hk3, rfl⟩ := hpo
    have hB : gB G.1 (rT G) A s H locs [(ev, .inr (1, [.ref po, .ref va, .ref ti, .int (nI E.length), .int (nI wt)])), (po, .inl (G.2.2.2.1, 8, .inl fp)), (va, .inl (G.2.2.2.1, 8, .inl fv)), (ti, .inl (G.2.2.2.1, 8, .inl ft)), (b, .inr (0, [.ref r, .int (nI (bl.length + 3))])), (r, .inl (G.2.2.2.1, n, .inl k3))] := by rw [l2] at hB; exact hB
    refine lv_pop hx hb dX2_putGroup_36 rfl ?_
    refine lv_iconst (v := nI 0) hx hb dX2_putGroup_37 (by decide) ?_
    refine lv_istore (lv' := [(5, .int (nI 0)), (4, .int (nI m9)), (0, .ref ev), (1, .ref b), (2, .int (nI cl)), (3, .int (nI mo))]) hx hb dX2_putGroup_38 hl (by decide) rfl (fun ls hl => ?_)
    have hk3 : pfx k3 (bl ++ [nI 32 &&& 255, nI cl &&& 255, nI m9 &&& 255] ++ evS E 0) := by simpa [evS] using hk3
    have hl : lv_has ls 6 [(5, .int (nI 0)), (4, .int (nI m9)), (0, .ref ev), (1, .ref b), (2, .int (nI cl)), (3, .int (nI mo))] := lv_sub hl [0, 1, 2, 3, 4, 5] rfl
    have hB : gB G.1 (rT G) A s H locs [(ev, .inr (1, [.ref po, .ref va, .ref ti, .int (nI E.length), .int (nI wt)])), (po, .inl (G.2.2.2.1, 8, .inl fp)), (va, .inl (G.2.2.2.1, 8, .inl fv)), (ti, .inl (G.2.2.2.1, 8, .inl ft)), (b, .inr (0, [.ref r, .int (nI (bl.length + 3 + 7 * 0))])), (r, .inl (G.2.2.2.1, n, .inl k3))] := hB
    refine g_loop (σ := Nat × (Nat → Int32)) (fun d xv H locs ls => (xv.1 + d = m9) ∧ (pfx xv.2 (bl ++ [nI 32 &&& 255, nI cl &&& 255, nI m9 &&& 255] ++ evS E xv.1)) ∧ gB G.1 (rT G) A s H locs [(ev, .inr (1, [.ref po, .ref va, .ref ti, .int (nI E.length), .int (nI wt)])), (po, .inl (G.2.2.2.1, 8, .inl fp)), (va, .inl (G.2.2.2.1, 8, .inl fv)), (ti, .inl (G.2.2.2.1, 8, .inl ft)), (b, .inr (0, [.ref r, .int (nI (bl.length + 3 + 7 * xv.1))])), (r, .inl (G.2.2.2.1, n, .inl xv.2))] ∧ lv_has ls 6 [(5, .int (nI xv.1)), (4, .int (nI m9)), (0, .ref ev), (1, .ref b), (2, .int (nI cl)), (3, .int (nI mo))]) m9 (0, k3) ⟨by omega, hk3, hB, hl⟩ ?_
    rintro d ⟨j, g⟩ H locs ls ⟨hj, hg, hB, hl⟩ ih_2
    have hj : j + d = m9 := hj
    have hg : pfx g (bl ++ [nI 32 &&& 255, nI cl &&& 255, nI m9 &&& 255] ++ evS E j) := hg
    have hB : gB G.1 (rT G) A s H locs [(ev, .inr (1, [.ref po, .ref va, .ref ti, .int (nI E.length), .int (nI wt)])), (po, .inl (G.2.2.2.1, 8, .inl fp)), (va, .inl (G.2.2.2.1, 8, .inl fv)), (ti, .inl (G.2.2.2.1, 8, .inl ft)), (b, .inr (0, [.ref r, .int (nI (bl.length + 3 + 7 * j))])), (r, .inl (G.2.2.2.1, n, .inl g))] := hB
    have hl : lv_has ls 6 [(5, .int (nI j)), (4, .int (nI m9)), (0, .ref ev), (1, .ref b), (2, .int (nI cl)), (3, .int (nI mo))] := hl
    have lj : (bl ++ [nI 32 &&& 255, nI cl &&& 255, nI m9 &&& 255] ++ evS E j).length = bl.length + 3 + 7 * j := by rw [List.length_append, List.length_append, evS_len]; rfl
    refine lv_iload hx hb dX2_putGroup_40 (lv_at hl 0 rfl) ?_
    refine lv_iload hx hb dX2_putGroup_42 (lv_at hl 1 rfl) ?_
    refine lv_icmp_ge (tgt := 89) hx hb dX2_putGroup_44 (by decide) (fun c_3 => ?_) (fun c_3 => ?_)
    · have c_3 : m9 ≤ j := (nI_leI (a := m9) (b := j) (by omega) (by omega)).mp c_3
      have hj9 : j = m9 := by omega
      subst hj9
      have eg : grS E cl j = [nI 32 &&& 255, nI cl &&& 255, nI j &&& 255] ++ evS E j := by rw [grS, if_neg (by omega)]
      refine lv_aload_n hx hb dX2_putGroup_89 rfl (lv_at hl 2 rfl) ?_
      refine lv_iload hx hb dX2_putGroup_90 (lv_at hl 1 rfl) ?_
      refine g_put (own := RX2) (C := RX2) (T := TX2) (N := 5) (ci := 1) (v := .int (nI j)) hx hb ([(ev, .inr (1, [.ref po, .ref va, .ref ti, .int (nI E.length), .int (nI j)])), (po, .inl (G.2.2.2.1, 8, .inl fp)), (va, .inl (G.2.2.2.1, 8, .inl fv)), (ti, .inl (G.2.2.2.1, 8, .inl ft)), (b, .inr (0, [.ref r, .int (nI (bl.length + 3 + 7 * j))])), (r, .inl (G.2.2.2.1, n, .inl g))]) hts (fun _ h => List.mem_cons_of_mem _ (List.mem_append_left _ (List.mem_append_right _ h))) tyX2 tyX2_ok nmX2 hown hB 0 rfl rfl 4 (by decide) (hts (.fieldLink RX2 29 "PointReports$Events" "waiting" "I") (by decide +kernel)) rfl rfl (ty := .int) rfl rfl rfl (Nat.le_of_ble_eq_true rfl) rfl dX2_putGroup_92 (fun H locs hB => ?_)
      refine lv_iload hx hb dX2_putGroup_95 (lv_at hl 1 rfl) ?_
      have le : (bl ++ grS E cl j).length = bl.length + 3 + 7 * j := by rw [eg, ← List.append_assoc]; exact lj
      have hB : gB G.1 (rT G) A s H locs [(ev, .inr (1, [.ref po, .ref va, .ref ti, .int (nI E.length), .int (nI j)])), (po, .inl (G.2.2.2.1, 8, .inl fp)), (va, .inl (G.2.2.2.1, 8, .inl fv)), (ti, .inl (G.2.2.2.1, 8, .inl ft)), (b, .inr (0, [.ref r, .int (nI (bl.length + 3 + 7 * j))])), (r, .inl (G.2.2.2.1, n, .inl g))] := hB.order [0, 1, 2, 3, 4, 5] (by decide) rfl rfl
      exact g_iret (Wd := fun u => eW G ev po va ti u.1 ++ bW G b r n u.2) (v := nI j) ((nI E.length, nI j, fp, fv, ft), (nI (bl.length + 3 + 7 * j), g)) hB hx hb hr hlocks rfl ⟨rfl, g, by rw [eg, ← List.append_assoc]; exact hg, by rw [if_neg (by omega), le]⟩ dX2_putGroup_97
    · have c_3 : ¬ m9 ≤ j := fun h9 => c_3 ((nI_leI (a := m9) (b := j) (by omega) (by omega)).mpr h9)
      obtain ⟨a1, a2, a3⟩ := evC_at hE (k := j) (by omega)
      refine lv_aload_n hx hb dX2_putGroup_47 rfl (lv_at hl 3 rfl) ?_
      refine lv_aload_n hx hb dX2_putGroup_48 rfl (lv_at hl 2 rfl) ?_
      refine g_get (own := RX2) (C := RX2) (T := TX2) (N := 5) (ci := 1) (v := .ref po) hx hb hts (fun _ h => List.mem_cons_of_mem _ (List.mem_append_left _ (List.mem_append_right _ h))) hown hB 0 rfl rfl 0 (by decide) (hts (.fieldLink RX2 11 "PointReports$Events" "points" "[I") (by decide +kernel)) rfl rfl dX2_putGroup_49 ?_
      refine lv_iload hx hb dX2_putGroup_52 (lv_at hl 0 rfl) ?_
      refine g_ald hx hb hB 1 0 rfl rfl j rfl (by omega) (by omega) dX2_putGroup_54 ?_
      refine g_top (y := (E.getD j (0, 0, 0)).1) a1 ?_
      have hB : gB G.1 (rT G) A s H locs [(ev, .inr (1, [.ref po, .ref va, .ref ti, .int (nI E.length), .int (nI wt)])), (po, .inl (G.2.2.2.1, 8, .inl fp)), (va, .inl (G.2.2.2.1, 8, .inl fv)), (ti, .inl (G.2.2.2.1, 8, .inl ft)), (b, .inr (0, [.ref r, .int (nI ((bl ++ [nI 32 &&& 255, nI cl &&& 255, nI m9 &&& 255] ++ evS E j).length))])), (r, .inl (G.2.2.2.1, n, .inl g))] := by rw [lj]; exact hB
      refine g_calliA (wr := [(ev, .inr (1, [.ref po, .ref va, .ref ti, .int (nI E.length), .int (nI wt)])), (po, .inl (G.2.2.2.1, 8, .inl fp)), (va, .inl (G.2.2.2.1, 8, .inl fv)), (ti, .inl (G.2.2.2.1, 8, .inl ft))]) (wc := [(b, .inr (0, [.ref r, .int (nI ((bl ++ [nI 32 &&& 255, nI cl &&& 255, nI m9 &&& 255] ++ evS E j).length))])), (r, .inl (G.2.2.2.1, n, .inl g))]) (av := [.int ((E.getD j (0, 0, 0)).1)]) (rest := []) ⟨hx, hb, hml, hown, hts⟩ (k_Bytes_add l G b r n g (bl ++ [nI 32 &&& 255, nI cl &&& 255, nI m9 &&& 255] ++ evS E j) hg (by rw [lj]; omega) hn ((E.getD j (0, 0, 0)).1)) (cwV 1 hts gX2_putGroup_X1_add rfl rfl rfl (by decide +kernel) ⟨Nat.le_of_ble_eq_true rfl, Nat.le_of_ble_eq_true rfl⟩) hB (q0 := 0) (ci := 0) rfl rfl rfl rfl hl.1 rfl (Nat.le_of_ble_eq_true rfl) dX2_putGroup_55 ⟨Nat.le_of_ble_eq_true rfl, Nat.le_of_ble_eq_true rfl⟩ (fun r9 u H locs hw hB => ?_)
      have hpo := hw
      have hB : gB G.1 (rT G) A s H locs [(ev, .inr (1, [.ref po, .ref va, .ref ti, .int (nI E.length), .int (nI wt)])), (po, .inl (G.2.2.2.1, 8, .inl fp)), (va, .inl (G.2.2.2.1, 8, .inl fv)), (ti, .inl (G.2.2.2.1, 8, .inl ft)), (b, .inr (0, [.ref r, .int u.1])), (r, .inl (G.2.2.2.1, n, .inl u.2))] := hB
      rw [if_pos (by rw [lj]; omega)] at hpo
      obtain ⟨-, g1, hg1, rfl⟩ := hpo
      have hB : gB G.1 (rT G) A s H locs [(ev, .inr (1, [.ref po, .ref va, .ref ti, .int (nI E.length), .int (nI wt)])), (po, .inl (G.2.2.2.1, 8, .inl fp)), (va, .inl (G.2.2.2.1, 8, .inl fv)), (ti, .inl (G.2.2.2.1, 8, .inl ft)), (b, .inr (0, [.ref r, .int (nI (bl.length + 3 + 7 * j + 1))])), (r, .inl (G.2.2.2.1, n, .inl g1))] := by rw [lj] at hB; exact hB
      have lj1 : (bl ++ [nI 32 &&& 255, nI cl &&& 255, nI m9 &&& 255] ++ evS E j ++ [(E.getD j (0, 0, 0)).1 &&& 255]).length = bl.length + 3 + 7 * j + 1 := by rw [List.length_append, lj]; rfl
      refine lv_pop hx hb dX2_putGroup_58 rfl ?_
      refine lv_aload_n hx hb dX2_putGroup_59 rfl (lv_at hl 3 rfl) ?_
      refine lv_aload_n hx hb dX2_putGroup_60 rfl (lv_at hl 2 rfl) ?_
      refine g_get (own := RX2) (C := RX2) (T := TX2) (N := 5) (ci := 1) (v := .ref va) hx hb hts (fun _ h => List.mem_cons_of_mem _ (List.mem_append_left _ (List.mem_append_right _ h))) hown hB 0 rfl rfl 1 (by decide) (hts (.fieldLink RX2 15 "PointReports$Events" "values" "[I") (by decide +kernel)) rfl rfl dX2_putGroup_61 ?_
      refine lv_iload hx hb dX2_putGroup_64 (lv_at hl 0 rfl) ?_
      refine g_ald hx hb hB 2 0 rfl rfl j rfl (by omega) (by omega) dX2_putGroup_66 ?_
      refine g_top (y := (E.getD j (0, 0, 0)).2.1) a2 ?_
      refine lv_iconst (v := nI 2) hx hb dX2_putGroup_67 (by decide) ?_
      have hB : gB G.1 (rT G) A s H locs [(ev, .inr (1, [.ref po, .ref va, .ref ti, .int (nI E.length), .int (nI wt)])), (po, .inl (G.2.2.2.1, 8, .inl fp)), (va, .inl (G.2.2.2.1, 8, .inl fv)), (ti, .inl (G.2.2.2.1, 8, .inl ft)), (b, .inr (0, [.ref r, .int (nI ((bl ++ [nI 32 &&& 255, nI cl &&& 255, nI m9 &&& 255] ++ evS E j ++ [(E.getD j (0, 0, 0)).1 &&& 255]).length))])), (r, .inl (G.2.2.2.1, n, .inl g1))] := by rw [lj1]; exact hB
      refine g_callvA (wr := [(ev, .inr (1, [.ref po, .ref va, .ref ti, .int (nI E.length), .int (nI wt)])), (po, .inl (G.2.2.2.1, 8, .inl fp)), (va, .inl (G.2.2.2.1, 8, .inl fv)), (ti, .inl (G.2.2.2.1, 8, .inl ft))]) (wc := [(b, .inr (0, [.ref r, .int (nI ((bl ++ [nI 32 &&& 255, nI cl &&& 255, nI m9 &&& 255] ++ evS E j ++ [(E.getD j (0, 0, 0)).1 &&& 255]).length))])), (r, .inl (G.2.2.2.1, n, .inl g1))]) (av := [.int ((E.getD j (0, 0, 0)).2.1), .int (nI 2)]) (rest := []) ⟨hx, hb, hml, hown, hts⟩ (k_Bytes_addNumber l G b r n g1 (bl ++ [nI 32 &&& 255, nI cl &&& 255, nI m9 &&& 255] ++ evS E j ++ [(E.getD j (0, 0, 0)).1 &&& 255]) hg1 (by rw [lj1]; omega) hn (E.getD j (0, 0, 0)).2.1 2 (by decide) (by rw [lj1]; omega)) (cwV 2 hts gX2_putGroup_X1_addNumber rfl rfl rfl (by decide +kernel) ⟨Nat.le_of_ble_eq_true rfl, Nat.le_of_ble_eq_true rfl⟩) hB (q0 := 0) (ci := 0) rfl rfl rfl rfl hl.1 rfl (Nat.le_of_ble_eq_true rfl) dX2_putGroup_68 ⟨Nat.le_of_ble_eq_true rfl, Nat.le_of_ble_eq_true rfl⟩ (fun u H locs hw hB => ?_)
      obtain ⟨g2, hg2, rfl⟩ := hw
      have hB : gB G.1 (rT G) A s H locs [(ev, .inr (1, [.ref po, .ref va, .ref ti, .int (nI E.length), .int (nI wt)])), (po, .inl (G.2.2.2.1, 8, .inl fp)), (va, .inl (G.2.2.2.1, 8, .inl fv)), (ti, .inl (G.2.2.2.1, 8, .inl ft)), (b, .inr (0, [.ref r, .int (nI ((bl ++ [nI 32 &&& 255, nI cl &&& 255, nI m9 &&& 255] ++ evS E j ++ [(E.getD j (0, 0, 0)).1 &&& 255]).length + 2))])), (r, .inl (G.2.2.2.1, n, .inl g2))] := hB
      have hB : gB G.1 (rT G) A s H locs [(ev, .inr (1, [.ref po, .ref va, .ref ti, .int (nI E.length), .int (nI wt)])), (po, .inl (G.2.2.2.1, 8, .inl fp)), (va, .inl (G.2.2.2.1, 8, .inl fv)), (ti, .inl (G.2.2.2.1, 8, .inl ft)), (b, .inr (0, [.ref r, .int (nI (bl.length + 3 + 7 * j + 3))])), (r, .inl (G.2.2.2.1, n, .inl g2))] := by rw [lj1] at hB; exact hB
      have lj2 : (bl ++ [nI 32 &&& 255, nI cl &&& 255, nI m9 &&& 255] ++ evS E j ++ [(E.getD j (0, 0, 0)).1 &&& 255] ++ bN (E.getD j (0, 0, 0)).2.1 2).length = bl.length + 3 + 7 * j + 3 := by rw [List.length_append, lj1, bN_len]
      refine lv_aload_n hx hb dX2_putGroup_71 rfl (lv_at hl 3 rfl) ?_
      refine lv_aload_n hx hb dX2_putGroup_72 rfl (lv_at hl 2 rfl) ?_
      refine g_get (own := RX2) (C := RX2) (T := TX2) (N := 5) (ci := 1) (v := .ref ti) hx hb hts (fun _ h => List.mem_cons_of_mem _ (List.mem_append_left _ (List.mem_append_right _ h))) hown hB 0 rfl rfl 2 (by decide) (hts (.fieldLink RX2 18 "PointReports$Events" "times" "[I") (by decide +kernel)) rfl rfl dX2_putGroup_73 ?_
      refine lv_iload hx hb dX2_putGroup_76 (lv_at hl 0 rfl) ?_
      refine g_ald hx hb hB 3 0 rfl rfl j rfl (by omega) (by omega) dX2_putGroup_78 ?_
      refine g_top (y := (E.getD j (0, 0, 0)).2.2) a3 ?_
      refine lv_iconst (v := nI 4) hx hb dX2_putGroup_79 (by decide) ?_
      have hB : gB G.1 (rT G) A s H locs [(ev, .inr (1, [.ref po, .ref va, .ref ti, .int (nI E.length), .int (nI wt)])), (po, .inl (G.2.2.2.1, 8, .inl fp)), (va, .inl (G.2.2.2.1, 8, .inl fv)), (ti, .inl (G.2.2.2.1, 8, .inl ft)), (b, .inr (0, [.ref r, .int (nI ((bl ++ [nI 32 &&& 255, nI cl &&& 255, nI m9 &&& 255] ++ evS E j ++ [(E.getD j (0, 0, 0)).1 &&& 255] ++ bN (E.getD j (0, 0, 0)).2.1 2).length))])), (r, .inl (G.2.2.2.1, n, .inl g2))] := by rw [lj2]; exact hB
      refine g_callvA (wr := [(ev, .inr (1, [.ref po, .ref va, .ref ti, .int (nI E.length), .int (nI wt)])), (po, .inl (G.2.2.2.1, 8, .inl fp)), (va, .inl (G.2.2.2.1, 8, .inl fv)), (ti, .inl (G.2.2.2.1, 8, .inl ft))]) (wc := [(b, .inr (0, [.ref r, .int (nI ((bl ++ [nI 32 &&& 255, nI cl &&& 255, nI m9 &&& 255] ++ evS E j ++ [(E.getD j (0, 0, 0)).1 &&& 255] ++ bN (E.getD j (0, 0, 0)).2.1 2).length))])), (r, .inl (G.2.2.2.1, n, .inl g2))]) (av := [.int ((E.getD j (0, 0, 0)).2.2), .int (nI 4)]) (rest := []) ⟨hx, hb, hml, hown, hts⟩ (k_Bytes_addNumber l G b r n g2 (bl ++ [nI 32 &&& 255, nI cl &&& 255, nI m9 &&& 255] ++ evS E j ++ [(E.getD j (0, 0, 0)).1 &&& 255] ++ bN (E.getD j (0, 0, 0)).2.1 2) hg2 (by rw [lj2]; omega) hn (E.getD j (0, 0, 0)).2.2 4 (by decide) (by rw [lj2]; omega)) (cwV 2 hts gX2_putGroup_X1_addNumber rfl rfl rfl (by decide +kernel) ⟨Nat.le_of_ble_eq_true rfl, Nat.le_of_ble_eq_true rfl⟩) hB (q0 := 0) (ci := 0) rfl rfl rfl rfl hl.1 rfl (Nat.le_of_ble_eq_true rfl) dX2_putGroup_80 ⟨Nat.le_of_ble_eq_true rfl, Nat.le_of_ble_eq_true rfl⟩ (fun u H locs hw hB => ?_)
      obtain ⟨g3, hg3, rfl⟩ := hw
      have hB : gB G.1 (rT G) A s H locs [(ev, .inr (1, [.ref po, .ref va, .ref ti, .int (nI E.length), .int (nI wt)])), (po, .inl (G.2.2.2.1, 8, .inl fp)), (va, .inl (G.2.2.2.1, 8, .inl fv)), (ti, .inl (G.2.2.2.1, 8, .inl ft)), (b, .inr (0, [.ref r, .int (nI ((bl ++ [nI 32 &&& 255, nI cl &&& 255, nI m9 &&& 255] ++ evS E j ++ [(E.getD j (0, 0, 0)).1 &&& 255] ++ bN (E.getD j (0, 0, 0)).2.1 2).length + 4))])), (r, .inl (G.2.2.2.1, n, .inl g3))] := hB
      have hB : gB G.1 (rT G) A s H locs [(ev, .inr (1, [.ref po, .ref va, .ref ti, .int (nI E.length), .int (nI wt)])), (po, .inl (G.2.2.2.1, 8, .inl fp)), (va, .inl (G.2.2.2.1, 8, .inl fv)), (ti, .inl (G.2.2.2.1, 8, .inl ft)), (b, .inr (0, [.ref r, .int (nI (bl.length + 3 + 7 * (j + 1)))])), (r, .inl (G.2.2.2.1, n, .inl g3))] := by rw [lj2] at hB; exact hB
      refine lv_iinc (v := nI (j + 1)) (lv' := [(5, .int (nI (j + 1))), (4, .int (nI m9)), (0, .ref ev), (1, .ref b), (2, .int (nI cl)), (3, .int (nI mo))]) hx hb dX2_putGroup_83 hl (k := 0) rfl (nI_add _ _) (by decide) rfl (fun ls hl => ?_)
      refine lv_goto (tgt := 40) hx hb dX2_putGroup_86 (by decide) ?_
      have hl : lv_has ls 6 [(5, .int (nI (j + 1))), (4, .int (nI m9)), (0, .ref ev), (1, .ref b), (2, .int (nI cl)), (3, .int (nI mo))] := lv_sub hl [0, 1, 2, 3, 4, 5] rfl
      have hB : gB G.1 (rT G) A s H locs [(ev, .inr (1, [.ref po, .ref va, .ref ti, .int (nI E.length), .int (nI wt)])), (po, .inl (G.2.2.2.1, 8, .inl fp)), (va, .inl (G.2.2.2.1, 8, .inl fv)), (ti, .inl (G.2.2.2.1, 8, .inl ft)), (b, .inr (0, [.ref r, .int (nI (bl.length + 3 + 7 * (j + 1)))])), (r, .inl (G.2.2.2.1, n, .inl g3))] := hB
      have b_4 : (j + 1) + (m9 - (j + 1)) = m9 := by omega
      have b_5 : pfx g3 (bl ++ [nI 32 &&& 255, nI cl &&& 255, nI m9 &&& 255] ++ evS E (j + 1)) := by rw [evS]; simpa [List.append_assoc] using hg3
      exact ih_2 (m9 - (j + 1)) (j + 1, g3) H locs ls (by omega) ⟨b_4, b_5, hB, hl⟩
  · have c_1 : ¬ 0 < m9 := fun h9 => c_1 ((nI_ltI (a := 0) (b := m9) (by omega) (by omega)).mpr h9)
    have h0 : m9 = 0 := by omega
    subst h0
    refine lv_iconst (v := nI 0) hx hb dX2_putGroup_15 (by decide) ?_
    have eg : grS E cl 0 = [] := rfl
    refine g_iret (Wd := fun u => eW G ev po va ti u.1 ++ bW G b r n u.2) (v := nI 0) ((nI E.length, nI wt, fp, fv, ft), (nI bl.length, f)) hB hx hb hr hlocks rfl ?_ dX2_putGroup_16
    exact ⟨rfl, f, by rw [eg, List.append_nil]; exact hp, by rw [if_pos rfl, eg, List.append_nil]⟩
