/-! WHAT A FRAGMENT HOLDS: what is so, groups of events -/
def ptN (v : Nat → Int32) : Nat → List Int32
  | 0 => []
  | n + 1 => ptN v n ++ ([nI n &&& 255] ++ bN (v n) 2)
theorem ptN_len (v : Nat → Int32) (n : Nat) : (ptN v n).length = 3 * n := by
  induction n with
  | zero => rfl
  | succ n ih => rw [ptN, List.length_append, ih, List.length_append, bN_len, List.length_singleton]; omega
def ptG (v : Nat → Int32) : List Int32 := [nI 30 &&& 255, nI 2 &&& 255, nI 10 &&& 255] ++ ptN v 10
def evN (po va ti : Nat → Int32) (a : Nat) : Nat → List Int32
  | 0 => []
  | n + 1 => evN po va ti a n ++ ([po (a + n) &&& 255] ++ bN (va (a + n)) 2 ++ bN (ti (a + n)) 4)
theorem evN_len (po va ti : Nat → Int32) (a n : Nat) : (evN po va ti a n).length = 7 * n := by
  induction n with
  | zero => rfl
  | succ n ih => rw [evN, List.length_append, ih, List.length_append, List.length_append, bN_len, bN_len, List.length_singleton]; omega
/-- a group of n events of class c -/
def grN (po va ti : Nat → Int32) (c n : Nat) : List Int32 := if n = 0 then [] else [nI 32 &&& 255, nI c &&& 255, nI n &&& 255] ++ evN po va ti (8 * c) n
set_option maxRecDepth 100000 in
set_option maxHeartbeats 4000000 in
/-- putPoints() -/
theorem c_putPoints (l : Launch) (G : rG) (sc : Nat → Int32) (ar : Nat → Nat → Int32) (lst : List Int32) (hp : pfx (ar 39) lst) (h40 : sc 40 = nI lst.length) (hlt : lst.length + 33 ≤ 400) : gM l G.1 (rT G) yX12_putPoints wsX12_putPoints ({ frames := 2, cells := 0, slots := 0, locals := 44 }) [.ref G.2.1] (rWs G (sc, ar)) (gQv G.1 (rT G) (fun u : rSt => ∃ f, pfx f (lst ++ ptG (ar 2)) ∧ u = (upd sc 40 (nI (lst.length + 33)), va_up ar 39 f)) (rWs G)) 0 0 := by
  refine gM.of (cc := cX12_putPoints) (maxL := 2) (ret := none) (by decide) rfl (Nat.le_of_ble_eq_true rfl) ?_
  intro p e s m below meth c A ls hx hb hr hml hown hts hlocks hnm hB hl
  have hin : ∀ w ∈ wsX120, w ∈ wsX12_putPoints := fun w h => List.mem_cons_of_mem _ (List.mem_append_right _ h)
  have hl : lv_has ls 2 [(0, .ref G.2.1)] := hl
  refine lv_aload_n hx hb dX12_putPoints_0 rfl (lv_at hl 0 rfl) ?_
  refine lv_bipush (v := nI 30) hx hb dX12_putPoints_1 (by decide) ?_
  refine g_callv (av := [.int (nI 30)]) (rest := []) ⟨hx, hb, hml, hown, hts⟩ (c_put l G sc ar (nI 30) (lst) hp (by exact h40) (by first | omega | (simp; omega))) (cwV 1 hts gX12_putPoints_X12_put rfl rfl rfl (by decide +kernel) ⟨Nat.le_of_ble_eq_true rfl, Nat.le_of_ble_eq_true rfl⟩) hB (q0 := 0) (ci := 9) rfl rfl rfl rfl hl.1 rfl (Nat.le_of_ble_eq_true rfl) dX12_putPoints_3 ⟨Nat.le_of_ble_eq_true rfl, Nat.le_of_ble_eq_true rfl⟩ (fun u H locs hw hB => ?_)
  obtain ⟨f1, hf1, rfl⟩ := hw
  have hB : gB G.1 (rT G) A s H locs (rWs G (upd sc 40 (nI (lst.length + 1)), va_up ar 39 f1)) := hB
  refine lv_aload_n hx hb dX12_putPoints_6 rfl (lv_at hl 0 rfl) ?_
  refine lv_iconst (v := nI 2) hx hb dX12_putPoints_7 (by decide) ?_
  have hf1 : pfx f1 (lst ++ [nI 30 &&& 255]) := by simpa using hf1
  refine g_callv (av := [.int (nI 2)]) (rest := []) ⟨hx, hb, hml, hown, hts⟩ (c_put l G (upd sc 40 (nI (lst.length + 1))) (va_up ar 39 f1) (nI 2) (lst ++ [nI 30 &&& 255]) hf1 (by rw [List.length_append]; rfl) (by first | omega | (simp; omega))) (cwV 1 hts gX12_putPoints_X12_put rfl rfl rfl (by decide +kernel) ⟨Nat.le_of_ble_eq_true rfl, Nat.le_of_ble_eq_true rfl⟩) hB (q0 := 0) (ci := 9) rfl rfl rfl rfl hl.1 rfl (Nat.le_of_ble_eq_true rfl) dX12_putPoints_8 ⟨Nat.le_of_ble_eq_true rfl, Nat.le_of_ble_eq_true rfl⟩ (fun u H locs hw hB => ?_)
  obtain ⟨f2, hf2, rfl⟩ := hw
  have hB : gB G.1 (rT G) A s H locs (rWs G (upd sc 40 (nI (lst.length + 2)), va_up ar 39 f2)) := by have e9 : (lst ++ [nI 30 &&& 255]).length + 1 = lst.length + 2 := (by rw [List.length_append]; rfl); rw [e9] at hB; exact hB
  refine lv_aload_n hx hb dX12_putPoints_11 rfl (lv_at hl 0 rfl) ?_
  refine lv_bipush (v := nI 10) hx hb dX12_putPoints_12 (by decide) ?_
  have hf2 : pfx f2 (lst ++ [nI 30 &&& 255, nI 2 &&& 255]) := by simpa using hf2
  refine g_callv (av := [.int (nI 10)]) (rest := []) ⟨hx, hb, hml, hown, hts⟩ (c_put l G (upd sc 40 (nI (lst.length + 2))) (va_up ar 39 f2) (nI 10) (lst ++ [nI 30 &&& 255, nI 2 &&& 255]) hf2 (by rw [List.length_append]; rfl) (by first | omega | (simp; omega))) (cwV 1 hts gX12_putPoints_X12_put rfl rfl rfl (by decide +kernel) ⟨Nat.le_of_ble_eq_true rfl, Nat.le_of_ble_eq_true rfl⟩) hB (q0 := 0) (ci := 9) rfl rfl rfl rfl hl.1 rfl (Nat.le_of_ble_eq_true rfl) dX12_putPoints_14 ⟨Nat.le_of_ble_eq_true rfl, Nat.le_of_ble_eq_true rfl⟩ (fun u H locs hw hB => ?_)
  obtain ⟨f3, hf3, rfl⟩ := hw
  have hB : gB G.1 (rT G) A s H locs (rWs G (upd sc 40 (nI (lst.length + 3)), va_up ar 39 f3)) := by have e9 : (lst ++ [nI 30 &&& 255, nI 2 &&& 255]).length + 1 = lst.length + 3 := (by rw [List.length_append]; rfl); rw [e9] at hB; exact hB
  refine lv_iconst (v := nI 0) hx hb dX12_putPoints_17 (by decide) ?_
  refine lv_istore_n (lv' := [(1, .int (nI 0)), (0, .ref G.2.1)]) hx hb dX12_putPoints_18 rfl hl (by decide) rfl (fun ls hl => ?_)
  have hf3 : pfx f3 (lst ++ [nI 30 &&& 255, nI 2 &&& 255, nI 10 &&& 255] ++ ptN (ar 2) 0) := by simpa [ptN] using hf3
  have hl : lv_has ls 2 [(1, .int (nI 0)), (0, .ref G.2.1)] := lv_sub hl [0, 1] rfl
  have hB : gB G.1 (rT G) A s H locs (rWs G (upd sc 40 (nI (lst.length + 3 + 3 * 0)), va_up ar 39 f3)) := hB
  refine g_loop (σ := Nat × (Nat → Int32)) (fun d xv H locs ls => (xv.1 + d = 10) ∧ (pfx xv.2 (lst ++ [nI 30 &&& 255, nI 2 &&& 255, nI 10 &&& 255] ++ ptN (ar 2) xv.1)) ∧ gB G.1 (rT G) A s H locs (rWs G (upd sc 40 (nI (lst.length + 3 + 3 * xv.1)), va_up ar 39 xv.2)) ∧ lv_has ls 2 [(1, .int (nI xv.1)), (0, .ref G.2.1)]) 10 (0, f3) ⟨by omega, hf3, hB, hl⟩ ?_
  rintro d ⟨k, f⟩ H locs ls ⟨hk, hf, hB, hl⟩ ih_1
  have hk : k + d = 10 := hk
  have hf : pfx f (lst ++ [nI 30 &&& 255, nI 2 &&& 255, nI 10 &&& 255] ++ ptN (ar 2) k) := hf
  have hB : gB G.1 (rT G) A s H locs (rWs G (upd sc 40 (nI (lst.length + 3 + 3 * k)), va_up ar 39 f)) := hB
  have hl : lv_has ls 2 [(1, .int (nI k)), (0, .ref G.2.1)] := hl
  refine lv_iload_n hx hb dX12_putPoints_19 rfl (lv_at hl 0 rfl) ?_
  refine lv_bipush (v := nI 10) hx hb dX12_putPoints_20 (by decide) ?_
  refine lv_icmp_ge (tgt := 47) hx hb dX12_putPoints_22 (by decide) (fun c_2 => ?_) (fun c_2 => ?_)
  · have c_2 : 10 ≤ k := (nI_leI (a := 10) (b := k) (by omega) (by omega)).mp c_2
    have hk9 : k = 10 := by omega
    exact g_vret (Wd := rWs G) (upd sc 40 (nI (lst.length + 3 + 3 * k)), va_up ar 39 f) hB hx hb hr hlocks rfl ⟨f, by rw [hk9] at hf; rw [ptG, ← List.append_assoc]; exact hf, by rw [show lst.length + 33 = lst.length + 3 + 3 * k by omega]⟩ dX12_putPoints_47
  · have c_2 : ¬ 10 ≤ k := fun h9 => c_2 ((nI_leI (a := 10) (b := k) (by omega) (by omega)).mpr h9)
    refine lv_aload_n hx hb dX12_putPoints_25 rfl (lv_at hl 1 rfl) ?_
    refine lv_iload_n hx hb dX12_putPoints_26 rfl (lv_at hl 0 rfl) ?_
    have en : (lst ++ [nI 30 &&& 255, nI 2 &&& 255, nI 10 &&& 255] ++ ptN (ar 2) k).length = lst.length + 3 + 3 * k := by rw [List.length_append, List.length_append, ptN_len]; rfl
    refine g_callv (av := [.int (nI k)]) (rest := []) ⟨hx, hb, hml, hown, hts⟩ (c_put l G (upd sc 40 (nI (lst.length + 3 + 3 * k))) (va_up ar 39 f) (nI k) (lst ++ [nI 30 &&& 255, nI 2 &&& 255, nI 10 &&& 255] ++ ptN (ar 2) k) hf (by rw [en]; rfl) (by rw [en]; omega)) (cwV 1 hts gX12_putPoints_X12_put rfl rfl rfl (by decide +kernel) ⟨Nat.le_of_ble_eq_true rfl, Nat.le_of_ble_eq_true rfl⟩) hB (q0 := 0) (ci := 9) rfl rfl rfl rfl hl.1 rfl (Nat.le_of_ble_eq_true rfl) dX12_putPoints_27 ⟨Nat.le_of_ble_eq_true rfl, Nat.le_of_ble_eq_true rfl⟩ (fun u H locs hw hB => ?_)
    obtain ⟨g1, hg1, rfl⟩ := hw
    have hB : gB G.1 (rT G) A s H locs (rWs G (upd sc 40 (nI (lst.length + 3 + 3 * k + 1)), va_up ar 39 g1)) := by rw [en] at hB; exact hB
    refine lv_aload_n hx hb dX12_putPoints_30 rfl (lv_at hl 1 rfl) ?_
    refine lv_aload_n hx hb dX12_putPoints_31 rfl (lv_at hl 1 rfl) ?_
    refine r_get (u := (upd sc 40 (nI (lst.length + 3 + 3 * k + 1)), va_up ar 39 g1)) (v := .ref (G.2.2.1 2)) hx hb hts hin hown hB 2 (by decide) (hts (.fieldLink RX12 13 "PointReportsModel" "values" "[I") (by decide +kernel)) rfl rfl dX12_putPoints_32 ?_
    refine lv_iload_n hx hb dX12_putPoints_35 rfl (lv_at hl 0 rfl) ?_
    refine r_ald (u := (upd sc 40 (nI (lst.length + 3 + 3 * k + 1)), va_up ar 39 g1)) (f := ar 2) hx hb hB 2 rfl k rfl (by omega) (by decide) dX12_putPoints_36 ?_
    refine lv_iconst (v := nI 2) hx hb dX12_putPoints_37 (by decide) ?_
    have en2 : (lst ++ [nI 30 &&& 255, nI 2 &&& 255, nI 10 &&& 255] ++ ptN (ar 2) k ++ [nI k &&& 255]).length = lst.length + 3 + 3 * k + 1 := by rw [List.length_append, en]; rfl
    refine g_callv (av := [.int ((ar 2) k), .int (nI 2)]) (rest := []) ⟨hx, hb, hml, hown, hts⟩ (c_putMany l G (upd sc 40 (nI (lst.length + 3 + 3 * k + 1))) (va_up ar 39 g1) (ar 2 k) 2 (by decide) (lst ++ [nI 30 &&& 255, nI 2 &&& 255, nI 10 &&& 255] ++ ptN (ar 2) k ++ [nI k &&& 255]) hg1 (by rw [en2]; rfl) (by rw [en2]; omega)) (cwV 2 hts gX12_putPoints_X12_putMany rfl rfl rfl (by decide +kernel) ⟨Nat.le_of_ble_eq_true rfl, Nat.le_of_ble_eq_true rfl⟩) hB (q0 := 0) (ci := 9) rfl rfl rfl rfl hl.1 rfl (Nat.le_of_ble_eq_true rfl) dX12_putPoints_38 ⟨Nat.le_of_ble_eq_true rfl, Nat.le_of_ble_eq_true rfl⟩ (fun u H locs hw hB => ?_)
    obtain ⟨g2, hg2, rfl⟩ := hw
    have hB : gB G.1 (rT G) A s H locs (rWs G (upd sc 40 (nI (lst.length + 3 + 3 * (k + 1))), va_up ar 39 g2)) := by rw [en2] at hB; exact hB
    refine lv_iinc (v := nI (k + 1)) (lv' := [(1, .int (nI (k + 1))), (0, .ref G.2.1)]) hx hb dX12_putPoints_41 hl (k := 0) rfl (nI_add _ _) (by decide) rfl (fun ls hl => ?_)
    refine lv_goto (tgt := 19) hx hb dX12_putPoints_44 (by decide) ?_
    have hl : lv_has ls 2 [(1, .int (nI (k + 1))), (0, .ref G.2.1)] := lv_sub hl [0, 1] rfl
    have hB : gB G.1 (rT G) A s H locs (rWs G (upd sc 40 (nI (lst.length + 3 + 3 * (k + 1))), va_up ar 39 g2)) := hB
    have b_3 : (k + 1) + (10 - (k + 1)) = 10 := by omega
    have b_4 : pfx g2 (lst ++ [nI 30 &&& 255, nI 2 &&& 255, nI 10 &&& 255] ++ ptN (ar 2) (k + 1)) := by rw [ptN]; simpa [List.append_assoc] using hg2
    exact ih_1 (10 - (k + 1)) (k + 1, g2) H locs ls (by omega) ⟨b_3, b_4, hB, hl⟩
set_option maxRecDepth 100000 in
set_option maxHeartbeats 4000000 in
/-- putEvents(c, most) -/
theorem c_putEvents (l : Launch) (G : rG) (sc : Nat → Int32) (ar : Nat → Nat → Int32) (c1 kc most : Nat) (hc1 : 1 ≤ c1) (hc3 : c1 ≤ 3) (hkc : ar 4 c1 = nI kc) (hk8 : kc ≤ 8) (hm16 : most ≤ 16) (lst : List Int32) (hp : pfx (ar 39) lst) (h40 : sc 40 = nI lst.length) (hlt : lst.length + 59 ≤ 400) : gM l G.1 (rT G) yX12_putEvents wsX12_putEvents ({ frames := 2, cells := 0, slots := 0, locals := 44 }) [.ref G.2.1, .int (nI c1), .int (nI most)] (rWs G (sc, ar)) (gQi G.1 (rT G) (fun (r : Int32) (u : rSt) => r = nI (if kc < most then kc else most) ∧ ∃ f wa, pfx f (lst ++ grN (ar 5) (ar 6) (ar 7) c1 (if kc < most then kc else most)) ∧ (∀ j, wa j = if 8 * c1 ≤ j ∧ j < 8 * c1 + (if kc < most then kc else most) then 1 else ar 8 j) ∧ u = (upd sc 40 (nI (lst ++ grN (ar 5) (ar 6) (ar 7) c1 (if kc < most then kc else most)).length), va_up (va_up ar 8 wa) 39 f)) (rWs G)) 0 0 := by
  refine gM.of (cc := cX12_putEvents) (maxL := 5) (ret := (some .int)) (by decide) rfl (Nat.le_of_ble_eq_true rfl) ?_
  intro p e s m below meth c A ls hx hb hr hml hown hts hlocks hnm hB hl
  have hin : ∀ w ∈ wsX120, w ∈ wsX12_putEvents := fun w h => List.mem_cons_of_mem _ (List.mem_append_right _ h)
  have hl : lv_has ls 5 [(0, .ref G.2.1), (1, .int (nI c1)), (2, .int (nI most))] := hl
  refine lv_aload_n hx hb dX12_putEvents_0 rfl (lv_at hl 0 rfl) ?_
  refine r_get (u := (sc, ar)) (v := .ref (G.2.2.1 4)) hx hb hts hin hown hB 4 (by decide) (hts (.fieldLink RX12 19 "PointReportsModel" "kept" "[I") (by decide +kernel)) rfl rfl dX12_putEvents_1 ?_
  refine lv_iload_n hx hb dX12_putEvents_4 rfl (lv_at hl 1 rfl) ?_
  refine r_ald (u := (sc, ar)) (f := ar 4) hx hb hB 4 rfl c1 rfl (by omega) (by decide) dX12_putEvents_5 ?_
  refine g_top (y := nI kc) hkc ?_
  refine lv_iload_n hx hb dX12_putEvents_6 rfl (lv_at hl 2 rfl) ?_
  refine g_cut (σ := Unit) 20 (fun _ H locs ls => gB G.1 (rT G) A s H locs (rWs G (sc, ar)) ∧ lv_has ls 5 [(0, .ref G.2.1), (1, .int (nI c1)), (2, .int (nI most))]) (fun _ => [.int (nI (if kc < most then kc else most))]) ?_ (fun cut => ?_)
  rotate_left
  · refine lv_icmp_ge (tgt := 19) hx hb dX12_putEvents_7 (by decide) (fun c_1 => ?_) (fun c_1 => ?_)
    · have c_1 : most ≤ kc := (nI_leI (a := most) (b := kc) (by omega) (by omega)).mp c_1
      refine lv_iload_n hx hb dX12_putEvents_19 rfl (lv_at hl 2 rfl) ?_
      refine g_top (y := nI (if kc < most then kc else most)) (by rw [if_neg (by omega)]) ?_
      exact cut () s.heap [] ls ⟨hB, hl⟩
    · have c_1 : ¬ most ≤ kc := fun h9 => c_1 ((nI_leI (a := most) (b := kc) (by omega) (by omega)).mpr h9)
      refine lv_aload_n hx hb dX12_putEvents_10 rfl (lv_at hl 0 rfl) ?_
      refine r_get (u := (sc, ar)) (v := .ref (G.2.2.1 4)) hx hb hts hin hown hB 4 (by decide) (hts (.fieldLink RX12 19 "PointReportsModel" "kept" "[I") (by decide +kernel)) rfl rfl dX12_putEvents_11 ?_
      refine lv_iload_n hx hb dX12_putEvents_14 rfl (lv_at hl 1 rfl) ?_
      refine r_ald (u := (sc, ar)) (f := ar 4) hx hb hB 4 rfl c1 rfl (by omega) (by decide) dX12_putEvents_15 ?_
      refine g_top (y := nI kc) hkc ?_
      refine lv_goto (tgt := 20) hx hb dX12_putEvents_16 (by decide) ?_
      refine g_top (y := nI (if kc < most then kc else most)) (by rw [if_pos (by omega)]) ?_
      exact cut () s.heap [] ls ⟨hB, hl⟩
  rintro - H locs ls ⟨hB, hl⟩
  have hn8 : (if kc < most then kc else most) ≤ 8 := by split <;> omega
  generalize (if kc < most then kc else most) = n at hn8 hl ⊢
  refine lv_istore_n (lv' := [(3, .int (nI n)), (0, .ref G.2.1), (1, .int (nI c1)), (2, .int (nI most))]) hx hb dX12_putEvents_20 rfl hl (by decide) rfl (fun ls hl => ?_)
  refine lv_iload_n hx hb dX12_putEvents_21 rfl (lv_at hl 0 rfl) ?_
  refine lv_if_ne (tgt := 27) hx hb dX12_putEvents_22 (by decide) (fun c_2 => ?_) (fun c_2 => ?_)
  · have c_2 : ¬ n = 0 := fun h9 => c_2 ((nI_eq (a := n) (b := 0) (by omega) (by omega)).mpr h9)
    refine lv_aload_n hx hb dX12_putEvents_27 rfl (lv_at hl 1 rfl) ?_
    refine lv_bipush (v := nI 32) hx hb dX12_putEvents_28 (by decide) ?_
    refine g_callv (av := [.int (nI 32)]) (rest := []) ⟨hx, hb, hml, hown, hts⟩ (c_put l G sc ar (nI 32) (lst) hp (by exact h40) (by first | omega | (simp; omega))) (cwV 1 hts gX12_putEvents_X12_put rfl rfl rfl (by decide +kernel) ⟨Nat.le_of_ble_eq_true rfl, Nat.le_of_ble_eq_true rfl⟩) hB (q0 := 0) (ci := 9) rfl rfl rfl rfl hl.1 rfl (Nat.le_of_ble_eq_true rfl) dX12_putEvents_30 ⟨Nat.le_of_ble_eq_true rfl, Nat.le_of_ble_eq_true rfl⟩ (fun u H locs hw hB => ?_)
    obtain ⟨f1, hf1, rfl⟩ := hw
    have hB : gB G.1 (rT G) A s H locs (rWs G (upd sc 40 (nI (lst.length + 1)), va_up ar 39 f1)) := hB
    refine lv_aload_n hx hb dX12_putEvents_33 rfl (lv_at hl 1 rfl) ?_
    refine lv_iload_n hx hb dX12_putEvents_34 rfl (lv_at hl 2 rfl) ?_
    have hf1 : pfx f1 (lst ++ [nI 32 &&& 255]) := by simpa using hf1
    refine g_callv (av := [.int (nI c1)]) (rest := []) ⟨hx, hb, hml, hown, hts⟩ (c_put l G (upd sc 40 (nI (lst.length + 1))) (va_up ar 39 f1) (nI c1) (lst ++ [nI 32 &&& 255]) hf1 (by rw [List.length_append]; rfl) (by first | omega | (simp; omega))) (cwV 1 hts gX12_putEvents_X12_put rfl rfl rfl (by decide +kernel) ⟨Nat.le_of_ble_eq_true rfl, Nat.le_of_ble_eq_true rfl⟩) hB (q0 := 0) (ci := 9) rfl rfl rfl rfl hl.1 rfl (Nat.le_of_ble_eq_true rfl) dX12_putEvents_35 ⟨Nat.le_of_ble_eq_true rfl, Nat.le_of_ble_eq_true rfl⟩ (fun u H locs hw hB => ?_)
    obtain ⟨f2, hf2, rfl⟩ := hw
    have hB : gB G.1 (rT G) A s H locs (rWs G (upd sc 40 (nI (lst.length + 2)), va_up ar 39 f2)) := by have e9 : (lst ++ [nI 32 &&& 255]).length + 1 = lst.length + 2 := (by rw [List.length_append]; rfl); rw [e9] at hB; exact hB
    refine lv_aload_n hx hb dX12_putEvents_38 rfl (lv_at hl 1 rfl) ?_
    refine lv_iload_n hx hb dX12_putEvents_39 rfl (lv_at hl 0 rfl) ?_
    have hf2 : pfx f2 (lst ++ [nI 32 &&& 255, nI c1 &&& 255]) := by simpa using hf2
    refine g_callv (av := [.int (nI n)]) (rest := []) ⟨hx, hb, hml, hown, hts⟩ (c_put l G (upd sc 40 (nI (lst.length + 2))) (va_up ar 39 f2) (nI n) (lst ++ [nI 32 &&& 255, nI c1 &&& 255]) hf2 (by rw [List.length_append]; rfl) (by first | omega | (simp; omega))) (cwV 1 hts gX12_putEvents_X12_put rfl rfl rfl (by decide +kernel) ⟨Nat.le_of_ble_eq_true rfl, Nat.le_of_ble_eq_true rfl⟩) hB (q0 := 0) (ci := 9) rfl rfl rfl rfl hl.1 rfl (Nat.le_of_ble_eq_true rfl) dX12_putEvents_40 ⟨Nat.le_of_ble_eq_true rfl, Nat.le_of_ble_eq_true rfl⟩ (fun u H locs hw hB => ?_)
    obtain ⟨f3, hf3, rfl⟩ := hw
    have hB : gB G.1 (rT G) A s H locs (rWs G (upd sc 40 (nI (lst.length + 3)), va_up ar 39 f3)) := by have e9 : (lst ++ [nI 32 &&& 255, nI c1 &&& 255]).length + 1 = lst.length + 3 := (by rw [List.length_append]; rfl); rw [e9] at hB; exact hB
    refine lv_bipush (v := nI 8) hx hb dX12_putEvents_43 (by decide) ?_
    refine lv_iload_n hx hb dX12_putEvents_45 rfl (lv_at hl 2 rfl) ?_
    refine lv_imul hx hb dX12_putEvents_46 ?_
    refine g_top (y := nI (8 * c1)) (pk_mul _ _) ?_
    refine lv_istore (lv' := [(4, .int (nI (8 * c1))), (3, .int (nI n)), (0, .ref G.2.1), (1, .int (nI c1)), (2, .int (nI most))]) hx hb dX12_putEvents_47 hl (by decide) rfl (fun ls hl => ?_)
    have hf3 : pfx f3 (lst ++ [nI 32 &&& 255, nI c1 &&& 255, nI n &&& 255] ++ evN (ar 5) (ar 6) (ar 7) (8 * c1) 0) := by simpa [evN] using hf3
    have hl : lv_has ls 5 [(4, .int (nI (8 * c1 + 0))), (3, .int (nI n)), (0, .ref G.2.1), (1, .int (nI c1)), (2, .int (nI most))] := lv_sub hl [0, 1, 2, 3, 4] rfl
    have hB : gB G.1 (rT G) A s H locs (rWs G (upd sc 40 (nI (lst.length + 3 + 7 * 0)), va_up (va_up ar 8 (ar 8)) 39 f3)) := hB
    refine g_loop (σ := Nat × (Nat → Int32) × (Nat → Int32)) (fun d xv H locs ls => (xv.1 + d = n) ∧ (pfx xv.2.1 (lst ++ [nI 32 &&& 255, nI c1 &&& 255, nI n &&& 255] ++ evN (ar 5) (ar 6) (ar 7) (8 * c1) xv.1)) ∧ (∀ j, xv.2.2 j = if 8 * c1 ≤ j ∧ j < 8 * c1 + xv.1 then 1 else ar 8 j) ∧ gB G.1 (rT G) A s H locs (rWs G (upd sc 40 (nI (lst.length + 3 + 7 * xv.1)), va_up (va_up ar 8 xv.2.2) 39 xv.2.1)) ∧ lv_has ls 5 [(4, .int (nI (8 * c1 + xv.1))), (3, .int (nI n)), (0, .ref G.2.1), (1, .int (nI c1)), (2, .int (nI most))]) n (0, f3, ar 8) ⟨by omega, hf3, fun j => by rw [if_neg (by omega)], hB, hl⟩ ?_
    rintro d ⟨k, f, wa⟩ H locs ls ⟨hk, hf, hwa, hB, hl⟩ ih_3
    have hk : k + d = n := hk
    have hf : pfx f (lst ++ [nI 32 &&& 255, nI c1 &&& 255, nI n &&& 255] ++ evN (ar 5) (ar 6) (ar 7) (8 * c1) k) := hf
    have hwa : ∀ j, wa j = if 8 * c1 ≤ j ∧ j < 8 * c1 + k then 1 else ar 8 j := hwa
    have hB : gB G.1 (rT G) A s H locs (rWs G (upd sc 40 (nI (lst.length + 3 + 7 * k)), va_up (va_up ar 8 wa) 39 f)) := hB
    have hl : lv_has ls 5 [(4, .int (nI (8 * c1 + k))), (3, .int (nI n)), (0, .ref G.2.1), (1, .int (nI c1)), (2, .int (nI most))] := hl
    refine lv_iload hx hb dX12_putEvents_49 (lv_at hl 0 rfl) ?_
    refine lv_bipush (v := nI 8) hx hb dX12_putEvents_51 (by decide) ?_
    refine lv_iload_n hx hb dX12_putEvents_53 rfl (lv_at hl 3 rfl) ?_
    refine lv_imul hx hb dX12_putEvents_54 ?_
    refine g_top (y := nI (8 * c1)) (pk_mul _ _) ?_
    refine lv_iload_n hx hb dX12_putEvents_55 rfl (lv_at hl 1 rfl) ?_
    refine lv_iadd hx hb dX12_putEvents_56 ?_
    refine g_top (y := nI ((8 * c1) + n)) (nI_add _ _) ?_
    refine lv_icmp_ge (tgt := 109) hx hb dX12_putEvents_57 (by decide) (fun c_4 => ?_) (fun c_4 => ?_)
    · have c_4 : ((8 * c1) + n) ≤ (8 * c1 + k) := (nI_leI (a := ((8 * c1) + n)) (b := (8 * c1 + k)) (by omega) (by omega)).mp c_4
      have hk9 : k = n := by omega
      subst hk9
      have eg : grN (ar 5) (ar 6) (ar 7) c1 k = [nI 32 &&& 255, nI c1 &&& 255, nI k &&& 255] ++ evN (ar 5) (ar 6) (ar 7) (8 * c1) k := by rw [grN, if_neg (by omega)]
      refine lv_iload_n hx hb dX12_putEvents_109 rfl (lv_at hl 1 rfl) ?_
      exact g_iret (Wd := rWs G) (v := nI k) (upd sc 40 (nI (lst.length + 3 + 7 * k)), va_up (va_up ar 8 wa) 39 f) hB hx hb hr hlocks rfl ⟨rfl, f, wa, by rw [eg, ← List.append_assoc]; exact hf, hwa, by rw [show (lst ++ grN (ar 5) (ar 6) (ar 7) c1 k).length = lst.length + 3 + 7 * k by rw [eg, List.length_append, List.length_append, evN_len]; simp; omega]⟩ dX12_putEvents_110
    · have c_4 : ¬ ((8 * c1) + n) ≤ (8 * c1 + k) := fun h9 => c_4 ((nI_leI (a := ((8 * c1) + n)) (b := (8 * c1 + k)) (by omega) (by omega)).mpr h9)
      have en : (lst ++ [nI 32 &&& 255, nI c1 &&& 255, nI n &&& 255] ++ evN (ar 5) (ar 6) (ar 7) (8 * c1) k).length = lst.length + 3 + 7 * k := by rw [List.length_append, List.length_append, evN_len]; rfl
      refine lv_aload_n hx hb dX12_putEvents_60 rfl (lv_at hl 2 rfl) ?_
      refine lv_aload_n hx hb dX12_putEvents_61 rfl (lv_at hl 2 rfl) ?_
      refine r_get (u := (upd sc 40 (nI (lst.length + 3 + 7 * k)), va_up (va_up ar 8 wa) 39 f)) (v := .ref (G.2.2.1 5)) hx hb hts hin hown hB 5 (by decide) (hts (.fieldLink RX12 22 "PointReportsModel" "points" "[I") (by decide +kernel)) rfl rfl dX12_putEvents_62 ?_
      refine lv_iload hx hb dX12_putEvents_65 (lv_at hl 0 rfl) ?_
      refine r_ald (u := (upd sc 40 (nI (lst.length + 3 + 7 * k)), va_up (va_up ar 8 wa) 39 f)) (f := ar 5) hx hb hB 5 rfl (8 * c1 + k) rfl (by omega) (by decide) dX12_putEvents_67 ?_
      refine g_callv (av := [.int ((ar 5) (8 * c1 + k))]) (rest := []) ⟨hx, hb, hml, hown, hts⟩ (c_put l G (upd sc 40 (nI (lst.length + 3 + 7 * k))) (va_up (va_up ar 8 wa) 39 f) (ar 5 (8 * c1 + k)) (lst ++ [nI 32 &&& 255, nI c1 &&& 255, nI n &&& 255] ++ evN (ar 5) (ar 6) (ar 7) (8 * c1) k) hf (by rw [en]; rfl) (by rw [en]; omega)) (cwV 1 hts gX12_putEvents_X12_put rfl rfl rfl (by decide +kernel) ⟨Nat.le_of_ble_eq_true rfl, Nat.le_of_ble_eq_true rfl⟩) hB (q0 := 0) (ci := 9) rfl rfl rfl rfl hl.1 rfl (Nat.le_of_ble_eq_true rfl) dX12_putEvents_68 ⟨Nat.le_of_ble_eq_true rfl, Nat.le_of_ble_eq_true rfl⟩ (fun u H locs hw hB => ?_)
      obtain ⟨g1, hg1, rfl⟩ := hw
      have hB : gB G.1 (rT G) A s H locs (rWs G (upd sc 40 (nI (lst.length + 3 + 7 * k + 1)), va_up (va_up ar 8 wa) 39 g1)) := by rw [en] at hB; exact hB
      refine lv_aload_n hx hb dX12_putEvents_71 rfl (lv_at hl 2 rfl) ?_
      refine lv_aload_n hx hb dX12_putEvents_72 rfl (lv_at hl 2 rfl) ?_
      refine r_get (u := (upd sc 40 (nI (lst.length + 3 + 7 * k + 1)), va_up (va_up ar 8 wa) 39 g1)) (v := .ref (G.2.2.1 6)) hx hb hts hin hown hB 6 (by decide) (hts (.fieldLink RX12 25 "PointReportsModel" "eventValues" "[I") (by decide +kernel)) rfl rfl dX12_putEvents_73 ?_
      refine lv_iload hx hb dX12_putEvents_76 (lv_at hl 0 rfl) ?_
      refine r_ald (u := (upd sc 40 (nI (lst.length + 3 + 7 * k + 1)), va_up (va_up ar 8 wa) 39 g1)) (f := ar 6) hx hb hB 6 rfl (8 * c1 + k) rfl (by omega) (by decide) dX12_putEvents_78 ?_
      refine lv_iconst (v := nI 2) hx hb dX12_putEvents_79 (by decide) ?_
      have en2 : (lst ++ [nI 32 &&& 255, nI c1 &&& 255, nI n &&& 255] ++ evN (ar 5) (ar 6) (ar 7) (8 * c1) k ++ [(ar 5 (8 * c1 + k)) &&& 255]).length = lst.length + 3 + 7 * k + 1 := by rw [List.length_append, en]; rfl
      refine g_callv (av := [.int ((ar 6) (8 * c1 + k)), .int (nI 2)]) (rest := []) ⟨hx, hb, hml, hown, hts⟩ (c_putMany l G (upd sc 40 (nI (lst.length + 3 + 7 * k + 1))) (va_up (va_up ar 8 wa) 39 g1) (ar 6 (8 * c1 + k)) 2 (by decide) (lst ++ [nI 32 &&& 255, nI c1 &&& 255, nI n &&& 255] ++ evN (ar 5) (ar 6) (ar 7) (8 * c1) k ++ [(ar 5 (8 * c1 + k)) &&& 255]) hg1 (by rw [en2]; rfl) (by rw [en2]; omega)) (cwV 2 hts gX12_putEvents_X12_putMany rfl rfl rfl (by decide +kernel) ⟨Nat.le_of_ble_eq_true rfl, Nat.le_of_ble_eq_true rfl⟩) hB (q0 := 0) (ci := 9) rfl rfl rfl rfl hl.1 rfl (Nat.le_of_ble_eq_true rfl) dX12_putEvents_80 ⟨Nat.le_of_ble_eq_true rfl, Nat.le_of_ble_eq_true rfl⟩ (fun u H locs hw hB => ?_)
      obtain ⟨g2, hg2, rfl⟩ := hw
      have hB : gB G.1 (rT G) A s H locs (rWs G (upd sc 40 (nI (lst.length + 3 + 7 * k + 3)), va_up (va_up ar 8 wa) 39 g2)) := by rw [en2] at hB; exact hB
      refine lv_aload_n hx hb dX12_putEvents_83 rfl (lv_at hl 2 rfl) ?_
      refine lv_aload_n hx hb dX12_putEvents_84 rfl (lv_at hl 2 rfl) ?_
      refine r_get (u := (upd sc 40 (nI (lst.length + 3 + 7 * k + 3)), va_up (va_up ar 8 wa) 39 g2)) (v := .ref (G.2.2.1 7)) hx hb hts hin hown hB 7 (by decide) (hts (.fieldLink RX12 28 "PointReportsModel" "times" "[I") (by decide +kernel)) rfl rfl dX12_putEvents_85 ?_
      refine lv_iload hx hb dX12_putEvents_88 (lv_at hl 0 rfl) ?_
      refine r_ald (u := (upd sc 40 (nI (lst.length + 3 + 7 * k + 3)), va_up (va_up ar 8 wa) 39 g2)) (f := ar 7) hx hb hB 7 rfl (8 * c1 + k) rfl (by omega) (by decide) dX12_putEvents_90 ?_
      refine lv_iconst (v := nI 4) hx hb dX12_putEvents_91 (by decide) ?_
      have en3 : (lst ++ [nI 32 &&& 255, nI c1 &&& 255, nI n &&& 255] ++ evN (ar 5) (ar 6) (ar 7) (8 * c1) k ++ [(ar 5 (8 * c1 + k)) &&& 255] ++ bN (ar 6 (8 * c1 + k)) 2).length = lst.length + 3 + 7 * k + 3 := by rw [List.length_append, en2, bN_len]
      refine g_callv (av := [.int ((ar 7) (8 * c1 + k)), .int (nI 4)]) (rest := []) ⟨hx, hb, hml, hown, hts⟩ (c_putMany l G (upd sc 40 (nI (lst.length + 3 + 7 * k + 3))) (va_up (va_up ar 8 wa) 39 g2) (ar 7 (8 * c1 + k)) 4 (by decide) (lst ++ [nI 32 &&& 255, nI c1 &&& 255, nI n &&& 255] ++ evN (ar 5) (ar 6) (ar 7) (8 * c1) k ++ [(ar 5 (8 * c1 + k)) &&& 255] ++ bN (ar 6 (8 * c1 + k)) 2) hg2 (by rw [en3]; rfl) (by rw [en3]; omega)) (cwV 2 hts gX12_putEvents_X12_putMany rfl rfl rfl (by decide +kernel) ⟨Nat.le_of_ble_eq_true rfl, Nat.le_of_ble_eq_true rfl⟩) hB (q0 := 0) (ci := 9) rfl rfl rfl rfl hl.1 rfl (Nat.le_of_ble_eq_true rfl) dX12_putEvents_92 ⟨Nat.le_of_ble_eq_true rfl, Nat.le_of_ble_eq_true rfl⟩ (fun u H locs hw hB => ?_)
      obtain ⟨g3, hg3, rfl⟩ := hw
      have hB : gB G.1 (rT G) A s H locs (rWs G (upd sc 40 (nI (lst.length + 3 + 7 * (k + 1))), va_up (va_up ar 8 wa) 39 g3)) := by rw [en3] at hB; exact hB
      refine lv_aload_n hx hb dX12_putEvents_95 rfl (lv_at hl 2 rfl) ?_
      refine r_get (u := (upd sc 40 (nI (lst.length + 3 + 7 * (k + 1))), va_up (va_up ar 8 wa) 39 g3)) (v := .ref (G.2.2.1 8)) hx hb hts hin hown hB 8 (by decide) (hts (.fieldLink RX12 31 "PointReportsModel" "waits" "[Z") (by decide +kernel)) rfl rfl dX12_putEvents_96 ?_
      refine lv_iload hx hb dX12_putEvents_99 (lv_at hl 0 rfl) ?_
      refine lv_iconst (v := nI 1) hx hb dX12_putEvents_101 (by decide) ?_
      refine r_zast (u := (upd sc 40 (nI (lst.length + 3 + 7 * (k + 1))), va_up (va_up ar 8 wa) 39 g3)) (f := wa) (x := nI 1) (va_up (va_up ar 8 (upd wa (8 * c1 + k) (nI 1))) 39 g3) hx hb hB 8 rfl (8 * c1 + k) rfl (by omega) (by decide) (Or.inr rfl) rfl dX12_putEvents_102 (fun H locs hB => ?_)
      refine lv_iinc (v := nI (8 * c1 + k + 1)) (lv' := [(4, .int (nI (8 * c1 + k + 1))), (3, .int (nI n)), (0, .ref G.2.1), (1, .int (nI c1)), (2, .int (nI most))]) hx hb dX12_putEvents_103 hl (k := 0) rfl (nI_add _ _) (by decide) rfl (fun ls hl => ?_)
      refine lv_goto (tgt := 49) hx hb dX12_putEvents_106 (by decide) ?_
      have hl : lv_has ls 5 [(4, .int (nI (8 * c1 + (k + 1)))), (3, .int (nI n)), (0, .ref G.2.1), (1, .int (nI c1)), (2, .int (nI most))] := lv_sub hl [0, 1, 2, 3, 4] rfl
      have hB : gB G.1 (rT G) A s H locs (rWs G (upd sc 40 (nI (lst.length + 3 + 7 * (k + 1))), va_up (va_up ar 8 (upd wa (8 * c1 + k) (nI 1))) 39 g3)) := hB
      have b_5 : (k + 1) + (n - (k + 1)) = n := by omega
      have b_6 : pfx g3 (lst ++ [nI 32 &&& 255, nI c1 &&& 255, nI n &&& 255] ++ evN (ar 5) (ar 6) (ar 7) (8 * c1) (k + 1)) := by rw [evN]; simpa [List.append_assoc] using hg3
      have b_7 : ∀ j, (upd wa (8 * c1 + k) (nI 1)) j = if 8 * c1 ≤ j ∧ j < 8 * c1 + (k + 1) then 1 else ar 8 j := fun j => by
          by_cases hj : j = 8 * c1 + k
          · subst hj; rw [upd_self, if_pos (by omega)]; rfl
          · rw [upd_ne hj, hwa]
            by_cases hj2 : 8 * c1 ≤ j ∧ j < 8 * c1 + k
            · rw [if_pos hj2, if_pos (by omega)]
            · rw [if_neg hj2, if_neg (by omega)]
      exact ih_3 (n - (k + 1)) (k + 1, g3, upd wa (8 * c1 + k) (nI 1)) H locs ls (by omega) ⟨b_5, b_6, b_7, hB, hl⟩
  · have c_2 : n = 0 := (nI_eq (a := n) (b := 0) (by omega) (by omega)).mp c_2
    subst c_2
    refine lv_iconst (v := nI 0) hx hb dX12_putEvents_25 (by decide) ?_
    have e0 : grN (ar 5) (ar 6) (ar 7) c1 0 = [] := rfl
    have hB : gB G.1 (rT G) A s H locs (rWs G (upd sc 40 (nI lst.length), va_up (va_up ar 8 (ar 8)) 39 (ar 39))) := by rw [← h40]; exact hB
    exact g_iret (Wd := rWs G) (v := nI 0) (upd sc 40 (nI lst.length), va_up (va_up ar 8 (ar 8)) 39 (ar 39)) hB hx hb hr hlocks rfl ⟨rfl, ar 39, ar 8, by rw [e0, List.append_nil]; exact hp, fun j => by rw [if_neg (by omega)], by rw [e0, List.append_nil]⟩ dX12_putEvents_26
