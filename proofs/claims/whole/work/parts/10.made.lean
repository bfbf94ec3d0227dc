set_option maxRecDepth 100000 in
set_option maxHeartbeats 4000000 in
/-- put(v): a byte more in what is made -/
theorem c_put (l : Launch) (G : rG) (sc : Nat → Int32) (ar : Nat → Nat → Int32) (v : Int32) (lst : List Int32) (hp : pfx (ar 39) lst) (h40 : sc 40 = nI lst.length) (hlt : lst.length < 400) : gM l G.1 (rT G) yX12_put wsX12_put ({ frames := 0, cells := 0, slots := 0, locals := 0 }) [.ref G.2.1, .int v] (rWs G (sc, ar)) (gQv G.1 (rT G) (fun u : rSt => ∃ f, pfx f (lst ++ [v &&& 255]) ∧ u = (upd sc 40 (nI (lst.length + 1)), va_up ar 39 f)) (rWs G)) 0 0 := by
  refine gM.of (cc := cX12_put) (maxL := 2) (ret := none) (by decide) rfl (Nat.le_of_ble_eq_true rfl) ?_
  intro p e s m below meth c A ls hx hb hr hml hown hts hlocks hnm hB hl
  have hin : ∀ w ∈ wsX120, w ∈ wsX12_put := fun w h => List.mem_cons_of_mem _ (List.mem_append_right _ h)
  have hl : lv_has ls 2 [(0, .ref G.2.1), (1, .int v)] := hl
  refine lv_aload_n hx hb dX12_put_0 rfl (lv_at hl 0 rfl) ?_
  refine r_get (u := (sc, ar)) (v := .ref (G.2.2.1 39)) hx hb hts hin hown hB 39 (by decide) (hts (.fieldLink RX12 75 "PointReportsModel" "made" "[I") (by decide +kernel)) rfl rfl dX12_put_1 ?_
  refine lv_aload_n hx hb dX12_put_4 rfl (lv_at hl 0 rfl) ?_
  refine r_get (u := (sc, ar)) (v := .int (sc 40)) hx hb hts hin hown hB 40 (by decide) (hts (.fieldLink RX12 104 "PointReportsModel" "madeLength" "I") (by decide +kernel)) rfl rfl dX12_put_5 ?_
  refine g_top (y := nI lst.length) h40 ?_
  refine lv_iload_n hx hb dX12_put_8 rfl (lv_at hl 1 rfl) ?_
  refine lv_sipush (v := nI 255) hx hb dX12_put_9 (by decide) ?_
  refine lv_iand hx hb dX12_put_12 ?_
  refine r_ast (u := (sc, ar)) (f := ar 39) (x := v &&& (nI 255)) (va_up ar 39 (upd (ar 39) lst.length (v &&& (nI 255)))) hx hb hB 21 rfl lst.length rfl (by omega) (by decide) rfl dX12_put_13 (fun H locs hB => ?_)
  refine lv_aload_n hx hb dX12_put_14 rfl (lv_at hl 0 rfl) ?_
  refine lv_dup hx hb dX12_put_15 rfl ?_
  refine r_get (u := (sc, va_up ar 39 (upd (ar 39) lst.length (v &&& (nI 255))))) (v := .int (sc 40)) hx hb hts hin hown hB 40 (by decide) (hts (.fieldLink RX12 104 "PointReportsModel" "madeLength" "I") (by decide +kernel)) rfl rfl dX12_put_16 ?_
  refine g_top (y := nI lst.length) h40 ?_
  refine lv_iconst (v := nI 1) hx hb dX12_put_19 (by decide) ?_
  refine lv_iadd hx hb dX12_put_20 ?_
  refine g_top (y := nI (lst.length + 1)) (nI_add _ _) ?_
  refine r_put (u := (sc, va_up ar 39 (upd (ar 39) lst.length (v &&& (nI 255))))) (v := nI (lst.length + 1)) (upd sc 40 (nI (lst.length + 1))) hx hb hts hin hown hB 40 (by decide) (hts (.fieldLink RX12 104 "PointReportsModel" "madeLength" "I") (by decide +kernel)) rfl (ty := .int) rfl rfl rfl rfl rfl dX12_put_21 (fun H locs hB => ?_)
  exact g_vret (Wd := rWs G) (upd sc 40 (nI (lst.length + 1)), va_up ar 39 (upd (ar 39) lst.length (v &&& (nI 255)))) hB hx hb hr hlocks rfl ⟨_, pfx_add hp, rfl⟩ dX12_put_24
set_option maxRecDepth 100000 in
set_option maxHeartbeats 4000000 in
/-- begin(a, b): what is made begins anew -/
theorem c_begin (l : Launch) (G : rG) (sc : Nat → Int32) (ar : Nat → Nat → Int32) (a b : Int32) : gM l G.1 (rT G) yX12_begin wsX12_begin ({ frames := 1, cells := 0, slots := 0, locals := 21 }) [.ref G.2.1, .int a, .int b] (rWs G (sc, ar)) (gQv G.1 (rT G) (fun u : rSt => ∃ f, pfx f [(nI 192 + a) &&& 255, b &&& 255] ∧ u = (upd sc 40 (nI 2), va_up ar 39 f)) (rWs G)) 0 0 := by
  refine gM.of (cc := cX12_begin) (maxL := 3) (ret := none) (by decide) rfl (Nat.le_of_ble_eq_true rfl) ?_
  intro p e s m below meth c A ls hx hb hr hml hown hts hlocks hnm hB hl
  have hin : ∀ w ∈ wsX120, w ∈ wsX12_begin := fun w h => List.mem_cons_of_mem _ (List.mem_append_right _ h)
  have hl : lv_has ls 3 [(0, .ref G.2.1), (1, .int a), (2, .int b)] := hl
  refine lv_aload_n hx hb dX12_begin_0 rfl (lv_at hl 0 rfl) ?_
  refine lv_iconst (v := nI 0) hx hb dX12_begin_1 (by decide) ?_
  refine r_put (u := (sc, ar)) (v := nI 0) (upd sc 40 (nI 0)) hx hb hts hin hown hB 40 (by decide) (hts (.fieldLink RX12 104 "PointReportsModel" "madeLength" "I") (by decide +kernel)) rfl (ty := .int) rfl rfl rfl rfl rfl dX12_begin_2 (fun H locs hB => ?_)
  refine lv_aload_n hx hb dX12_begin_5 rfl (lv_at hl 0 rfl) ?_
  refine lv_sipush (v := nI 192) hx hb dX12_begin_6 (by decide) ?_
  refine lv_iload_n hx hb dX12_begin_9 rfl (lv_at hl 1 rfl) ?_
  refine lv_iadd hx hb dX12_begin_10 ?_
  refine g_callv (av := [.int ((nI 192) + a)]) (rest := []) ⟨hx, hb, hml, hown, hts⟩ (c_put l G (upd sc 40 (nI 0)) ar (nI 192 + a) [] (pfx_nil _) rfl (by decide)) (cwV 1 hts gX12_begin_X12_put rfl rfl rfl (by decide +kernel) ⟨Nat.le_of_ble_eq_true rfl, Nat.le_of_ble_eq_true rfl⟩) hB (q0 := 0) (ci := 9) rfl rfl rfl rfl hl.1 rfl (Nat.le_of_ble_eq_true rfl) dX12_begin_11 ⟨Nat.le_of_ble_eq_true rfl, Nat.le_of_ble_eq_true rfl⟩ (fun u H locs hw hB => ?_)
  obtain ⟨f1, hf1, rfl⟩ := hw
  have hB : gB G.1 (rT G) A s H locs (rWs G (upd sc 40 (nI 1), va_up ar 39 f1)) := hB
  refine lv_aload_n hx hb dX12_begin_14 rfl (lv_at hl 0 rfl) ?_
  refine lv_iload_n hx hb dX12_begin_15 rfl (lv_at hl 2 rfl) ?_
  refine g_callv (av := [.int b]) (rest := []) ⟨hx, hb, hml, hown, hts⟩ (c_put l G (upd sc 40 (nI 1)) (va_up ar 39 f1) b [(nI 192 + a) &&& 255] hf1 rfl (Nat.le_of_ble_eq_true rfl)) (cwV 1 hts gX12_begin_X12_put rfl rfl rfl (by decide +kernel) ⟨Nat.le_of_ble_eq_true rfl, Nat.le_of_ble_eq_true rfl⟩) hB (q0 := 0) (ci := 9) rfl rfl rfl rfl hl.1 rfl (Nat.le_of_ble_eq_true rfl) dX12_begin_16 ⟨Nat.le_of_ble_eq_true rfl, Nat.le_of_ble_eq_true rfl⟩ (fun u H locs hw hB => ?_)
  obtain ⟨f2, hf2, rfl⟩ := hw
  have hB : gB G.1 (rT G) A s H locs (rWs G (upd sc 40 (nI 2), va_up ar 39 f2)) := hB
  exact g_vret (Wd := rWs G) (upd sc 40 (nI 2), va_up ar 39 f2) hB hx hb hr hlocks rfl ⟨_, hf2, rfl⟩ dX12_begin_19
set_option maxRecDepth 100000 in
set_option maxHeartbeats 4000000 in
/-- putMany(v, n): n bytes of a number -/
theorem c_putMany (l : Launch) (G : rG) (sc : Nat → Int32) (ar : Nat → Nat → Int32) (v : Int32) (n : Nat) (hn : n ≤ 4) (lst : List Int32) (hp : pfx (ar 39) lst) (h40 : sc 40 = nI lst.length) (hlt : lst.length + n ≤ 400) : gM l G.1 (rT G) yX12_putMany wsX12_putMany ({ frames := 1, cells := 0, slots := 0, locals := 21 }) [.ref G.2.1, .int v, .int (nI n)] (rWs G (sc, ar)) (gQv G.1 (rT G) (fun u : rSt => ∃ f, pfx f (lst ++ bN v n) ∧ u = (upd sc 40 (nI (lst.length + n)), va_up ar 39 f)) (rWs G)) 0 0 := by
  refine gM.of (cc := cX12_putMany) (maxL := 4) (ret := none) (by decide) rfl (Nat.le_of_ble_eq_true rfl) ?_
  intro p e s m below meth c A ls hx hb hr hml hown hts hlocks hnm hB hl
  have hin : ∀ w ∈ wsX120, w ∈ wsX12_putMany := fun w h => List.mem_cons_of_mem _ (List.mem_append_right _ h)
  have hl : lv_has ls 4 [(0, .ref G.2.1), (1, .int v), (2, .int (nI n))] := hl
  refine lv_iconst (v := nI 0) hx hb dX12_putMany_0 (by decide) ?_
  refine lv_istore_n (lv' := [(3, .int (nI 0)), (0, .ref G.2.1), (1, .int v), (2, .int (nI n))]) hx hb dX12_putMany_1 rfl hl (by decide) rfl (fun ls hl => ?_)
  have hl : lv_has ls 4 [(3, .int (nI 0)), (0, .ref G.2.1), (1, .int v), (2, .int (nI n))] := lv_sub hl [0, 1, 2, 3] rfl
  have hB : gB G.1 (rT G) A s s.heap [] (rWs G (upd sc 40 (nI (lst.length + 0)), va_up ar 39 (ar 39))) := by rw [Nat.add_zero, ← h40]; exact hB
  refine g_loop (σ := Nat × (Nat → Int32)) (fun d xv H locs ls => (xv.1 + d = n) ∧ (pfx xv.2 (lst ++ bN v xv.1)) ∧ gB G.1 (rT G) A s H locs (rWs G (upd sc 40 (nI (lst.length + xv.1)), va_up ar 39 xv.2)) ∧ lv_has ls 4 [(3, .int (nI xv.1)), (0, .ref G.2.1), (1, .int v), (2, .int (nI n))]) n (0, ar 39) ⟨by omega, by rw [bN, List.append_nil]; exact hp, hB, hl⟩ ?_
  rintro d ⟨k, f⟩ H locs ls ⟨hk, hf, hB, hl⟩ ih_1
  have hk : k + d = n := hk
  have hf : pfx f (lst ++ bN v k) := hf
  have hB : gB G.1 (rT G) A s H locs (rWs G (upd sc 40 (nI (lst.length + k)), va_up ar 39 f)) := hB
  have hl : lv_has ls 4 [(3, .int (nI k)), (0, .ref G.2.1), (1, .int v), (2, .int (nI n))] := hl
  refine lv_iload_n hx hb dX12_putMany_2 rfl (lv_at hl 0 rfl) ?_
  refine lv_iload_n hx hb dX12_putMany_3 rfl (lv_at hl 3 rfl) ?_
  refine lv_icmp_ge (tgt := 23) hx hb dX12_putMany_4 (by decide) (fun c_2 => ?_) (fun c_2 => ?_)
  · have c_2 : n ≤ k := (nI_leI (a := n) (b := k) (by omega) (by omega)).mp c_2
    have hkn : k = n := by omega
    subst hkn
    exact g_vret (Wd := rWs G) (upd sc 40 (nI (lst.length + k)), va_up ar 39 f) hB hx hb hr hlocks rfl ⟨_, hf, rfl⟩ dX12_putMany_23
  · have c_2 : ¬ n ≤ k := fun h9 => c_2 ((nI_leI (a := n) (b := k) (by omega) (by omega)).mpr h9)
    refine lv_aload_n hx hb dX12_putMany_7 rfl (lv_at hl 1 rfl) ?_
    refine lv_iload_n hx hb dX12_putMany_8 rfl (lv_at hl 2 rfl) ?_
    refine lv_bipush (v := nI 8) hx hb dX12_putMany_9 (by decide) ?_
    refine lv_iload_n hx hb dX12_putMany_11 rfl (lv_at hl 0 rfl) ?_
    refine lv_imul hx hb dX12_putMany_12 ?_
    refine g_top (y := nI (8 * k)) (pk_mul _ _) ?_
    refine lv_ishr hx hb dX12_putMany_13 ?_
    refine g_callv (av := [.int (v >>> ((nI (8 * k)) &&& 31))]) (rest := []) ⟨hx, hb, hml, hown, hts⟩ (c_put l G (upd sc 40 (nI (lst.length + k))) (va_up ar 39 f) (v >>> (nI (8 * k) &&& 31)) (lst ++ bN v k) hf (by rw [List.length_append, bN_len]; rfl) (by rw [List.length_append, bN_len]; omega)) (cwV 1 hts gX12_putMany_X12_put rfl rfl rfl (by decide +kernel) ⟨Nat.le_of_ble_eq_true rfl, Nat.le_of_ble_eq_true rfl⟩) hB (q0 := 0) (ci := 9) rfl rfl rfl rfl hl.1 rfl (Nat.le_of_ble_eq_true rfl) dX12_putMany_14 ⟨Nat.le_of_ble_eq_true rfl, Nat.le_of_ble_eq_true rfl⟩ (fun u H locs hw hB => ?_)
    obtain ⟨f1, hf1, rfl⟩ := hw
    rw [List.length_append, bN_len, Nat.add_assoc] at hB
    have hB : gB G.1 (rT G) A s H locs (rWs G (upd sc 40 (nI (lst.length + (k + 1))), va_up ar 39 f1)) := hB
    refine lv_iinc (v := nI (k + 1)) (lv' := [(3, .int (nI (k + 1))), (0, .ref G.2.1), (1, .int v), (2, .int (nI n))]) hx hb dX12_putMany_17 hl (k := 0) rfl (nI_add _ _) (by decide) rfl (fun ls hl => ?_)
    refine lv_goto (tgt := 2) hx hb dX12_putMany_20 (by decide) ?_
    have hl : lv_has ls 4 [(3, .int (nI (k + 1))), (0, .ref G.2.1), (1, .int v), (2, .int (nI n))] := lv_sub hl [0, 1, 2, 3] rfl
    have hB : gB G.1 (rT G) A s H locs (rWs G (upd sc 40 (nI (lst.length + (k + 1))), va_up ar 39 f1)) := hB
    have b_3 : (k + 1) + (n - (k + 1)) = n := by omega
    have b_4 : pfx f1 (lst ++ bN v (k + 1)) := by rw [bN, ← List.append_assoc]; exact hf1
    exact ih_1 (n - (k + 1)) (k + 1, f1) H locs ls (by omega) ⟨b_3, b_4, hB, hl⟩
