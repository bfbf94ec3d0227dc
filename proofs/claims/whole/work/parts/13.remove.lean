theorem lnR_drop {fr le si : Nat → Int32} {L : List (Int32 × List Int32)} {i : Nat} (h : lnF fr le si (fun m => if i ≤ m ∧ m < L.length - 1 then L[m + 1]? else L[m]?)) (hi : i < L.length) : lnR fr le si (L.eraseIdx i) := by
  intro m q hq
  refine h m q ?_
  have hl : m < (L.eraseIdx i).length := (List.getElem?_eq_some_iff.mp hq).1
  rw [List.length_eraseIdx_of_lt hi] at hl
  dsimp only at hq ⊢
  rw [List.getElem?_eraseIdx] at hq
  by_cases hm : m < i
  · rw [if_pos hm] at hq
    rw [if_neg (by omega)]
    exact hq
  · rw [if_neg hm] at hq
    rw [if_pos (by omega)]
    exact hq
theorem lnF_step {fr fr2 le si : Nat → Int32} {L : List (Int32 × List Int32)} {i k : Nat} (h : lnF fr le si (fun m => if i ≤ m ∧ m < k then L[m + 1]? else L[m]?)) (hk : i ≤ k) (hc : ∀ p, fr2 p = if 40 * k ≤ p ∧ p < 40 * k + 40 then fr (p + 40) else fr p) : lnF fr2 (upd le k (le (k + 1))) (upd si k (si (k + 1))) (fun m => if i ≤ m ∧ m < k + 1 then L[m + 1]? else L[m]?) := by
  intro m q hq
  dsimp only at hq
  by_cases hmk : m = k
  · subst hmk
    rw [if_pos (by omega)] at hq
    obtain ⟨h1, h2, h3, h4⟩ := h (m + 1) q (by dsimp only; rw [if_neg (by omega)]; exact hq)
    refine ⟨by rw [upd_self]; exact h1, by rw [upd_self]; exact h2, h3, fun j hj => ?_⟩
    rw [hc, if_pos (by omega), ← h4 j hj]
    congr 1
    omega
  · obtain ⟨h1, h2, h3, h4⟩ := h m q (by
      dsimp only
      by_cases hq2 : i ≤ m ∧ m < k
      · rw [if_pos hq2]; rw [if_pos (by omega)] at hq; exact hq
      · rw [if_neg hq2]; rw [if_neg (by omega)] at hq; exact hq)
    refine ⟨by rw [upd_ne hmk]; exact h1, by rw [upd_ne hmk]; exact h2, h3, fun j hj => ?_⟩
    rw [hc, if_neg (by omega)]
    exact h4 j hj
set_option maxRecDepth 100000 in
set_option maxHeartbeats 4000000 in
/-- removeFrame(i) -/
theorem c_removeFrame (l : Launch) (G : rG) (sc : Nat → Int32) (ar : Nat → Nat → Int32) (i : Nat) (L : List (Int32 × List Int32)) (hR : lnR (ar 31) (ar 32) (ar 33) L) (h30 : sc 30 = nI L.length) (hL : L.length ≤ 41) (hi : i < L.length) : gM l G.1 (rT G) yX12_removeFrame wsX12_removeFrame ({ frames := 0, cells := 0, slots := 0, locals := 0 }) [.ref G.2.1, .int (nI i)] (rWs G (sc, ar)) (gQv G.1 (rT G) (fun u : rSt => ∃ fr le si, lnR fr le si (L.eraseIdx i) ∧ u = (upd sc 30 (nI (L.length - 1)), va_up (va_up (va_up ar 31 fr) 32 le) 33 si)) (rWs G)) 0 0 := by
  refine gM.of (cc := cX12_removeFrame) (maxL := 4) (ret := none) (by decide) rfl (Nat.le_of_ble_eq_true rfl) ?_
  intro p e s m below meth c A ls hx hb hr hml hown hts hlocks hnm hB hl
  have hin : ∀ w ∈ wsX120, w ∈ wsX12_removeFrame := fun w h => List.mem_cons_of_mem _ (List.mem_append_right _ h)
  have hl : lv_has ls 4 [(0, .ref G.2.1), (1, .int (nI i))] := hl
  refine lv_aload_n hx hb dX12_removeFrame_0 rfl (lv_at hl 0 rfl) ?_
  refine lv_dup hx hb dX12_removeFrame_1 rfl ?_
  refine r_get (u := (sc, ar)) (v := .int (sc 30)) hx hb hts hin hown hB 30 (by decide) (hts (.fieldLink RX12 89 "PointReportsModel" "flying" "I") (by decide +kernel)) rfl rfl dX12_removeFrame_2 ?_
  refine g_top (y := nI L.length) h30 ?_
  refine lv_iconst (v := nI 1) hx hb dX12_removeFrame_5 (by decide) ?_
  refine lv_isub hx hb dX12_removeFrame_6 ?_
  refine g_top (y := nI (L.length - 1)) ((pk_sub (b := 1) (by omega))) ?_
  refine r_put (u := (sc, ar)) (v := nI (L.length - 1)) (upd sc 30 (nI (L.length - 1))) hx hb hts hin hown hB 30 (by decide) (hts (.fieldLink RX12 89 "PointReportsModel" "flying" "I") (by decide +kernel)) rfl (ty := .int) rfl rfl rfl rfl rfl dX12_removeFrame_7 (fun H locs hB => ?_)
  refine lv_iload_n hx hb dX12_removeFrame_10 rfl (lv_at hl 1 rfl) ?_
  refine lv_istore_n (lv' := [(2, .int (nI i)), (0, .ref G.2.1), (1, .int (nI i))]) hx hb dX12_removeFrame_11 rfl hl (by decide) rfl (fun ls hl => ?_)
  have hl : lv_has ls 4 [(2, .int (nI i)), (0, .ref G.2.1), (1, .int (nI i))] := lv_sub hl [0, 1, 2] rfl
  have hB : gB G.1 (rT G) A s H locs (rWs G (upd sc 30 (nI (L.length - 1)), va_up (va_up (va_up ar 31 (ar 31)) 32 (ar 32)) 33 (ar 33))) := hB
  refine g_loop (σ := Nat × (Nat → Int32) × (Nat → Int32) × (Nat → Int32)) (fun d xv H locs ls => (xv.1 + d = L.length - 1) ∧ (i ≤ xv.1) ∧ (lnF xv.2.1 xv.2.2.1 xv.2.2.2 (fun m => if i ≤ m ∧ m < xv.1 then L[m + 1]? else L[m]?)) ∧ gB G.1 (rT G) A s H locs (rWs G (upd sc 30 (nI (L.length - 1)), va_up (va_up (va_up ar 31 xv.2.1) 32 xv.2.2.1) 33 xv.2.2.2)) ∧ lv_has ls 4 [(2, .int (nI xv.1)), (0, .ref G.2.1), (1, .int (nI i))]) (L.length - 1 - i) (i, ar 31, ar 32, ar 33) ⟨by omega, Nat.le_refl i, fun m q hq => hR m q (by dsimp only at hq; rw [if_neg (by omega)] at hq; exact hq), hB, hl⟩ ?_
  rintro d ⟨k, fr, le, si⟩ H locs ls ⟨hk, hik, hF, hB, hl⟩ ih_1
  have hk : k + d = L.length - 1 := hk
  have hik : i ≤ k := hik
  have hF : lnF fr le si (fun m => if i ≤ m ∧ m < k then L[m + 1]? else L[m]?) := hF
  have hB : gB G.1 (rT G) A s H locs (rWs G (upd sc 30 (nI (L.length - 1)), va_up (va_up (va_up ar 31 fr) 32 le) 33 si)) := hB
  have hl : lv_has ls 4 [(2, .int (nI k)), (0, .ref G.2.1), (1, .int (nI i))] := hl
  refine lv_iload_n hx hb dX12_removeFrame_12 rfl (lv_at hl 0 rfl) ?_
  refine lv_aload_n hx hb dX12_removeFrame_13 rfl (lv_at hl 1 rfl) ?_
  refine r_get (u := (upd sc 30 (nI (L.length - 1)), va_up (va_up (va_up ar 31 fr) 32 le) 33 si)) (v := .int (nI (L.length - 1))) hx hb hts hin hown hB 30 (by decide) (hts (.fieldLink RX12 89 "PointReportsModel" "flying" "I") (by decide +kernel)) rfl rfl dX12_removeFrame_14 ?_
  refine lv_icmp_ge (tgt := 92) hx hb dX12_removeFrame_17 (by decide) (fun c_2 => ?_) (fun c_2 => ?_)
  · have c_2 : (L.length - 1) ≤ k := (nI_leI (a := (L.length - 1)) (b := k) (by omega) (by omega)).mp c_2
    have hk9 : k = L.length - 1 := by omega
    subst hk9
    exact g_vret (Wd := rWs G) (upd sc 30 (nI (L.length - 1)), va_up (va_up (va_up ar 31 fr) 32 le) 33 si) hB hx hb hr hlocks rfl ⟨_, _, _, lnR_drop hF hi, rfl⟩ dX12_removeFrame_92
  · have c_2 : ¬ (L.length - 1) ≤ k := fun h9 => c_2 ((nI_leI (a := (L.length - 1)) (b := k) (by omega) (by omega)).mpr h9)
    refine lv_iconst (v := nI 0) hx hb dX12_removeFrame_20 (by decide) ?_
    refine lv_istore_n (lv' := [(3, .int (nI 0)), (2, .int (nI k)), (0, .ref G.2.1), (1, .int (nI i))]) hx hb dX12_removeFrame_21 rfl hl (by decide) rfl (fun ls hl => ?_)
    have hl : lv_has ls 4 [(3, .int (nI 0)), (2, .int (nI k)), (0, .ref G.2.1), (1, .int (nI i))] := lv_sub hl [0, 1, 2, 3] rfl
    have hB : gB G.1 (rT G) A s H locs (rWs G (upd sc 30 (nI (L.length - 1)), va_up (va_up (va_up ar 31 fr) 32 le) 33 si)) := hB
    refine g_loop (σ := Nat × (Nat → Int32)) (fun d xv H locs ls => (xv.1 + d = 40) ∧ (∀ z, xv.2 z = if 40 * k ≤ z ∧ z < 40 * k + xv.1 then fr (z + 40) else fr z) ∧ gB G.1 (rT G) A s H locs (rWs G (upd sc 30 (nI (L.length - 1)), va_up (va_up (va_up ar 31 xv.2) 32 le) 33 si)) ∧ lv_has ls 4 [(3, .int (nI xv.1)), (2, .int (nI k)), (0, .ref G.2.1), (1, .int (nI i))]) 40 (0, fr) ⟨by omega, fun z => by rw [if_neg (by omega)], hB, hl⟩ ?_
    rintro d ⟨j, fq⟩ H locs ls ⟨hj, hq, hB, hl⟩ ih_3
    have hj : j + d = 40 := hj
    have hq : ∀ z, fq z = if 40 * k ≤ z ∧ z < 40 * k + j then fr (z + 40) else fr z := hq
    have hB : gB G.1 (rT G) A s H locs (rWs G (upd sc 30 (nI (L.length - 1)), va_up (va_up (va_up ar 31 fq) 32 le) 33 si)) := hB
    have hl : lv_has ls 4 [(3, .int (nI j)), (2, .int (nI k)), (0, .ref G.2.1), (1, .int (nI i))] := hl
    refine lv_iload_n hx hb dX12_removeFrame_22 rfl (lv_at hl 0 rfl) ?_
    refine lv_bipush (v := nI 40) hx hb dX12_removeFrame_23 (by decide) ?_
    refine lv_icmp_ge (tgt := 58) hx hb dX12_removeFrame_25 (by decide) (fun c_4 => ?_) (fun c_4 => ?_)
    · have c_4 : 40 ≤ j := (nI_leI (a := 40) (b := j) (by omega) (by omega)).mp c_4
      have hj9 : j = 40 := by omega
      rw [hj9] at hq
      refine lv_aload_n hx hb dX12_removeFrame_58 rfl (lv_at hl 2 rfl) ?_
      refine r_get (u := (upd sc 30 (nI (L.length - 1)), va_up (va_up (va_up ar 31 fq) 32 le) 33 si)) (v := .ref (G.2.2.1 32)) hx hb hts hin hown hB 32 (by decide) (hts (.fieldLink RX12 54 "PointReportsModel" "lengths" "[I") (by decide +kernel)) rfl rfl dX12_removeFrame_59 ?_
      refine lv_iload_n hx hb dX12_removeFrame_62 rfl (lv_at hl 1 rfl) ?_
      refine lv_aload_n hx hb dX12_removeFrame_63 rfl (lv_at hl 2 rfl) ?_
      refine r_get (u := (upd sc 30 (nI (L.length - 1)), va_up (va_up (va_up ar 31 fq) 32 le) 33 si)) (v := .ref (G.2.2.1 32)) hx hb hts hin hown hB 32 (by decide) (hts (.fieldLink RX12 54 "PointReportsModel" "lengths" "[I") (by decide +kernel)) rfl rfl dX12_removeFrame_64 ?_
      refine lv_iload_n hx hb dX12_removeFrame_67 rfl (lv_at hl 1 rfl) ?_
      refine lv_iconst (v := nI 1) hx hb dX12_removeFrame_68 (by decide) ?_
      refine lv_iadd hx hb dX12_removeFrame_69 ?_
      refine g_top (y := nI (k + 1)) (nI_add _ _) ?_
      refine r_ald (u := (upd sc 30 (nI (L.length - 1)), va_up (va_up (va_up ar 31 fq) 32 le) 33 si)) (f := le) hx hb hB 14 rfl (k + 1) rfl (by omega) (by decide) dX12_removeFrame_70 ?_
      refine r_ast (u := (upd sc 30 (nI (L.length - 1)), va_up (va_up (va_up ar 31 fq) 32 le) 33 si)) (f := le) (x := le (k + 1)) (va_up (va_up (va_up ar 31 fq) 32 (upd le k (le (k + 1)))) 33 si) hx hb hB 14 rfl k rfl (by omega) (by decide) rfl dX12_removeFrame_71 (fun H locs hB => ?_)
      refine lv_aload_n hx hb dX12_removeFrame_72 rfl (lv_at hl 2 rfl) ?_
      refine r_get (u := (upd sc 30 (nI (L.length - 1)), va_up (va_up (va_up ar 31 fq) 32 (upd le k (le (k + 1)))) 33 si)) (v := .ref (G.2.2.1 33)) hx hb hts hin hown hB 33 (by decide) (hts (.fieldLink RX12 57 "PointReportsModel" "sides" "[I") (by decide +kernel)) rfl rfl dX12_removeFrame_73 ?_
      refine lv_iload_n hx hb dX12_removeFrame_76 rfl (lv_at hl 1 rfl) ?_
      refine lv_aload_n hx hb dX12_removeFrame_77 rfl (lv_at hl 2 rfl) ?_
      refine r_get (u := (upd sc 30 (nI (L.length - 1)), va_up (va_up (va_up ar 31 fq) 32 (upd le k (le (k + 1)))) 33 si)) (v := .ref (G.2.2.1 33)) hx hb hts hin hown hB 33 (by decide) (hts (.fieldLink RX12 57 "PointReportsModel" "sides" "[I") (by decide +kernel)) rfl rfl dX12_removeFrame_78 ?_
      refine lv_iload_n hx hb dX12_removeFrame_81 rfl (lv_at hl 1 rfl) ?_
      refine lv_iconst (v := nI 1) hx hb dX12_removeFrame_82 (by decide) ?_
      refine lv_iadd hx hb dX12_removeFrame_83 ?_
      refine g_top (y := nI (k + 1)) (nI_add _ _) ?_
      refine r_ald (u := (upd sc 30 (nI (L.length - 1)), va_up (va_up (va_up ar 31 fq) 32 (upd le k (le (k + 1)))) 33 si)) (f := si) hx hb hB 15 rfl (k + 1) rfl (by omega) (by decide) dX12_removeFrame_84 ?_
      refine r_ast (u := (upd sc 30 (nI (L.length - 1)), va_up (va_up (va_up ar 31 fq) 32 (upd le k (le (k + 1)))) 33 si)) (f := si) (x := si (k + 1)) (va_up (va_up (va_up ar 31 fq) 32 (upd le k (le (k + 1)))) 33 (upd si k (si (k + 1)))) hx hb hB 15 rfl k rfl (by omega) (by decide) rfl dX12_removeFrame_85 (fun H locs hB => ?_)
      refine lv_iinc (v := nI (k + 1)) (lv' := [(2, .int (nI (k + 1))), (3, .int (nI j)), (0, .ref G.2.1), (1, .int (nI i))]) hx hb dX12_removeFrame_86 hl (k := 1) rfl (nI_add _ _) (by decide) rfl (fun ls hl => ?_)
      refine lv_goto (tgt := 12) hx hb dX12_removeFrame_89 (by decide) ?_
      have hl : lv_has ls 4 [(2, .int (nI (k + 1))), (0, .ref G.2.1), (1, .int (nI i))] := lv_sub hl [0, 2, 3] rfl
      have hB : gB G.1 (rT G) A s H locs (rWs G (upd sc 30 (nI (L.length - 1)), va_up (va_up (va_up ar 31 fq) 32 (upd le k (le (k + 1)))) 33 (upd si k (si (k + 1))))) := hB
      have b_5 : (k + 1) + (L.length - 1 - (k + 1)) = L.length - 1 := by omega
      have b_6 : i ≤ (k + 1) := by omega
      have b_7 : lnF fq (upd le k (le (k + 1))) (upd si k (si (k + 1))) (fun m => if i ≤ m ∧ m < (k + 1) then L[m + 1]? else L[m]?) := lnF_step hF hik hq
      exact ih_1 (L.length - 1 - (k + 1)) (k + 1, fq, upd le k (le (k + 1)), upd si k (si (k + 1))) H locs ls (by omega) ⟨b_5, b_6, b_7, hB, hl⟩
    · have c_4 : ¬ 40 ≤ j := fun h9 => c_4 ((nI_leI (a := 40) (b := j) (by omega) (by omega)).mpr h9)
      refine lv_aload_n hx hb dX12_removeFrame_28 rfl (lv_at hl 2 rfl) ?_
      refine r_get (u := (upd sc 30 (nI (L.length - 1)), va_up (va_up (va_up ar 31 fq) 32 le) 33 si)) (v := .ref (G.2.2.1 31)) hx hb hts hin hown hB 31 (by decide) (hts (.fieldLink RX12 51 "PointReportsModel" "frames" "[I") (by decide +kernel)) rfl rfl dX12_removeFrame_29 ?_
      refine lv_bipush (v := nI 40) hx hb dX12_removeFrame_32 (by decide) ?_
      refine lv_iload_n hx hb dX12_removeFrame_34 rfl (lv_at hl 1 rfl) ?_
      refine lv_imul hx hb dX12_removeFrame_35 ?_
      refine g_top (y := nI (40 * k)) (pk_mul _ _) ?_
      refine lv_iload_n hx hb dX12_removeFrame_36 rfl (lv_at hl 0 rfl) ?_
      refine lv_iadd hx hb dX12_removeFrame_37 ?_
      refine g_top (y := nI ((40 * k) + j)) (nI_add _ _) ?_
      refine lv_aload_n hx hb dX12_removeFrame_38 rfl (lv_at hl 2 rfl) ?_
      refine r_get (u := (upd sc 30 (nI (L.length - 1)), va_up (va_up (va_up ar 31 fq) 32 le) 33 si)) (v := .ref (G.2.2.1 31)) hx hb hts hin hown hB 31 (by decide) (hts (.fieldLink RX12 51 "PointReportsModel" "frames" "[I") (by decide +kernel)) rfl rfl dX12_removeFrame_39 ?_
      refine lv_bipush (v := nI 40) hx hb dX12_removeFrame_42 (by decide) ?_
      refine lv_iload_n hx hb dX12_removeFrame_44 rfl (lv_at hl 1 rfl) ?_
      refine lv_iconst (v := nI 1) hx hb dX12_removeFrame_45 (by decide) ?_
      refine lv_iadd hx hb dX12_removeFrame_46 ?_
      refine g_top (y := nI (k + 1)) (nI_add _ _) ?_
      refine lv_imul hx hb dX12_removeFrame_47 ?_
      refine g_top (y := nI (40 * (k + 1))) (pk_mul _ _) ?_
      refine lv_iload_n hx hb dX12_removeFrame_48 rfl (lv_at hl 0 rfl) ?_
      refine lv_iadd hx hb dX12_removeFrame_49 ?_
      refine g_top (y := nI ((40 * (k + 1)) + j)) (nI_add _ _) ?_
      refine r_ald (u := (upd sc 30 (nI (L.length - 1)), va_up (va_up (va_up ar 31 fq) 32 le) 33 si)) (f := fq) hx hb hB 13 rfl ((40 * (k + 1)) + j) rfl (by omega) (by decide) dX12_removeFrame_50 ?_
      refine r_ast (u := (upd sc 30 (nI (L.length - 1)), va_up (va_up (va_up ar 31 fq) 32 le) 33 si)) (f := fq) (x := fq ((40 * (k + 1)) + j)) (va_up (va_up (va_up ar 31 (upd fq ((40 * k) + j) (fq ((40 * (k + 1)) + j)))) 32 le) 33 si) hx hb hB 13 rfl ((40 * k) + j) rfl (by omega) (by decide) rfl dX12_removeFrame_51 (fun H locs hB => ?_)
      refine lv_iinc (v := nI (j + 1)) (lv' := [(3, .int (nI (j + 1))), (2, .int (nI k)), (0, .ref G.2.1), (1, .int (nI i))]) hx hb dX12_removeFrame_52 hl (k := 0) rfl (nI_add _ _) (by decide) rfl (fun ls hl => ?_)
      refine lv_goto (tgt := 22) hx hb dX12_removeFrame_55 (by decide) ?_
      have hl : lv_has ls 4 [(3, .int (nI (j + 1))), (2, .int (nI k)), (0, .ref G.2.1), (1, .int (nI i))] := lv_sub hl [0, 1, 2, 3] rfl
      have hB : gB G.1 (rT G) A s H locs (rWs G (upd sc 30 (nI (L.length - 1)), va_up (va_up (va_up ar 31 (upd fq ((40 * k) + j) (fq ((40 * (k + 1)) + j)))) 32 le) 33 si)) := hB
      have b_8 : (j + 1) + (40 - (j + 1)) = 40 := by omega
      have b_9 : ∀ z, (upd fq ((40 * k) + j) (fq ((40 * (k + 1)) + j))) z = if 40 * k ≤ z ∧ z < 40 * k + (j + 1) then fr (z + 40) else fr z := fun z => by
          by_cases hz : z = 40 * k + j
          · subst hz
            rw [upd_self, if_pos (by omega), hq, if_neg (by omega)]
            congr 1
            omega
          · rw [upd_ne hz, hq]
            by_cases hz2 : 40 * k ≤ z ∧ z < 40 * k + j
            · rw [if_pos hz2, if_pos (by omega)]
            · rw [if_neg hz2, if_neg (by omega)]
      exact ih_3 (40 - (j + 1)) (j + 1, upd fq ((40 * k) + j) (fq ((40 * (k + 1)) + j))) H locs ls (by omega) ⟨b_8, b_9, hB, hl⟩
