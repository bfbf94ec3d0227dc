/-! A REPORT -/
def rpS (E : evL) (h0 : List Int32) : Nat → List Int32 × Nat × (Nat → Nat)
  | 0 => (h0, 16, fun _ => 0)
  | c + 1 => ((rpS E h0 c).1 ++ grS (E (c + 1)) (c + 1) (mnN (E (c + 1)).length (rpS E h0 c).2.1), (rpS E h0 c).2.1 - mnN (E (c + 1)).length (rpS E h0 c).2.1, va_up (rpS E h0 c).2.2 (c + 1) (max ((rpS E h0 c).2.2 (c + 1)) (mnN (E (c + 1)).length (rpS E h0 c).2.1)))
def rpH (seq : Nat) : List Int32 := [(nI 192 + nI (48 + seq)) &&& 255, nI 130 &&& 255, nI 0 &&& 255, nI 0 &&& 255]
noncomputable def rpE (E : evL) (n : Nat) : List Int32 × Nat × (Nat → Nat) := rpS E (rpH (n % 16)) 3
/-- the n-th report -/
noncomputable def rpO (E : evL) (n : Nat) (lost : Int32) : List Int32 := ((rpE E n).1.set 2 (moK E (rpE E n).2.2 3)).set 3 (if lost = 0 then nI 0 else nI 8)
theorem rpS_len (E : evL) (h0 : List Int32) (h4 : h0.length = 4) : ∀ k, (rpS E h0 k).1.length + 7 * (rpS E h0 k).2.1 ≤ 116 + 3 * k ∧ (rpS E h0 k).2.1 ≤ 16 ∧ 4 ≤ (rpS E h0 k).1.length := by
  intro k
  induction k with
  | zero => rw [rpS]; dsimp only; omega
  | succ k ih =>
    obtain ⟨i1, i2, i3⟩ := ih
    rw [rpS]
    dsimp only
    have l1 := grS_len (E (k + 1)) (k + 1) (mnN (E (k + 1)).length (rpS E h0 k).2.1)
    have l2 : mnN (E (k + 1)).length (rpS E h0 k).2.1 ≤ (rpS E h0 k).2.1 := by unfold mnN; split <;> omega
    rw [List.length_append]
    omega
theorem rpO_len (E : evL) (n : Nat) (lost : Int32) : (rpO E n lost).length ≤ 125 ∧ 4 ≤ (rpO E n lost).length := by
  have h := rpS_len E (rpH (n % 16)) rfl 3
  rw [rpO, rpE, List.length_set, List.length_set]
  omega
theorem pfx_copy {f g : Nat → Int32} {l : List Int32} (h : pfx f l) (hc : ∀ j, j < l.length → g j = f j) : pfx g l := fun j hj => (hc j hj).trans (h j hj)
theorem rpS_wt (E : evL) (h0 : List Int32) : ∀ k c, (rpS E h0 k).2.2 c ≤ (E c).length := by
  intro k
  induction k with
  | zero => intro c; exact Nat.zero_le _
  | succ k ih =>
    intro c
    rw [rpS]
    dsimp only
    unfold va_up
    split
    · rename_i hc
      subst hc
      have h1 := ih (k + 1)
      have l2 : mnN (E (k + 1)).length (rpS E h0 k).2.1 ≤ (E (k + 1)).length := by unfold mnN; split <;> omega
      omega
    · exact ih c
set_option maxRecDepth 100000 in
set_option maxHeartbeats 4000000 in
/-- makeReport() -/
theorem c_makeReport (l : Launch) (G : rG) (sc : Nat → Int32) (ar : Nat → Nat → Int32) (E : evL) (hE : evR (ar 4) (ar 5) (ar 6) (ar 7) E) (n : Nat) (hn : sc 14 = nI n) (hn3 : n < 2147483647) (L : List (Int32 × List Int32)) (hR : lnR (ar 31) (ar 32) (ar 33) L) (h30 : sc 30 = nI L.length) (hL : L.length ≤ 40) (q : Nat) (hq : ar 34 1 = nI q) (hq64 : q < 64) : gM l G.1 (rT G) yX12_makeReport wsX12_makeReport ({ frames := 4, cells := 0, slots := 0, locals := 96 }) [.ref G.2.1] (rWs G (sc, ar)) (gQv G.1 (rT G) (fun u : rSt => ∃ f g wa fr le si nu, pfx g (rpO E n (sc 9)) ∧ wtR wa E (rpE E n).2.2 ∧ lnR fr le si (sndF 0 (rpO E n (sc 9)) L q).1 ∧ (sndF 0 (rpO E n (sc 9)) L q).1.length ≤ 40 ∧ (sndF 0 (rpO E n (sc 9)) L q).2 < 64 ∧ nu 1 = nI (sndF 0 (rpO E n (sc 9)) L q).2 ∧ nu 0 = ar 34 0 ∧ u = (upd (upd (upd (upd (upd (upd (upd (upd sc 11 (nI 2)) 12 (nI (n % 16))) 14 (nI (n + 1))) 15 (sc 0)) 16 (nI 0)) 18 (nI (rpO E n (sc 9)).length)) 30 (nI (sndF 0 (rpO E n (sc 9)) L q).1.length)) 40 (nI (rpO E n (sc 9)).length), va_up (va_up (va_up (va_up (va_up (va_up (va_up ar 8 wa) 17 g) 31 fr) 32 le) 33 si) 34 nu) 39 f)) (rWs G)) 0 0 := by
  refine gM.of (cc := cX12_makeReport) (maxL := 3) (ret := none) (by decide) rfl (Nat.le_of_ble_eq_true rfl) ?_
  intro p e s m below meth c A ls hx hb hr hml hown hts hlocks hnm hB hl
  have hin : ∀ w ∈ wsX120, w ∈ wsX12_makeReport := fun w h => List.mem_cons_of_mem _ (List.mem_append_right _ h)
  have hl : lv_has ls 3 [(0, .ref G.2.1)] := hl
  refine lv_aload_n hx hb dX12_makeReport_0 rfl (lv_at hl 0 rfl) ?_
  refine g_callv (av := []) (rest := []) ⟨hx, hb, hml, hown, hts⟩ (c_noneWaits l G sc ar) (cwV 0 hts gX12_makeReport_X12_noneWaits rfl rfl rfl (by decide +kernel) ⟨Nat.le_of_ble_eq_true rfl, Nat.le_of_ble_eq_true rfl⟩) hB (q0 := 0) (ci := 9) rfl rfl rfl rfl hl.1 rfl (Nat.le_of_ble_eq_true rfl) dX12_makeReport_1 ⟨Nat.le_of_ble_eq_true rfl, Nat.le_of_ble_eq_true rfl⟩ (fun u H locs hw hB => ?_)
  obtain ⟨wa0, hw0, rfl⟩ := hw
  have hB : gB G.1 (rT G) A s H locs (rWs G (upd sc 11 (nI 0), va_up ar 8 wa0)) := hB
  refine lv_aload_n hx hb dX12_makeReport_4 rfl (lv_at hl 0 rfl) ?_
  refine lv_aload_n hx hb dX12_makeReport_5 rfl (lv_at hl 0 rfl) ?_
  refine r_get (u := (upd sc 11 (nI 0), va_up ar 8 wa0)) (v := .int (sc 14)) hx hb hts hin hown hB 14 (by decide) (hts (.fieldLink RX12 193 "PointReportsModel" "reports" "I") (by decide +kernel)) rfl rfl dX12_makeReport_6 ?_
  refine g_top (y := nI n) hn ?_
  refine lv_bipush (v := nI 16) hx hb dX12_makeReport_9 (by decide) ?_
  refine lv_irem hx hb dX12_makeReport_11 (by decide) ?_
  refine g_top (y := nI (n % 16)) (pk_rem (by omega) (by decide) (by decide)) ?_
  refine r_put (u := (upd sc 11 (nI 0), va_up ar 8 wa0)) (v := nI (n % 16)) (upd (upd sc 11 (nI 0)) 12 (nI (n % 16))) hx hb hts hin hown hB 12 (by decide) (hts (.fieldLink RX12 175 "PointReportsModel" "waitingSeq" "I") (by decide +kernel)) rfl (ty := .int) rfl rfl rfl rfl rfl dX12_makeReport_12 (fun H locs hB => ?_)
  refine lv_aload_n hx hb dX12_makeReport_15 rfl (lv_at hl 0 rfl) ?_
  refine lv_dup hx hb dX12_makeReport_16 rfl ?_
  refine r_get (u := (upd (upd sc 11 (nI 0)) 12 (nI (n % 16)), va_up ar 8 wa0)) (v := .int (sc 14)) hx hb hts hin hown hB 14 (by decide) (hts (.fieldLink RX12 193 "PointReportsModel" "reports" "I") (by decide +kernel)) rfl rfl dX12_makeReport_17 ?_
  refine g_top (y := nI n) hn ?_
  refine lv_iconst (v := nI 1) hx hb dX12_makeReport_20 (by decide) ?_
  refine lv_iadd hx hb dX12_makeReport_21 ?_
  refine g_top (y := nI (n + 1)) (nI_add _ _) ?_
  refine r_put (u := (upd (upd sc 11 (nI 0)) 12 (nI (n % 16)), va_up ar 8 wa0)) (v := nI (n + 1)) (upd (upd (upd sc 11 (nI 0)) 12 (nI (n % 16))) 14 (nI (n + 1))) hx hb hts hin hown hB 14 (by decide) (hts (.fieldLink RX12 193 "PointReportsModel" "reports" "I") (by decide +kernel)) rfl (ty := .int) rfl rfl rfl rfl rfl dX12_makeReport_22 (fun H locs hB => ?_)
  refine lv_aload_n hx hb dX12_makeReport_25 rfl (lv_at hl 0 rfl) ?_
  refine lv_bipush (v := nI 48) hx hb dX12_makeReport_26 (by decide) ?_
  refine lv_aload_n hx hb dX12_makeReport_28 rfl (lv_at hl 0 rfl) ?_
  refine r_get (u := (upd (upd (upd sc 11 (nI 0)) 12 (nI (n % 16))) 14 (nI (n + 1)), va_up ar 8 wa0)) (v := .int (nI (n % 16))) hx hb hts hin hown hB 12 (by decide) (hts (.fieldLink RX12 175 "PointReportsModel" "waitingSeq" "I") (by decide +kernel)) rfl rfl dX12_makeReport_29 ?_
  refine lv_iadd hx hb dX12_makeReport_32 ?_
  refine g_top (y := nI (48 + (n % 16))) (nI_add _ _) ?_
  refine lv_sipush (v := nI 130) hx hb dX12_makeReport_33 (by decide) ?_
  refine g_callv (av := [.int (nI (48 + (n % 16))), .int (nI 130)]) (rest := []) ⟨hx, hb, hml, hown, hts⟩ (c_begin l G (upd (upd (upd sc 11 (nI 0)) 12 (nI (n % 16))) 14 (nI (n + 1))) (va_up ar 8 wa0) (nI (48 + n % 16)) (nI 130)) (cwV 2 hts gX12_makeReport_X12_begin rfl rfl rfl (by decide +kernel) ⟨Nat.le_of_ble_eq_true rfl, Nat.le_of_ble_eq_true rfl⟩) hB (q0 := 0) (ci := 9) rfl rfl rfl rfl hl.1 rfl (Nat.le_of_ble_eq_true rfl) dX12_makeReport_36 ⟨Nat.le_of_ble_eq_true rfl, Nat.le_of_ble_eq_true rfl⟩ (fun u H locs hw hB => ?_)
  obtain ⟨f1, hf1, rfl⟩ := hw
  have hB : gB G.1 (rT G) A s H locs (rWs G (upd (upd (upd (upd sc 11 (nI 0)) 12 (nI (n % 16))) 14 (nI (n + 1))) 40 (nI 2), va_up (va_up ar 8 wa0) 39 f1)) := hB
  refine lv_aload_n hx hb dX12_makeReport_39 rfl (lv_at hl 0 rfl) ?_
  refine lv_iconst (v := nI 0) hx hb dX12_makeReport_40 (by decide) ?_
  refine g_callv (av := [.int (nI 0)]) (rest := []) ⟨hx, hb, hml, hown, hts⟩ (c_put l G (upd (upd (upd (upd sc 11 (nI 0)) 12 (nI (n % 16))) 14 (nI (n + 1))) 40 (nI 2)) (va_up (va_up ar 8 wa0) 39 f1) (nI 0) [(nI 192 + nI (48 + n % 16)) &&& 255, nI 130 &&& 255] hf1 rfl (Nat.le_of_ble_eq_true rfl)) (cwV 1 hts gX12_makeReport_X12_put rfl rfl rfl (by decide +kernel) ⟨Nat.le_of_ble_eq_true rfl, Nat.le_of_ble_eq_true rfl⟩) hB (q0 := 0) (ci := 9) rfl rfl rfl rfl hl.1 rfl (Nat.le_of_ble_eq_true rfl) dX12_makeReport_41 ⟨Nat.le_of_ble_eq_true rfl, Nat.le_of_ble_eq_true rfl⟩ (fun u H locs hw hB => ?_)
  obtain ⟨f2, hf2, rfl⟩ := hw
  have hB : gB G.1 (rT G) A s H locs (rWs G (upd (upd (upd (upd sc 11 (nI 0)) 12 (nI (n % 16))) 14 (nI (n + 1))) 40 (nI 3), va_up (va_up ar 8 wa0) 39 f2)) := hB
  refine lv_aload_n hx hb dX12_makeReport_44 rfl (lv_at hl 0 rfl) ?_
  refine lv_iconst (v := nI 0) hx hb dX12_makeReport_45 (by decide) ?_
  refine g_callv (av := [.int (nI 0)]) (rest := []) ⟨hx, hb, hml, hown, hts⟩ (c_put l G (upd (upd (upd (upd sc 11 (nI 0)) 12 (nI (n % 16))) 14 (nI (n + 1))) 40 (nI 3)) (va_up (va_up ar 8 wa0) 39 f2) (nI 0) [(nI 192 + nI (48 + n % 16)) &&& 255, nI 130 &&& 255, nI 0 &&& 255] hf2 rfl (Nat.le_of_ble_eq_true rfl)) (cwV 1 hts gX12_makeReport_X12_put rfl rfl rfl (by decide +kernel) ⟨Nat.le_of_ble_eq_true rfl, Nat.le_of_ble_eq_true rfl⟩) hB (q0 := 0) (ci := 9) rfl rfl rfl rfl hl.1 rfl (Nat.le_of_ble_eq_true rfl) dX12_makeReport_46 ⟨Nat.le_of_ble_eq_true rfl, Nat.le_of_ble_eq_true rfl⟩ (fun u H locs hw hB => ?_)
  obtain ⟨f3, hf3, rfl⟩ := hw
  have hB : gB G.1 (rT G) A s H locs (rWs G (upd (upd (upd (upd sc 11 (nI 0)) 12 (nI (n % 16))) 14 (nI (n + 1))) 40 (nI 4), va_up (va_up ar 8 wa0) 39 f3)) := hB
  have hf3 : pfx f3 (rpH (n % 16)) := hf3
  refine lv_bipush (v := nI 16) hx hb dX12_makeReport_49 (by decide) ?_
  refine lv_istore_n (lv' := [(1, .int (nI 16)), (0, .ref G.2.1)]) hx hb dX12_makeReport_51 rfl hl (by decide) rfl (fun ls hl => ?_)
  refine lv_iconst (v := nI 1) hx hb dX12_makeReport_52 (by decide) ?_
  refine lv_istore_n (lv' := [(2, .int (nI 1)), (1, .int (nI 16)), (0, .ref G.2.1)]) hx hb dX12_makeReport_53 rfl hl (by decide) rfl (fun ls hl => ?_)
  have hl : lv_has ls 3 [(2, .int (nI (0 + 1))), (1, .int (nI ((rpS E (rpH (n % 16)) 0).2.1))), (0, .ref G.2.1)] := lv_sub hl [0, 1, 2] rfl
  have hB : gB G.1 (rT G) A s H locs (rWs G (upd (upd (upd (upd sc 11 (nI 0)) 12 (nI (n % 16))) 14 (nI (n + 1))) 40 (nI ((rpS E (rpH (n % 16)) 0).1.length)), va_up (va_up ar 8 wa0) 39 f3)) := hB
  refine g_loop (σ := Nat × (Nat → Int32) × (Nat → Int32)) (fun d xv H locs ls => (xv.1 + d = 3) ∧ (pfx xv.2.1 (rpS E (rpH (n % 16)) xv.1).1) ∧ (wtR xv.2.2 E (rpS E (rpH (n % 16)) xv.1).2.2) ∧ gB G.1 (rT G) A s H locs (rWs G (upd (upd (upd (upd sc 11 (nI 0)) 12 (nI (n % 16))) 14 (nI (n + 1))) 40 (nI ((rpS E (rpH (n % 16)) xv.1).1.length)), va_up (va_up ar 8 xv.2.2) 39 xv.2.1)) ∧ lv_has ls 3 [(2, .int (nI (xv.1 + 1))), (1, .int (nI ((rpS E (rpH (n % 16)) xv.1).2.1))), (0, .ref G.2.1)]) 3 (0, f3, wa0) ⟨by omega, hf3, fun c h1 h3 j hj => by show wa0 (8 * c + j) = if j < 0 then 1 else 0; rw [if_neg (Nat.not_lt_zero _)]; exact hw0 _ (by have := (hE c h1 h3).2.1; omega), hB, hl⟩ ?_
  rintro d ⟨k, f, wa⟩ H locs ls ⟨hk, hf, hw, hB, hl⟩ ih_1
  have hk : k + d = 3 := hk
  have hf : pfx f (rpS E (rpH (n % 16)) k).1 := hf
  have hw : wtR wa E (rpS E (rpH (n % 16)) k).2.2 := hw
  have hB : gB G.1 (rT G) A s H locs (rWs G (upd (upd (upd (upd sc 11 (nI 0)) 12 (nI (n % 16))) 14 (nI (n + 1))) 40 (nI ((rpS E (rpH (n % 16)) k).1.length)), va_up (va_up ar 8 wa) 39 f)) := hB
  have hl : lv_has ls 3 [(2, .int (nI (k + 1))), (1, .int (nI ((rpS E (rpH (n % 16)) k).2.1))), (0, .ref G.2.1)] := hl
  obtain ⟨z1, z2, z3⟩ := rpS_len E (rpH (n % 16)) rfl k
  refine lv_iload_n hx hb dX12_makeReport_54 rfl (lv_at hl 0 rfl) ?_
  refine lv_iconst (v := nI 4) hx hb dX12_makeReport_55 (by decide) ?_
  refine lv_icmp_ge (tgt := 74) hx hb dX12_makeReport_56 (by decide) (fun c_2 => ?_) (fun c_2 => ?_)
  · have c_2 : 4 ≤ (k + 1) := (nI_leI (a := 4) (b := (k + 1)) (by omega) (by omega)).mp c_2
    have hk9 : k = 3 := by omega
    have eE : (rpE E n) = (rpS E (rpH (n % 16)) k) := by rw [rpE, hk9]
    refine lv_aload_n hx hb dX12_makeReport_74 rfl (lv_at hl 2 rfl) ?_
    refine g_callv (av := []) (rest := []) ⟨hx, hb, hml, hown, hts⟩ (c_putState l G (upd (upd (upd (upd sc 11 (nI 0)) 12 (nI (n % 16))) 14 (nI (n + 1))) 40 (nI ((rpS E (rpH (n % 16)) k).1.length))) (va_up (va_up ar 8 wa) 39 f) E (rpS E (rpH (n % 16)) k).2.2 hE hw (rpS E (rpH (n % 16)) k).1 hf z3) (cwV 0 hts gX12_makeReport_X12_putState rfl rfl rfl (by decide +kernel) ⟨Nat.le_of_ble_eq_true rfl, Nat.le_of_ble_eq_true rfl⟩) hB (q0 := 0) (ci := 9) rfl rfl rfl rfl hl.1 rfl (Nat.le_of_ble_eq_true rfl) dX12_makeReport_75 ⟨Nat.le_of_ble_eq_true rfl, Nat.le_of_ble_eq_true rfl⟩ (fun u H locs hw hB => ?_)
    obtain ⟨g1, hg1, rfl⟩ := hw
    have hB : gB G.1 (rT G) A s H locs (rWs G (upd (upd (upd (upd sc 11 (nI 0)) 12 (nI (n % 16))) 14 (nI (n + 1))) 40 (nI ((rpS E (rpH (n % 16)) k).1.length)), va_up (va_up ar 8 wa) 39 g1)) := hB
    have eO : (rpO E n (sc 9)) = (((rpS E (rpH (n % 16)) k).1.set 2 (moK E (rpS E (rpH (n % 16)) k).2.2 3)).set 3 (if sc 9 = 0 then nI 0 else nI 8)) := by rw [rpO, eE]
    have lO : (rpS E (rpH (n % 16)) k).1.length = (rpO E n (sc 9)).length := by rw [eO, List.length_set, List.length_set]
    have lO2 := rpO_len E n (sc 9)
    have hg1 : pfx g1 (rpO E n (sc 9)) := by rw [eO]; exact hg1
    have hB : gB G.1 (rT G) A s H locs (rWs G (upd (upd (upd (upd sc 11 (nI 0)) 12 (nI (n % 16))) 14 (nI (n + 1))) 40 (nI ((rpO E n (sc 9)).length)), va_up (va_up ar 8 wa) 39 g1)) := by rw [← lO]; exact hB
    refine lv_aload_n hx hb dX12_makeReport_78 rfl (lv_at hl 2 rfl) ?_
    refine lv_iconst (v := nI 2) hx hb dX12_makeReport_79 (by decide) ?_
    refine r_put (u := (upd (upd (upd (upd sc 11 (nI 0)) 12 (nI (n % 16))) 14 (nI (n + 1))) 40 (nI ((rpO E n (sc 9)).length)), va_up (va_up ar 8 wa) 39 g1)) (v := nI 2) (upd (upd (upd (upd sc 11 (nI 2)) 12 (nI (n % 16))) 14 (nI (n + 1))) 40 (nI ((rpO E n (sc 9)).length))) hx hb hts hin hown hB 11 (by decide) (hts (.fieldLink RX12 147 "PointReportsModel" "waiting" "I") (by decide +kernel)) rfl (ty := .int) rfl rfl rfl rfl rfl dX12_makeReport_80 (fun H locs hB => ?_)
    refine lv_aload_n hx hb dX12_makeReport_83 rfl (lv_at hl 2 rfl) ?_
    refine lv_aload_n hx hb dX12_makeReport_84 rfl (lv_at hl 2 rfl) ?_
    refine r_get (u := (upd (upd (upd (upd sc 11 (nI 2)) 12 (nI (n % 16))) 14 (nI (n + 1))) 40 (nI ((rpO E n (sc 9)).length)), va_up (va_up ar 8 wa) 39 g1)) (v := .int (sc 0)) hx hb hts hin hown hB 0 (by decide) (hts (.fieldLink RX12 196 "PointReportsModel" "time" "I") (by decide +kernel)) rfl rfl dX12_makeReport_85 ?_
    refine r_put (u := (upd (upd (upd (upd sc 11 (nI 2)) 12 (nI (n % 16))) 14 (nI (n + 1))) 40 (nI ((rpO E n (sc 9)).length)), va_up (va_up ar 8 wa) 39 g1)) (v := sc 0) (upd (upd (upd (upd (upd sc 11 (nI 2)) 12 (nI (n % 16))) 14 (nI (n + 1))) 15 (sc 0)) 40 (nI ((rpO E n (sc 9)).length))) hx hb hts hin hown hB 15 (by decide) (hts (.fieldLink RX12 199 "PointReportsModel" "lastSent" "I") (by decide +kernel)) rfl (ty := .int) rfl rfl rfl rfl rfl dX12_makeReport_88 (fun H locs hB => ?_)
    refine lv_aload_n hx hb dX12_makeReport_91 rfl (lv_at hl 2 rfl) ?_
    refine lv_iconst (v := nI 0) hx hb dX12_makeReport_92 (by decide) ?_
    refine r_put (u := (upd (upd (upd (upd (upd sc 11 (nI 2)) 12 (nI (n % 16))) 14 (nI (n + 1))) 15 (sc 0)) 40 (nI ((rpO E n (sc 9)).length)), va_up (va_up ar 8 wa) 39 g1)) (v := nI 0) (upd (upd (upd (upd (upd (upd sc 11 (nI 2)) 12 (nI (n % 16))) 14 (nI (n + 1))) 15 (sc 0)) 16 (nI 0)) 40 (nI ((rpO E n (sc 9)).length))) hx hb hts hin hown hB 16 (by decide) (hts (.fieldLink RX12 202 "PointReportsModel" "sentAgain" "I") (by decide +kernel)) rfl (ty := .int) rfl rfl rfl rfl rfl dX12_makeReport_93 (fun H locs hB => ?_)
    refine lv_aload_n hx hb dX12_makeReport_96 rfl (lv_at hl 2 rfl) ?_
    refine lv_aload_n hx hb dX12_makeReport_97 rfl (lv_at hl 2 rfl) ?_
    refine r_get (u := (upd (upd (upd (upd (upd (upd sc 11 (nI 2)) 12 (nI (n % 16))) 14 (nI (n + 1))) 15 (sc 0)) 16 (nI 0)) 40 (nI ((rpO E n (sc 9)).length)), va_up (va_up ar 8 wa) 39 g1)) (v := .int (nI ((rpO E n (sc 9)).length))) hx hb hts hin hown hB 40 (by decide) (hts (.fieldLink RX12 104 "PointReportsModel" "madeLength" "I") (by decide +kernel)) rfl rfl dX12_makeReport_98 ?_
    refine r_put (u := (upd (upd (upd (upd (upd (upd sc 11 (nI 2)) 12 (nI (n % 16))) 14 (nI (n + 1))) 15 (sc 0)) 16 (nI 0)) 40 (nI ((rpO E n (sc 9)).length)), va_up (va_up ar 8 wa) 39 g1)) (v := nI ((rpO E n (sc 9)).length)) (upd (upd (upd (upd (upd (upd (upd sc 11 (nI 2)) 12 (nI (n % 16))) 14 (nI (n + 1))) 15 (sc 0)) 16 (nI 0)) 18 (nI ((rpO E n (sc 9)).length))) 40 (nI ((rpO E n (sc 9)).length))) hx hb hts hin hown hB 18 (by decide) (hts (.fieldLink RX12 205 "PointReportsModel" "reportLength" "I") (by decide +kernel)) rfl (ty := .int) rfl rfl rfl rfl rfl dX12_makeReport_101 (fun H locs hB => ?_)
    refine lv_iconst (v := nI 0) hx hb dX12_makeReport_104 (by decide) ?_
    refine lv_istore_n (lv' := [(2, .int (nI 0)), (1, .int (nI ((rpS E (rpH (n % 16)) k).2.1))), (0, .ref G.2.1)]) hx hb dX12_makeReport_105 rfl hl (by decide) rfl (fun ls hl => ?_)
    have hl : lv_has ls 3 [(2, .int (nI 0)), (1, .int (nI ((rpS E (rpH (n % 16)) k).2.1))), (0, .ref G.2.1)] := lv_sub hl [0, 1, 2] rfl
    have hB : gB G.1 (rT G) A s H locs (rWs G (upd (upd (upd (upd (upd (upd (upd sc 11 (nI 2)) 12 (nI (n % 16))) 14 (nI (n + 1))) 15 (sc 0)) 16 (nI 0)) 18 (nI ((rpO E n (sc 9)).length))) 40 (nI ((rpO E n (sc 9)).length)), va_up (va_up (va_up ar 8 wa) 17 (ar 17)) 39 g1)) := hB
    refine g_loop (σ := Nat × (Nat → Int32)) (fun d xv H locs ls => (xv.1 + d = (rpO E n (sc 9)).length) ∧ (∀ i, i < xv.1 → xv.2 i = g1 i) ∧ gB G.1 (rT G) A s H locs (rWs G (upd (upd (upd (upd (upd (upd (upd sc 11 (nI 2)) 12 (nI (n % 16))) 14 (nI (n + 1))) 15 (sc 0)) 16 (nI 0)) 18 (nI ((rpO E n (sc 9)).length))) 40 (nI ((rpO E n (sc 9)).length)), va_up (va_up (va_up ar 8 wa) 17 xv.2) 39 g1)) ∧ lv_has ls 3 [(2, .int (nI xv.1)), (1, .int (nI ((rpS E (rpH (n % 16)) k).2.1))), (0, .ref G.2.1)]) ((rpO E n (sc 9)).length) (0, ar 17) ⟨by omega, fun i hi => absurd hi (Nat.not_lt_zero i), hB, hl⟩ ?_
    rintro d ⟨j, g⟩ H locs ls ⟨hj, hg, hB, hl⟩ ih_3
    have hj : j + d = (rpO E n (sc 9)).length := hj
    have hg : ∀ i, i < j → g i = g1 i := hg
    have hB : gB G.1 (rT G) A s H locs (rWs G (upd (upd (upd (upd (upd (upd (upd sc 11 (nI 2)) 12 (nI (n % 16))) 14 (nI (n + 1))) 15 (sc 0)) 16 (nI 0)) 18 (nI ((rpO E n (sc 9)).length))) 40 (nI ((rpO E n (sc 9)).length)), va_up (va_up (va_up ar 8 wa) 17 g) 39 g1)) := hB
    have hl : lv_has ls 3 [(2, .int (nI j)), (1, .int (nI ((rpS E (rpH (n % 16)) k).2.1))), (0, .ref G.2.1)] := hl
    refine lv_iload_n hx hb dX12_makeReport_106 rfl (lv_at hl 0 rfl) ?_
    refine lv_aload_n hx hb dX12_makeReport_107 rfl (lv_at hl 2 rfl) ?_
    refine r_get (u := (upd (upd (upd (upd (upd (upd (upd sc 11 (nI 2)) 12 (nI (n % 16))) 14 (nI (n + 1))) 15 (sc 0)) 16 (nI 0)) 18 (nI ((rpO E n (sc 9)).length))) 40 (nI ((rpO E n (sc 9)).length)), va_up (va_up (va_up ar 8 wa) 17 g) 39 g1)) (v := .int (nI ((rpO E n (sc 9)).length))) hx hb hts hin hown hB 40 (by decide) (hts (.fieldLink RX12 104 "PointReportsModel" "madeLength" "I") (by decide +kernel)) rfl rfl dX12_makeReport_108 ?_
    refine lv_icmp_ge (tgt := 132) hx hb dX12_makeReport_111 (by decide) (fun c_4 => ?_) (fun c_4 => ?_)
    · have c_4 : ((rpO E n (sc 9)).length) ≤ j := (nI_leI (a := ((rpO E n (sc 9)).length)) (b := j) (by omega) (by omega)).mp c_4
      refine lv_aload_n hx hb dX12_makeReport_132 rfl (lv_at hl 2 rfl) ?_
      refine lv_iconst (v := nI 0) hx hb dX12_makeReport_133 (by decide) ?_
      refine g_callv (av := [.int (nI 0)]) (rest := []) ⟨hx, hb, hml, hown, hts⟩ (c_send l G (upd (upd (upd (upd (upd (upd (upd sc 11 (nI 2)) 12 (nI (n % 16))) 14 (nI (n + 1))) 15 (sc 0)) 16 (nI 0)) 18 (nI ((rpO E n (sc 9)).length))) 40 (nI ((rpO E n (sc 9)).length))) (va_up (va_up (va_up ar 8 wa) 17 g) 39 g1) 0 (by decide) (rpO E n (sc 9)) hg1 rfl (by omega) L hR h30 hL q hq hq64) (cwV 1 hts gX12_makeReport_X12_send rfl rfl rfl (by decide +kernel) ⟨Nat.le_of_ble_eq_true rfl, Nat.le_of_ble_eq_true rfl⟩) hB (q0 := 0) (ci := 9) rfl rfl rfl rfl hl.1 rfl (Nat.le_of_ble_eq_true rfl) dX12_makeReport_134 ⟨Nat.le_of_ble_eq_true rfl, Nat.le_of_ble_eq_true rfl⟩ (fun u H locs hw hB => ?_)
      obtain ⟨fr, le, si, nu, hs1, hs2, hs3, hs4, hs5, rfl⟩ := hw
      have hB : gB G.1 (rT G) A s H locs (rWs G (upd (upd (upd (upd (upd (upd (upd (upd sc 11 (nI 2)) 12 (nI (n % 16))) 14 (nI (n + 1))) 15 (sc 0)) 16 (nI 0)) 18 (nI ((rpO E n (sc 9)).length))) 30 (nI ((sndF 0 (rpO E n (sc 9)) L q).1.length))) 40 (nI ((rpO E n (sc 9)).length)), va_up (va_up (va_up (va_up (va_up (va_up (va_up ar 8 wa) 17 g) 31 fr) 32 le) 33 si) 34 nu) 39 g1)) := hB
      exact g_vret (Wd := rWs G) (upd (upd (upd (upd (upd (upd (upd (upd sc 11 (nI 2)) 12 (nI (n % 16))) 14 (nI (n + 1))) 15 (sc 0)) 16 (nI 0)) 18 (nI ((rpO E n (sc 9)).length))) 30 (nI ((sndF 0 (rpO E n (sc 9)) L q).1.length))) 40 (nI ((rpO E n (sc 9)).length)), va_up (va_up (va_up (va_up (va_up (va_up (va_up ar 8 wa) 17 g) 31 fr) 32 le) 33 si) 34 nu) 39 g1) hB hx hb hr hlocks rfl ⟨g1, g, wa, fr, le, si, nu, pfx_copy hg1 (fun i hi => hg i (by omega)), by rw [eE]; exact hw, hs1, hs2, hs3, hs4, hs5, rfl⟩ dX12_makeReport_137
    · have c_4 : ¬ ((rpO E n (sc 9)).length) ≤ j := fun h9 => c_4 ((nI_leI (a := ((rpO E n (sc 9)).length)) (b := j) (by omega) (by omega)).mpr h9)
      refine lv_aload_n hx hb dX12_makeReport_114 rfl (lv_at hl 2 rfl) ?_
      refine r_get (u := (upd (upd (upd (upd (upd (upd (upd sc 11 (nI 2)) 12 (nI (n % 16))) 14 (nI (n + 1))) 15 (sc 0)) 16 (nI 0)) 18 (nI ((rpO E n (sc 9)).length))) 40 (nI ((rpO E n (sc 9)).length)), va_up (va_up (va_up ar 8 wa) 17 g) 39 g1)) (v := .ref (G.2.2.1 17)) hx hb hts hin hown hB 17 (by decide) (hts (.fieldLink RX12 35 "PointReportsModel" "report" "[I") (by decide +kernel)) rfl rfl dX12_makeReport_115 ?_
      refine lv_iload_n hx hb dX12_makeReport_118 rfl (lv_at hl 0 rfl) ?_
      refine lv_aload_n hx hb dX12_makeReport_119 rfl (lv_at hl 2 rfl) ?_
      refine r_get (u := (upd (upd (upd (upd (upd (upd (upd sc 11 (nI 2)) 12 (nI (n % 16))) 14 (nI (n + 1))) 15 (sc 0)) 16 (nI 0)) 18 (nI ((rpO E n (sc 9)).length))) 40 (nI ((rpO E n (sc 9)).length)), va_up (va_up (va_up ar 8 wa) 17 g) 39 g1)) (v := .ref (G.2.2.1 39)) hx hb hts hin hown hB 39 (by decide) (hts (.fieldLink RX12 75 "PointReportsModel" "made" "[I") (by decide +kernel)) rfl rfl dX12_makeReport_120 ?_
      refine lv_iload_n hx hb dX12_makeReport_123 rfl (lv_at hl 0 rfl) ?_
      refine r_ald (u := (upd (upd (upd (upd (upd (upd (upd sc 11 (nI 2)) 12 (nI (n % 16))) 14 (nI (n + 1))) 15 (sc 0)) 16 (nI 0)) 18 (nI ((rpO E n (sc 9)).length))) 40 (nI ((rpO E n (sc 9)).length)), va_up (va_up (va_up ar 8 wa) 17 g) 39 g1)) (f := g1) hx hb hB 21 rfl j rfl (by omega) (by decide) dX12_makeReport_124 ?_
      refine r_ast (u := (upd (upd (upd (upd (upd (upd (upd sc 11 (nI 2)) 12 (nI (n % 16))) 14 (nI (n + 1))) 15 (sc 0)) 16 (nI 0)) 18 (nI ((rpO E n (sc 9)).length))) 40 (nI ((rpO E n (sc 9)).length)), va_up (va_up (va_up ar 8 wa) 17 g) 39 g1)) (f := g) (x := g1 j) (va_up (va_up (va_up ar 8 wa) 17 (upd g j (g1 j))) 39 g1) hx hb hB 9 rfl j rfl (by omega) (by decide) rfl dX12_makeReport_125 (fun H locs hB => ?_)
      refine lv_iinc (v := nI (j + 1)) (lv' := [(2, .int (nI (j + 1))), (1, .int (nI ((rpS E (rpH (n % 16)) k).2.1))), (0, .ref G.2.1)]) hx hb dX12_makeReport_126 hl (k := 0) rfl (nI_add _ _) (by decide) rfl (fun ls hl => ?_)
      refine lv_goto (tgt := 106) hx hb dX12_makeReport_129 (by decide) ?_
      have hl : lv_has ls 3 [(2, .int (nI (j + 1))), (1, .int (nI ((rpS E (rpH (n % 16)) k).2.1))), (0, .ref G.2.1)] := lv_sub hl [0, 1, 2] rfl
      have hB : gB G.1 (rT G) A s H locs (rWs G (upd (upd (upd (upd (upd (upd (upd sc 11 (nI 2)) 12 (nI (n % 16))) 14 (nI (n + 1))) 15 (sc 0)) 16 (nI 0)) 18 (nI ((rpO E n (sc 9)).length))) 40 (nI ((rpO E n (sc 9)).length)), va_up (va_up (va_up ar 8 wa) 17 (upd g j (g1 j))) 39 g1)) := hB
      have b_5 : (j + 1) + ((rpO E n (sc 9)).length - (j + 1)) = (rpO E n (sc 9)).length := by omega
      have b_6 : ∀ i, i < (j + 1) → (upd g j (g1 j)) i = g1 i := fun i hi => by
          by_cases hz : i = j
          · subst hz; exact upd_self
          · rw [upd_ne hz]; exact hg i (by omega)
      exact ih_3 ((rpO E n (sc 9)).length - (j + 1)) (j + 1, upd g j (g1 j)) H locs ls (by omega) ⟨b_5, b_6, hB, hl⟩
  · have c_2 : ¬ 4 ≤ (k + 1) := fun h9 => c_2 ((nI_leI (a := 4) (b := (k + 1)) (by omega) (by omega)).mpr h9)
    refine lv_iload_n hx hb dX12_makeReport_59 rfl (lv_at hl 1 rfl) ?_
    refine lv_aload_n hx hb dX12_makeReport_60 rfl (lv_at hl 2 rfl) ?_
    refine lv_iload_n hx hb dX12_makeReport_61 rfl (lv_at hl 0 rfl) ?_
    refine lv_iload_n hx hb dX12_makeReport_62 rfl (lv_at hl 1 rfl) ?_
    have lE := (hE (k + 1) (by omega) (by omega)).2.1
    have hm1 : (mnN (E (k + 1)).length (rpS E (rpH (n % 16)) k).2.1) ≤ (E (k + 1)).length ∧ (mnN (E (k + 1)).length (rpS E (rpH (n % 16)) k).2.1) ≤ (rpS E (rpH (n % 16)) k).2.1 := by unfold mnN; split <;> omega
    refine g_calli (av := [.int (nI (k + 1)), .int (nI ((rpS E (rpH (n % 16)) k).2.1))]) (rest := [.int (nI ((rpS E (rpH (n % 16)) k).2.1))]) ⟨hx, hb, hml, hown, hts⟩ (c_putEvents l G (upd (upd (upd (upd sc 11 (nI 0)) 12 (nI (n % 16))) 14 (nI (n + 1))) 40 (nI ((rpS E (rpH (n % 16)) k).1.length))) (va_up (va_up ar 8 wa) 39 f) (k + 1) (E (k + 1)).length (rpS E (rpH (n % 16)) k).2.1 (by omega) (by omega) (hE (k + 1) (by omega) (by omega)).1 lE z2 (rpS E (rpH (n % 16)) k).1 hf rfl (by omega)) (cwV 2 hts gX12_makeReport_X12_putEvents rfl rfl rfl (by decide +kernel) ⟨Nat.le_of_ble_eq_true rfl, Nat.le_of_ble_eq_true rfl⟩) hB (q0 := 0) (ci := 9) rfl rfl rfl rfl hl.1 rfl (Nat.le_of_ble_eq_true rfl) dX12_makeReport_63 ⟨Nat.le_of_ble_eq_true rfl, Nat.le_of_ble_eq_true rfl⟩ (fun r9 u H locs hw hB => ?_)
    obtain ⟨rfl, g1, wb, hg1, hwb, rfl⟩ := hw
    have eG : grN (ar 5) (ar 6) (ar 7) (k + 1) (if (E (k + 1)).length < (rpS E (rpH (n % 16)) k).2.1 then (E (k + 1)).length else (rpS E (rpH (n % 16)) k).2.1) = grS (E (k + 1)) (k + 1) (mnN (E (k + 1)).length (rpS E (rpH (n % 16)) k).2.1) := grN_S hE (by omega) (by omega) hm1.1
    have hg1 : pfx g1 ((rpS E (rpH (n % 16)) k).1 ++ grS (E (k + 1)) (k + 1) (mnN (E (k + 1)).length (rpS E (rpH (n % 16)) k).2.1)) := by rw [← eG]; exact hg1
    have hB : gB G.1 (rT G) A s H locs (rWs G (upd (upd (upd (upd sc 11 (nI 0)) 12 (nI (n % 16))) 14 (nI (n + 1))) 40 (nI ((rpS E (rpH (n % 16)) k).1 ++ grS (E (k + 1)) (k + 1) (mnN (E (k + 1)).length (rpS E (rpH (n % 16)) k).2.1)).length), va_up (va_up ar 8 wb) 39 g1)) := by rw [← eG]; exact hB
    refine lv_isub hx hb dX12_makeReport_66 ?_
    refine g_top (y := nI ((rpS E (rpH (n % 16)) k).2.1 - (mnN (E (k + 1)).length (rpS E (rpH (n % 16)) k).2.1))) (pk_sub hm1.2) ?_
    refine lv_istore_n (lv' := [(1, .int (nI ((rpS E (rpH (n % 16)) k).2.1 - (mnN (E (k + 1)).length (rpS E (rpH (n % 16)) k).2.1)))), (2, .int (nI (k + 1))), (0, .ref G.2.1)]) hx hb dX12_makeReport_67 rfl hl (by decide) rfl (fun ls hl => ?_)
    refine lv_iinc (v := nI (k + 1 + 1)) (lv' := [(2, .int (nI (k + 1 + 1))), (1, .int (nI ((rpS E (rpH (n % 16)) k).2.1 - (mnN (E (k + 1)).length (rpS E (rpH (n % 16)) k).2.1)))), (0, .ref G.2.1)]) hx hb dX12_makeReport_68 hl (k := 1) rfl (nI_add _ _) (by decide) rfl (fun ls hl => ?_)
    refine lv_goto (tgt := 54) hx hb dX12_makeReport_71 (by decide) ?_
    have hl : lv_has ls 3 [(2, .int (nI (k + 1 + 1))), (1, .int (nI ((rpS E (rpH (n % 16)) (k + 1)).2.1))), (0, .ref G.2.1)] := hl
    have hB : gB G.1 (rT G) A s H locs (rWs G (upd (upd (upd (upd sc 11 (nI 0)) 12 (nI (n % 16))) 14 (nI (n + 1))) 40 (nI ((rpS E (rpH (n % 16)) (k + 1)).1.length)), va_up (va_up ar 8 wb) 39 g1)) := hB
    have hl : lv_has ls 3 [(2, .int (nI ((k + 1) + 1))), (1, .int (nI ((rpS E (rpH (n % 16)) (k + 1)).2.1))), (0, .ref G.2.1)] := lv_sub hl [0, 1, 2] rfl
    have hB : gB G.1 (rT G) A s H locs (rWs G (upd (upd (upd (upd sc 11 (nI 0)) 12 (nI (n % 16))) 14 (nI (n + 1))) 40 (nI ((rpS E (rpH (n % 16)) (k + 1)).1.length)), va_up (va_up ar 8 wb) 39 g1)) := hB
    have b_7 : (k + 1) + (3 - (k + 1)) = 3 := by omega
    have b_8 : pfx g1 (rpS E (rpH (n % 16)) (k + 1)).1 := hg1
    have b_9 : wtR wb E (rpS E (rpH (n % 16)) (k + 1)).2.2 := wtR_put hw (by omega) hwb (fun y h1 h3 => (hE y h1 h3).2.1)
    exact ih_1 (3 - (k + 1)) (k + 1, g1, wb) H locs ls (by omega) ⟨b_7, b_8, b_9, hB, hl⟩
set_option maxRecDepth 100000 in
set_option maxHeartbeats 4000000 in
/-- sendAgain() -/
theorem c_sendAgain (l : Launch) (G : rG) (sc : Nat → Int32) (ar : Nat → Nat → Int32) (O : List Int32) (hO : pfx (ar 17) O) (h18 : sc 18 = nI O.length) (hO2 : O.length ≤ 200) (L : List (Int32 × List Int32)) (hR : lnR (ar 31) (ar 32) (ar 33) L) (h30 : sc 30 = nI L.length) (hL : L.length ≤ 40) (q : Nat) (hq : ar 34 1 = nI q) (hq64 : q < 64) : gM l G.1 (rT G) yX12_sendAgain wsX12_sendAgain ({ frames := 4, cells := 0, slots := 0, locals := 96 }) [.ref G.2.1] (rWs G (sc, ar)) (gQv G.1 (rT G) (fun u : rSt => ∃ f fr le si nu, lnR fr le si (sndF 0 O L q).1 ∧ (sndF 0 O L q).1.length ≤ 40 ∧ (sndF 0 O L q).2 < 64 ∧ nu 1 = nI (sndF 0 O L q).2 ∧ nu 0 = ar 34 0 ∧ u = (upd (upd (upd (upd sc 15 (sc 0)) 16 (sc 16 + nI 1)) 30 (nI (sndF 0 O L q).1.length)) 40 (nI O.length), va_up (va_up (va_up (va_up (va_up ar 31 fr) 32 le) 33 si) 34 nu) 39 f)) (rWs G)) 0 0 := by
  refine gM.of (cc := cX12_sendAgain) (maxL := 2) (ret := none) (by decide) rfl (Nat.le_of_ble_eq_true rfl) ?_
  intro p e s m below meth c A ls hx hb hr hml hown hts hlocks hnm hB hl
  have hin : ∀ w ∈ wsX120, w ∈ wsX12_sendAgain := fun w h => List.mem_cons_of_mem _ (List.mem_append_right _ h)
  have hl : lv_has ls 2 [(0, .ref G.2.1)] := hl
  refine lv_aload_n hx hb dX12_sendAgain_0 rfl (lv_at hl 0 rfl) ?_
  refine lv_aload_n hx hb dX12_sendAgain_1 rfl (lv_at hl 0 rfl) ?_
  refine r_get (u := (sc, ar)) (v := .int (sc 18)) hx hb hts hin hown hB 18 (by decide) (hts (.fieldLink RX12 205 "PointReportsModel" "reportLength" "I") (by decide +kernel)) rfl rfl dX12_sendAgain_2 ?_
  refine g_top (y := nI O.length) h18 ?_
  refine r_put (u := (sc, ar)) (v := nI O.length) (upd sc 40 (nI O.length)) hx hb hts hin hown hB 40 (by decide) (hts (.fieldLink RX12 104 "PointReportsModel" "madeLength" "I") (by decide +kernel)) rfl (ty := .int) rfl rfl rfl rfl rfl dX12_sendAgain_5 (fun H locs hB => ?_)
  refine lv_iconst (v := nI 0) hx hb dX12_sendAgain_8 (by decide) ?_
  refine lv_istore_n (lv' := [(1, .int (nI 0)), (0, .ref G.2.1)]) hx hb dX12_sendAgain_9 rfl hl (by decide) rfl (fun ls hl => ?_)
  have hl : lv_has ls 2 [(1, .int (nI 0)), (0, .ref G.2.1)] := lv_sub hl [0, 1] rfl
  have hB : gB G.1 (rT G) A s H locs (rWs G (upd sc 40 (nI O.length), va_up ar 39 (ar 39))) := hB
  refine g_loop (σ := Nat × (Nat → Int32)) (fun d xv H locs ls => (xv.1 + d = O.length) ∧ (∀ i, i < xv.1 → xv.2 i = ar 17 i) ∧ gB G.1 (rT G) A s H locs (rWs G (upd sc 40 (nI O.length), va_up ar 39 xv.2)) ∧ lv_has ls 2 [(1, .int (nI xv.1)), (0, .ref G.2.1)]) O.length (0, ar 39) ⟨by omega, fun i hi => absurd hi (Nat.not_lt_zero i), hB, hl⟩ ?_
  rintro d ⟨j, g⟩ H locs ls ⟨hj, hg, hB, hl⟩ ih_1
  have hj : j + d = O.length := hj
  have hg : ∀ i, i < j → g i = ar 17 i := hg
  have hB : gB G.1 (rT G) A s H locs (rWs G (upd sc 40 (nI O.length), va_up ar 39 g)) := hB
  have hl : lv_has ls 2 [(1, .int (nI j)), (0, .ref G.2.1)] := hl
  refine lv_iload_n hx hb dX12_sendAgain_10 rfl (lv_at hl 0 rfl) ?_
  refine lv_aload_n hx hb dX12_sendAgain_11 rfl (lv_at hl 1 rfl) ?_
  refine r_get (u := (upd sc 40 (nI O.length), va_up ar 39 g)) (v := .int (nI O.length)) hx hb hts hin hown hB 40 (by decide) (hts (.fieldLink RX12 104 "PointReportsModel" "madeLength" "I") (by decide +kernel)) rfl rfl dX12_sendAgain_12 ?_
  refine lv_icmp_ge (tgt := 36) hx hb dX12_sendAgain_15 (by decide) (fun c_2 => ?_) (fun c_2 => ?_)
  · have c_2 : O.length ≤ j := (nI_leI (a := O.length) (b := j) (by omega) (by omega)).mp c_2
    refine lv_aload_n hx hb dX12_sendAgain_36 rfl (lv_at hl 1 rfl) ?_
    refine lv_aload_n hx hb dX12_sendAgain_37 rfl (lv_at hl 1 rfl) ?_
    refine r_get (u := (upd sc 40 (nI O.length), va_up ar 39 g)) (v := .int (sc 0)) hx hb hts hin hown hB 0 (by decide) (hts (.fieldLink RX12 196 "PointReportsModel" "time" "I") (by decide +kernel)) rfl rfl dX12_sendAgain_38 ?_
    refine r_put (u := (upd sc 40 (nI O.length), va_up ar 39 g)) (v := sc 0) (upd (upd sc 15 (sc 0)) 40 (nI O.length)) hx hb hts hin hown hB 15 (by decide) (hts (.fieldLink RX12 199 "PointReportsModel" "lastSent" "I") (by decide +kernel)) rfl (ty := .int) rfl rfl rfl rfl rfl dX12_sendAgain_41 (fun H locs hB => ?_)
    refine lv_aload_n hx hb dX12_sendAgain_44 rfl (lv_at hl 1 rfl) ?_
    refine lv_dup hx hb dX12_sendAgain_45 rfl ?_
    refine r_get (u := (upd (upd sc 15 (sc 0)) 40 (nI O.length), va_up ar 39 g)) (v := .int (sc 16)) hx hb hts hin hown hB 16 (by decide) (hts (.fieldLink RX12 202 "PointReportsModel" "sentAgain" "I") (by decide +kernel)) rfl rfl dX12_sendAgain_46 ?_
    refine lv_iconst (v := nI 1) hx hb dX12_sendAgain_49 (by decide) ?_
    refine lv_iadd hx hb dX12_sendAgain_50 ?_
    refine r_put (u := (upd (upd sc 15 (sc 0)) 40 (nI O.length), va_up ar 39 g)) (v := (sc 16) + (nI 1)) (upd (upd (upd sc 15 (sc 0)) 16 ((sc 16) + (nI 1))) 40 (nI O.length)) hx hb hts hin hown hB 16 (by decide) (hts (.fieldLink RX12 202 "PointReportsModel" "sentAgain" "I") (by decide +kernel)) rfl (ty := .int) rfl rfl rfl rfl rfl dX12_sendAgain_51 (fun H locs hB => ?_)
    refine lv_aload_n hx hb dX12_sendAgain_54 rfl (lv_at hl 1 rfl) ?_
    refine lv_iconst (v := nI 0) hx hb dX12_sendAgain_55 (by decide) ?_
    refine g_callv (av := [.int (nI 0)]) (rest := []) ⟨hx, hb, hml, hown, hts⟩ (c_send l G (upd (upd (upd sc 15 (sc 0)) 16 ((sc 16) + (nI 1))) 40 (nI O.length)) (va_up ar 39 g) 0 (by decide) O (pfx_copy hO (fun i hi => hg i (by omega))) rfl (by omega) L hR h30 hL q hq hq64) (cwV 1 hts gX12_sendAgain_X12_send rfl rfl rfl (by decide +kernel) ⟨Nat.le_of_ble_eq_true rfl, Nat.le_of_ble_eq_true rfl⟩) hB (q0 := 0) (ci := 9) rfl rfl rfl rfl hl.1 rfl (Nat.le_of_ble_eq_true rfl) dX12_sendAgain_56 ⟨Nat.le_of_ble_eq_true rfl, Nat.le_of_ble_eq_true rfl⟩ (fun u H locs hw hB => ?_)
    obtain ⟨fr, le, si, nu, hs1, hs2, hs3, hs4, hs5, rfl⟩ := hw
    have hB : gB G.1 (rT G) A s H locs (rWs G (upd (upd (upd (upd sc 15 (sc 0)) 16 ((sc 16) + (nI 1))) 30 (nI ((sndF 0 O L q).1.length))) 40 (nI O.length), va_up (va_up (va_up (va_up (va_up ar 31 fr) 32 le) 33 si) 34 nu) 39 g)) := hB
    exact g_vret (Wd := rWs G) (upd (upd (upd (upd sc 15 (sc 0)) 16 ((sc 16) + (nI 1))) 30 (nI ((sndF 0 O L q).1.length))) 40 (nI O.length), va_up (va_up (va_up (va_up (va_up ar 31 fr) 32 le) 33 si) 34 nu) 39 g) hB hx hb hr hlocks rfl ⟨g, fr, le, si, nu, hs1, hs2, hs3, hs4, hs5, rfl⟩ dX12_sendAgain_59
  · have c_2 : ¬ O.length ≤ j := fun h9 => c_2 ((nI_leI (a := O.length) (b := j) (by omega) (by omega)).mpr h9)
    refine lv_aload_n hx hb dX12_sendAgain_18 rfl (lv_at hl 1 rfl) ?_
    refine r_get (u := (upd sc 40 (nI O.length), va_up ar 39 g)) (v := .ref (G.2.2.1 39)) hx hb hts hin hown hB 39 (by decide) (hts (.fieldLink RX12 75 "PointReportsModel" "made" "[I") (by decide +kernel)) rfl rfl dX12_sendAgain_19 ?_
    refine lv_iload_n hx hb dX12_sendAgain_22 rfl (lv_at hl 0 rfl) ?_
    refine lv_aload_n hx hb dX12_sendAgain_23 rfl (lv_at hl 1 rfl) ?_
    refine r_get (u := (upd sc 40 (nI O.length), va_up ar 39 g)) (v := .ref (G.2.2.1 17)) hx hb hts hin hown hB 17 (by decide) (hts (.fieldLink RX12 35 "PointReportsModel" "report" "[I") (by decide +kernel)) rfl rfl dX12_sendAgain_24 ?_
    refine lv_iload_n hx hb dX12_sendAgain_27 rfl (lv_at hl 0 rfl) ?_
    refine r_ald (u := (upd sc 40 (nI O.length), va_up ar 39 g)) (f := ar 17) hx hb hB 9 rfl j rfl (by omega) (by decide) dX12_sendAgain_28 ?_
    refine r_ast (u := (upd sc 40 (nI O.length), va_up ar 39 g)) (f := g) (x := (ar 17) j) (va_up ar 39 (upd g j ((ar 17) j))) hx hb hB 21 rfl j rfl (by omega) (by decide) rfl dX12_sendAgain_29 (fun H locs hB => ?_)
    refine lv_iinc (v := nI (j + 1)) (lv' := [(1, .int (nI (j + 1))), (0, .ref G.2.1)]) hx hb dX12_sendAgain_30 hl (k := 0) rfl (nI_add _ _) (by decide) rfl (fun ls hl => ?_)
    refine lv_goto (tgt := 10) hx hb dX12_sendAgain_33 (by decide) ?_
    have hl : lv_has ls 2 [(1, .int (nI (j + 1))), (0, .ref G.2.1)] := lv_sub hl [0, 1] rfl
    have hB : gB G.1 (rT G) A s H locs (rWs G (upd sc 40 (nI O.length), va_up ar 39 (upd g j ((ar 17) j)))) := hB
    have b_3 : (j + 1) + (O.length - (j + 1)) = O.length := by omega
    have b_4 : ∀ i, i < (j + 1) → (upd g j ((ar 17) j)) i = ar 17 i := fun i hi => by
        by_cases hz : i = j
        · subst hz; exact upd_self
        · rw [upd_ne hz]; exact hg i (by omega)
    exact ih_1 (O.length - (j + 1)) (j + 1, upd g j ((ar 17) j)) H locs ls (by omega) ⟨b_3, b_4, hB, hl⟩
