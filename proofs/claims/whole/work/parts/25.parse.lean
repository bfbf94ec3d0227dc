/-- a number of n bytes, the lowest first -/
def hN (rd : List Nat) : Nat → Nat → Nat
  | _, 0 => 0
  | a, m + 1 => rd.getD a 0 + 256 * hN rd (a + 1) m
/-- whether the first m of a group are as they must be -/
def gpF (rd : List Nat) (a wide : Nat) (isP : Prop) (i : Decidable isP) : Nat → Nat
  | 0 => 1
  | m + 1 => if gpF rd a wide isP i m = 1 ∧ rd.getD (a + 3 + wide * m) 0 < 10 ∧ (isP ∨ rd.getD (a + 3 + wide * m + 6) 0 < 128) then 1 else 0
theorem gpF_le (rd : List Nat) (a wide : Nat) (isP : Prop) (i : Decidable isP) (k : Nat) : gpF rd a wide isP i k ≤ 1 := by
  cases k with
  | zero => exact Nat.le_refl 1
  | succ k => rw [gpF]; split <;> omega
theorem gpF_dead {rd : List Nat} {a wide : Nat} {isP : Prop} {i : Decidable isP} {k : Nat} (h : ¬ gpF rd a wide isP i k = 1) : ∀ n, k ≤ n → ¬ gpF rd a wide isP i n = 1 := by
  intro n
  induction n with
  | zero => intro hk; have : k = 0 := by omega
            subst this; exact h
  | succ n ih =>
    intro hk
    by_cases hq : k = n + 1
    · subst hq; exact h
    · rw [gpF, if_neg (fun z => ih (by omega) z.1)]; omega
abbrev isPG (rd : List Nat) (a : Nat) : Prop := rd.getD a 0 = 30 ∧ rd.getD (a + 1) 0 = 2
abbrev isEG (rd : List Nat) (a : Nat) : Prop := rd.getD a 0 = 32 ∧ 1 ≤ rd.getD (a + 1) 0 ∧ rd.getD (a + 1) 0 ≤ 3
def wdG (rd : List Nat) (a : Nat) : Nat := if isPG rd a then 3 else 7
/-- how long the group is that begins at a; 0: it is not as it must be -/
def gpN (rd : List Nat) (a : Nat) : Nat := if a + 3 ≤ rd.length ∧ (isPG rd a ∨ isEG rd a) ∧ a + (3 + wdG rd a * rd.getD (a + 2) 0) ≤ rd.length ∧ gpF rd a (wdG rd a) (isPG rd a) inferInstance (rd.getD (a + 2) 0) = 1 then 3 + wdG rd a * rd.getD (a + 2) 0 else 0
/-- where groups end that begin at a -/
def agN (rd : List Nat) : Nat → Nat → Nat
  | 0, a => a
  | f + 1, a => if a < rd.length then (if gpN rd a = 0 then a else agN rd f (a + gpN rd a)) else a
abbrev arG (rd : List Nat) : Prop := 4 ≤ rd.length ∧ agN rd 400 4 = rd.length
theorem gpN_le (rd : List Nat) (a : Nat) : gpN rd a = 0 ∨ (3 ≤ gpN rd a ∧ a + gpN rd a ≤ rd.length) := by
  unfold gpN
  split
  · rename_i h; exact Or.inr ⟨by omega, h.2.2.1⟩
  · exact Or.inl rfl
theorem agN_end {rd : List Nat} {f a : Nat} (h : ¬ a < rd.length) : agN rd f a = a := by
  cases f with
  | zero => rfl
  | succ f => rw [agN, if_neg h]
set_option maxRecDepth 100000 in
set_option maxHeartbeats 4000000 in
/-- numberAt(a, n) -/
theorem c_numberAt (l : Launch) (G : rG) (sc : Nat → Int32) (ar : Nat → Nat → Int32) (rd : List Nat) (hrd : pfxN (ar 41) rd) (h42 : sc 42 = nI rd.length) (hr4 : rd.length ≤ 400) (a n : Nat) (hn : 1 ≤ n) (hn4 : n ≤ 4) (han : a + n ≤ rd.length) : gM l G.1 (rT G) yX12_numberAt wsX12_numberAt ({ frames := 0, cells := 0, slots := 0, locals := 0 }) [.ref G.2.1, .int (nI a), .int (nI n)] (rWs G (sc, ar)) (gQl G.1 (rT G) (fun (r : Int64) (u : rSt) => r = lN (hN rd a n) ∧ u = (sc, ar)) (rWs G)) 0 0 := by
  refine gM.of (cc := cX12_numberAt) (maxL := 6) (ret := (some .long)) (by decide) rfl (Nat.le_of_ble_eq_true rfl) ?_
  intro p e s m below meth c A ls hx hb hr hml hown hts hlocks hnm hB hl
  have hin : ∀ w ∈ wsX120, w ∈ wsX12_numberAt := fun w h => List.mem_cons_of_mem _ (List.mem_append_right _ h)
  have hl : lv_has ls 6 [(0, .ref G.2.1), (1, .int (nI a)), (2, .int (nI n))] := hl
  refine lv_lconst (v := 0) hx hb dX12_numberAt_0 (by decide) ?_
  refine lv_lstore_n (lv' := [(3, .long (0 : Int64)), (0, .ref G.2.1), (1, .int (nI a)), (2, .int (nI n))]) hx hb dX12_numberAt_1 rfl hl (by decide) rfl (fun ls hl => ?_)
  refine lv_iload_n hx hb dX12_numberAt_2 rfl (lv_at hl 3 rfl) ?_
  refine lv_iconst (v := nI 1) hx hb dX12_numberAt_3 (by decide) ?_
  refine lv_isub hx hb dX12_numberAt_4 ?_
  refine g_top (y := nI n + (-1)) (by rw [Int32.sub_eq_add_neg]; rfl) ?_
  refine lv_istore (lv' := [(5, .int (nI n + (-1))), (3, .long (0 : Int64)), (0, .ref G.2.1), (1, .int (nI a)), (2, .int (nI n))]) hx hb dX12_numberAt_5 hl (by decide) rfl (fun ls hl => ?_)
  have e0 : (0 : Int64) = lN (hN rd (a + n) (n - n)) := by rw [Nat.sub_self]; rfl
  rw [e0] at hl
  have hl : lv_has ls 6 [(5, .int (nI n + (-1))), (3, .long (lN (hN rd (a + n) (n - n)))), (0, .ref G.2.1), (1, .int (nI a)), (2, .int (nI n))] := lv_sub hl [0, 1, 2, 3, 4] rfl
  have hB : gB G.1 (rT G) A s s.heap [] (rWs G (sc, ar)) := hB
  refine g_loop (σ := Nat) (fun d xv H locs ls => (xv = d) ∧ (xv ≤ n) ∧ gB G.1 (rT G) A s H locs (rWs G (sc, ar)) ∧ lv_has ls 6 [(5, .int (nI xv + (-1))), (3, .long (lN (hN rd (a + xv) (n - xv)))), (0, .ref G.2.1), (1, .int (nI a)), (2, .int (nI n))]) n (n) ⟨rfl, Nat.le_refl n, hB, hl⟩ ?_
  rintro d j H locs ls ⟨hj, hjn, hB, hl⟩ ih_1
  have hj : j = d := hj
  have hjn : j ≤ n := hjn
  have hB : gB G.1 (rT G) A s H locs (rWs G (sc, ar)) := hB
  have hl : lv_has ls 6 [(5, .int (nI j + (-1))), (3, .long (lN (hN rd (a + j) (n - j)))), (0, .ref G.2.1), (1, .int (nI a)), (2, .int (nI n))] := hl
  rcases j with _ | j
  · refine lv_iload hx hb dX12_numberAt_7 (lv_at hl 0 rfl) ?_
    refine lv_if_lt (tgt := 35) hx hb dX12_numberAt_9 (by decide) (fun c_2 => ?_) (fun c_2 => ?_)
    · have c_2 := c_2
      refine lv_lload_n hx hb dX12_numberAt_35 rfl (lv_at hl 1 rfl) ?_
      exact g_lret (Wd := rWs G) (v := lN (hN rd (a + 0) (n - 0))) (sc, ar) hB hx hb hr hlocks rfl ⟨rfl, rfl⟩ dX12_numberAt_36
    · have c_2 := c_2
      exact absurd (by decide) c_2
  · rw [pk_m1] at hl
    refine lv_iload hx hb dX12_numberAt_7 (lv_at hl 0 rfl) ?_
    refine lv_if_lt (tgt := 35) hx hb dX12_numberAt_9 (by decide) (fun c_3 => ?_) (fun c_3 => ?_)
    · have c_3 : j < 0 := (nI_ltI (a := j) (b := 0) (by omega) (by omega)).mp c_3
      exact absurd c_3 (Nat.not_lt_zero _)
    · have c_3 : ¬ j < 0 := fun h9 => c_3 ((nI_ltI (a := j) (b := 0) (by omega) (by omega)).mpr h9)
      refine lv_ldc2 (v := (256)) hx hb hown (hts (.constantLong RX12 229 (256)) (by decide +kernel)) dX12_numberAt_12 ?_
      refine lv_lload_n hx hb dX12_numberAt_15 rfl (lv_at hl 1 rfl) ?_
      refine lv_lmul hx hb dX12_numberAt_16 ?_
      refine lv_aload_n hx hb dX12_numberAt_17 rfl (lv_at hl 2 rfl) ?_
      refine r_get (u := (sc, ar)) (v := .ref (G.2.2.1 41)) hx hb hts hin hown hB 41 (by decide) (hts (.fieldLink RX12 78 "PointReportsModel" "read" "[I") (by decide +kernel)) rfl rfl dX12_numberAt_18 ?_
      refine lv_iload_n hx hb dX12_numberAt_21 rfl (lv_at hl 3 rfl) ?_
      refine lv_iload hx hb dX12_numberAt_22 (lv_at hl 0 rfl) ?_
      refine lv_iadd hx hb dX12_numberAt_24 ?_
      refine g_top (y := nI (a + j)) (nI_add _ _) ?_
      refine r_ald (u := (sc, ar)) (f := ar 41) hx hb hB 22 rfl (a + j) rfl (by omega) (by decide) dX12_numberAt_25 ?_
      have q26 := hrd (a + j) (by omega)
      refine g_top (y := nI (rd.getD (a + j) 0)) q26.1 ?_
      have q26 := q26.2
      refine lv_i2l (v := (nI (rd.getD (a + j) 0)).toInt64) hx hb dX12_numberAt_26 rfl ?_
      refine lv_ladd hx hb dX12_numberAt_27 ?_
      refine g_topl (y := lN (hN rd (a + j) (n - j))) (by rw [nI_l (by omega), show (256 : Int64) = lN 256 from rfl, lN_mul, lN_add, show n - j = (n - (j + 1)) + 1 by omega, hN, show a + j + 1 = a + (j + 1) by omega]; congr 1; omega) ?_
      refine lv_lstore_n (lv' := [(3, .long (lN (hN rd (a + j) (n - j)))), (5, .int (nI j)), (0, .ref G.2.1), (1, .int (nI a)), (2, .int (nI n))]) hx hb dX12_numberAt_28 rfl hl (by decide) rfl (fun ls hl => ?_)
      refine lv_iinc (v := (nI j) + (-1)) (lv' := [(5, .int ((nI j) + (-1))), (3, .long (lN (hN rd (a + j) (n - j)))), (0, .ref G.2.1), (1, .int (nI a)), (2, .int (nI n))]) hx hb dX12_numberAt_29 hl (k := 1) rfl rfl (by decide) rfl (fun ls hl => ?_)
      refine lv_goto (tgt := 7) hx hb dX12_numberAt_32 (by decide) ?_
      have hl : lv_has ls 6 [(5, .int (nI j + (-1))), (3, .long (lN (hN rd (a + j) (n - j)))), (0, .ref G.2.1), (1, .int (nI a)), (2, .int (nI n))] := lv_sub hl [0, 1, 2, 3, 4] rfl
      have hB : gB G.1 (rT G) A s H locs (rWs G (sc, ar)) := hB
      have b_4 : j = j := rfl
      have b_5 : j ≤ n := by omega
      exact ih_1 j (j) H locs ls (by omega) ⟨b_4, b_5, hB, hl⟩
set_option maxRecDepth 100000 in
set_option maxHeartbeats 4000000 in
/-- groupAt(a) -/
theorem c_groupAt (l : Launch) (G : rG) (sc : Nat → Int32) (ar : Nat → Nat → Int32) (rd : List Nat) (hrd : pfxN (ar 41) rd) (h42 : sc 42 = nI rd.length) (hr4 : rd.length ≤ 400) (a : Nat) (ha : a ≤ 400) : gM l G.1 (rT G) yX12_groupAt wsX12_groupAt ({ frames := 0, cells := 0, slots := 0, locals := 0 }) [.ref G.2.1, .int (nI a)] (rWs G (sc, ar)) (gQi G.1 (rT G) (fun (r : Int32) (u : rSt) => r = nI (gpN rd a) ∧ u = (sc, ar)) (rWs G)) 0 0 := by
  refine gM.of (cc := cX12_groupAt) (maxL := 8) (ret := (some .int)) (by decide) rfl (Nat.le_of_ble_eq_true rfl) ?_
  intro p e s m below meth c A ls hx hb hr hml hown hts hlocks hnm hB hl
  have hin : ∀ w ∈ wsX120, w ∈ wsX12_groupAt := fun w h => List.mem_cons_of_mem _ (List.mem_append_right _ h)
  have hl : lv_has ls 8 [(0, .ref G.2.1), (1, .int (nI a))] := hl
  refine lv_iload_n hx hb dX12_groupAt_0 rfl (lv_at hl 1 rfl) ?_
  refine lv_iconst (v := nI 3) hx hb dX12_groupAt_1 (by decide) ?_
  refine lv_iadd hx hb dX12_groupAt_2 ?_
  refine g_top (y := nI (a + 3)) (nI_add _ _) ?_
  refine lv_aload_n hx hb dX12_groupAt_3 rfl (lv_at hl 0 rfl) ?_
  refine r_get (u := (sc, ar)) (v := .int (sc 42)) hx hb hts hin hown hB 42 (by decide) (hts (.fieldLink RX12 127 "PointReportsModel" "readLength" "I") (by decide +kernel)) rfl rfl dX12_groupAt_4 ?_
  refine g_top (y := nI rd.length) h42 ?_
  refine lv_icmp_le (tgt := 12) hx hb dX12_groupAt_7 (by decide) (fun c_1 => ?_) (fun c_1 => ?_)
  · have c_1 : (a + 3) ≤ rd.length := (nI_leI (a := (a + 3)) (b := rd.length) (by omega) (by omega)).mp c_1
    refine lv_aload_n hx hb dX12_groupAt_12 rfl (lv_at hl 0 rfl) ?_
    refine r_get (u := (sc, ar)) (v := .ref (G.2.2.1 41)) hx hb hts hin hown hB 41 (by decide) (hts (.fieldLink RX12 78 "PointReportsModel" "read" "[I") (by decide +kernel)) rfl rfl dX12_groupAt_13 ?_
    refine lv_iload_n hx hb dX12_groupAt_16 rfl (lv_at hl 1 rfl) ?_
    refine r_ald (u := (sc, ar)) (f := ar 41) hx hb hB 22 rfl a rfl (by omega) (by decide) dX12_groupAt_17 ?_
    have q18 := hrd (a) (by omega)
    refine g_top (y := nI (rd.getD (a) 0)) q18.1 ?_
    have q18 := q18.2
    refine lv_bipush (v := nI 30) hx hb dX12_groupAt_18 (by decide) ?_
    refine g_cut (σ := Unit) 40 (fun _ H locs ls => gB G.1 (rT G) A s H locs (rWs G (sc, ar)) ∧ lv_has ls 8 [(0, .ref G.2.1), (1, .int (nI a))]) (fun _ => [.int (nI (if isPG rd a then 1 else 0))]) ?_ (fun cut => ?_)
    rotate_left
    · refine lv_icmp_ne (tgt := 39) hx hb dX12_groupAt_20 (by decide) (fun c_2 => ?_) (fun c_2 => ?_)
      · have c_2 : ¬ (rd.getD (a) 0) = 30 := fun h9 => c_2 ((nI_eq (a := (rd.getD (a) 0)) (b := 30) (by omega) (by omega)).mpr h9)
        refine lv_iconst (v := nI 0) hx hb dX12_groupAt_39 (by decide) ?_
        refine g_top (y := nI (if isPG rd a then 1 else 0)) (by rw [if_neg (fun z => by have := z.1; omega)]) ?_
        exact cut () s.heap [] ls ⟨hB, hl⟩
      · have c_2 : (rd.getD (a) 0) = 30 := (nI_eq (a := (rd.getD (a) 0)) (b := 30) (by omega) (by omega)).mp c_2
        refine lv_aload_n hx hb dX12_groupAt_23 rfl (lv_at hl 0 rfl) ?_
        refine r_get (u := (sc, ar)) (v := .ref (G.2.2.1 41)) hx hb hts hin hown hB 41 (by decide) (hts (.fieldLink RX12 78 "PointReportsModel" "read" "[I") (by decide +kernel)) rfl rfl dX12_groupAt_24 ?_
        refine lv_iload_n hx hb dX12_groupAt_27 rfl (lv_at hl 1 rfl) ?_
        refine lv_iconst (v := nI 1) hx hb dX12_groupAt_28 (by decide) ?_
        refine lv_iadd hx hb dX12_groupAt_29 ?_
        refine g_top (y := nI (a + 1)) (nI_add _ _) ?_
        refine r_ald (u := (sc, ar)) (f := ar 41) hx hb hB 22 rfl (a + 1) rfl (by omega) (by decide) dX12_groupAt_30 ?_
        have q31 := hrd (a + 1) (by omega)
        refine g_top (y := nI (rd.getD (a + 1) 0)) q31.1 ?_
        have q31 := q31.2
        refine lv_iconst (v := nI 2) hx hb dX12_groupAt_31 (by decide) ?_
        refine lv_icmp_ne (tgt := 39) hx hb dX12_groupAt_32 (by decide) (fun c_3 => ?_) (fun c_3 => ?_)
        · have c_3 : ¬ (rd.getD (a + 1) 0) = 2 := fun h9 => c_3 ((nI_eq (a := (rd.getD (a + 1) 0)) (b := 2) (by omega) (by omega)).mpr h9)
          refine lv_iconst (v := nI 0) hx hb dX12_groupAt_39 (by decide) ?_
          refine g_top (y := nI (if isPG rd a then 1 else 0)) (by rw [if_neg (fun z => by have := z.2; omega)]) ?_
          exact cut () s.heap [] ls ⟨hB, hl⟩
        · have c_3 : (rd.getD (a + 1) 0) = 2 := (nI_eq (a := (rd.getD (a + 1) 0)) (b := 2) (by omega) (by omega)).mp c_3
          refine lv_iconst (v := nI 1) hx hb dX12_groupAt_35 (by decide) ?_
          refine lv_goto (tgt := 40) hx hb dX12_groupAt_36 (by decide) ?_
          refine g_top (y := nI (if isPG rd a then 1 else 0)) (by rw [if_pos ⟨by omega, by omega⟩]) ?_
          exact cut () s.heap [] ls ⟨hB, hl⟩
    rintro - H locs ls ⟨hB, hl⟩
    refine lv_istore_n (lv' := [(2, .int (nI (if isPG rd a then 1 else 0))), (0, .ref G.2.1), (1, .int (nI a))]) hx hb dX12_groupAt_40 rfl hl (by decide) rfl (fun ls hl => ?_)
    refine lv_aload_n hx hb dX12_groupAt_41 rfl (lv_at hl 1 rfl) ?_
    refine r_get (u := (sc, ar)) (v := .ref (G.2.2.1 41)) hx hb hts hin hown hB 41 (by decide) (hts (.fieldLink RX12 78 "PointReportsModel" "read" "[I") (by decide +kernel)) rfl rfl dX12_groupAt_42 ?_
    refine lv_iload_n hx hb dX12_groupAt_45 rfl (lv_at hl 2 rfl) ?_
    refine r_ald (u := (sc, ar)) (f := ar 41) hx hb hB 22 rfl a rfl (by omega) (by decide) dX12_groupAt_46 ?_
    have q47 := hrd (a) (by omega)
    refine g_top (y := nI (rd.getD (a) 0)) q47.1 ?_
    have q47 := q47.2
    refine lv_bipush (v := nI 32) hx hb dX12_groupAt_47 (by decide) ?_
    refine g_cut (σ := Unit) 81 (fun _ H locs ls => gB G.1 (rT G) A s H locs (rWs G (sc, ar)) ∧ lv_has ls 8 [(2, .int (nI (if isPG rd a then 1 else 0))), (0, .ref G.2.1), (1, .int (nI a))]) (fun _ => [.int (nI (if isEG rd a then 1 else 0))]) ?_ (fun cut => ?_)
    rotate_left
    · refine lv_icmp_ne (tgt := 80) hx hb dX12_groupAt_49 (by decide) (fun c_4 => ?_) (fun c_4 => ?_)
      · have c_4 : ¬ (rd.getD (a) 0) = 32 := fun h9 => c_4 ((nI_eq (a := (rd.getD (a) 0)) (b := 32) (by omega) (by omega)).mpr h9)
        refine lv_iconst (v := nI 0) hx hb dX12_groupAt_80 (by decide) ?_
        refine g_top (y := nI (if isEG rd a then 1 else 0)) (by rw [if_neg (fun z => by have := z.1; omega)]) ?_
        exact cut () H locs ls ⟨hB, hl⟩
      · have c_4 : (rd.getD (a) 0) = 32 := (nI_eq (a := (rd.getD (a) 0)) (b := 32) (by omega) (by omega)).mp c_4
        refine lv_aload_n hx hb dX12_groupAt_52 rfl (lv_at hl 1 rfl) ?_
        refine r_get (u := (sc, ar)) (v := .ref (G.2.2.1 41)) hx hb hts hin hown hB 41 (by decide) (hts (.fieldLink RX12 78 "PointReportsModel" "read" "[I") (by decide +kernel)) rfl rfl dX12_groupAt_53 ?_
        refine lv_iload_n hx hb dX12_groupAt_56 rfl (lv_at hl 2 rfl) ?_
        refine lv_iconst (v := nI 1) hx hb dX12_groupAt_57 (by decide) ?_
        refine lv_iadd hx hb dX12_groupAt_58 ?_
        refine g_top (y := nI (a + 1)) (nI_add _ _) ?_
        refine r_ald (u := (sc, ar)) (f := ar 41) hx hb hB 22 rfl (a + 1) rfl (by omega) (by decide) dX12_groupAt_59 ?_
        have q60 := hrd (a + 1) (by omega)
        refine g_top (y := nI (rd.getD (a + 1) 0)) q60.1 ?_
        have q60 := q60.2
        refine lv_iconst (v := nI 1) hx hb dX12_groupAt_60 (by decide) ?_
        refine lv_icmp_lt (tgt := 80) hx hb dX12_groupAt_61 (by decide) (fun c_5 => ?_) (fun c_5 => ?_)
        · have c_5 : (rd.getD (a + 1) 0) < 1 := (nI_ltI (a := (rd.getD (a + 1) 0)) (b := 1) (by omega) (by omega)).mp c_5
          refine lv_iconst (v := nI 0) hx hb dX12_groupAt_80 (by decide) ?_
          refine g_top (y := nI (if isEG rd a then 1 else 0)) (by rw [if_neg (fun z => by have := z.2.1; omega)]) ?_
          exact cut () H locs ls ⟨hB, hl⟩
        · have c_5 : ¬ (rd.getD (a + 1) 0) < 1 := fun h9 => c_5 ((nI_ltI (a := (rd.getD (a + 1) 0)) (b := 1) (by omega) (by omega)).mpr h9)
          refine lv_aload_n hx hb dX12_groupAt_64 rfl (lv_at hl 1 rfl) ?_
          refine r_get (u := (sc, ar)) (v := .ref (G.2.2.1 41)) hx hb hts hin hown hB 41 (by decide) (hts (.fieldLink RX12 78 "PointReportsModel" "read" "[I") (by decide +kernel)) rfl rfl dX12_groupAt_65 ?_
          refine lv_iload_n hx hb dX12_groupAt_68 rfl (lv_at hl 2 rfl) ?_
          refine lv_iconst (v := nI 1) hx hb dX12_groupAt_69 (by decide) ?_
          refine lv_iadd hx hb dX12_groupAt_70 ?_
          refine g_top (y := nI (a + 1)) (nI_add _ _) ?_
          refine r_ald (u := (sc, ar)) (f := ar 41) hx hb hB 22 rfl (a + 1) rfl (by omega) (by decide) dX12_groupAt_71 ?_
          have q72 := hrd (a + 1) (by omega)
          refine g_top (y := nI (rd.getD (a + 1) 0)) q72.1 ?_
          have q72 := q72.2
          refine lv_iconst (v := nI 3) hx hb dX12_groupAt_72 (by decide) ?_
          refine lv_icmp_gt (tgt := 80) hx hb dX12_groupAt_73 (by decide) (fun c_6 => ?_) (fun c_6 => ?_)
          · have c_6 : 3 < (rd.getD (a + 1) 0) := (nI_ltI (a := 3) (b := (rd.getD (a + 1) 0)) (by omega) (by omega)).mp c_6
            refine lv_iconst (v := nI 0) hx hb dX12_groupAt_80 (by decide) ?_
            refine g_top (y := nI (if isEG rd a then 1 else 0)) (by rw [if_neg (fun z => by have := z.2.2; omega)]) ?_
            exact cut () H locs ls ⟨hB, hl⟩
          · have c_6 : ¬ 3 < (rd.getD (a + 1) 0) := fun h9 => c_6 ((nI_ltI (a := 3) (b := (rd.getD (a + 1) 0)) (by omega) (by omega)).mpr h9)
            refine lv_iconst (v := nI 1) hx hb dX12_groupAt_76 (by decide) ?_
            refine lv_goto (tgt := 81) hx hb dX12_groupAt_77 (by decide) ?_
            refine g_top (y := nI (if isEG rd a then 1 else 0)) (by rw [if_pos ⟨by omega, by omega, by omega⟩]) ?_
            exact cut () H locs ls ⟨hB, hl⟩
    rintro - H locs ls ⟨hB, hl⟩
    have p1 : (if isPG rd a then 1 else 0) ≤ 1 := by split <;> omega
    have p2 : (if isEG rd a then 1 else 0) ≤ 1 := by split <;> omega
    refine lv_istore_n (lv' := [(3, .int (nI (if isEG rd a then 1 else 0))), (2, .int (nI (if isPG rd a then 1 else 0))), (0, .ref G.2.1), (1, .int (nI a))]) hx hb dX12_groupAt_81 rfl hl (by decide) rfl (fun ls hl => ?_)
    refine lv_iload_n hx hb dX12_groupAt_82 rfl (lv_at hl 1 rfl) ?_
    refine g_cut (σ := Unit) 92 (fun _ H locs ls => gB G.1 (rT G) A s H locs (rWs G (sc, ar)) ∧ lv_has ls 8 [(3, .int (nI (if isEG rd a then 1 else 0))), (2, .int (nI (if isPG rd a then 1 else 0))), (0, .ref G.2.1), (1, .int (nI a))]) (fun _ => [.int (nI (wdG rd a))]) ?_ (fun cut => ?_)
    rotate_left
    · refine lv_if_eq (tgt := 90) hx hb dX12_groupAt_83 (by decide) (fun c_7 => ?_) (fun c_7 => ?_)
      · have c_7 : (if isPG rd a then 1 else 0) = 0 := (nI_eq (a := (if isPG rd a then 1 else 0)) (b := 0) (by omega) (by omega)).mp c_7
        refine lv_bipush (v := nI 7) hx hb dX12_groupAt_90 (by decide) ?_
        refine g_top (y := nI (wdG rd a)) (by rw [wdG, if_neg (fun z => by rw [if_pos z] at c_7; omega)]) ?_
        exact cut () H locs ls ⟨hB, hl⟩
      · have c_7 : ¬ (if isPG rd a then 1 else 0) = 0 := fun h9 => c_7 ((nI_eq (a := (if isPG rd a then 1 else 0)) (b := 0) (by omega) (by omega)).mpr h9)
        refine lv_iconst (v := nI 3) hx hb dX12_groupAt_86 (by decide) ?_
        refine lv_goto (tgt := 92) hx hb dX12_groupAt_87 (by decide) ?_
        refine g_top (y := nI (wdG rd a)) (by rw [wdG, if_pos (Classical.byContradiction (fun z => c_7 (by rw [if_neg z])))]) ?_
        exact cut () H locs ls ⟨hB, hl⟩
    rintro - H locs ls ⟨hB, hl⟩
    have p3 : wdG rd a = 3 ∨ wdG rd a = 7 := by unfold wdG; split; exact Or.inl rfl; exact Or.inr rfl
    refine lv_istore (lv' := [(4, .int (nI (wdG rd a))), (3, .int (nI (if isEG rd a then 1 else 0))), (2, .int (nI (if isPG rd a then 1 else 0))), (0, .ref G.2.1), (1, .int (nI a))]) hx hb dX12_groupAt_92 hl (by decide) rfl (fun ls hl => ?_)
    refine lv_iconst (v := nI 3) hx hb dX12_groupAt_94 (by decide) ?_
    refine lv_iload hx hb dX12_groupAt_95 (lv_at hl 0 rfl) ?_
    refine lv_aload_n hx hb dX12_groupAt_97 rfl (lv_at hl 3 rfl) ?_
    refine r_get (u := (sc, ar)) (v := .ref (G.2.2.1 41)) hx hb hts hin hown hB 41 (by decide) (hts (.fieldLink RX12 78 "PointReportsModel" "read" "[I") (by decide +kernel)) rfl rfl dX12_groupAt_98 ?_
    refine lv_iload_n hx hb dX12_groupAt_101 rfl (lv_at hl 4 rfl) ?_
    refine lv_iconst (v := nI 2) hx hb dX12_groupAt_102 (by decide) ?_
    refine lv_iadd hx hb dX12_groupAt_103 ?_
    refine g_top (y := nI (a + 2)) (nI_add _ _) ?_
    refine r_ald (u := (sc, ar)) (f := ar 41) hx hb hB 22 rfl (a + 2) rfl (by omega) (by decide) dX12_groupAt_104 ?_
    have q105 := hrd (a + 2) (by omega)
    refine g_top (y := nI (rd.getD (a + 2) 0)) q105.1 ?_
    have q105 := q105.2
    refine lv_imul hx hb dX12_groupAt_105 ?_
    refine g_top (y := nI ((wdG rd a) * (rd.getD (a + 2) 0))) (pk_mul _ _) ?_
    have p4 : wdG rd a * rd.getD (a + 2) 0 ≤ 7 * 255 := Nat.mul_le_mul (by omega) (by omega)
    refine lv_iadd hx hb dX12_groupAt_106 ?_
    refine g_top (y := nI (3 + ((wdG rd a) * (rd.getD (a + 2) 0)))) (nI_add _ _) ?_
    refine lv_istore (lv' := [(5, .int (nI (3 + ((wdG rd a) * (rd.getD (a + 2) 0))))), (4, .int (nI (wdG rd a))), (3, .int (nI (if isEG rd a then 1 else 0))), (2, .int (nI (if isPG rd a then 1 else 0))), (0, .ref G.2.1), (1, .int (nI a))]) hx hb dX12_groupAt_107 hl (by decide) rfl (fun ls hl => ?_)
    refine lv_iload_n hx hb dX12_groupAt_109 rfl (lv_at hl 3 rfl) ?_
    refine g_cut (σ := Unit) 133 (fun _ H locs ls => gB G.1 (rT G) A s H locs (rWs G (sc, ar)) ∧ lv_has ls 8 [(5, .int (nI (3 + ((wdG rd a) * (rd.getD (a + 2) 0))))), (4, .int (nI (wdG rd a))), (3, .int (nI (if isEG rd a then 1 else 0))), (2, .int (nI (if isPG rd a then 1 else 0))), (0, .ref G.2.1), (1, .int (nI a))]) (fun _ => [.int (nI (if (isPG rd a ∨ isEG rd a) ∧ a + (3 + wdG rd a * rd.getD (a + 2) 0) ≤ rd.length then 1 else 0))]) ?_ (fun cut => ?_)
    rotate_left
    · refine lv_if_ne (tgt := 117) hx hb dX12_groupAt_110 (by decide) (fun c_8 => ?_) (fun c_8 => ?_)
      · have c_8 : ¬ (if isPG rd a then 1 else 0) = 0 := fun h9 => c_8 ((nI_eq (a := (if isPG rd a then 1 else 0)) (b := 0) (by omega) (by omega)).mpr h9)
        have hP : isPG rd a := Classical.byContradiction (fun z => c_8 (by rw [if_neg z]))
        refine lv_iload_n hx hb dX12_groupAt_117 rfl (lv_at hl 5 rfl) ?_
        refine lv_iload hx hb dX12_groupAt_118 (lv_at hl 0 rfl) ?_
        refine lv_iadd hx hb dX12_groupAt_120 ?_
        refine g_top (y := nI (a + (3 + ((wdG rd a) * (rd.getD (a + 2) 0))))) (nI_add _ _) ?_
        refine lv_aload_n hx hb dX12_groupAt_121 rfl (lv_at hl 4 rfl) ?_
        refine r_get (u := (sc, ar)) (v := .int (sc 42)) hx hb hts hin hown hB 42 (by decide) (hts (.fieldLink RX12 127 "PointReportsModel" "readLength" "I") (by decide +kernel)) rfl rfl dX12_groupAt_122 ?_
        refine g_top (y := nI rd.length) h42 ?_
        refine lv_icmp_gt (tgt := 132) hx hb dX12_groupAt_125 (by decide) (fun c_9 => ?_) (fun c_9 => ?_)
        · have c_9 : rd.length < (a + (3 + ((wdG rd a) * (rd.getD (a + 2) 0)))) := (nI_ltI (a := rd.length) (b := (a + (3 + ((wdG rd a) * (rd.getD (a + 2) 0))))) (by omega) (by omega)).mp c_9
          refine lv_iconst (v := nI 0) hx hb dX12_groupAt_132 (by decide) ?_
          refine g_top (y := nI (if (isPG rd a ∨ isEG rd a) ∧ a + (3 + wdG rd a * rd.getD (a + 2) 0) ≤ rd.length then 1 else 0)) (by rw [if_neg (fun z => by have := z.2; omega)]) ?_
          exact cut () H locs ls ⟨hB, hl⟩
        · have c_9 : ¬ rd.length < (a + (3 + ((wdG rd a) * (rd.getD (a + 2) 0)))) := fun h9 => c_9 ((nI_ltI (a := rd.length) (b := (a + (3 + ((wdG rd a) * (rd.getD (a + 2) 0))))) (by omega) (by omega)).mpr h9)
          refine lv_iconst (v := nI 1) hx hb dX12_groupAt_128 (by decide) ?_
          refine lv_goto (tgt := 133) hx hb dX12_groupAt_129 (by decide) ?_
          refine g_top (y := nI (if (isPG rd a ∨ isEG rd a) ∧ a + (3 + wdG rd a * rd.getD (a + 2) 0) ≤ rd.length then 1 else 0)) (by rw [if_pos ⟨Or.inl hP, by omega⟩]) ?_
          exact cut () H locs ls ⟨hB, hl⟩
      · have c_8 : (if isPG rd a then 1 else 0) = 0 := (nI_eq (a := (if isPG rd a then 1 else 0)) (b := 0) (by omega) (by omega)).mp c_8
        have hP : ¬ isPG rd a := fun z => by rw [if_pos z] at c_8; omega
        refine lv_iload_n hx hb dX12_groupAt_113 rfl (lv_at hl 2 rfl) ?_
        refine lv_if_eq (tgt := 132) hx hb dX12_groupAt_114 (by decide) (fun c_10 => ?_) (fun c_10 => ?_)
        · have c_10 : (if isEG rd a then 1 else 0) = 0 := (nI_eq (a := (if isEG rd a then 1 else 0)) (b := 0) (by omega) (by omega)).mp c_10
          refine lv_iconst (v := nI 0) hx hb dX12_groupAt_132 (by decide) ?_
          refine g_top (y := nI (if (isPG rd a ∨ isEG rd a) ∧ a + (3 + wdG rd a * rd.getD (a + 2) 0) ≤ rd.length then 1 else 0)) (by rw [if_neg (fun z => by rcases z.1 with z1 | z1; exact hP z1; rw [if_pos z1] at c_10; omega)]) ?_
          exact cut () H locs ls ⟨hB, hl⟩
        · have c_10 : ¬ (if isEG rd a then 1 else 0) = 0 := fun h9 => c_10 ((nI_eq (a := (if isEG rd a then 1 else 0)) (b := 0) (by omega) (by omega)).mpr h9)
          refine lv_iload_n hx hb dX12_groupAt_117 rfl (lv_at hl 5 rfl) ?_
          refine lv_iload hx hb dX12_groupAt_118 (lv_at hl 0 rfl) ?_
          refine lv_iadd hx hb dX12_groupAt_120 ?_
          refine g_top (y := nI (a + (3 + ((wdG rd a) * (rd.getD (a + 2) 0))))) (nI_add _ _) ?_
          refine lv_aload_n hx hb dX12_groupAt_121 rfl (lv_at hl 4 rfl) ?_
          refine r_get (u := (sc, ar)) (v := .int (sc 42)) hx hb hts hin hown hB 42 (by decide) (hts (.fieldLink RX12 127 "PointReportsModel" "readLength" "I") (by decide +kernel)) rfl rfl dX12_groupAt_122 ?_
          refine g_top (y := nI rd.length) h42 ?_
          refine lv_icmp_gt (tgt := 132) hx hb dX12_groupAt_125 (by decide) (fun c_11 => ?_) (fun c_11 => ?_)
          · have c_11 : rd.length < (a + (3 + ((wdG rd a) * (rd.getD (a + 2) 0)))) := (nI_ltI (a := rd.length) (b := (a + (3 + ((wdG rd a) * (rd.getD (a + 2) 0))))) (by omega) (by omega)).mp c_11
            refine lv_iconst (v := nI 0) hx hb dX12_groupAt_132 (by decide) ?_
            refine g_top (y := nI (if (isPG rd a ∨ isEG rd a) ∧ a + (3 + wdG rd a * rd.getD (a + 2) 0) ≤ rd.length then 1 else 0)) (by rw [if_neg (fun z => by have := z.2; omega)]) ?_
            exact cut () H locs ls ⟨hB, hl⟩
          · have c_11 : ¬ rd.length < (a + (3 + ((wdG rd a) * (rd.getD (a + 2) 0)))) := fun h9 => c_11 ((nI_ltI (a := rd.length) (b := (a + (3 + ((wdG rd a) * (rd.getD (a + 2) 0))))) (by omega) (by omega)).mpr h9)
            refine lv_iconst (v := nI 1) hx hb dX12_groupAt_128 (by decide) ?_
            refine lv_goto (tgt := 133) hx hb dX12_groupAt_129 (by decide) ?_
            refine g_top (y := nI (if (isPG rd a ∨ isEG rd a) ∧ a + (3 + wdG rd a * rd.getD (a + 2) 0) ≤ rd.length then 1 else 0)) (by rw [if_pos ⟨Or.inr (Classical.byContradiction (fun z => c_10 (by rw [if_neg z]))), by omega⟩]) ?_
            exact cut () H locs ls ⟨hB, hl⟩
    rintro - H locs ls ⟨hB, hl⟩
    refine lv_istore (lv' := [(6, .int (nI (if (isPG rd a ∨ isEG rd a) ∧ a + (3 + wdG rd a * rd.getD (a + 2) 0) ≤ rd.length then 1 else 0))), (5, .int (nI (3 + ((wdG rd a) * (rd.getD (a + 2) 0))))), (4, .int (nI (wdG rd a))), (3, .int (nI (if isEG rd a then 1 else 0))), (2, .int (nI (if isPG rd a then 1 else 0))), (0, .ref G.2.1), (1, .int (nI a))]) hx hb dX12_groupAt_133 hl (by decide) rfl (fun ls hl => ?_)
    refine lv_iload_n hx hb dX12_groupAt_135 rfl (lv_at hl 6 rfl) ?_
    refine lv_iconst (v := nI 3) hx hb dX12_groupAt_136 (by decide) ?_
    refine lv_iadd hx hb dX12_groupAt_137 ?_
    refine g_top (y := nI (a + 3)) (nI_add _ _) ?_
    refine lv_istore (lv' := [(7, .int (nI (a + 3))), (6, .int (nI (if (isPG rd a ∨ isEG rd a) ∧ a + (3 + wdG rd a * rd.getD (a + 2) 0) ≤ rd.length then 1 else 0))), (5, .int (nI (3 + ((wdG rd a) * (rd.getD (a + 2) 0))))), (4, .int (nI (wdG rd a))), (3, .int (nI (if isEG rd a then 1 else 0))), (2, .int (nI (if isPG rd a then 1 else 0))), (0, .ref G.2.1), (1, .int (nI a))]) hx hb dX12_groupAt_138 hl (by decide) rfl (fun ls hl => ?_)
    by_cases hG : (isPG rd a ∨ isEG rd a) ∧ a + (3 + wdG rd a * rd.getD (a + 2) 0) ≤ rd.length
    · rw [if_pos hG] at hl
      have hl : lv_has ls 8 [(7, .int (nI (a + 3 + wdG rd a * 0))), (6, .int (nI (gpF rd a (wdG rd a) (isPG rd a) inferInstance 0))), (5, .int (nI (3 + wdG rd a * rd.getD (a + 2) 0))), (4, .int (nI (wdG rd a))), (2, .int (nI (if isPG rd a then 1 else 0))), (0, .ref G.2.1), (1, .int (nI a))] := lv_sub hl [0, 1, 2, 3, 5, 6, 7] rfl
      have hB : gB G.1 (rT G) A s H locs (rWs G (sc, ar)) := hB
      refine g_loop (σ := Nat) (fun d xv H locs ls => (xv + d = rd.getD (a + 2) 0) ∧ gB G.1 (rT G) A s H locs (rWs G (sc, ar)) ∧ lv_has ls 8 [(7, .int (nI (a + 3 + wdG rd a * xv))), (6, .int (nI (gpF rd a (wdG rd a) (isPG rd a) inferInstance xv))), (5, .int (nI (3 + wdG rd a * rd.getD (a + 2) 0))), (4, .int (nI (wdG rd a))), (2, .int (nI (if isPG rd a then 1 else 0))), (0, .ref G.2.1), (1, .int (nI a))]) (rd.getD (a + 2) 0) (0) ⟨by omega, hB, hl⟩ ?_
      rintro d k H locs ls ⟨hk, hB, hl⟩ ih_12
      have hk : k + d = rd.getD (a + 2) 0 := hk
      have hB : gB G.1 (rT G) A s H locs (rWs G (sc, ar)) := hB
      have hl : lv_has ls 8 [(7, .int (nI (a + 3 + wdG rd a * k))), (6, .int (nI (gpF rd a (wdG rd a) (isPG rd a) inferInstance k))), (5, .int (nI (3 + wdG rd a * rd.getD (a + 2) 0))), (4, .int (nI (wdG rd a))), (2, .int (nI (if isPG rd a then 1 else 0))), (0, .ref G.2.1), (1, .int (nI a))] := hl
      have l1 := gpF_le rd a (wdG rd a) (isPG rd a) inferInstance k
      have m1 : wdG rd a * k ≤ wdG rd a * rd.getD (a + 2) 0 := Nat.mul_le_mul_left _ (by omega)
      refine lv_iload hx hb dX12_groupAt_140 (lv_at hl 0 rfl) ?_
      refine lv_iload_n hx hb dX12_groupAt_142 rfl (lv_at hl 6 rfl) ?_
      refine lv_iload hx hb dX12_groupAt_143 (lv_at hl 2 rfl) ?_
      refine lv_iadd hx hb dX12_groupAt_145 ?_
      refine g_top (y := nI (a + (3 + wdG rd a * rd.getD (a + 2) 0))) (nI_add _ _) ?_
      refine lv_icmp_ge (tgt := 203) hx hb dX12_groupAt_146 (by decide) (fun c_13 => ?_) (fun c_13 => ?_)
      · have c_13 : (a + (3 + wdG rd a * rd.getD (a + 2) 0)) ≤ (a + 3 + wdG rd a * k) := (nI_leI (a := (a + (3 + wdG rd a * rd.getD (a + 2) 0))) (b := (a + 3 + wdG rd a * k)) (by omega) (by omega)).mp c_13
        have hk9 : k = rd.getD (a + 2) 0 := by
          rcases p3 with h | h <;> rw [h] at c_13 m1 <;> omega
        refine lv_iload hx hb dX12_groupAt_203 (lv_at hl 1 rfl) ?_
        refine lv_if_eq (tgt := 213) hx hb dX12_groupAt_205 (by decide) (fun c_14 => ?_) (fun c_14 => ?_)
        · have c_14 : (gpF rd a (wdG rd a) (isPG rd a) inferInstance k) = 0 := (nI_eq (a := (gpF rd a (wdG rd a) (isPG rd a) inferInstance k)) (b := 0) (by omega) (by omega)).mp c_14
          refine lv_iconst (v := nI 0) hx hb dX12_groupAt_213 (by decide) ?_
          exact g_iret (Wd := rWs G) (v := nI 0) (sc, ar) hB hx hb hr hlocks rfl ⟨by rw [gpN, if_neg (fun z => by have z4 := z.2.2.2; rw [← hk9] at z4; omega)], rfl⟩ dX12_groupAt_214
        · have c_14 : ¬ (gpF rd a (wdG rd a) (isPG rd a) inferInstance k) = 0 := fun h9 => c_14 ((nI_eq (a := (gpF rd a (wdG rd a) (isPG rd a) inferInstance k)) (b := 0) (by omega) (by omega)).mpr h9)
          refine lv_iload hx hb dX12_groupAt_208 (lv_at hl 2 rfl) ?_
          refine lv_goto (tgt := 214) hx hb dX12_groupAt_210 (by decide) ?_
          exact g_iret (Wd := rWs G) (v := nI (3 + wdG rd a * rd.getD (a + 2) 0)) (sc, ar) hB hx hb hr hlocks rfl ⟨by rw [gpN, if_pos (⟨by omega, hG.1, hG.2, by rw [← hk9]; omega⟩)], rfl⟩ dX12_groupAt_214
      · have c_13 : ¬ (a + (3 + wdG rd a * rd.getD (a + 2) 0)) ≤ (a + 3 + wdG rd a * k) := fun h9 => c_13 ((nI_leI (a := (a + (3 + wdG rd a * rd.getD (a + 2) 0))) (b := (a + 3 + wdG rd a * k)) (by omega) (by omega)).mpr h9)
        have hk8 : k < rd.getD (a + 2) 0 := by
          rcases p3 with h | h <;> rw [h] at c_13 m1 <;> omega
        have m2 : wdG rd a * (k + 1) ≤ wdG rd a * rd.getD (a + 2) 0 := Nat.mul_le_mul_left _ hk8
        have m3 : wdG rd a * (k + 1) = wdG rd a * k + wdG rd a := Nat.mul_succ _ _
        refine lv_iload hx hb dX12_groupAt_149 (lv_at hl 1 rfl) ?_
        refine lv_if_eq (tgt := 203) hx hb dX12_groupAt_151 (by decide) (fun c_15 => ?_) (fun c_15 => ?_)
        · have c_15 : (gpF rd a (wdG rd a) (isPG rd a) inferInstance k) = 0 := (nI_eq (a := (gpF rd a (wdG rd a) (isPG rd a) inferInstance k)) (b := 0) (by omega) (by omega)).mp c_15
          have hno : ¬ gpF rd a (wdG rd a) (isPG rd a) inferInstance (rd.getD (a + 2) 0) = 1 := gpF_dead (k := k) (by omega) _ (by omega)
          refine lv_iload hx hb dX12_groupAt_203 (lv_at hl 1 rfl) ?_
          refine lv_if_eq (tgt := 213) hx hb dX12_groupAt_205 (by decide) (fun c_16 => ?_) (fun c_16 => ?_)
          · have c_16 : (gpF rd a (wdG rd a) (isPG rd a) inferInstance k) = 0 := (nI_eq (a := (gpF rd a (wdG rd a) (isPG rd a) inferInstance k)) (b := 0) (by omega) (by omega)).mp c_16
            refine lv_iconst (v := nI 0) hx hb dX12_groupAt_213 (by decide) ?_
            exact g_iret (Wd := rWs G) (v := nI 0) (sc, ar) hB hx hb hr hlocks rfl ⟨by rw [gpN, if_neg (fun z => hno z.2.2.2)], rfl⟩ dX12_groupAt_214
          · have c_16 : ¬ (gpF rd a (wdG rd a) (isPG rd a) inferInstance k) = 0 := fun h9 => c_16 ((nI_eq (a := (gpF rd a (wdG rd a) (isPG rd a) inferInstance k)) (b := 0) (by omega) (by omega)).mpr h9)
            exact absurd (by omega) c_16
        · have c_15 : ¬ (gpF rd a (wdG rd a) (isPG rd a) inferInstance k) = 0 := fun h9 => c_15 ((nI_eq (a := (gpF rd a (wdG rd a) (isPG rd a) inferInstance k)) (b := 0) (by omega) (by omega)).mpr h9)
          refine lv_aload_n hx hb dX12_groupAt_154 rfl (lv_at hl 5 rfl) ?_
          refine r_get (u := (sc, ar)) (v := .ref (G.2.2.1 41)) hx hb hts hin hown hB 41 (by decide) (hts (.fieldLink RX12 78 "PointReportsModel" "read" "[I") (by decide +kernel)) rfl rfl dX12_groupAt_155 ?_
          refine lv_iload hx hb dX12_groupAt_158 (lv_at hl 0 rfl) ?_
          refine r_ald (u := (sc, ar)) (f := ar 41) hx hb hB 22 rfl (a + 3 + wdG rd a * k) rfl (by omega) (by decide) dX12_groupAt_160 ?_
          have q161 := hrd (a + 3 + wdG rd a * k) (by omega)
          refine g_top (y := nI (rd.getD (a + 3 + wdG rd a * k) 0)) q161.1 ?_
          have q161 := q161.2
          refine lv_bipush (v := nI 10) hx hb dX12_groupAt_161 (by decide) ?_
          refine lv_icmp_ge (tgt := 190) hx hb dX12_groupAt_163 (by decide) (fun c_17 => ?_) (fun c_17 => ?_)
          · have c_17 : 10 ≤ (rd.getD (a + 3 + wdG rd a * k) 0) := (nI_leI (a := 10) (b := (rd.getD (a + 3 + wdG rd a * k) 0)) (by omega) (by omega)).mp c_17
            refine lv_iconst (v := nI 0) hx hb dX12_groupAt_190 (by decide) ?_
            refine g_top (y := nI (gpF rd a (wdG rd a) (isPG rd a) inferInstance (k + 1))) (by rw [gpF, if_neg (fun z => by have := z.2.1; omega)]) ?_
            refine lv_istore (lv' := [(6, .int (nI (gpF rd a (wdG rd a) (isPG rd a) inferInstance (k + 1)))), (7, .int (nI (a + 3 + wdG rd a * k))), (5, .int (nI (3 + wdG rd a * rd.getD (a + 2) 0))), (4, .int (nI (wdG rd a))), (2, .int (nI (if isPG rd a then 1 else 0))), (0, .ref G.2.1), (1, .int (nI a))]) hx hb dX12_groupAt_191 hl (by decide) rfl (fun ls hl => ?_)
            refine lv_iload hx hb dX12_groupAt_193 (lv_at hl 1 rfl) ?_
            refine lv_iload hx hb dX12_groupAt_195 (lv_at hl 3 rfl) ?_
            refine lv_iadd hx hb dX12_groupAt_197 ?_
            refine g_top (y := nI ((a + 3 + wdG rd a * k) + (wdG rd a))) (nI_add _ _) ?_
            refine g_top (y := nI (a + 3 + wdG rd a * (k + 1))) (by congr 1; omega) ?_
            refine lv_istore (lv' := [(7, .int (nI (a + 3 + wdG rd a * (k + 1)))), (6, .int (nI (gpF rd a (wdG rd a) (isPG rd a) inferInstance (k + 1)))), (5, .int (nI (3 + wdG rd a * rd.getD (a + 2) 0))), (4, .int (nI (wdG rd a))), (2, .int (nI (if isPG rd a then 1 else 0))), (0, .ref G.2.1), (1, .int (nI a))]) hx hb dX12_groupAt_198 hl (by decide) rfl (fun ls hl => ?_)
            refine lv_goto (tgt := 140) hx hb dX12_groupAt_200 (by decide) ?_
            have hl : lv_has ls 8 [(7, .int (nI (a + 3 + wdG rd a * (k + 1)))), (6, .int (nI (gpF rd a (wdG rd a) (isPG rd a) inferInstance (k + 1)))), (5, .int (nI (3 + wdG rd a * rd.getD (a + 2) 0))), (4, .int (nI (wdG rd a))), (2, .int (nI (if isPG rd a then 1 else 0))), (0, .ref G.2.1), (1, .int (nI a))] := lv_sub hl [0, 1, 2, 3, 4, 5, 6] rfl
            have hB : gB G.1 (rT G) A s H locs (rWs G (sc, ar)) := hB
            have b_18 : (k + 1) + (rd.getD (a + 2) 0 - (k + 1)) = rd.getD (a + 2) 0 := by omega
            exact ih_12 (rd.getD (a + 2) 0 - (k + 1)) (k + 1) H locs ls (by omega) ⟨b_18, hB, hl⟩
          · have c_17 : ¬ 10 ≤ (rd.getD (a + 3 + wdG rd a * k) 0) := fun h9 => c_17 ((nI_leI (a := 10) (b := (rd.getD (a + 3 + wdG rd a * k) 0)) (by omega) (by omega)).mpr h9)
            refine lv_iload_n hx hb dX12_groupAt_166 rfl (lv_at hl 4 rfl) ?_
            refine lv_if_ne (tgt := 186) hx hb dX12_groupAt_167 (by decide) (fun c_19 => ?_) (fun c_19 => ?_)
            · have c_19 : ¬ (if isPG rd a then 1 else 0) = 0 := fun h9 => c_19 ((nI_eq (a := (if isPG rd a then 1 else 0)) (b := 0) (by omega) (by omega)).mpr h9)
              have hP : isPG rd a := Classical.byContradiction (fun z => c_19 (by rw [if_neg z]))
              refine lv_iconst (v := nI 1) hx hb dX12_groupAt_186 (by decide) ?_
              refine lv_goto (tgt := 191) hx hb dX12_groupAt_187 (by decide) ?_
              refine g_top (y := nI (gpF rd a (wdG rd a) (isPG rd a) inferInstance (k + 1))) (by rw [gpF, if_pos ⟨by omega, by omega, Or.inl hP⟩]) ?_
              refine lv_istore (lv' := [(6, .int (nI (gpF rd a (wdG rd a) (isPG rd a) inferInstance (k + 1)))), (7, .int (nI (a + 3 + wdG rd a * k))), (5, .int (nI (3 + wdG rd a * rd.getD (a + 2) 0))), (4, .int (nI (wdG rd a))), (2, .int (nI (if isPG rd a then 1 else 0))), (0, .ref G.2.1), (1, .int (nI a))]) hx hb dX12_groupAt_191 hl (by decide) rfl (fun ls hl => ?_)
              refine lv_iload hx hb dX12_groupAt_193 (lv_at hl 1 rfl) ?_
              refine lv_iload hx hb dX12_groupAt_195 (lv_at hl 3 rfl) ?_
              refine lv_iadd hx hb dX12_groupAt_197 ?_
              refine g_top (y := nI ((a + 3 + wdG rd a * k) + (wdG rd a))) (nI_add _ _) ?_
              refine g_top (y := nI (a + 3 + wdG rd a * (k + 1))) (by congr 1; omega) ?_
              refine lv_istore (lv' := [(7, .int (nI (a + 3 + wdG rd a * (k + 1)))), (6, .int (nI (gpF rd a (wdG rd a) (isPG rd a) inferInstance (k + 1)))), (5, .int (nI (3 + wdG rd a * rd.getD (a + 2) 0))), (4, .int (nI (wdG rd a))), (2, .int (nI (if isPG rd a then 1 else 0))), (0, .ref G.2.1), (1, .int (nI a))]) hx hb dX12_groupAt_198 hl (by decide) rfl (fun ls hl => ?_)
              refine lv_goto (tgt := 140) hx hb dX12_groupAt_200 (by decide) ?_
              have hl : lv_has ls 8 [(7, .int (nI (a + 3 + wdG rd a * (k + 1)))), (6, .int (nI (gpF rd a (wdG rd a) (isPG rd a) inferInstance (k + 1)))), (5, .int (nI (3 + wdG rd a * rd.getD (a + 2) 0))), (4, .int (nI (wdG rd a))), (2, .int (nI (if isPG rd a then 1 else 0))), (0, .ref G.2.1), (1, .int (nI a))] := lv_sub hl [0, 1, 2, 3, 4, 5, 6] rfl
              have hB : gB G.1 (rT G) A s H locs (rWs G (sc, ar)) := hB
              have b_20 : (k + 1) + (rd.getD (a + 2) 0 - (k + 1)) = rd.getD (a + 2) 0 := by omega
              exact ih_12 (rd.getD (a + 2) 0 - (k + 1)) (k + 1) H locs ls (by omega) ⟨b_20, hB, hl⟩
            · have c_19 : (if isPG rd a then 1 else 0) = 0 := (nI_eq (a := (if isPG rd a then 1 else 0)) (b := 0) (by omega) (by omega)).mp c_19
              have hP : ¬ isPG rd a := fun z => by rw [if_pos z] at c_19; omega
              have p7 : wdG rd a = 7 := by rw [wdG, if_neg hP]
              refine lv_aload_n hx hb dX12_groupAt_170 rfl (lv_at hl 5 rfl) ?_
              refine r_get (u := (sc, ar)) (v := .ref (G.2.2.1 41)) hx hb hts hin hown hB 41 (by decide) (hts (.fieldLink RX12 78 "PointReportsModel" "read" "[I") (by decide +kernel)) rfl rfl dX12_groupAt_171 ?_
              refine lv_iload hx hb dX12_groupAt_174 (lv_at hl 0 rfl) ?_
              refine lv_bipush (v := nI 6) hx hb dX12_groupAt_176 (by decide) ?_
              refine lv_iadd hx hb dX12_groupAt_178 ?_
              refine g_top (y := nI ((a + 3 + wdG rd a * k) + 6)) (nI_add _ _) ?_
              refine r_ald (u := (sc, ar)) (f := ar 41) hx hb hB 22 rfl ((a + 3 + wdG rd a * k) + 6) rfl (by omega) (by decide) dX12_groupAt_179 ?_
              have q180 := hrd ((a + 3 + wdG rd a * k) + 6) (by omega)
              refine g_top (y := nI (rd.getD ((a + 3 + wdG rd a * k) + 6) 0)) q180.1 ?_
              have q180 := q180.2
              refine lv_sipush (v := nI 128) hx hb dX12_groupAt_180 (by decide) ?_
              refine lv_icmp_ge (tgt := 190) hx hb dX12_groupAt_183 (by decide) (fun c_21 => ?_) (fun c_21 => ?_)
              · have c_21 : 128 ≤ (rd.getD ((a + 3 + wdG rd a * k) + 6) 0) := (nI_leI (a := 128) (b := (rd.getD ((a + 3 + wdG rd a * k) + 6) 0)) (by omega) (by omega)).mp c_21
                refine lv_iconst (v := nI 0) hx hb dX12_groupAt_190 (by decide) ?_
                refine g_top (y := nI (gpF rd a (wdG rd a) (isPG rd a) inferInstance (k + 1))) (by rw [gpF, if_neg (fun z => by rcases z.2.2 with z1 | z1; exact hP z1; omega)]) ?_
                refine lv_istore (lv' := [(6, .int (nI (gpF rd a (wdG rd a) (isPG rd a) inferInstance (k + 1)))), (7, .int (nI (a + 3 + wdG rd a * k))), (5, .int (nI (3 + wdG rd a * rd.getD (a + 2) 0))), (4, .int (nI (wdG rd a))), (2, .int (nI (if isPG rd a then 1 else 0))), (0, .ref G.2.1), (1, .int (nI a))]) hx hb dX12_groupAt_191 hl (by decide) rfl (fun ls hl => ?_)
                refine lv_iload hx hb dX12_groupAt_193 (lv_at hl 1 rfl) ?_
                refine lv_iload hx hb dX12_groupAt_195 (lv_at hl 3 rfl) ?_
                refine lv_iadd hx hb dX12_groupAt_197 ?_
                refine g_top (y := nI ((a + 3 + wdG rd a * k) + (wdG rd a))) (nI_add _ _) ?_
                refine g_top (y := nI (a + 3 + wdG rd a * (k + 1))) (by congr 1; omega) ?_
                refine lv_istore (lv' := [(7, .int (nI (a + 3 + wdG rd a * (k + 1)))), (6, .int (nI (gpF rd a (wdG rd a) (isPG rd a) inferInstance (k + 1)))), (5, .int (nI (3 + wdG rd a * rd.getD (a + 2) 0))), (4, .int (nI (wdG rd a))), (2, .int (nI (if isPG rd a then 1 else 0))), (0, .ref G.2.1), (1, .int (nI a))]) hx hb dX12_groupAt_198 hl (by decide) rfl (fun ls hl => ?_)
                refine lv_goto (tgt := 140) hx hb dX12_groupAt_200 (by decide) ?_
                have hl : lv_has ls 8 [(7, .int (nI (a + 3 + wdG rd a * (k + 1)))), (6, .int (nI (gpF rd a (wdG rd a) (isPG rd a) inferInstance (k + 1)))), (5, .int (nI (3 + wdG rd a * rd.getD (a + 2) 0))), (4, .int (nI (wdG rd a))), (2, .int (nI (if isPG rd a then 1 else 0))), (0, .ref G.2.1), (1, .int (nI a))] := lv_sub hl [0, 1, 2, 3, 4, 5, 6] rfl
                have hB : gB G.1 (rT G) A s H locs (rWs G (sc, ar)) := hB
                have b_22 : (k + 1) + (rd.getD (a + 2) 0 - (k + 1)) = rd.getD (a + 2) 0 := by omega
                exact ih_12 (rd.getD (a + 2) 0 - (k + 1)) (k + 1) H locs ls (by omega) ⟨b_22, hB, hl⟩
              · have c_21 : ¬ 128 ≤ (rd.getD ((a + 3 + wdG rd a * k) + 6) 0) := fun h9 => c_21 ((nI_leI (a := 128) (b := (rd.getD ((a + 3 + wdG rd a * k) + 6) 0)) (by omega) (by omega)).mpr h9)
                refine lv_iconst (v := nI 1) hx hb dX12_groupAt_186 (by decide) ?_
                refine lv_goto (tgt := 191) hx hb dX12_groupAt_187 (by decide) ?_
                refine g_top (y := nI (gpF rd a (wdG rd a) (isPG rd a) inferInstance (k + 1))) (by rw [gpF, if_pos ⟨by omega, by omega, Or.inr (by omega)⟩]) ?_
                refine lv_istore (lv' := [(6, .int (nI (gpF rd a (wdG rd a) (isPG rd a) inferInstance (k + 1)))), (7, .int (nI (a + 3 + wdG rd a * k))), (5, .int (nI (3 + wdG rd a * rd.getD (a + 2) 0))), (4, .int (nI (wdG rd a))), (2, .int (nI (if isPG rd a then 1 else 0))), (0, .ref G.2.1), (1, .int (nI a))]) hx hb dX12_groupAt_191 hl (by decide) rfl (fun ls hl => ?_)
                refine lv_iload hx hb dX12_groupAt_193 (lv_at hl 1 rfl) ?_
                refine lv_iload hx hb dX12_groupAt_195 (lv_at hl 3 rfl) ?_
                refine lv_iadd hx hb dX12_groupAt_197 ?_
                refine g_top (y := nI ((a + 3 + wdG rd a * k) + (wdG rd a))) (nI_add _ _) ?_
                refine g_top (y := nI (a + 3 + wdG rd a * (k + 1))) (by congr 1; omega) ?_
                refine lv_istore (lv' := [(7, .int (nI (a + 3 + wdG rd a * (k + 1)))), (6, .int (nI (gpF rd a (wdG rd a) (isPG rd a) inferInstance (k + 1)))), (5, .int (nI (3 + wdG rd a * rd.getD (a + 2) 0))), (4, .int (nI (wdG rd a))), (2, .int (nI (if isPG rd a then 1 else 0))), (0, .ref G.2.1), (1, .int (nI a))]) hx hb dX12_groupAt_198 hl (by decide) rfl (fun ls hl => ?_)
                refine lv_goto (tgt := 140) hx hb dX12_groupAt_200 (by decide) ?_
                have hl : lv_has ls 8 [(7, .int (nI (a + 3 + wdG rd a * (k + 1)))), (6, .int (nI (gpF rd a (wdG rd a) (isPG rd a) inferInstance (k + 1)))), (5, .int (nI (3 + wdG rd a * rd.getD (a + 2) 0))), (4, .int (nI (wdG rd a))), (2, .int (nI (if isPG rd a then 1 else 0))), (0, .ref G.2.1), (1, .int (nI a))] := lv_sub hl [0, 1, 2, 3, 4, 5, 6] rfl
                have hB : gB G.1 (rT G) A s H locs (rWs G (sc, ar)) := hB
                have b_23 : (k + 1) + (rd.getD (a + 2) 0 - (k + 1)) = rd.getD (a + 2) 0 := by omega
                exact ih_12 (rd.getD (a + 2) 0 - (k + 1)) (k + 1) H locs ls (by omega) ⟨b_23, hB, hl⟩
    · rw [if_neg hG] at hl
      refine lv_iload hx hb dX12_groupAt_140 (lv_at hl 0 rfl) ?_
      refine lv_iload_n hx hb dX12_groupAt_142 rfl (lv_at hl 7 rfl) ?_
      refine lv_iload hx hb dX12_groupAt_143 (lv_at hl 2 rfl) ?_
      refine lv_iadd hx hb dX12_groupAt_145 ?_
      refine g_top (y := nI (a + (3 + ((wdG rd a) * (rd.getD (a + 2) 0))))) (nI_add _ _) ?_
      refine lv_icmp_ge (tgt := 203) hx hb dX12_groupAt_146 (by decide) (fun c_24 => ?_) (fun c_24 => ?_)
      · have c_24 : (a + (3 + ((wdG rd a) * (rd.getD (a + 2) 0)))) ≤ (a + 3) := (nI_leI (a := (a + (3 + ((wdG rd a) * (rd.getD (a + 2) 0))))) (b := (a + 3)) (by omega) (by omega)).mp c_24
        refine lv_iload hx hb dX12_groupAt_203 (lv_at hl 1 rfl) ?_
        refine lv_if_eq (tgt := 213) hx hb dX12_groupAt_205 (by decide) (fun c_25 => ?_) (fun c_25 => ?_)
        · have c_25 : 0 = 0 := (nI_eq (a := 0) (b := 0) (by omega) (by omega)).mp c_25
          refine lv_iconst (v := nI 0) hx hb dX12_groupAt_213 (by decide) ?_
          exact g_iret (Wd := rWs G) (v := nI 0) (sc, ar) hB hx hb hr hlocks rfl ⟨by rw [gpN, if_neg (fun z => hG ⟨z.2.1, z.2.2.1⟩)], rfl⟩ dX12_groupAt_214
        · have c_25 : ¬ 0 = 0 := fun h9 => c_25 ((nI_eq (a := 0) (b := 0) (by omega) (by omega)).mpr h9)
          exact absurd rfl c_25
      · have c_24 : ¬ (a + (3 + ((wdG rd a) * (rd.getD (a + 2) 0)))) ≤ (a + 3) := fun h9 => c_24 ((nI_leI (a := (a + (3 + ((wdG rd a) * (rd.getD (a + 2) 0))))) (b := (a + 3)) (by omega) (by omega)).mpr h9)
        refine lv_iload hx hb dX12_groupAt_149 (lv_at hl 1 rfl) ?_
        refine lv_if_eq (tgt := 203) hx hb dX12_groupAt_151 (by decide) (fun c_26 => ?_) (fun c_26 => ?_)
        · have c_26 : 0 = 0 := (nI_eq (a := 0) (b := 0) (by omega) (by omega)).mp c_26
          refine lv_iload hx hb dX12_groupAt_203 (lv_at hl 1 rfl) ?_
          refine lv_if_eq (tgt := 213) hx hb dX12_groupAt_205 (by decide) (fun c_27 => ?_) (fun c_27 => ?_)
          · have c_27 : 0 = 0 := (nI_eq (a := 0) (b := 0) (by omega) (by omega)).mp c_27
            refine lv_iconst (v := nI 0) hx hb dX12_groupAt_213 (by decide) ?_
            exact g_iret (Wd := rWs G) (v := nI 0) (sc, ar) hB hx hb hr hlocks rfl ⟨by rw [gpN, if_neg (fun z => hG ⟨z.2.1, z.2.2.1⟩)], rfl⟩ dX12_groupAt_214
          · have c_27 : ¬ 0 = 0 := fun h9 => c_27 ((nI_eq (a := 0) (b := 0) (by omega) (by omega)).mpr h9)
            exact absurd rfl c_27
        · have c_26 : ¬ 0 = 0 := fun h9 => c_26 ((nI_eq (a := 0) (b := 0) (by omega) (by omega)).mpr h9)
          exact absurd rfl c_26
  · have c_1 : ¬ (a + 3) ≤ rd.length := fun h9 => c_1 ((nI_leI (a := (a + 3)) (b := rd.length) (by omega) (by omega)).mpr h9)
    refine lv_iconst (v := nI 0) hx hb dX12_groupAt_10 (by decide) ?_
    exact g_iret (Wd := rWs G) (v := nI 0) (sc, ar) hB hx hb hr hlocks rfl ⟨by rw [gpN, if_neg (fun z => by have := z.1; omega)], rfl⟩ dX12_groupAt_11
set_option maxRecDepth 100000 in
set_option maxHeartbeats 4000000 in
/-- areGroups() -/
theorem c_areGroups (l : Launch) (G : rG) (sc : Nat → Int32) (ar : Nat → Nat → Int32) (rd : List Nat) (hrd : pfxN (ar 41) rd) (h42 : sc 42 = nI rd.length) (hr4 : rd.length ≤ 400) : gM l G.1 (rT G) yX12_areGroups wsX12_areGroups ({ frames := 1, cells := 0, slots := 0, locals := 27 }) [.ref G.2.1] (rWs G (sc, ar)) (gQi G.1 (rT G) (fun (r : Int32) (u : rSt) => ((r = nI 1 ∧ arG rd) ∨ (r = nI 0 ∧ ¬ arG rd)) ∧ u = (sc, ar)) (rWs G)) 0 0 := by
  refine gM.of (cc := cX12_areGroups) (maxL := 3) (ret := (some .boolean)) (by decide) rfl (Nat.le_of_ble_eq_true rfl) ?_
  intro p e s m below meth c A ls hx hb hr hml hown hts hlocks hnm hB hl
  have hin : ∀ w ∈ wsX120, w ∈ wsX12_areGroups := fun w h => List.mem_cons_of_mem _ (List.mem_append_right _ h)
  have hl : lv_has ls 3 [(0, .ref G.2.1)] := hl
  refine lv_iconst (v := nI 4) hx hb dX12_areGroups_0 (by decide) ?_
  refine lv_istore_n (lv' := [(1, .int (nI 4)), (0, .ref G.2.1)]) hx hb dX12_areGroups_1 rfl hl (by decide) rfl (fun ls hl => ?_)
  refine lv_iconst (v := nI 1) hx hb dX12_areGroups_2 (by decide) ?_
  refine lv_istore_n (lv' := [(2, .int (nI 1)), (1, .int (nI 4)), (0, .ref G.2.1)]) hx hb dX12_areGroups_3 rfl hl (by decide) rfl (fun ls hl => ?_)
  have h3 : rd.length < 3 * 400 + 4 := by omega
  have hl : lv_has ls 3 [(2, .int (nI 1)), (1, .int (nI 4)), (0, .ref G.2.1)] := lv_sub hl [0, 1, 2] rfl
  have hB : gB G.1 (rT G) A s s.heap [] (rWs G (sc, ar)) := hB
  refine g_loop (σ := Nat × Nat) (fun d xv H locs ls => (0 < xv.1) ∧ (xv.1 ≤ 2000) ∧ (agN rd d xv.2 = agN rd 400 4) ∧ (rd.length < xv.2 + 3 * d) ∧ (xv.2 ≤ 404) ∧ gB G.1 (rT G) A s H locs (rWs G (sc, ar)) ∧ lv_has ls 3 [(2, .int (nI xv.1)), (1, .int (nI xv.2)), (0, .ref G.2.1)]) 400 (1, 4) ⟨by decide, by decide, rfl, by omega, by decide, hB, hl⟩ ?_
  rintro d ⟨n, a⟩ H locs ls ⟨hn, hnb, hs, hd, hal, hB, hl⟩ ih_1
  have hn : 0 < n := hn
  have hnb : n ≤ 2000 := hnb
  have hs : agN rd d a = agN rd 400 4 := hs
  have hd : rd.length < a + 3 * d := hd
  have hal : a ≤ 404 := hal
  have hB : gB G.1 (rT G) A s H locs (rWs G (sc, ar)) := hB
  have hl : lv_has ls 3 [(2, .int (nI n)), (1, .int (nI a)), (0, .ref G.2.1)] := hl
  refine lv_iload_n hx hb dX12_areGroups_4 rfl (lv_at hl 0 rfl) ?_
  refine lv_if_le (tgt := 29) hx hb dX12_areGroups_5 (by decide) (fun c_2 => ?_) (fun c_2 => ?_)
  · have c_2 : n ≤ 0 := (nI_leI (a := n) (b := 0) (by omega) (by omega)).mp c_2
    exact absurd c_2 (by omega)
  · have c_2 : ¬ n ≤ 0 := fun h9 => c_2 ((nI_leI (a := n) (b := 0) (by omega) (by omega)).mpr h9)
    refine lv_iload_n hx hb dX12_areGroups_8 rfl (lv_at hl 1 rfl) ?_
    refine lv_aload_n hx hb dX12_areGroups_9 rfl (lv_at hl 2 rfl) ?_
    refine r_get (u := (sc, ar)) (v := .int (sc 42)) hx hb hts hin hown hB 42 (by decide) (hts (.fieldLink RX12 127 "PointReportsModel" "readLength" "I") (by decide +kernel)) rfl rfl dX12_areGroups_10 ?_
    refine g_top (y := nI rd.length) h42 ?_
    refine lv_icmp_ge (tgt := 29) hx hb dX12_areGroups_13 (by decide) (fun c_3 => ?_) (fun c_3 => ?_)
    · have c_3 : rd.length ≤ a := (nI_leI (a := rd.length) (b := a) (by omega) (by omega)).mp c_3
      rw [agN_end (by omega)] at hs
      refine lv_aload_n hx hb dX12_areGroups_29 rfl (lv_at hl 2 rfl) ?_
      refine r_get (u := (sc, ar)) (v := .int (sc 42)) hx hb hts hin hown hB 42 (by decide) (hts (.fieldLink RX12 127 "PointReportsModel" "readLength" "I") (by decide +kernel)) rfl rfl dX12_areGroups_30 ?_
      refine g_top (y := nI rd.length) h42 ?_
      refine lv_iconst (v := nI 4) hx hb dX12_areGroups_33 (by decide) ?_
      refine lv_icmp_lt (tgt := 49) hx hb dX12_areGroups_34 (by decide) (fun c_4 => ?_) (fun c_4 => ?_)
      · have c_4 : rd.length < 4 := (nI_ltI (a := rd.length) (b := 4) (by omega) (by omega)).mp c_4
        refine lv_iconst (v := nI 0) hx hb dX12_areGroups_49 (by decide) ?_
        exact g_zret (Wd := rWs G) (v := nI 0) (sc, ar) hB hx hb hr hlocks rfl (narrow_z (Or.inl rfl)) ⟨Or.inr ⟨rfl, fun z => by have := z.1; omega⟩, rfl⟩ dX12_areGroups_50
      · have c_4 : ¬ rd.length < 4 := fun h9 => c_4 ((nI_ltI (a := rd.length) (b := 4) (by omega) (by omega)).mpr h9)
        refine lv_iload_n hx hb dX12_areGroups_37 rfl (lv_at hl 1 rfl) ?_
        refine lv_aload_n hx hb dX12_areGroups_38 rfl (lv_at hl 2 rfl) ?_
        refine r_get (u := (sc, ar)) (v := .int (sc 42)) hx hb hts hin hown hB 42 (by decide) (hts (.fieldLink RX12 127 "PointReportsModel" "readLength" "I") (by decide +kernel)) rfl rfl dX12_areGroups_39 ?_
        refine g_top (y := nI rd.length) h42 ?_
        refine lv_icmp_ne (tgt := 49) hx hb dX12_areGroups_42 (by decide) (fun c_5 => ?_) (fun c_5 => ?_)
        · have c_5 : ¬ a = rd.length := fun h9 => c_5 ((nI_eq (a := a) (b := rd.length) (by omega) (by omega)).mpr h9)
          refine lv_iconst (v := nI 0) hx hb dX12_areGroups_49 (by decide) ?_
          exact g_zret (Wd := rWs G) (v := nI 0) (sc, ar) hB hx hb hr hlocks rfl (narrow_z (Or.inl rfl)) ⟨Or.inr ⟨rfl, fun z => c_5 (by rw [← z.2, ← hs])⟩, rfl⟩ dX12_areGroups_50
        · have c_5 : a = rd.length := (nI_eq (a := a) (b := rd.length) (by omega) (by omega)).mp c_5
          refine lv_iconst (v := nI 1) hx hb dX12_areGroups_45 (by decide) ?_
          refine lv_goto (tgt := 50) hx hb dX12_areGroups_46 (by decide) ?_
          exact g_zret (Wd := rWs G) (v := nI 1) (sc, ar) hB hx hb hr hlocks rfl (narrow_z (Or.inr rfl)) ⟨Or.inl ⟨rfl, by omega, by rw [← hs]; exact c_5⟩, rfl⟩ dX12_areGroups_50
    · have c_3 : ¬ rd.length ≤ a := fun h9 => c_3 ((nI_leI (a := rd.length) (b := a) (by omega) (by omega)).mpr h9)
      obtain ⟨d9, rfl⟩ : ∃ z, d = z + 1 := ⟨d - 1, by omega⟩
      rw [agN, if_pos (by omega)] at hs
      refine lv_aload_n hx hb dX12_areGroups_16 rfl (lv_at hl 2 rfl) ?_
      refine lv_iload_n hx hb dX12_areGroups_17 rfl (lv_at hl 1 rfl) ?_
      refine g_calli (av := [.int (nI a)]) (rest := []) ⟨hx, hb, hml, hown, hts⟩ (c_groupAt l G sc ar rd hrd h42 hr4 a (by omega)) (cwV 1 hts gX12_areGroups_X12_groupAt rfl rfl rfl (by decide +kernel) ⟨Nat.le_of_ble_eq_true rfl, Nat.le_of_ble_eq_true rfl⟩) hB (q0 := 0) (ci := 9) rfl rfl rfl rfl hl.1 rfl (Nat.le_of_ble_eq_true rfl) dX12_areGroups_18 ⟨Nat.le_of_ble_eq_true rfl, Nat.le_of_ble_eq_true rfl⟩ (fun r9 u H locs hw hB => ?_)
      obtain ⟨rfl, rfl⟩ := hw
      have hB : gB G.1 (rT G) A s H locs (rWs G (sc, ar)) := hB
      have g3 := gpN_le rd a
      refine lv_istore_n (lv' := [(2, .int (nI (gpN rd a))), (1, .int (nI a)), (0, .ref G.2.1)]) hx hb dX12_areGroups_21 rfl hl (by decide) rfl (fun ls hl => ?_)
      refine lv_iload_n hx hb dX12_areGroups_22 rfl (lv_at hl 1 rfl) ?_
      refine lv_iload_n hx hb dX12_areGroups_23 rfl (lv_at hl 0 rfl) ?_
      refine lv_iadd hx hb dX12_areGroups_24 ?_
      refine g_top (y := nI (a + (gpN rd a))) (nI_add _ _) ?_
      refine lv_istore_n (lv' := [(1, .int (nI (a + (gpN rd a)))), (2, .int (nI (gpN rd a))), (0, .ref G.2.1)]) hx hb dX12_areGroups_25 rfl hl (by decide) rfl (fun ls hl => ?_)
      refine lv_goto (tgt := 4) hx hb dX12_areGroups_26 (by decide) ?_
      by_cases hg0 : gpN rd a = 0
      · rw [if_pos hg0] at hs
        rw [hg0] at hl
        refine lv_iload_n hx hb dX12_areGroups_4 rfl (lv_at hl 1 rfl) ?_
        refine lv_if_le (tgt := 29) hx hb dX12_areGroups_5 (by decide) (fun c_6 => ?_) (fun c_6 => ?_)
        · have c_6 : 0 ≤ 0 := (nI_leI (a := 0) (b := 0) (by omega) (by omega)).mp c_6
          rw [Nat.add_zero] at hl
          refine lv_aload_n hx hb dX12_areGroups_29 rfl (lv_at hl 2 rfl) ?_
          refine r_get (u := (sc, ar)) (v := .int (sc 42)) hx hb hts hin hown hB 42 (by decide) (hts (.fieldLink RX12 127 "PointReportsModel" "readLength" "I") (by decide +kernel)) rfl rfl dX12_areGroups_30 ?_
          refine g_top (y := nI rd.length) h42 ?_
          refine lv_iconst (v := nI 4) hx hb dX12_areGroups_33 (by decide) ?_
          refine lv_icmp_lt (tgt := 49) hx hb dX12_areGroups_34 (by decide) (fun c_7 => ?_) (fun c_7 => ?_)
          · have c_7 : rd.length < 4 := (nI_ltI (a := rd.length) (b := 4) (by omega) (by omega)).mp c_7
            refine lv_iconst (v := nI 0) hx hb dX12_areGroups_49 (by decide) ?_
            exact g_zret (Wd := rWs G) (v := nI 0) (sc, ar) hB hx hb hr hlocks rfl (narrow_z (Or.inl rfl)) ⟨Or.inr ⟨rfl, fun z => by have := z.1; omega⟩, rfl⟩ dX12_areGroups_50
          · have c_7 : ¬ rd.length < 4 := fun h9 => c_7 ((nI_ltI (a := rd.length) (b := 4) (by omega) (by omega)).mpr h9)
            refine lv_iload_n hx hb dX12_areGroups_37 rfl (lv_at hl 0 rfl) ?_
            refine lv_aload_n hx hb dX12_areGroups_38 rfl (lv_at hl 2 rfl) ?_
            refine r_get (u := (sc, ar)) (v := .int (sc 42)) hx hb hts hin hown hB 42 (by decide) (hts (.fieldLink RX12 127 "PointReportsModel" "readLength" "I") (by decide +kernel)) rfl rfl dX12_areGroups_39 ?_
            refine g_top (y := nI rd.length) h42 ?_
            refine lv_icmp_ne (tgt := 49) hx hb dX12_areGroups_42 (by decide) (fun c_8 => ?_) (fun c_8 => ?_)
            · have c_8 : ¬ a = rd.length := fun h9 => c_8 ((nI_eq (a := a) (b := rd.length) (by omega) (by omega)).mpr h9)
              refine lv_iconst (v := nI 0) hx hb dX12_areGroups_49 (by decide) ?_
              exact g_zret (Wd := rWs G) (v := nI 0) (sc, ar) hB hx hb hr hlocks rfl (narrow_z (Or.inl rfl)) ⟨Or.inr ⟨rfl, fun z => c_8 (by rw [← z.2, ← hs])⟩, rfl⟩ dX12_areGroups_50
            · have c_8 : a = rd.length := (nI_eq (a := a) (b := rd.length) (by omega) (by omega)).mp c_8
              refine lv_iconst (v := nI 1) hx hb dX12_areGroups_45 (by decide) ?_
              refine lv_goto (tgt := 50) hx hb dX12_areGroups_46 (by decide) ?_
              exact g_zret (Wd := rWs G) (v := nI 1) (sc, ar) hB hx hb hr hlocks rfl (narrow_z (Or.inr rfl)) ⟨Or.inl ⟨rfl, by omega, by rw [← hs]; exact c_8⟩, rfl⟩ dX12_areGroups_50
        · have c_6 : ¬ 0 ≤ 0 := fun h9 => c_6 ((nI_leI (a := 0) (b := 0) (by omega) (by omega)).mpr h9)
          exact absurd (by omega) c_6
      · rw [if_neg hg0] at hs
        have hl : lv_has ls 3 [(2, .int (nI (gpN rd a))), (1, .int (nI (a + gpN rd a))), (0, .ref G.2.1)] := lv_sub hl [1, 0, 2] rfl
        have hB : gB G.1 (rT G) A s H locs (rWs G (sc, ar)) := hB
        have b_9 : 0 < (gpN rd a) := by omega
        have b_10 : (gpN rd a) ≤ 2000 := by omega
        have b_11 : agN rd d9 (a + gpN rd a) = agN rd 400 4 := hs
        have b_12 : rd.length < (a + gpN rd a) + 3 * d9 := by omega
        have b_13 : (a + gpN rd a) ≤ 404 := by omega
        exact ih_1 d9 (gpN rd a, a + gpN rd a) H locs ls (by omega) ⟨b_9, b_10, b_11, b_12, b_13, hB, hl⟩
