/-! THE MASTER TAKES GROUPS -/
def tkN (f : Nat → Int32) (i : Nat) (p v t c : Int32) : Nat → Int32 := upd (upd (upd (upd f i p) (i + 1) v) (i + 2) t) (i + 3) c
/-- an event, at place z of what is read -/
def spTE (a : aS) (rd : List Nat) (z cls : Nat) : aS := if nI (hN rd (z + 3) 4) ≤ a.2.1 22 (rd.getD z 0) then (va_up a.1 25 (a.1 25 + 1), a.2) else (va_up a.1 23 (a.1 23 + 1), va_up (va_up (va_up a.2.1 21 (upd (a.2.1 21) (rd.getD z 0) (nI (hN rd (z + 1) 2)))) 22 (upd (a.2.1 22) (rd.getD z 0) (nI (hN rd (z + 3) 4)))) 24 (if a.1 23 < 200 then tkN (a.2.1 24) (4 * a.1 23) (nI (rd.getD z 0)) (nI (hN rd (z + 1) 2)) (nI (hN rd (z + 3) 4)) (nI cls) else a.2.1 24), a.2.2)
/-- what is so, of one point -/
def spTV (a : aS) (rd : List Nat) (z : Nat) : aS := (a.1, va_up a.2.1 21 (upd (a.2.1 21) (rd.getD z 0) (nI (hN rd (z + 1) 2))), a.2.2)
def wd2 (rd : List Nat) (z : Nat) : Nat := if rd.getD z 0 = 30 then 3 else 7
/-- the first k of the group at z -/
def spTG (a : aS) (rd : List Nat) (z : Nat) : Nat → aS
  | 0 => a
  | k + 1 => if wd2 rd z = 3 then spTV (spTG a rd z k) rd (z + 3 + wd2 rd z * k) else spTE (spTG a rd z k) rd (z + 3 + wd2 rd z * k) (rd.getD (z + 1) 0)
def spMG (rd : List Nat) : Nat → Nat → aS → aS
  | 0, _, a => a
  | f + 1, z, a => if z < rd.length then spMG rd f (z + gpN rd z) (spTG a rd z (rd.getD (z + 2) 0)) else a
theorem spMG_end {rd : List Nat} {f z : Nat} {a : aS} (h : ¬ z < rd.length) : spMG rd f z a = a := by
  cases f with
  | zero => rfl
  | succ f => rw [spMG, if_neg h]
theorem gpF_at {rd : List Nat} {a wide : Nat} {isP : Prop} {i : Decidable isP} : ∀ n, gpF rd a wide isP i n = 1 → ∀ k, k < n → rd.getD (a + 3 + wide * k) 0 < 10 := by
  intro n
  induction n with
  | zero => intro _ k hk; omega
  | succ n ih =>
    intro h k hk
    rw [gpF] at h
    by_cases hc : gpF rd a wide isP i n = 1 ∧ rd.getD (a + 3 + wide * n) 0 < 10 ∧ (isP ∨ rd.getD (a + 3 + wide * n + 6) 0 < 128)
    · by_cases hq : k = n
      · subst hq; exact hc.2.1
      · exact ih hc.1 k (by omega)
    · rw [if_neg hc] at h; omega
theorem gpN_at {rd : List Nat} {z : Nat} (h : ¬ gpN rd z = 0) : z + 3 ≤ rd.length ∧ wd2 rd z = wdG rd z ∧ gpN rd z = 3 + wd2 rd z * rd.getD (z + 2) 0 ∧ z + gpN rd z ≤ rd.length ∧ (∀ k, k < rd.getD (z + 2) 0 → rd.getD (z + 3 + wd2 rd z * k) 0 < 10) ∧ (wd2 rd z = 3 ∨ wd2 rd z = 7) := by
  unfold gpN at h ⊢
  by_cases hc : z + 3 ≤ rd.length ∧ (isPG rd z ∨ isEG rd z) ∧ z + (3 + wdG rd z * rd.getD (z + 2) 0) ≤ rd.length ∧ gpF rd z (wdG rd z) (isPG rd z) inferInstance (rd.getD (z + 2) 0) = 1
  · rw [if_pos hc]
    have e : wd2 rd z = wdG rd z := by
      unfold wd2 wdG
      by_cases hp : isPG rd z
      · rw [if_pos hp, if_pos hp.1]
      · rw [if_neg hp]
        rcases hc.2.1 with h1 | h1
        · exact absurd h1 hp
        · rw [if_neg (by have := h1.1; omega)]
    refine ⟨hc.1, e, by rw [e], hc.2.2.1, ?_, by unfold wd2; split; exact Or.inl rfl; exact Or.inr rfl⟩
    rw [e]
    exact gpF_at _ hc.2.2.2
  · rw [if_neg hc] at h
    exact absurd rfl h
abbrev isRs (a : aS) (rd : List Nat) : Prop := rd.getD 1 0 = 129 ∧ (rd.getD 0 0 &&& 16) = 0 ∧ a.1 20 = 0 ∧ (rd.getD 0 0 &&& 15) = (a.1 19 - 1) % 16
abbrev isRp (rd : List Nat) : Prop := rd.getD 1 0 = 130 ∧ ¬ (rd.getD 0 0 &&& 16) = 0
def cfH (rd : List Nat) : List Int32 := [(nI 192 + nI (rd.getD 0 0 &&& 31)) &&& 255, nI 0 &&& 255]
/-- behind the groups: the two bytes, and a confirmation -/
def spMB (a : aS) (rd : List Nat) : aS := if (rd.getD 0 0 &&& 32) = 0 then (va_up (va_up a.1 26 (rd.getD 2 0)) 27 (rd.getD 3 0), a.2) else (va_up (va_up (va_up a.1 26 (rd.getD 2 0)) 27 (rd.getD 3 0)) 100 (sndF 1 (cfH rd) a.2.2.2.2.1 (a.1 100)).2, a.2.1, a.2.2.1, a.2.2.2.1, (sndF 1 (cfH rd) a.2.2.2.2.1 (a.1 100)).1, a.2.2.2.2.2)
/-- the master takes a fragment -/
def spMaster (a : aS) (rd : List Nat) : aS × Nat := if (isRs a rd ∨ isRp rd) ∧ arG rd then (spMB (spMG rd 400 4 (va_up a.1 20 (if a.1 20 ≠ 0 ∨ isRs a rd then 1 else 0), a.2)) rd, 1) else (a, 0)
set_option maxRecDepth 100000 in
set_option maxHeartbeats 4000000 in
/-- takeEvent(z, cls) -/
theorem c_takeEvent (l : Launch) (G : rG) (sc : Nat → Int32) (ar : Nat → Nat → Int32) (b : Nat) (hb9 : b ≤ 3000000) (a : aS) (hr0 : rRep b (sc, ar) a) (rd : List Nat) (hrd : pfxN (ar 41) rd) (h42 : sc 42 = nI rd.length) (hr4 : rd.length ≤ 400) (z cls : Nat) (hz : z + 7 ≤ rd.length) (hp10 : rd.getD z 0 < 10) : gM l G.1 (rT G) yX12_takeEvent wsX12_takeEvent ({ frames := 1, cells := 0, slots := 0, locals := 25 }) [.ref G.2.1, .int (nI z), .int (nI cls)] (rWs G (sc, ar)) (gQv G.1 (rT G) (fun u : rSt => rRep (b + 1) u (spTE a rd z cls) ∧ u.2 41 = ar 41 ∧ u.1 42 = sc 42) (rWs G)) 0 0 := by
  refine gM.of (cc := cX12_takeEvent) (maxL := 5) (ret := none) (by decide) rfl (Nat.le_of_ble_eq_true rfl) ?_
  intro p e s m below meth c A ls hx hb hr hml hown hts hlocks hnm hB hl
  have hin : ∀ w ∈ wsX120, w ∈ wsX12_takeEvent := fun w h => List.mem_cons_of_mem _ (List.mem_append_right _ h)
  have hl : lv_has ls 5 [(0, .ref G.2.1), (1, .int (nI z)), (2, .int (nI cls))] := hl
  obtain ⟨n0, n9, n10, n11, n12, n13, n14, n15, n16, n19, n20, n23, n25, n26, n27, n28, n29, f1, f2, f3, f21, f22, f24, rE, rW, rl1, rl2, rl3, rq0, rq1, rq2, rq3, ro1, ro2, ro3, rg1, rg2, rg3, rg4, rh4, rg5, rh5, rg6, rh6, rg7, rh7, rc1, rc2, rc3, rz1, rz2, rz3, rz4, rk, rV, rY, rA, rb⟩ := id hr0
  have n0 : sc 0 = nI (a.1 0) := n0
  have n9 : sc 9 = nI (a.1 9) := n9
  have n10 : sc 10 = nI (a.1 10) := n10
  have n11 : sc 11 = nI (a.1 11) := n11
  have n12 : sc 12 = nI (a.1 12) := n12
  have n13 : sc 13 = nI (a.1 13) := n13
  have n14 : sc 14 = nI (a.1 14) := n14
  have n15 : sc 15 = nI (a.1 15) := n15
  have n16 : sc 16 = nI (a.1 16) := n16
  have n19 : sc 19 = nI (a.1 19) := n19
  have n20 : sc 20 = nI (a.1 20) := n20
  have n23 : sc 23 = nI (a.1 23) := n23
  have n25 : sc 25 = nI (a.1 25) := n25
  have n26 : sc 26 = nI (a.1 26) := n26
  have n27 : sc 27 = nI (a.1 27) := n27
  have n28 : sc 28 = nI (a.1 28) := n28
  have n29 : sc 29 = nI (a.1 29) := n29
  have f1 : ar 1 = a.2.1 1 := f1
  have f2 : ar 2 = a.2.1 2 := f2
  have f3 : ar 3 = a.2.1 3 := f3
  have f21 : ar 21 = a.2.1 21 := f21
  have f22 : ar 22 = a.2.1 22 := f22
  have f24 : ar 24 = a.2.1 24 := f24
  have rE : evR (ar 4) (ar 5) (ar 6) (ar 7) a.2.2.1 := rE
  have rW : wtR (ar 8) a.2.2.1 a.2.2.2.1 := rW
  have rl1 : sc 30 = nI a.2.2.2.2.1.length := rl1
  have rl3 : lnR (ar 31) (ar 32) (ar 33) a.2.2.2.2.1 := rl3
  have rq0 : ar 34 0 = nI (a.1 100) := rq0
  have rq1 : ar 34 1 = nI (a.1 101) := rq1
  have ro1 : pfx (ar 17) a.2.2.2.2.2.1 := ro1
  have ro2 : sc 18 = nI a.2.2.2.2.2.1.length := ro2
  have rg1 : ∀ x, x < 2 → ar 36 x = nI (a.2.2.2.2.2.2 x).length := rg1
  have rg3 : ∀ x, x < 2 → ∀ j, j < (a.2.2.2.2.2.2 x).length → ar 35 (400 * x + j) = nI ((a.2.2.2.2.2.2 x).getD j 0) ∧ (a.2.2.2.2.2.2 x).getD j 0 < 256 := rg3
  have rg4 : ar 37 0 = nI (a.1 102) := rg4
  have rh4 : ar 37 1 = nI (a.1 103) := rh4
  have rg5 : ar 38 0 = nI (a.1 104) := rg5
  have rh5 : ar 38 1 = nI (a.1 105) := rh5
  have rc1 : pfxN (ar 43) (a.2.2.2.2.2.2 2) := rc1
  have rc2 : sc 44 = nI (a.2.2.2.2.2.2 2).length := rc2
  have b23 := rb 23
  have b25 := rb 25
  have rb2 : ∀ k, a.1 k ≤ b + 1 := fun k => Nat.le_trans (rb k) (by omega)
  refine lv_aload_n hx hb dX12_takeEvent_0 rfl (lv_at hl 0 rfl) ?_
  refine r_get (u := (sc, ar)) (v := .ref (G.2.2.1 41)) hx hb hts hin hown hB 41 (by decide) (hts (.fieldLink RX12 78 "PointReportsModel" "read" "[I") (by decide +kernel)) rfl rfl dX12_takeEvent_1 ?_
  refine lv_iload_n hx hb dX12_takeEvent_4 rfl (lv_at hl 1 rfl) ?_
  refine r_ald (u := (sc, ar)) (f := ar 41) hx hb hB 22 rfl z rfl (by omega) (by decide) dX12_takeEvent_5 ?_
  have q6 := hrd (z) (by omega)
  refine g_top (y := nI (rd.getD (z) 0)) q6.1 ?_
  have q6 := q6.2
  refine lv_istore_n (lv' := [(3, .int (nI (rd.getD (z) 0))), (0, .ref G.2.1), (1, .int (nI z)), (2, .int (nI cls))]) hx hb dX12_takeEvent_6 rfl hl (by decide) rfl (fun ls hl => ?_)
  refine lv_aload_n hx hb dX12_takeEvent_7 rfl (lv_at hl 1 rfl) ?_
  refine lv_iload_n hx hb dX12_takeEvent_8 rfl (lv_at hl 2 rfl) ?_
  refine lv_iconst (v := nI 3) hx hb dX12_takeEvent_9 (by decide) ?_
  refine lv_iadd hx hb dX12_takeEvent_10 ?_
  refine g_top (y := nI (z + 3)) (nI_add _ _) ?_
  refine lv_iconst (v := nI 4) hx hb dX12_takeEvent_11 (by decide) ?_
  refine g_calll (av := [.int (nI (z + 3)), .int (nI 4)]) (rest := []) ⟨hx, hb, hml, hown, hts⟩ (c_numberAt l G sc ar rd hrd h42 hr4 (z + 3) 4 (by decide) (by decide) (by omega)) (cwV 2 hts gX12_takeEvent_X12_numberAt rfl rfl rfl (by decide +kernel) ⟨Nat.le_of_ble_eq_true rfl, Nat.le_of_ble_eq_true rfl⟩) hB (q0 := 0) (ci := 9) rfl rfl rfl rfl hl.1 rfl (Nat.le_of_ble_eq_true rfl) dX12_takeEvent_12 ⟨Nat.le_of_ble_eq_true rfl, Nat.le_of_ble_eq_true rfl⟩ (fun r9 u H locs hw hB => ?_)
  obtain ⟨rfl, rfl⟩ := hw
  have hB : gB G.1 (rT G) A s H locs (rWs G (sc, ar)) := hB
  refine lv_l2i (v := (lN (hN rd (z + 3) 4)).toInt32) hx hb dX12_takeEvent_15 rfl ?_
  refine g_top (y := nI (hN rd (z + 3) 4)) (lN_i _) ?_
  refine lv_istore (lv' := [(4, .int (nI (hN rd (z + 3) 4))), (3, .int (nI (rd.getD (z) 0))), (0, .ref G.2.1), (1, .int (nI z)), (2, .int (nI cls))]) hx hb dX12_takeEvent_16 hl (by decide) rfl (fun ls hl => ?_)
  refine lv_iload hx hb dX12_takeEvent_18 (lv_at hl 0 rfl) ?_
  refine lv_aload_n hx hb dX12_takeEvent_20 rfl (lv_at hl 2 rfl) ?_
  refine r_get (u := (sc, ar)) (v := .ref (G.2.2.1 22)) hx hb hts hin hown hB 22 (by decide) (hts (.fieldLink RX12 45 "PointReportsModel" "viewTimes" "[I") (by decide +kernel)) rfl rfl dX12_takeEvent_21 ?_
  refine lv_iload_n hx hb dX12_takeEvent_24 rfl (lv_at hl 1 rfl) ?_
  refine r_ald (u := (sc, ar)) (f := ar 22) hx hb hB 11 rfl (rd.getD (z) 0) rfl (by omega) (by decide) dX12_takeEvent_25 ?_
  refine lv_icmp_gt (tgt := 40) hx hb dX12_takeEvent_26 (by decide) (fun c_1 => ?_) (fun c_1 => ?_)
  · have c_1 := c_1
    have hs0 : spTE a rd z cls = (va_up a.1 23 (a.1 23 + 1), va_up (va_up (va_up a.2.1 21 (upd (a.2.1 21) (rd.getD z 0) (nI (hN rd (z + 1) 2)))) 22 (upd (a.2.1 22) (rd.getD z 0) (nI (hN rd (z + 3) 4)))) 24 (if a.1 23 < 200 then tkN (a.2.1 24) (4 * a.1 23) (nI (rd.getD z 0)) (nI (hN rd (z + 1) 2)) (nI (hN rd (z + 3) 4)) (nI cls) else a.2.1 24), a.2.2) := by rw [spTE, if_neg (by rw [← f22]; exact Int32.not_le.mpr c_1)]
    refine lv_aload_n hx hb dX12_takeEvent_40 rfl (lv_at hl 2 rfl) ?_
    refine r_get (u := (sc, ar)) (v := .ref (G.2.2.1 22)) hx hb hts hin hown hB 22 (by decide) (hts (.fieldLink RX12 45 "PointReportsModel" "viewTimes" "[I") (by decide +kernel)) rfl rfl dX12_takeEvent_41 ?_
    refine lv_iload_n hx hb dX12_takeEvent_44 rfl (lv_at hl 1 rfl) ?_
    refine lv_iload hx hb dX12_takeEvent_45 (lv_at hl 0 rfl) ?_
    refine r_ast (u := (sc, ar)) (f := ar 22) (x := nI (hN rd (z + 3) 4)) (va_up ar 22 (upd (ar 22) (rd.getD (z) 0) (nI (hN rd (z + 3) 4)))) hx hb hB 11 rfl (rd.getD (z) 0) rfl (by omega) (by decide) rfl dX12_takeEvent_47 (fun H locs hB => ?_)
    refine lv_aload_n hx hb dX12_takeEvent_48 rfl (lv_at hl 2 rfl) ?_
    refine r_get (u := (sc, va_up ar 22 (upd (ar 22) (rd.getD (z) 0) (nI (hN rd (z + 3) 4))))) (v := .ref (G.2.2.1 21)) hx hb hts hin hown hB 21 (by decide) (hts (.fieldLink RX12 42 "PointReportsModel" "view" "[I") (by decide +kernel)) rfl rfl dX12_takeEvent_49 ?_
    refine lv_iload_n hx hb dX12_takeEvent_52 rfl (lv_at hl 1 rfl) ?_
    refine lv_aload_n hx hb dX12_takeEvent_53 rfl (lv_at hl 2 rfl) ?_
    refine lv_iload_n hx hb dX12_takeEvent_54 rfl (lv_at hl 3 rfl) ?_
    refine lv_iconst (v := nI 1) hx hb dX12_takeEvent_55 (by decide) ?_
    refine lv_iadd hx hb dX12_takeEvent_56 ?_
    refine g_top (y := nI (z + 1)) (nI_add _ _) ?_
    refine lv_iconst (v := nI 2) hx hb dX12_takeEvent_57 (by decide) ?_
    refine g_calll (av := [.int (nI (z + 1)), .int (nI 2)]) (rest := [.int (nI (rd.getD (z) 0)), .ref (G.2.2.1 21)]) ⟨hx, hb, hml, hown, hts⟩ (c_numberAt l G sc (va_up ar 22 (upd (ar 22) (rd.getD (z) 0) (nI (hN rd (z + 3) 4)))) rd hrd h42 hr4 (z + 1) 2 (by decide) (by decide) (by omega)) (cwV 2 hts gX12_takeEvent_X12_numberAt rfl rfl rfl (by decide +kernel) ⟨Nat.le_of_ble_eq_true rfl, Nat.le_of_ble_eq_true rfl⟩) hB (q0 := 0) (ci := 9) rfl rfl rfl rfl hl.1 rfl (Nat.le_of_ble_eq_true rfl) dX12_takeEvent_58 ⟨Nat.le_of_ble_eq_true rfl, Nat.le_of_ble_eq_true rfl⟩ (fun r9 u H locs hw hB => ?_)
    obtain ⟨rfl, rfl⟩ := hw
    have hB : gB G.1 (rT G) A s H locs (rWs G (sc, va_up ar 22 (upd (ar 22) (rd.getD (z) 0) (nI (hN rd (z + 3) 4))))) := hB
    refine lv_l2i (v := (lN (hN rd (z + 1) 2)).toInt32) hx hb dX12_takeEvent_61 rfl ?_
    refine g_top (y := nI (hN rd (z + 1) 2)) (lN_i _) ?_
    refine r_ast (u := (sc, va_up ar 22 (upd (ar 22) (rd.getD (z) 0) (nI (hN rd (z + 3) 4))))) (f := ar 21) (x := nI (hN rd (z + 1) 2)) (va_up (va_up ar 21 (upd (ar 21) (rd.getD (z) 0) (nI (hN rd (z + 1) 2)))) 22 (upd (ar 22) (rd.getD (z) 0) (nI (hN rd (z + 3) 4)))) hx hb hB 10 rfl (rd.getD (z) 0) rfl (by omega) (by decide) rfl dX12_takeEvent_62 (fun H locs hB => ?_)
    refine lv_aload_n hx hb dX12_takeEvent_63 rfl (lv_at hl 2 rfl) ?_
    refine r_get (u := (sc, va_up (va_up ar 21 (upd (ar 21) (rd.getD (z) 0) (nI (hN rd (z + 1) 2)))) 22 (upd (ar 22) (rd.getD (z) 0) (nI (hN rd (z + 3) 4))))) (v := .int (sc 23)) hx hb hts hin hown hB 23 (by decide) (hts (.fieldLink RX12 242 "PointReportsModel" "taken" "I") (by decide +kernel)) rfl rfl dX12_takeEvent_64 ?_
    refine g_top (y := nI (a.1 23)) n23 ?_
    refine lv_sipush (v := nI 200) hx hb dX12_takeEvent_67 (by decide) ?_
    refine lv_icmp_ge (tgt := 133) hx hb dX12_takeEvent_70 (by decide) (fun c_2 => ?_) (fun c_2 => ?_)
    · have c_2 : 200 ≤ (a.1 23) := (nI_leI (a := 200) (b := (a.1 23)) (by omega) (by omega)).mp c_2
      refine lv_aload_n hx hb dX12_takeEvent_133 rfl (lv_at hl 2 rfl) ?_
      refine lv_dup hx hb dX12_takeEvent_134 rfl ?_
      refine r_get (u := (sc, va_up (va_up ar 21 (upd (ar 21) (rd.getD (z) 0) (nI (hN rd (z + 1) 2)))) 22 (upd (ar 22) (rd.getD (z) 0) (nI (hN rd (z + 3) 4))))) (v := .int (sc 23)) hx hb hts hin hown hB 23 (by decide) (hts (.fieldLink RX12 242 "PointReportsModel" "taken" "I") (by decide +kernel)) rfl rfl dX12_takeEvent_135 ?_
      refine g_top (y := nI (a.1 23)) n23 ?_
      refine lv_iconst (v := nI 1) hx hb dX12_takeEvent_138 (by decide) ?_
      refine lv_iadd hx hb dX12_takeEvent_139 ?_
      refine g_top (y := nI ((a.1 23) + 1)) (nI_add _ _) ?_
      refine r_put (u := (sc, va_up (va_up ar 21 (upd (ar 21) (rd.getD (z) 0) (nI (hN rd (z + 1) 2)))) 22 (upd (ar 22) (rd.getD (z) 0) (nI (hN rd (z + 3) 4))))) (v := nI ((a.1 23) + 1)) (upd sc 23 (nI ((a.1 23) + 1))) hx hb hts hin hown hB 23 (by decide) (hts (.fieldLink RX12 242 "PointReportsModel" "taken" "I") (by decide +kernel)) rfl (ty := .int) rfl rfl rfl rfl rfl dX12_takeEvent_140 (fun H locs hB => ?_)
      exact g_vret (Wd := rWs G) (upd sc 23 (nI ((a.1 23) + 1)), va_up (va_up ar 21 (upd (ar 21) (rd.getD (z) 0) (nI (hN rd (z + 1) 2)))) 22 (upd (ar 22) (rd.getD (z) 0) (nI (hN rd (z + 3) 4)))) hB hx hb hr hlocks rfl ⟨by rw [hs0]; exact ⟨n0, n9, n10, n11, n12, n13, n14, n15, n16, n19, n20, rfl, n25, n26, n27, n28, n29, f1, f2, f3, (by show upd (ar 21) (rd.getD z 0) (nI (hN rd (z + 1) 2)) = upd (a.2.1 21) (rd.getD z 0) (nI (hN rd (z + 1) 2)); rw [f21]), (by show upd (ar 22) (rd.getD z 0) (nI (hN rd (z + 3) 4)) = upd (a.2.1 22) (rd.getD z 0) (nI (hN rd (z + 3) 4)); rw [f22]), (by show ar 24 = if a.1 23 < 200 then _ else _; rw [if_neg (by omega), f24]), rE, rW, rl1, rl2, rl3, rq0, rq1, rq2, rq3, ro1, ro2, ro3, rg1, rg2, rg3, rg4, rh4, rg5, rh5, rg6, rh6, rg7, rh7, rc1, rc2, rc3, rz1, rz2, rz3, rz4, rk, rV, rY, rA, (va_up_le rb2 (Nat.le_refl _) (show a.1 23 + 1 ≤ b + 1 by omega))⟩, rfl, rfl⟩ dX12_takeEvent_143
    · have c_2 : ¬ 200 ≤ (a.1 23) := fun h9 => c_2 ((nI_leI (a := 200) (b := (a.1 23)) (by omega) (by omega)).mpr h9)
      refine lv_aload_n hx hb dX12_takeEvent_73 rfl (lv_at hl 2 rfl) ?_
      refine r_get (u := (sc, va_up (va_up ar 21 (upd (ar 21) (rd.getD (z) 0) (nI (hN rd (z + 1) 2)))) 22 (upd (ar 22) (rd.getD (z) 0) (nI (hN rd (z + 3) 4))))) (v := .ref (G.2.2.1 24)) hx hb hts hin hown hB 24 (by decide) (hts (.fieldLink RX12 48 "PointReportsModel" "takenCells" "[I") (by decide +kernel)) rfl rfl dX12_takeEvent_74 ?_
      refine lv_iconst (v := nI 4) hx hb dX12_takeEvent_77 (by decide) ?_
      refine lv_aload_n hx hb dX12_takeEvent_78 rfl (lv_at hl 2 rfl) ?_
      refine r_get (u := (sc, va_up (va_up ar 21 (upd (ar 21) (rd.getD (z) 0) (nI (hN rd (z + 1) 2)))) 22 (upd (ar 22) (rd.getD (z) 0) (nI (hN rd (z + 3) 4))))) (v := .int (sc 23)) hx hb hts hin hown hB 23 (by decide) (hts (.fieldLink RX12 242 "PointReportsModel" "taken" "I") (by decide +kernel)) rfl rfl dX12_takeEvent_79 ?_
      refine g_top (y := nI (a.1 23)) n23 ?_
      refine lv_imul hx hb dX12_takeEvent_82 ?_
      refine g_top (y := nI (4 * (a.1 23))) (pk_mul _ _) ?_
      refine lv_iload_n hx hb dX12_takeEvent_83 rfl (lv_at hl 1 rfl) ?_
      refine r_ast (u := (sc, va_up (va_up ar 21 (upd (ar 21) (rd.getD (z) 0) (nI (hN rd (z + 1) 2)))) 22 (upd (ar 22) (rd.getD (z) 0) (nI (hN rd (z + 3) 4))))) (f := ar 24) (x := nI (rd.getD (z) 0)) (va_up (va_up (va_up ar 21 (upd (ar 21) (rd.getD (z) 0) (nI (hN rd (z + 1) 2)))) 22 (upd (ar 22) (rd.getD (z) 0) (nI (hN rd (z + 3) 4)))) 24 (upd (ar 24) (4 * (a.1 23)) (nI (rd.getD (z) 0)))) hx hb hB 12 rfl (4 * (a.1 23)) rfl (by omega) (by decide) rfl dX12_takeEvent_84 (fun H locs hB => ?_)
      refine lv_aload_n hx hb dX12_takeEvent_85 rfl (lv_at hl 2 rfl) ?_
      refine r_get (u := (sc, va_up (va_up (va_up ar 21 (upd (ar 21) (rd.getD (z) 0) (nI (hN rd (z + 1) 2)))) 22 (upd (ar 22) (rd.getD (z) 0) (nI (hN rd (z + 3) 4)))) 24 (upd (ar 24) (4 * (a.1 23)) (nI (rd.getD (z) 0))))) (v := .ref (G.2.2.1 24)) hx hb hts hin hown hB 24 (by decide) (hts (.fieldLink RX12 48 "PointReportsModel" "takenCells" "[I") (by decide +kernel)) rfl rfl dX12_takeEvent_86 ?_
      refine lv_iconst (v := nI 4) hx hb dX12_takeEvent_89 (by decide) ?_
      refine lv_aload_n hx hb dX12_takeEvent_90 rfl (lv_at hl 2 rfl) ?_
      refine r_get (u := (sc, va_up (va_up (va_up ar 21 (upd (ar 21) (rd.getD (z) 0) (nI (hN rd (z + 1) 2)))) 22 (upd (ar 22) (rd.getD (z) 0) (nI (hN rd (z + 3) 4)))) 24 (upd (ar 24) (4 * (a.1 23)) (nI (rd.getD (z) 0))))) (v := .int (sc 23)) hx hb hts hin hown hB 23 (by decide) (hts (.fieldLink RX12 242 "PointReportsModel" "taken" "I") (by decide +kernel)) rfl rfl dX12_takeEvent_91 ?_
      refine g_top (y := nI (a.1 23)) n23 ?_
      refine lv_imul hx hb dX12_takeEvent_94 ?_
      refine g_top (y := nI (4 * (a.1 23))) (pk_mul _ _) ?_
      refine lv_iconst (v := nI 1) hx hb dX12_takeEvent_95 (by decide) ?_
      refine lv_iadd hx hb dX12_takeEvent_96 ?_
      refine g_top (y := nI ((4 * (a.1 23)) + 1)) (nI_add _ _) ?_
      refine lv_aload_n hx hb dX12_takeEvent_97 rfl (lv_at hl 2 rfl) ?_
      refine r_get (u := (sc, va_up (va_up (va_up ar 21 (upd (ar 21) (rd.getD (z) 0) (nI (hN rd (z + 1) 2)))) 22 (upd (ar 22) (rd.getD (z) 0) (nI (hN rd (z + 3) 4)))) 24 (upd (ar 24) (4 * (a.1 23)) (nI (rd.getD (z) 0))))) (v := .ref (G.2.2.1 21)) hx hb hts hin hown hB 21 (by decide) (hts (.fieldLink RX12 42 "PointReportsModel" "view" "[I") (by decide +kernel)) rfl rfl dX12_takeEvent_98 ?_
      refine lv_iload_n hx hb dX12_takeEvent_101 rfl (lv_at hl 1 rfl) ?_
      refine r_ald (u := (sc, va_up (va_up (va_up ar 21 (upd (ar 21) (rd.getD (z) 0) (nI (hN rd (z + 1) 2)))) 22 (upd (ar 22) (rd.getD (z) 0) (nI (hN rd (z + 3) 4)))) 24 (upd (ar 24) (4 * (a.1 23)) (nI (rd.getD (z) 0))))) (f := upd (ar 21) (rd.getD (z) 0) (nI (hN rd (z + 1) 2))) hx hb hB 10 rfl (rd.getD (z) 0) rfl (by omega) (by decide) dX12_takeEvent_102 ?_
      refine g_top (y := nI (hN rd (z + 1) 2)) upd_self ?_
      refine r_ast (u := (sc, va_up (va_up (va_up ar 21 (upd (ar 21) (rd.getD (z) 0) (nI (hN rd (z + 1) 2)))) 22 (upd (ar 22) (rd.getD (z) 0) (nI (hN rd (z + 3) 4)))) 24 (upd (ar 24) (4 * (a.1 23)) (nI (rd.getD (z) 0))))) (f := upd (ar 24) (4 * (a.1 23)) (nI (rd.getD (z) 0))) (x := nI (hN rd (z + 1) 2)) (va_up (va_up (va_up ar 21 (upd (ar 21) (rd.getD (z) 0) (nI (hN rd (z + 1) 2)))) 22 (upd (ar 22) (rd.getD (z) 0) (nI (hN rd (z + 3) 4)))) 24 (upd (upd (ar 24) (4 * (a.1 23)) (nI (rd.getD (z) 0))) ((4 * (a.1 23)) + 1) (nI (hN rd (z + 1) 2)))) hx hb hB 12 rfl ((4 * (a.1 23)) + 1) rfl (by omega) (by decide) rfl dX12_takeEvent_103 (fun H locs hB => ?_)
      refine lv_aload_n hx hb dX12_takeEvent_104 rfl (lv_at hl 2 rfl) ?_
      refine r_get (u := (sc, va_up (va_up (va_up ar 21 (upd (ar 21) (rd.getD (z) 0) (nI (hN rd (z + 1) 2)))) 22 (upd (ar 22) (rd.getD (z) 0) (nI (hN rd (z + 3) 4)))) 24 (upd (upd (ar 24) (4 * (a.1 23)) (nI (rd.getD (z) 0))) ((4 * (a.1 23)) + 1) (nI (hN rd (z + 1) 2))))) (v := .ref (G.2.2.1 24)) hx hb hts hin hown hB 24 (by decide) (hts (.fieldLink RX12 48 "PointReportsModel" "takenCells" "[I") (by decide +kernel)) rfl rfl dX12_takeEvent_105 ?_
      refine lv_iconst (v := nI 4) hx hb dX12_takeEvent_108 (by decide) ?_
      refine lv_aload_n hx hb dX12_takeEvent_109 rfl (lv_at hl 2 rfl) ?_
      refine r_get (u := (sc, va_up (va_up (va_up ar 21 (upd (ar 21) (rd.getD (z) 0) (nI (hN rd (z + 1) 2)))) 22 (upd (ar 22) (rd.getD (z) 0) (nI (hN rd (z + 3) 4)))) 24 (upd (upd (ar 24) (4 * (a.1 23)) (nI (rd.getD (z) 0))) ((4 * (a.1 23)) + 1) (nI (hN rd (z + 1) 2))))) (v := .int (sc 23)) hx hb hts hin hown hB 23 (by decide) (hts (.fieldLink RX12 242 "PointReportsModel" "taken" "I") (by decide +kernel)) rfl rfl dX12_takeEvent_110 ?_
      refine g_top (y := nI (a.1 23)) n23 ?_
      refine lv_imul hx hb dX12_takeEvent_113 ?_
      refine g_top (y := nI (4 * (a.1 23))) (pk_mul _ _) ?_
      refine lv_iconst (v := nI 2) hx hb dX12_takeEvent_114 (by decide) ?_
      refine lv_iadd hx hb dX12_takeEvent_115 ?_
      refine g_top (y := nI ((4 * (a.1 23)) + 2)) (nI_add _ _) ?_
      refine lv_iload hx hb dX12_takeEvent_116 (lv_at hl 0 rfl) ?_
      refine r_ast (u := (sc, va_up (va_up (va_up ar 21 (upd (ar 21) (rd.getD (z) 0) (nI (hN rd (z + 1) 2)))) 22 (upd (ar 22) (rd.getD (z) 0) (nI (hN rd (z + 3) 4)))) 24 (upd (upd (ar 24) (4 * (a.1 23)) (nI (rd.getD (z) 0))) ((4 * (a.1 23)) + 1) (nI (hN rd (z + 1) 2))))) (f := upd (upd (ar 24) (4 * (a.1 23)) (nI (rd.getD (z) 0))) ((4 * (a.1 23)) + 1) (nI (hN rd (z + 1) 2))) (x := nI (hN rd (z + 3) 4)) (va_up (va_up (va_up ar 21 (upd (ar 21) (rd.getD (z) 0) (nI (hN rd (z + 1) 2)))) 22 (upd (ar 22) (rd.getD (z) 0) (nI (hN rd (z + 3) 4)))) 24 (upd (upd (upd (ar 24) (4 * (a.1 23)) (nI (rd.getD (z) 0))) ((4 * (a.1 23)) + 1) (nI (hN rd (z + 1) 2))) ((4 * (a.1 23)) + 2) (nI (hN rd (z + 3) 4)))) hx hb hB 12 rfl ((4 * (a.1 23)) + 2) rfl (by omega) (by decide) rfl dX12_takeEvent_118 (fun H locs hB => ?_)
      refine lv_aload_n hx hb dX12_takeEvent_119 rfl (lv_at hl 2 rfl) ?_
      refine r_get (u := (sc, va_up (va_up (va_up ar 21 (upd (ar 21) (rd.getD (z) 0) (nI (hN rd (z + 1) 2)))) 22 (upd (ar 22) (rd.getD (z) 0) (nI (hN rd (z + 3) 4)))) 24 (upd (upd (upd (ar 24) (4 * (a.1 23)) (nI (rd.getD (z) 0))) ((4 * (a.1 23)) + 1) (nI (hN rd (z + 1) 2))) ((4 * (a.1 23)) + 2) (nI (hN rd (z + 3) 4))))) (v := .ref (G.2.2.1 24)) hx hb hts hin hown hB 24 (by decide) (hts (.fieldLink RX12 48 "PointReportsModel" "takenCells" "[I") (by decide +kernel)) rfl rfl dX12_takeEvent_120 ?_
      refine lv_iconst (v := nI 4) hx hb dX12_takeEvent_123 (by decide) ?_
      refine lv_aload_n hx hb dX12_takeEvent_124 rfl (lv_at hl 2 rfl) ?_
      refine r_get (u := (sc, va_up (va_up (va_up ar 21 (upd (ar 21) (rd.getD (z) 0) (nI (hN rd (z + 1) 2)))) 22 (upd (ar 22) (rd.getD (z) 0) (nI (hN rd (z + 3) 4)))) 24 (upd (upd (upd (ar 24) (4 * (a.1 23)) (nI (rd.getD (z) 0))) ((4 * (a.1 23)) + 1) (nI (hN rd (z + 1) 2))) ((4 * (a.1 23)) + 2) (nI (hN rd (z + 3) 4))))) (v := .int (sc 23)) hx hb hts hin hown hB 23 (by decide) (hts (.fieldLink RX12 242 "PointReportsModel" "taken" "I") (by decide +kernel)) rfl rfl dX12_takeEvent_125 ?_
      refine g_top (y := nI (a.1 23)) n23 ?_
      refine lv_imul hx hb dX12_takeEvent_128 ?_
      refine g_top (y := nI (4 * (a.1 23))) (pk_mul _ _) ?_
      refine lv_iconst (v := nI 3) hx hb dX12_takeEvent_129 (by decide) ?_
      refine lv_iadd hx hb dX12_takeEvent_130 ?_
      refine g_top (y := nI ((4 * (a.1 23)) + 3)) (nI_add _ _) ?_
      refine lv_iload_n hx hb dX12_takeEvent_131 rfl (lv_at hl 4 rfl) ?_
      refine r_ast (u := (sc, va_up (va_up (va_up ar 21 (upd (ar 21) (rd.getD (z) 0) (nI (hN rd (z + 1) 2)))) 22 (upd (ar 22) (rd.getD (z) 0) (nI (hN rd (z + 3) 4)))) 24 (upd (upd (upd (ar 24) (4 * (a.1 23)) (nI (rd.getD (z) 0))) ((4 * (a.1 23)) + 1) (nI (hN rd (z + 1) 2))) ((4 * (a.1 23)) + 2) (nI (hN rd (z + 3) 4))))) (f := upd (upd (upd (ar 24) (4 * (a.1 23)) (nI (rd.getD (z) 0))) ((4 * (a.1 23)) + 1) (nI (hN rd (z + 1) 2))) ((4 * (a.1 23)) + 2) (nI (hN rd (z + 3) 4))) (x := nI cls) (va_up (va_up (va_up ar 21 (upd (ar 21) (rd.getD (z) 0) (nI (hN rd (z + 1) 2)))) 22 (upd (ar 22) (rd.getD (z) 0) (nI (hN rd (z + 3) 4)))) 24 (upd (upd (upd (upd (ar 24) (4 * (a.1 23)) (nI (rd.getD (z) 0))) ((4 * (a.1 23)) + 1) (nI (hN rd (z + 1) 2))) ((4 * (a.1 23)) + 2) (nI (hN rd (z + 3) 4))) ((4 * (a.1 23)) + 3) (nI cls))) hx hb hB 12 rfl ((4 * (a.1 23)) + 3) rfl (by omega) (by decide) rfl dX12_takeEvent_132 (fun H locs hB => ?_)
      refine lv_aload_n hx hb dX12_takeEvent_133 rfl (lv_at hl 2 rfl) ?_
      refine lv_dup hx hb dX12_takeEvent_134 rfl ?_
      refine r_get (u := (sc, va_up (va_up (va_up ar 21 (upd (ar 21) (rd.getD (z) 0) (nI (hN rd (z + 1) 2)))) 22 (upd (ar 22) (rd.getD (z) 0) (nI (hN rd (z + 3) 4)))) 24 (upd (upd (upd (upd (ar 24) (4 * (a.1 23)) (nI (rd.getD (z) 0))) ((4 * (a.1 23)) + 1) (nI (hN rd (z + 1) 2))) ((4 * (a.1 23)) + 2) (nI (hN rd (z + 3) 4))) ((4 * (a.1 23)) + 3) (nI cls)))) (v := .int (sc 23)) hx hb hts hin hown hB 23 (by decide) (hts (.fieldLink RX12 242 "PointReportsModel" "taken" "I") (by decide +kernel)) rfl rfl dX12_takeEvent_135 ?_
      refine g_top (y := nI (a.1 23)) n23 ?_
      refine lv_iconst (v := nI 1) hx hb dX12_takeEvent_138 (by decide) ?_
      refine lv_iadd hx hb dX12_takeEvent_139 ?_
      refine g_top (y := nI ((a.1 23) + 1)) (nI_add _ _) ?_
      refine r_put (u := (sc, va_up (va_up (va_up ar 21 (upd (ar 21) (rd.getD (z) 0) (nI (hN rd (z + 1) 2)))) 22 (upd (ar 22) (rd.getD (z) 0) (nI (hN rd (z + 3) 4)))) 24 (upd (upd (upd (upd (ar 24) (4 * (a.1 23)) (nI (rd.getD (z) 0))) ((4 * (a.1 23)) + 1) (nI (hN rd (z + 1) 2))) ((4 * (a.1 23)) + 2) (nI (hN rd (z + 3) 4))) ((4 * (a.1 23)) + 3) (nI cls)))) (v := nI ((a.1 23) + 1)) (upd sc 23 (nI ((a.1 23) + 1))) hx hb hts hin hown hB 23 (by decide) (hts (.fieldLink RX12 242 "PointReportsModel" "taken" "I") (by decide +kernel)) rfl (ty := .int) rfl rfl rfl rfl rfl dX12_takeEvent_140 (fun H locs hB => ?_)
      exact g_vret (Wd := rWs G) (upd sc 23 (nI ((a.1 23) + 1)), va_up (va_up (va_up ar 21 (upd (ar 21) (rd.getD (z) 0) (nI (hN rd (z + 1) 2)))) 22 (upd (ar 22) (rd.getD (z) 0) (nI (hN rd (z + 3) 4)))) 24 (upd (upd (upd (upd (ar 24) (4 * (a.1 23)) (nI (rd.getD (z) 0))) ((4 * (a.1 23)) + 1) (nI (hN rd (z + 1) 2))) ((4 * (a.1 23)) + 2) (nI (hN rd (z + 3) 4))) ((4 * (a.1 23)) + 3) (nI cls))) hB hx hb hr hlocks rfl ⟨by rw [hs0]; exact ⟨n0, n9, n10, n11, n12, n13, n14, n15, n16, n19, n20, rfl, n25, n26, n27, n28, n29, f1, f2, f3, (by show upd (ar 21) (rd.getD z 0) (nI (hN rd (z + 1) 2)) = upd (a.2.1 21) (rd.getD z 0) (nI (hN rd (z + 1) 2)); rw [f21]), (by show upd (ar 22) (rd.getD z 0) (nI (hN rd (z + 3) 4)) = upd (a.2.1 22) (rd.getD z 0) (nI (hN rd (z + 3) 4)); rw [f22]), (by show upd (upd (upd (upd (ar 24) (4 * a.1 23) _) (4 * a.1 23 + 1) _) (4 * a.1 23 + 2) _) (4 * a.1 23 + 3) _ = if a.1 23 < 200 then _ else _; rw [if_pos (by omega), f24]; rfl), rE, rW, rl1, rl2, rl3, rq0, rq1, rq2, rq3, ro1, ro2, ro3, rg1, rg2, rg3, rg4, rh4, rg5, rh5, rg6, rh6, rg7, rh7, rc1, rc2, rc3, rz1, rz2, rz3, rz4, rk, rV, rY, rA, (va_up_le rb2 (Nat.le_refl _) (show a.1 23 + 1 ≤ b + 1 by omega))⟩, rfl, rfl⟩ dX12_takeEvent_143
  · have c_1 := c_1
    have hs0 : spTE a rd z cls = (va_up a.1 25 (a.1 25 + 1), a.2) := by rw [spTE, if_pos (by rw [← f22]; exact Int32.not_lt.mp c_1)]
    refine lv_aload_n hx hb dX12_takeEvent_29 rfl (lv_at hl 2 rfl) ?_
    refine lv_dup hx hb dX12_takeEvent_30 rfl ?_
    refine r_get (u := (sc, ar)) (v := .int (sc 25)) hx hb hts hin hown hB 25 (by decide) (hts (.fieldLink RX12 239 "PointReportsModel" "again" "I") (by decide +kernel)) rfl rfl dX12_takeEvent_31 ?_
    refine g_top (y := nI (a.1 25)) n25 ?_
    refine lv_iconst (v := nI 1) hx hb dX12_takeEvent_34 (by decide) ?_
    refine lv_iadd hx hb dX12_takeEvent_35 ?_
    refine g_top (y := nI ((a.1 25) + 1)) (nI_add _ _) ?_
    refine r_put (u := (sc, ar)) (v := nI ((a.1 25) + 1)) (upd sc 25 (nI ((a.1 25) + 1))) hx hb hts hin hown hB 25 (by decide) (hts (.fieldLink RX12 239 "PointReportsModel" "again" "I") (by decide +kernel)) rfl (ty := .int) rfl rfl rfl rfl rfl dX12_takeEvent_36 (fun H locs hB => ?_)
    exact g_vret (Wd := rWs G) (upd sc 25 (nI ((a.1 25) + 1)), ar) hB hx hb hr hlocks rfl ⟨by rw [hs0]; exact ⟨n0, n9, n10, n11, n12, n13, n14, n15, n16, n19, n20, n23, rfl, n26, n27, n28, n29, f1, f2, f3, f21, f22, f24, rE, rW, rl1, rl2, rl3, rq0, rq1, rq2, rq3, ro1, ro2, ro3, rg1, rg2, rg3, rg4, rh4, rg5, rh5, rg6, rh6, rg7, rh7, rc1, rc2, rc3, rz1, rz2, rz3, rz4, rk, rV, rY, rA, (va_up_le rb2 (Nat.le_refl _) (show a.1 25 + 1 ≤ b + 1 by omega))⟩, rfl, rfl⟩ dX12_takeEvent_39
set_option maxRecDepth 100000 in
set_option maxHeartbeats 4000000 in
/-- takeGroup(z) -/
theorem c_takeGroup (l : Launch) (G : rG) (sc : Nat → Int32) (ar : Nat → Nat → Int32) (b : Nat) (hb9 : b ≤ 2000000) (a : aS) (hr0 : rRep b (sc, ar) a) (rd : List Nat) (hrd : pfxN (ar 41) rd) (h42 : sc 42 = nI rd.length) (hr4 : rd.length ≤ 400) (z : Nat) (hg : ¬ gpN rd z = 0) : gM l G.1 (rT G) yX12_takeGroup wsX12_takeGroup ({ frames := 2, cells := 0, slots := 0, locals := 49 }) [.ref G.2.1, .int (nI z)] (rWs G (sc, ar)) (gQv G.1 (rT G) (fun u : rSt => rRep (b + rd.getD (z + 2) 0) u (spTG a rd z (rd.getD (z + 2) 0)) ∧ u.2 41 = ar 41 ∧ u.1 42 = sc 42) (rWs G)) 0 0 := by
  refine gM.of (cc := cX12_takeGroup) (maxL := 5) (ret := none) (by decide) rfl (Nat.le_of_ble_eq_true rfl) ?_
  intro p e s m below meth c A ls hx hb hr hml hown hts hlocks hnm hB hl
  have hin : ∀ w ∈ wsX120, w ∈ wsX12_takeGroup := fun w h => List.mem_cons_of_mem _ (List.mem_append_right _ h)
  have hl : lv_has ls 5 [(0, .ref G.2.1), (1, .int (nI z))] := hl
  obtain ⟨g1, g2, g3, g4, g5, g6⟩ := gpN_at hg
  refine lv_aload_n hx hb dX12_takeGroup_0 rfl (lv_at hl 0 rfl) ?_
  refine r_get (u := (sc, ar)) (v := .ref (G.2.2.1 41)) hx hb hts hin hown hB 41 (by decide) (hts (.fieldLink RX12 78 "PointReportsModel" "read" "[I") (by decide +kernel)) rfl rfl dX12_takeGroup_1 ?_
  refine lv_iload_n hx hb dX12_takeGroup_4 rfl (lv_at hl 1 rfl) ?_
  refine r_ald (u := (sc, ar)) (f := ar 41) hx hb hB 22 rfl z rfl (by omega) (by decide) dX12_takeGroup_5 ?_
  have q6 := hrd (z) (by omega)
  refine g_top (y := nI (rd.getD (z) 0)) q6.1 ?_
  have q6 := q6.2
  refine lv_bipush (v := nI 30) hx hb dX12_takeGroup_6 (by decide) ?_
  refine g_cut (σ := Unit) 17 (fun _ H locs ls => gB G.1 (rT G) A s H locs (rWs G (sc, ar)) ∧ lv_has ls 5 [(0, .ref G.2.1), (1, .int (nI z))]) (fun _ => [.int (nI (wd2 rd z))]) ?_ (fun cut => ?_)
  rotate_left
  · refine lv_icmp_ne (tgt := 15) hx hb dX12_takeGroup_8 (by decide) (fun c_1 => ?_) (fun c_1 => ?_)
    · have c_1 : ¬ (rd.getD (z) 0) = 30 := fun h9 => c_1 ((nI_eq (a := (rd.getD (z) 0)) (b := 30) (by omega) (by omega)).mpr h9)
      refine lv_bipush (v := nI 7) hx hb dX12_takeGroup_15 (by decide) ?_
      refine g_top (y := nI (wd2 rd z)) (by rw [wd2, if_neg (by omega)]) ?_
      exact cut () s.heap [] ls ⟨hB, hl⟩
    · have c_1 : (rd.getD (z) 0) = 30 := (nI_eq (a := (rd.getD (z) 0)) (b := 30) (by omega) (by omega)).mp c_1
      refine lv_iconst (v := nI 3) hx hb dX12_takeGroup_11 (by decide) ?_
      refine lv_goto (tgt := 17) hx hb dX12_takeGroup_12 (by decide) ?_
      refine g_top (y := nI (wd2 rd z)) (by rw [wd2, if_pos (by omega)]) ?_
      exact cut () s.heap [] ls ⟨hB, hl⟩
  rintro - H locs ls ⟨hB, hl⟩
  refine lv_istore_n (lv' := [(2, .int (nI (wd2 rd z))), (0, .ref G.2.1), (1, .int (nI z))]) hx hb dX12_takeGroup_17 rfl hl (by decide) rfl (fun ls hl => ?_)
  refine lv_iconst (v := nI 0) hx hb dX12_takeGroup_18 (by decide) ?_
  refine lv_istore_n (lv' := [(3, .int (nI 0)), (2, .int (nI (wd2 rd z))), (0, .ref G.2.1), (1, .int (nI z))]) hx hb dX12_takeGroup_19 rfl hl (by decide) rfl (fun ls hl => ?_)
  have hc256 := (hrd (z + 2) (by omega)).2
  have hl : lv_has ls 5 [(3, .int (nI 0)), (2, .int (nI (wd2 rd z))), (0, .ref G.2.1), (1, .int (nI z))] := lv_sub hl [0, 1, 2, 3] rfl
  have hB : gB G.1 (rT G) A s H locs (rWs G (sc, ar)) := hB
  refine g_loop (σ := Nat × (Nat → Int32) × (Nat → Nat → Int32)) (fun d xv H locs ls => (xv.1 + d = (rd.getD (z + 2) 0)) ∧ (rRep (b + xv.1) (xv.2.1, xv.2.2) (spTG a rd z xv.1)) ∧ (xv.2.2 41 = ar 41) ∧ (xv.2.1 42 = sc 42) ∧ gB G.1 (rT G) A s H locs (rWs G (xv.2.1, xv.2.2)) ∧ lv_has ls 5 [(3, .int (nI xv.1)), (2, .int (nI (wd2 rd z))), (0, .ref G.2.1), (1, .int (nI z))]) (rd.getD (z + 2) 0) (0, sc, ar) ⟨by omega, hr0, rfl, rfl, hB, hl⟩ ?_
  rintro d ⟨k, sc1, ar1⟩ H locs ls ⟨hk, hr1, k1, k2, hB, hl⟩ ih_2
  have hk : k + d = (rd.getD (z + 2) 0) := hk
  have hr1 : rRep (b + k) (sc1, ar1) (spTG a rd z k) := hr1
  have k1 : ar1 41 = ar 41 := k1
  have k2 : sc1 42 = sc 42 := k2
  have hB : gB G.1 (rT G) A s H locs (rWs G (sc1, ar1)) := hB
  have hl : lv_has ls 5 [(3, .int (nI k)), (2, .int (nI (wd2 rd z))), (0, .ref G.2.1), (1, .int (nI z))] := hl
  have hrd1 : pfxN (ar1 41) rd := by rw [k1]; exact hrd
  have h421 : sc1 42 = nI rd.length := by rw [k2]; exact h42
  have m1 : wd2 rd z * k ≤ wd2 rd z * (rd.getD (z + 2) 0) := Nat.mul_le_mul_left _ (by omega)
  refine lv_iload_n hx hb dX12_takeGroup_20 rfl (lv_at hl 0 rfl) ?_
  refine lv_aload_n hx hb dX12_takeGroup_21 rfl (lv_at hl 2 rfl) ?_
  refine r_get (u := (sc1, ar1)) (v := .ref (G.2.2.1 41)) hx hb hts hin hown hB 41 (by decide) (hts (.fieldLink RX12 78 "PointReportsModel" "read" "[I") (by decide +kernel)) rfl rfl dX12_takeGroup_22 ?_
  refine lv_iload_n hx hb dX12_takeGroup_25 rfl (lv_at hl 3 rfl) ?_
  refine lv_iconst (v := nI 2) hx hb dX12_takeGroup_26 (by decide) ?_
  refine lv_iadd hx hb dX12_takeGroup_27 ?_
  refine g_top (y := nI (z + 2)) (nI_add _ _) ?_
  refine r_ald (u := (sc1, ar1)) (f := ar1 41) hx hb hB 22 rfl (z + 2) rfl (by omega) (by decide) dX12_takeGroup_28 ?_
  have q29 := hrd1 (z + 2) (by omega)
  refine g_top (y := nI (rd.getD (z + 2) 0)) q29.1 ?_
  have q29 := q29.2
  refine lv_icmp_ge (tgt := 91) hx hb dX12_takeGroup_29 (by decide) (fun c_3 => ?_) (fun c_3 => ?_)
  · have c_3 : (rd.getD (z + 2) 0) ≤ k := (nI_leI (a := (rd.getD (z + 2) 0)) (b := k) (by omega) (by omega)).mp c_3
    have hk9 : k = (rd.getD (z + 2) 0) := by omega
    rw [hk9] at hr1
    exact g_vret (Wd := rWs G) (sc1, ar1) hB hx hb hr hlocks rfl ⟨hr1, k1, k2⟩ dX12_takeGroup_91
  · have c_3 : ¬ (rd.getD (z + 2) 0) ≤ k := fun h9 => c_3 ((nI_leI (a := (rd.getD (z + 2) 0)) (b := k) (by omega) (by omega)).mpr h9)
    have m2 : wd2 rd z * (k + 1) ≤ wd2 rd z * (rd.getD (z + 2) 0) := Nat.mul_le_mul_left _ (by omega)
    have m3 : wd2 rd z * (k + 1) = wd2 rd z * k + wd2 rd z := Nat.mul_succ _ _
    have hp9 := g5 k (by omega)
    refine lv_iload_n hx hb dX12_takeGroup_32 rfl (lv_at hl 3 rfl) ?_
    refine lv_iconst (v := nI 3) hx hb dX12_takeGroup_33 (by decide) ?_
    refine lv_iadd hx hb dX12_takeGroup_34 ?_
    refine g_top (y := nI (z + 3)) (nI_add _ _) ?_
    refine lv_iload_n hx hb dX12_takeGroup_35 rfl (lv_at hl 1 rfl) ?_
    refine lv_iload_n hx hb dX12_takeGroup_36 rfl (lv_at hl 0 rfl) ?_
    refine lv_imul hx hb dX12_takeGroup_37 ?_
    refine g_top (y := nI ((wd2 rd z) * k)) (pk_mul _ _) ?_
    refine lv_iadd hx hb dX12_takeGroup_38 ?_
    refine g_top (y := nI ((z + 3) + ((wd2 rd z) * k))) (nI_add _ _) ?_
    refine lv_istore (lv' := [(4, .int (nI ((z + 3) + ((wd2 rd z) * k)))), (3, .int (nI k)), (2, .int (nI (wd2 rd z))), (0, .ref G.2.1), (1, .int (nI z))]) hx hb dX12_takeGroup_39 hl (by decide) rfl (fun ls hl => ?_)
    refine lv_iload_n hx hb dX12_takeGroup_41 rfl (lv_at hl 2 rfl) ?_
    refine lv_iconst (v := nI 3) hx hb dX12_takeGroup_42 (by decide) ?_
    refine lv_icmp_ne (tgt := 71) hx hb dX12_takeGroup_43 (by decide) (fun c_4 => ?_) (fun c_4 => ?_)
    · have c_4 : ¬ (wd2 rd z) = 3 := fun h9 => c_4 ((nI_eq (a := (wd2 rd z)) (b := 3) (by omega) (by omega)).mpr h9)
      have w7 : wd2 rd z = 7 := by omega
      refine lv_aload_n hx hb dX12_takeGroup_71 rfl (lv_at hl 3 rfl) ?_
      refine lv_iload hx hb dX12_takeGroup_72 (lv_at hl 0 rfl) ?_
      refine lv_aload_n hx hb dX12_takeGroup_74 rfl (lv_at hl 3 rfl) ?_
      refine r_get (u := (sc1, ar1)) (v := .ref (G.2.2.1 41)) hx hb hts hin hown hB 41 (by decide) (hts (.fieldLink RX12 78 "PointReportsModel" "read" "[I") (by decide +kernel)) rfl rfl dX12_takeGroup_75 ?_
      refine lv_iload_n hx hb dX12_takeGroup_78 rfl (lv_at hl 4 rfl) ?_
      refine lv_iconst (v := nI 1) hx hb dX12_takeGroup_79 (by decide) ?_
      refine lv_iadd hx hb dX12_takeGroup_80 ?_
      refine g_top (y := nI (z + 1)) (nI_add _ _) ?_
      refine r_ald (u := (sc1, ar1)) (f := ar1 41) hx hb hB 22 rfl (z + 1) rfl (by omega) (by decide) dX12_takeGroup_81 ?_
      have q82 := hrd1 (z + 1) (by omega)
      refine g_top (y := nI (rd.getD (z + 1) 0)) q82.1 ?_
      have q82 := q82.2
      refine g_callv (av := [.int (nI ((z + 3) + ((wd2 rd z) * k))), .int (nI (rd.getD (z + 1) 0))]) (rest := []) ⟨hx, hb, hml, hown, hts⟩ (c_takeEvent l G sc1 ar1 (b + k) (by omega) (spTG a rd z k) hr1 rd hrd1 h421 hr4 (z + 3 + wd2 rd z * k) (rd.getD (z + 1) 0) (by omega) hp9) (cwV 2 hts gX12_takeGroup_X12_takeEvent rfl rfl rfl (by decide +kernel) ⟨Nat.le_of_ble_eq_true rfl, Nat.le_of_ble_eq_true rfl⟩) hB (q0 := 0) (ci := 9) rfl rfl rfl rfl hl.1 rfl (Nat.le_of_ble_eq_true rfl) dX12_takeGroup_82 ⟨Nat.le_of_ble_eq_true rfl, Nat.le_of_ble_eq_true rfl⟩ (fun u H locs hw hB => ?_)
      obtain ⟨sc2, ar2⟩ := u
      obtain ⟨hr2, k3, k4⟩ := hw
      have hB : gB G.1 (rT G) A s H locs (rWs G (sc2, ar2)) := hB
      refine lv_iinc (v := nI (k + 1)) (lv' := [(3, .int (nI (k + 1))), (4, .int (nI ((z + 3) + ((wd2 rd z) * k)))), (2, .int (nI (wd2 rd z))), (0, .ref G.2.1), (1, .int (nI z))]) hx hb dX12_takeGroup_85 hl (k := 1) rfl (nI_add _ _) (by decide) rfl (fun ls hl => ?_)
      refine lv_goto (tgt := 20) hx hb dX12_takeGroup_88 (by decide) ?_
      have hs9 : spTG a rd z (k + 1) = spTE (spTG a rd z k) rd (z + 3 + wd2 rd z * k) (rd.getD (z + 1) 0) := by rw [spTG, if_neg (by omega)]
      have hl : lv_has ls 5 [(3, .int (nI (k + 1))), (2, .int (nI (wd2 rd z))), (0, .ref G.2.1), (1, .int (nI z))] := lv_sub hl [0, 2, 3, 4] rfl
      have hB : gB G.1 (rT G) A s H locs (rWs G (sc2, ar2)) := hB
      have b_5 : (k + 1) + ((rd.getD (z + 2) 0) - (k + 1)) = (rd.getD (z + 2) 0) := by omega
      have b_6 : rRep (b + (k + 1)) (sc2, ar2) (spTG a rd z (k + 1)) := by rw [hs9]; exact hr2
      have b_7 : ar2 41 = ar 41 := k3.trans k1
      have b_8 : sc2 42 = sc 42 := k4.trans k2
      exact ih_2 ((rd.getD (z + 2) 0) - (k + 1)) (k + 1, sc2, ar2) H locs ls (by omega) ⟨b_5, b_6, b_7, b_8, hB, hl⟩
    · have c_4 : (wd2 rd z) = 3 := (nI_eq (a := (wd2 rd z)) (b := 3) (by omega) (by omega)).mp c_4
      refine lv_aload_n hx hb dX12_takeGroup_46 rfl (lv_at hl 3 rfl) ?_
      refine r_get (u := (sc1, ar1)) (v := .ref (G.2.2.1 21)) hx hb hts hin hown hB 21 (by decide) (hts (.fieldLink RX12 42 "PointReportsModel" "view" "[I") (by decide +kernel)) rfl rfl dX12_takeGroup_47 ?_
      refine lv_aload_n hx hb dX12_takeGroup_50 rfl (lv_at hl 3 rfl) ?_
      refine r_get (u := (sc1, ar1)) (v := .ref (G.2.2.1 41)) hx hb hts hin hown hB 41 (by decide) (hts (.fieldLink RX12 78 "PointReportsModel" "read" "[I") (by decide +kernel)) rfl rfl dX12_takeGroup_51 ?_
      refine lv_iload hx hb dX12_takeGroup_54 (lv_at hl 0 rfl) ?_
      refine r_ald (u := (sc1, ar1)) (f := ar1 41) hx hb hB 22 rfl ((z + 3) + ((wd2 rd z) * k)) rfl (by omega) (by decide) dX12_takeGroup_56 ?_
      have q57 := hrd1 ((z + 3) + ((wd2 rd z) * k)) (by omega)
      refine g_top (y := nI (rd.getD ((z + 3) + ((wd2 rd z) * k)) 0)) q57.1 ?_
      have q57 := q57.2
      refine lv_aload_n hx hb dX12_takeGroup_57 rfl (lv_at hl 3 rfl) ?_
      refine lv_iload hx hb dX12_takeGroup_58 (lv_at hl 0 rfl) ?_
      refine lv_iconst (v := nI 1) hx hb dX12_takeGroup_60 (by decide) ?_
      refine lv_iadd hx hb dX12_takeGroup_61 ?_
      refine g_top (y := nI (((z + 3) + ((wd2 rd z) * k)) + 1)) (nI_add _ _) ?_
      refine lv_iconst (v := nI 2) hx hb dX12_takeGroup_62 (by decide) ?_
      refine g_calll (av := [.int (nI (((z + 3) + ((wd2 rd z) * k)) + 1)), .int (nI 2)]) (rest := [.int (nI (rd.getD ((z + 3) + ((wd2 rd z) * k)) 0)), .ref (G.2.2.1 21)]) ⟨hx, hb, hml, hown, hts⟩ (c_numberAt l G sc1 ar1 rd hrd1 h421 hr4 (z + 3 + wd2 rd z * k + 1) 2 (by decide) (by decide) (by omega)) (cwV 2 hts gX12_takeGroup_X12_numberAt rfl rfl rfl (by decide +kernel) ⟨Nat.le_of_ble_eq_true rfl, Nat.le_of_ble_eq_true rfl⟩) hB (q0 := 0) (ci := 9) rfl rfl rfl rfl hl.1 rfl (Nat.le_of_ble_eq_true rfl) dX12_takeGroup_63 ⟨Nat.le_of_ble_eq_true rfl, Nat.le_of_ble_eq_true rfl⟩ (fun r9 u H locs hw hB => ?_)
      obtain ⟨rfl, rfl⟩ := hw
      have hB : gB G.1 (rT G) A s H locs (rWs G (sc1, ar1)) := hB
      refine lv_l2i (v := (lN (hN rd (z + 3 + wd2 rd z * k + 1) 2)).toInt32) hx hb dX12_takeGroup_66 rfl ?_
      refine g_top (y := nI (hN rd (z + 3 + wd2 rd z * k + 1) 2)) (lN_i _) ?_
      refine r_ast (u := (sc1, ar1)) (f := ar1 21) (x := nI (hN rd (z + 3 + wd2 rd z * k + 1) 2)) (va_up ar1 21 (upd (ar1 21) (rd.getD ((z + 3) + ((wd2 rd z) * k)) 0) (nI (hN rd (z + 3 + wd2 rd z * k + 1) 2)))) hx hb hB 10 rfl (rd.getD ((z + 3) + ((wd2 rd z) * k)) 0) rfl (by omega) (by decide) rfl dX12_takeGroup_67 (fun H locs hB => ?_)
      refine lv_goto (tgt := 85) hx hb dX12_takeGroup_68 (by decide) ?_
      refine lv_iinc (v := nI (k + 1)) (lv' := [(3, .int (nI (k + 1))), (4, .int (nI ((z + 3) + ((wd2 rd z) * k)))), (2, .int (nI (wd2 rd z))), (0, .ref G.2.1), (1, .int (nI z))]) hx hb dX12_takeGroup_85 hl (k := 1) rfl (nI_add _ _) (by decide) rfl (fun ls hl => ?_)
      refine lv_goto (tgt := 20) hx hb dX12_takeGroup_88 (by decide) ?_
      have hs9 : spTG a rd z (k + 1) = spTV (spTG a rd z k) rd (z + 3 + wd2 rd z * k) := by rw [spTG, if_pos (by omega)]
      obtain ⟨n0, n9, n10, n11, n12, n13, n14, n15, n16, n19, n20, n23, n25, n26, n27, n28, n29, f1, f2, f3, f21, f22, f24, rE, rW, rl1, rl2, rl3, rq0, rq1, rq2, rq3, ro1, ro2, ro3, rg1, rg2, rg3, rg4, rh4, rg5, rh5, rg6, rh6, rg7, rh7, rc1, rc2, rc3, rz1, rz2, rz3, rz4, rk, rV, rY, rA, rb⟩ := id hr1
      have hr2 : rRep (b + (k + 1)) (sc1, va_up ar1 21 (upd (ar1 21) (rd.getD ((z + 3) + ((wd2 rd z) * k)) 0) (nI (hN rd (z + 3 + wd2 rd z * k + 1) 2)))) (spTG a rd z (k + 1)) := by rw [hs9]; exact ⟨n0, n9, n10, n11, n12, n13, n14, n15, n16, n19, n20, n23, n25, n26, n27, n28, n29, f1, f2, f3, (by show upd (ar1 21) _ _ = upd ((spTG a rd z k).2.1 21) _ _; have f21 : ar1 21 = (spTG a rd z k).2.1 21 := f21; rw [f21]), f22, f24, rE, rW, rl1, rl2, rl3, rq0, rq1, rq2, rq3, ro1, ro2, ro3, rg1, rg2, rg3, rg4, rh4, rg5, rh5, rg6, rh6, rg7, rh7, rc1, rc2, rc3, rz1, rz2, rz3, rz4, rk, rV, rY, rA, (fun j => Nat.le_trans (rb j) (by omega))⟩
      have hl : lv_has ls 5 [(3, .int (nI (k + 1))), (2, .int (nI (wd2 rd z))), (0, .ref G.2.1), (1, .int (nI z))] := lv_sub hl [0, 2, 3, 4] rfl
      have hB : gB G.1 (rT G) A s H locs (rWs G (sc1, (va_up ar1 21 (upd (ar1 21) (rd.getD ((z + 3) + ((wd2 rd z) * k)) 0) (nI (hN rd (z + 3 + wd2 rd z * k + 1) 2)))))) := hB
      have b_9 : (k + 1) + ((rd.getD (z + 2) 0) - (k + 1)) = (rd.getD (z + 2) 0) := by omega
      have b_10 : rRep (b + (k + 1)) (sc1, (va_up ar1 21 (upd (ar1 21) (rd.getD ((z + 3) + ((wd2 rd z) * k)) 0) (nI (hN rd (z + 3 + wd2 rd z * k + 1) 2))))) (spTG a rd z (k + 1)) := hr2
      have b_11 : (va_up ar1 21 (upd (ar1 21) (rd.getD ((z + 3) + ((wd2 rd z) * k)) 0) (nI (hN rd (z + 3 + wd2 rd z * k + 1) 2)))) 41 = ar 41 := k1
      have b_12 : sc1 42 = sc 42 := k2
      exact ih_2 ((rd.getD (z + 2) 0) - (k + 1)) (k + 1, sc1, (va_up ar1 21 (upd (ar1 21) (rd.getD ((z + 3) + ((wd2 rd z) * k)) 0) (nI (hN rd (z + 3 + wd2 rd z * k + 1) 2))))) H locs ls (by omega) ⟨b_9, b_10, b_11, b_12, hB, hl⟩
