/-! THE EVENTS: of each class a list of (point, value, time), from the oldest on; the first Wt of them wait. -/
abbrev evL : Type := Nat → List (Int32 × Int32 × Int32)
def evR (ke po va ti : Nat → Int32) (E : evL) : Prop := ∀ c : Nat, 1 ≤ c → c ≤ 3 → ke c = nI (E c).length ∧ (E c).length ≤ 8 ∧ ∀ (k : Nat) (q : Int32 × Int32 × Int32), (E c)[k]? = some q → po (8 * c + k) = q.1 ∧ va (8 * c + k) = q.2.1 ∧ ti (8 * c + k) = q.2.2
def wtR (wa : Nat → Int32) (E : evL) (Wt : Nat → Nat) : Prop := ∀ c : Nat, 1 ≤ c → c ≤ 3 → ∀ k : Nat, k < (E c).length → wa (8 * c + k) = if k < Wt c then 1 else 0
/-- the classes of which there are events that do not wait, up to class c -/
def moK (E : evL) (Wt : Nat → Nat) : Nat → Int32
  | 0 => nI 0
  | c + 1 => moK E Wt c + (if Wt (c + 1) < (E (c + 1)).length then nI 1 <<< (nI (c + 1) &&& 31) else nI 0)
theorem pfx_set {f : Nat → Int32} {l : List Int32} {i : Nat} {x : Int32} (h : pfx f l) (hi : i < l.length) : pfx (upd f i x) (l.set i x) := by
  intro j hj
  rw [List.length_set] at hj
  by_cases hq : j = i
  · subst hq
    rw [upd_self, List.getD_eq_getElem?_getD, List.getElem?_set_self hi]
    rfl
  · rw [upd_ne hq, h j hj, List.getD_eq_getElem?_getD, List.getD_eq_getElem?_getD, List.getElem?_set_ne (Ne.symm hq)]
/-- what the station or the master reads: bytes -/
def pfxN (f : Nat → Int32) (l : List Nat) : Prop := ∀ j : Nat, j < l.length → f j = nI (l.getD j 0) ∧ l.getD j 0 < 256
/-- of the asked things, whether each so far is as it must be -/
def rqF (rd : List Nat) : Nat → Nat
  | 0 => 1
  | k + 1 => if rqF rd k = 1 ∧ rd.getD (3 * k + 2) 0 = 60 ∧ 1 ≤ rd.getD (3 * k + 3) 0 ∧ rd.getD (3 * k + 3) 0 ≤ 4 ∧ rd.getD (3 * k + 4) 0 = 6 then 1 else 0
/-- whether a fragment is a READ, its first byte's CON aside -/
abbrev isRd (rd : List Nat) : Prop := rd.getD 1 0 = 1 ∧ (rd.getD 0 0 &&& 16) = 0 ∧ 5 ≤ rd.length ∧ rd.length ≤ 14 ∧ rd.length % 3 = 2 ∧ rqF rd ((rd.length - 2) / 3) = 1
/-- whether v was not asked in the first k -/
def fsF (rd : List Nat) (v : Nat) : Nat → Nat
  | 0 => 1
  | k + 1 => if fsF rd v k = 1 ∧ rd.getD (3 * k + 3) 0 ≠ v then 1 else 0
theorem fsF_le (rd : List Nat) (v k : Nat) : fsF rd v k ≤ 1 := by
  cases k with
  | zero => exact Nat.le_refl 1
  | succ k => rw [fsF]; split <;> omega
theorem rqF_le (rd : List Nat) (k : Nat) : rqF rd k ≤ 1 := by
  cases k with
  | zero => exact Nat.le_refl 1
  | succ k => rw [rqF]; split <;> omega
theorem rqF_dead {rd : List Nat} {k : Nat} (h : ¬ rqF rd k = 1) : ∀ n, k ≤ n → ¬ rqF rd n = 1 := by
  intro n
  induction n with
  | zero => intro hk; have : k = 0 := by omega
            subst this; exact h
  | succ n ih =>
    intro hk
    by_cases hq : k = n + 1
    · subst hq; exact h
    · rw [rqF, if_neg (fun z => ih (by omega) z.1)]; omega
theorem nx_and (a b : Nat) : nI a &&& nI b = nI (a &&& b) := by
  apply Int32.toBitVec_inj.mp
  rw [Int32.toBitVec_and]
  apply BitVec.eq_of_toNat_eq
  rw [BitVec.toNat_and]
  show (BitVec.ofNat 32 a).toNat &&& (BitVec.ofNat 32 b).toNat = (BitVec.ofNat 32 (a &&& b)).toNat
  rw [BitVec.toNat_ofNat, BitVec.toNat_ofNat, BitVec.toNat_ofNat, Nat.and_mod_two_pow]
set_option maxRecDepth 100000 in
set_option maxHeartbeats 4000000 in
/-- isNew(at) -/
theorem c_isNew (l : Launch) (G : rG) (sc : Nat → Int32) (ar : Nat → Nat → Int32) (rd : List Nat) (hrd : pfxN (ar 41) rd) (h42 : sc 42 = nI rd.length) (hr4 : rd.length ≤ 400) (i : Nat) (hi : 3 * i + 3 < rd.length) : gM l G.1 (rT G) yX12_isNew wsX12_isNew ({ frames := 0, cells := 0, slots := 0, locals := 0 }) [.ref G.2.1, .int (nI (3 * i + 2))] (rWs G (sc, ar)) (gQi G.1 (rT G) (fun (r : Int32) (u : rSt) => r = nI (fsF rd (rd.getD (3 * i + 3) 0) i) ∧ u = (sc, ar)) (rWs G)) 0 0 := by
  refine gM.of (cc := cX12_isNew) (maxL := 4) (ret := (some .boolean)) (by decide) rfl (Nat.le_of_ble_eq_true rfl) ?_
  intro p e s m below meth c A ls hx hb hr hml hown hts hlocks hnm hB hl
  have hin : ∀ w ∈ wsX120, w ∈ wsX12_isNew := fun w h => List.mem_cons_of_mem _ (List.mem_append_right _ h)
  have hl : lv_has ls 4 [(0, .ref G.2.1), (1, .int (nI (3 * i + 2)))] := hl
  refine lv_iconst (v := nI 1) hx hb dX12_isNew_0 (by decide) ?_
  refine lv_istore_n (lv' := [(2, .int (nI 1)), (0, .ref G.2.1), (1, .int (nI (3 * i + 2)))]) hx hb dX12_isNew_1 rfl hl (by decide) rfl (fun ls hl => ?_)
  refine lv_iconst (v := nI 2) hx hb dX12_isNew_2 (by decide) ?_
  refine lv_istore_n (lv' := [(3, .int (nI 2)), (2, .int (nI 1)), (0, .ref G.2.1), (1, .int (nI (3 * i + 2)))]) hx hb dX12_isNew_3 rfl hl (by decide) rfl (fun ls hl => ?_)
  have hl : lv_has ls 4 [(3, .int (nI (3 * 0 + 2))), (2, .int (nI (fsF rd (rd.getD (3 * i + 3) 0) 0))), (0, .ref G.2.1), (1, .int (nI (3 * i + 2)))] := lv_sub hl [0, 1, 2, 3] rfl
  have hB : gB G.1 (rT G) A s s.heap [] (rWs G (sc, ar)) := hB
  refine g_loop (σ := Nat) (fun d xv H locs ls => (xv + d = i) ∧ gB G.1 (rT G) A s H locs (rWs G (sc, ar)) ∧ lv_has ls 4 [(3, .int (nI (3 * xv + 2))), (2, .int (nI (fsF rd (rd.getD (3 * i + 3) 0) xv))), (0, .ref G.2.1), (1, .int (nI (3 * i + 2)))]) i (0) ⟨by omega, hB, hl⟩ ?_
  rintro d k H locs ls ⟨hk, hB, hl⟩ ih_1
  have hk : k + d = i := hk
  have hB : gB G.1 (rT G) A s H locs (rWs G (sc, ar)) := hB
  have hl : lv_has ls 4 [(3, .int (nI (3 * k + 2))), (2, .int (nI (fsF rd (rd.getD (3 * i + 3) 0) k))), (0, .ref G.2.1), (1, .int (nI (3 * i + 2)))] := hl
  have f1 := fsF_le rd (rd.getD (3 * i + 3) 0) k
  refine lv_iload_n hx hb dX12_isNew_4 rfl (lv_at hl 0 rfl) ?_
  refine lv_iload_n hx hb dX12_isNew_5 rfl (lv_at hl 3 rfl) ?_
  refine lv_icmp_ge (tgt := 44) hx hb dX12_isNew_6 (by decide) (fun c_2 => ?_) (fun c_2 => ?_)
  · have c_2 : (3 * i + 2) ≤ (3 * k + 2) := (nI_leI (a := (3 * i + 2)) (b := (3 * k + 2)) (by omega) (by omega)).mp c_2
    have hk9 : k = i := by omega
    refine lv_iload_n hx hb dX12_isNew_44 rfl (lv_at hl 1 rfl) ?_
    exact g_zret (Wd := rWs G) (v := nI (fsF rd (rd.getD (3 * i + 3) 0) k)) (sc, ar) hB hx hb hr hlocks rfl (narrow_z (by rw [hk9]; rw [hk9] at f1; rcases (show fsF rd (rd.getD (3 * i + 3) 0) i = 0 ∨ fsF rd (rd.getD (3 * i + 3) 0) i = 1 by omega) with h | h <;> rw [h]; exact Or.inl rfl; exact Or.inr rfl)) ⟨by rw [hk9], rfl⟩ dX12_isNew_45
  · have c_2 : ¬ (3 * i + 2) ≤ (3 * k + 2) := fun h9 => c_2 ((nI_leI (a := (3 * i + 2)) (b := (3 * k + 2)) (by omega) (by omega)).mpr h9)
    refine lv_iload_n hx hb dX12_isNew_9 rfl (lv_at hl 1 rfl) ?_
    refine lv_if_eq (tgt := 36) hx hb dX12_isNew_10 (by decide) (fun c_3 => ?_) (fun c_3 => ?_)
    · have c_3 : (fsF rd (rd.getD (3 * i + 3) 0) k) = 0 := (nI_eq (a := (fsF rd (rd.getD (3 * i + 3) 0) k)) (b := 0) (by omega) (by omega)).mp c_3
      refine lv_iconst (v := nI 0) hx hb dX12_isNew_36 (by decide) ?_
      refine g_top (y := nI (fsF rd (rd.getD (3 * i + 3) 0) (k + 1))) (by rw [fsF, if_neg (fun z => by omega)]) ?_
      refine lv_istore_n (lv' := [(2, .int (nI (fsF rd (rd.getD (3 * i + 3) 0) (k + 1)))), (3, .int (nI (3 * k + 2))), (0, .ref G.2.1), (1, .int (nI (3 * i + 2)))]) hx hb dX12_isNew_37 rfl hl (by decide) rfl (fun ls hl => ?_)
      refine lv_iinc (v := nI (3 * k + 2 + 3)) (lv' := [(3, .int (nI (3 * k + 2 + 3))), (2, .int (nI (fsF rd (rd.getD (3 * i + 3) 0) (k + 1)))), (0, .ref G.2.1), (1, .int (nI (3 * i + 2)))]) hx hb dX12_isNew_38 hl (k := 1) rfl (nI_add _ _) (by decide) rfl (fun ls hl => ?_)
      refine lv_goto (tgt := 4) hx hb dX12_isNew_41 (by decide) ?_
      have hl : lv_has ls 4 [(3, .int (nI (3 * (k + 1) + 2))), (2, .int (nI (fsF rd (rd.getD (3 * i + 3) 0) (k + 1)))), (0, .ref G.2.1), (1, .int (nI (3 * i + 2)))] := lv_sub hl [0, 1, 2, 3] rfl
      have hB : gB G.1 (rT G) A s H locs (rWs G (sc, ar)) := hB
      have b_4 : (k + 1) + (i - (k + 1)) = i := by omega
      exact ih_1 (i - (k + 1)) (k + 1) H locs ls (by omega) ⟨b_4, hB, hl⟩
    · have c_3 : ¬ (fsF rd (rd.getD (3 * i + 3) 0) k) = 0 := fun h9 => c_3 ((nI_eq (a := (fsF rd (rd.getD (3 * i + 3) 0) k)) (b := 0) (by omega) (by omega)).mpr h9)
      refine lv_aload_n hx hb dX12_isNew_13 rfl (lv_at hl 2 rfl) ?_
      refine r_get (u := (sc, ar)) (v := .ref (G.2.2.1 41)) hx hb hts hin hown hB 41 (by decide) (hts (.fieldLink RX12 78 "PointReportsModel" "read" "[I") (by decide +kernel)) rfl rfl dX12_isNew_14 ?_
      refine lv_iload_n hx hb dX12_isNew_17 rfl (lv_at hl 0 rfl) ?_
      refine lv_iconst (v := nI 1) hx hb dX12_isNew_18 (by decide) ?_
      refine lv_iadd hx hb dX12_isNew_19 ?_
      refine g_top (y := nI ((3 * k + 2) + 1)) (nI_add _ _) ?_
      refine r_ald (u := (sc, ar)) (f := ar 41) hx hb hB 22 rfl ((3 * k + 2) + 1) rfl (by omega) (by decide) dX12_isNew_20 ?_
      have q21 := hrd (3 * k + 3) (by omega)
      refine g_top (y := nI (rd.getD (3 * k + 3) 0)) q21.1 ?_
      have q21 := q21.2
      refine lv_aload_n hx hb dX12_isNew_21 rfl (lv_at hl 2 rfl) ?_
      refine r_get (u := (sc, ar)) (v := .ref (G.2.2.1 41)) hx hb hts hin hown hB 41 (by decide) (hts (.fieldLink RX12 78 "PointReportsModel" "read" "[I") (by decide +kernel)) rfl rfl dX12_isNew_22 ?_
      refine lv_iload_n hx hb dX12_isNew_25 rfl (lv_at hl 3 rfl) ?_
      refine lv_iconst (v := nI 1) hx hb dX12_isNew_26 (by decide) ?_
      refine lv_iadd hx hb dX12_isNew_27 ?_
      refine g_top (y := nI ((3 * i + 2) + 1)) (nI_add _ _) ?_
      refine r_ald (u := (sc, ar)) (f := ar 41) hx hb hB 22 rfl ((3 * i + 2) + 1) rfl (by omega) (by decide) dX12_isNew_28 ?_
      have q29 := hrd (3 * i + 3) (by omega)
      refine g_top (y := nI (rd.getD (3 * i + 3) 0)) q29.1 ?_
      have q29 := q29.2
      refine lv_icmp_eq (tgt := 36) hx hb dX12_isNew_29 (by decide) (fun c_5 => ?_) (fun c_5 => ?_)
      · have c_5 : (rd.getD (3 * k + 3) 0) = (rd.getD (3 * i + 3) 0) := (nI_eq (a := (rd.getD (3 * k + 3) 0)) (b := (rd.getD (3 * i + 3) 0)) (by omega) (by omega)).mp c_5
        refine lv_iconst (v := nI 0) hx hb dX12_isNew_36 (by decide) ?_
        refine g_top (y := nI (fsF rd (rd.getD (3 * i + 3) 0) (k + 1))) (by rw [fsF, if_neg (fun z => z.2 (by omega))]) ?_
        refine lv_istore_n (lv' := [(2, .int (nI (fsF rd (rd.getD (3 * i + 3) 0) (k + 1)))), (3, .int (nI (3 * k + 2))), (0, .ref G.2.1), (1, .int (nI (3 * i + 2)))]) hx hb dX12_isNew_37 rfl hl (by decide) rfl (fun ls hl => ?_)
        refine lv_iinc (v := nI (3 * k + 2 + 3)) (lv' := [(3, .int (nI (3 * k + 2 + 3))), (2, .int (nI (fsF rd (rd.getD (3 * i + 3) 0) (k + 1)))), (0, .ref G.2.1), (1, .int (nI (3 * i + 2)))]) hx hb dX12_isNew_38 hl (k := 1) rfl (nI_add _ _) (by decide) rfl (fun ls hl => ?_)
        refine lv_goto (tgt := 4) hx hb dX12_isNew_41 (by decide) ?_
        have hl : lv_has ls 4 [(3, .int (nI (3 * (k + 1) + 2))), (2, .int (nI (fsF rd (rd.getD (3 * i + 3) 0) (k + 1)))), (0, .ref G.2.1), (1, .int (nI (3 * i + 2)))] := lv_sub hl [0, 1, 2, 3] rfl
        have hB : gB G.1 (rT G) A s H locs (rWs G (sc, ar)) := hB
        have b_6 : (k + 1) + (i - (k + 1)) = i := by omega
        exact ih_1 (i - (k + 1)) (k + 1) H locs ls (by omega) ⟨b_6, hB, hl⟩
      · have c_5 : ¬ (rd.getD (3 * k + 3) 0) = (rd.getD (3 * i + 3) 0) := fun h9 => c_5 ((nI_eq (a := (rd.getD (3 * k + 3) 0)) (b := (rd.getD (3 * i + 3) 0)) (by omega) (by omega)).mpr h9)
        refine lv_iconst (v := nI 1) hx hb dX12_isNew_32 (by decide) ?_
        refine lv_goto (tgt := 37) hx hb dX12_isNew_33 (by decide) ?_
        refine g_top (y := nI (fsF rd (rd.getD (3 * i + 3) 0) (k + 1))) (by rw [fsF, if_pos ⟨by omega, by omega⟩]) ?_
        refine lv_istore_n (lv' := [(2, .int (nI (fsF rd (rd.getD (3 * i + 3) 0) (k + 1)))), (3, .int (nI (3 * k + 2))), (0, .ref G.2.1), (1, .int (nI (3 * i + 2)))]) hx hb dX12_isNew_37 rfl hl (by decide) rfl (fun ls hl => ?_)
        refine lv_iinc (v := nI (3 * k + 2 + 3)) (lv' := [(3, .int (nI (3 * k + 2 + 3))), (2, .int (nI (fsF rd (rd.getD (3 * i + 3) 0) (k + 1)))), (0, .ref G.2.1), (1, .int (nI (3 * i + 2)))]) hx hb dX12_isNew_38 hl (k := 1) rfl (nI_add _ _) (by decide) rfl (fun ls hl => ?_)
        refine lv_goto (tgt := 4) hx hb dX12_isNew_41 (by decide) ?_
        have hl : lv_has ls 4 [(3, .int (nI (3 * (k + 1) + 2))), (2, .int (nI (fsF rd (rd.getD (3 * i + 3) 0) (k + 1)))), (0, .ref G.2.1), (1, .int (nI (3 * i + 2)))] := lv_sub hl [0, 1, 2, 3] rfl
        have hB : gB G.1 (rT G) A s H locs (rWs G (sc, ar)) := hB
        have b_7 : (k + 1) + (i - (k + 1)) = i := by omega
        exact ih_1 (i - (k + 1)) (k + 1) H locs ls (by omega) ⟨b_7, hB, hl⟩
set_option maxRecDepth 100000 in
set_option maxHeartbeats 4000000 in
/-- hasEvents() -/
theorem c_hasEvents (l : Launch) (G : rG) (sc : Nat → Int32) (ar : Nat → Nat → Int32) (k1 k2 k3 : Nat) (h1 : ar 4 1 = nI k1) (h2 : ar 4 2 = nI k2) (h3 : ar 4 3 = nI k3) (hk : k1 ≤ 8 ∧ k2 ≤ 8 ∧ k3 ≤ 8) : gM l G.1 (rT G) yX12_hasEvents wsX12_hasEvents ({ frames := 0, cells := 0, slots := 0, locals := 0 }) [.ref G.2.1] (rWs G (sc, ar)) (gQi G.1 (rT G) (fun (r : Int32) (u : rSt) => r = nI (if 0 < k1 + k2 + k3 then 1 else 0) ∧ u = (sc, ar)) (rWs G)) 0 0 := by
  refine gM.of (cc := cX12_hasEvents) (maxL := 1) (ret := (some .boolean)) (by decide) rfl (Nat.le_of_ble_eq_true rfl) ?_
  intro p e s m below meth c A ls hx hb hr hml hown hts hlocks hnm hB hl
  have hin : ∀ w ∈ wsX120, w ∈ wsX12_hasEvents := fun w h => List.mem_cons_of_mem _ (List.mem_append_right _ h)
  have hl : lv_has ls 1 [(0, .ref G.2.1)] := hl
  refine lv_aload_n hx hb dX12_hasEvents_0 rfl (lv_at hl 0 rfl) ?_
  refine r_get (u := (sc, ar)) (v := .ref (G.2.2.1 4)) hx hb hts hin hown hB 4 (by decide) (hts (.fieldLink RX12 19 "PointReportsModel" "kept" "[I") (by decide +kernel)) rfl rfl dX12_hasEvents_1 ?_
  refine lv_iconst (v := nI 1) hx hb dX12_hasEvents_4 (by decide) ?_
  refine r_ald (u := (sc, ar)) (f := ar 4) hx hb hB 4 rfl 1 rfl (by omega) (by decide) dX12_hasEvents_5 ?_
  refine g_top (y := nI k1) h1 ?_
  refine lv_aload_n hx hb dX12_hasEvents_6 rfl (lv_at hl 0 rfl) ?_
  refine r_get (u := (sc, ar)) (v := .ref (G.2.2.1 4)) hx hb hts hin hown hB 4 (by decide) (hts (.fieldLink RX12 19 "PointReportsModel" "kept" "[I") (by decide +kernel)) rfl rfl dX12_hasEvents_7 ?_
  refine lv_iconst (v := nI 2) hx hb dX12_hasEvents_10 (by decide) ?_
  refine r_ald (u := (sc, ar)) (f := ar 4) hx hb hB 4 rfl 2 rfl (by omega) (by decide) dX12_hasEvents_11 ?_
  refine g_top (y := nI k2) h2 ?_
  refine lv_iadd hx hb dX12_hasEvents_12 ?_
  refine g_top (y := nI (k1 + k2)) (nI_add _ _) ?_
  refine lv_aload_n hx hb dX12_hasEvents_13 rfl (lv_at hl 0 rfl) ?_
  refine r_get (u := (sc, ar)) (v := .ref (G.2.2.1 4)) hx hb hts hin hown hB 4 (by decide) (hts (.fieldLink RX12 19 "PointReportsModel" "kept" "[I") (by decide +kernel)) rfl rfl dX12_hasEvents_14 ?_
  refine lv_iconst (v := nI 3) hx hb dX12_hasEvents_17 (by decide) ?_
  refine r_ald (u := (sc, ar)) (f := ar 4) hx hb hB 4 rfl 3 rfl (by omega) (by decide) dX12_hasEvents_18 ?_
  refine g_top (y := nI k3) h3 ?_
  refine lv_iadd hx hb dX12_hasEvents_19 ?_
  refine g_top (y := nI ((k1 + k2) + k3)) (nI_add _ _) ?_
  refine lv_if_le (tgt := 27) hx hb dX12_hasEvents_20 (by decide) (fun c_1 => ?_) (fun c_1 => ?_)
  · have c_1 : ((k1 + k2) + k3) ≤ 0 := (nI_leI (a := ((k1 + k2) + k3)) (b := 0) (by omega) (by omega)).mp c_1
    refine lv_iconst (v := nI 0) hx hb dX12_hasEvents_27 (by decide) ?_
    exact g_zret (Wd := rWs G) (v := nI 0) (sc, ar) hB hx hb hr hlocks rfl (narrow_z (Or.inl rfl)) ⟨by rw [if_neg (by omega)], rfl⟩ dX12_hasEvents_28
  · have c_1 : ¬ ((k1 + k2) + k3) ≤ 0 := fun h9 => c_1 ((nI_leI (a := ((k1 + k2) + k3)) (b := 0) (by omega) (by omega)).mpr h9)
    refine lv_iconst (v := nI 1) hx hb dX12_hasEvents_23 (by decide) ?_
    refine lv_goto (tgt := 28) hx hb dX12_hasEvents_24 (by decide) ?_
    exact g_zret (Wd := rWs G) (v := nI 1) (sc, ar) hB hx hb hr hlocks rfl (narrow_z (Or.inr rfl)) ⟨by rw [if_pos (by omega)], rfl⟩ dX12_hasEvents_28
set_option maxRecDepth 100000 in
set_option maxHeartbeats 4000000 in
/-- putState() -/
theorem c_putState (l : Launch) (G : rG) (sc : Nat → Int32) (ar : Nat → Nat → Int32) (E : evL) (Wt : Nat → Nat) (hE : evR (ar 4) (ar 5) (ar 6) (ar 7) E) (hW : wtR (ar 8) E Wt) (lst : List Int32) (hp : pfx (ar 39) lst) (h4 : 4 ≤ lst.length) : gM l G.1 (rT G) yX12_putState wsX12_putState ({ frames := 0, cells := 0, slots := 0, locals := 0 }) [.ref G.2.1] (rWs G (sc, ar)) (gQv G.1 (rT G) (fun u : rSt => ∃ f, pfx f ((lst.set 2 (moK E Wt 3)).set 3 (if sc 9 = 0 then nI 0 else nI 8)) ∧ u = (sc, va_up ar 39 f)) (rWs G)) 0 0 := by
  refine gM.of (cc := cX12_putState) (maxL := 5) (ret := none) (by decide) rfl (Nat.le_of_ble_eq_true rfl) ?_
  intro p e s m below meth c A ls hx hb hr hml hown hts hlocks hnm hB hl
  have hin : ∀ w ∈ wsX120, w ∈ wsX12_putState := fun w h => List.mem_cons_of_mem _ (List.mem_append_right _ h)
  have hl : lv_has ls 5 [(0, .ref G.2.1)] := hl
  refine lv_iconst (v := nI 0) hx hb dX12_putState_0 (by decide) ?_
  refine lv_istore_n (lv' := [(1, .int (nI 0)), (0, .ref G.2.1)]) hx hb dX12_putState_1 rfl hl (by decide) rfl (fun ls hl => ?_)
  refine lv_iconst (v := nI 1) hx hb dX12_putState_2 (by decide) ?_
  refine lv_istore_n (lv' := [(2, .int (nI 1)), (1, .int (nI 0)), (0, .ref G.2.1)]) hx hb dX12_putState_3 rfl hl (by decide) rfl (fun ls hl => ?_)
  have hl : lv_has ls 5 [(2, .int (nI (0 + 1))), (1, .int (moK E Wt 0)), (0, .ref G.2.1)] := lv_sub hl [0, 1, 2] rfl
  have hB : gB G.1 (rT G) A s s.heap [] (rWs G (sc, ar)) := hB
  refine g_loop (σ := Nat) (fun d xv H locs ls => (xv + d = 3) ∧ gB G.1 (rT G) A s H locs (rWs G (sc, ar)) ∧ lv_has ls 5 [(2, .int (nI (xv + 1))), (1, .int (moK E Wt xv)), (0, .ref G.2.1)]) 3 (0) ⟨by omega, hB, hl⟩ ?_
  rintro d cl H locs ls ⟨hk, hB, hl⟩ ih_1
  have hk : cl + d = 3 := hk
  have hB : gB G.1 (rT G) A s H locs (rWs G (sc, ar)) := hB
  have hl : lv_has ls 5 [(2, .int (nI (cl + 1))), (1, .int (moK E Wt cl)), (0, .ref G.2.1)] := hl
  refine lv_iload_n hx hb dX12_putState_4 rfl (lv_at hl 0 rfl) ?_
  refine lv_iconst (v := nI 4) hx hb dX12_putState_5 (by decide) ?_
  refine lv_icmp_ge (tgt := 79) hx hb dX12_putState_6 (by decide) (fun c_2 => ?_) (fun c_2 => ?_)
  · have c_2 : 4 ≤ (cl + 1) := (nI_leI (a := 4) (b := (cl + 1)) (by omega) (by omega)).mp c_2
    have hk9 : cl = 3 := by omega
    rw [hk9] at hl
    refine lv_aload_n hx hb dX12_putState_79 rfl (lv_at hl 2 rfl) ?_
    refine r_get (u := (sc, ar)) (v := .ref (G.2.2.1 39)) hx hb hts hin hown hB 39 (by decide) (hts (.fieldLink RX12 75 "PointReportsModel" "made" "[I") (by decide +kernel)) rfl rfl dX12_putState_80 ?_
    refine lv_iconst (v := nI 2) hx hb dX12_putState_83 (by decide) ?_
    refine lv_iload_n hx hb dX12_putState_84 rfl (lv_at hl 1 rfl) ?_
    have hp3 := pfx_set (x := moK E Wt 3) hp (show 2 < lst.length by omega)
    refine r_ast (u := (sc, ar)) (f := ar 39) (x := moK E Wt 3) (va_up ar 39 (upd (ar 39) 2 (moK E Wt 3))) hx hb hB 21 rfl 2 rfl (by omega) (by decide) rfl dX12_putState_85 (fun H locs hB => ?_)
    refine lv_aload_n hx hb dX12_putState_86 rfl (lv_at hl 2 rfl) ?_
    refine r_get (u := (sc, va_up ar 39 (upd (ar 39) 2 (moK E Wt 3)))) (v := .ref (G.2.2.1 39)) hx hb hts hin hown hB 39 (by decide) (hts (.fieldLink RX12 75 "PointReportsModel" "made" "[I") (by decide +kernel)) rfl rfl dX12_putState_87 ?_
    refine lv_iconst (v := nI 3) hx hb dX12_putState_90 (by decide) ?_
    refine lv_aload_n hx hb dX12_putState_91 rfl (lv_at hl 2 rfl) ?_
    refine r_get (u := (sc, va_up ar 39 (upd (ar 39) 2 (moK E Wt 3)))) (v := .int (sc 9)) hx hb hts hin hown hB 9 (by decide) (hts (.fieldLink RX12 154 "PointReportsModel" "lost" "Z") (by decide +kernel)) rfl rfl dX12_putState_92 ?_
    refine g_cut (σ := Unit) 104 (fun _ H locs ls => gB G.1 (rT G) A s H locs (rWs G (sc, va_up ar 39 (upd (ar 39) 2 (moK E Wt 3)))) ∧ lv_has ls 5 [(2, .int (nI (3 + 1))), (1, .int (moK E Wt 3)), (0, .ref G.2.1)]) (fun _ => [.int (if sc 9 = 0 then nI 0 else nI 8), .int (nI 3), .ref (G.2.2.1 39)]) ?_ (fun cut => ?_)
    rotate_left
    · refine lv_if_eq (tgt := 103) hx hb dX12_putState_95 (by decide) (fun c_3 => ?_) (fun c_3 => ?_)
      · have c_3 := c_3
        refine lv_iconst (v := nI 0) hx hb dX12_putState_103 (by decide) ?_
        refine g_top (y := if sc 9 = 0 then nI 0 else nI 8) (by rw [if_pos c_3]) ?_
        exact cut () H locs ls ⟨hB, hl⟩
      · have c_3 := c_3
        refine lv_bipush (v := nI 8) hx hb dX12_putState_98 (by decide) ?_
        refine lv_goto (tgt := 104) hx hb dX12_putState_100 (by decide) ?_
        refine g_top (y := if sc 9 = 0 then nI 0 else nI 8) (by rw [if_neg c_3]) ?_
        exact cut () H locs ls ⟨hB, hl⟩
    rintro - H locs ls ⟨hB, hl⟩
    refine r_ast (u := (sc, va_up ar 39 (upd (ar 39) 2 (moK E Wt 3)))) (f := upd (ar 39) 2 (moK E Wt 3)) (x := if sc 9 = 0 then nI 0 else nI 8) (va_up ar 39 (upd (upd (ar 39) 2 (moK E Wt 3)) 3 (if sc 9 = 0 then nI 0 else nI 8))) hx hb hB 21 rfl 3 rfl (by omega) (by decide) rfl dX12_putState_104 (fun H locs hB => ?_)
    have hp4 := pfx_set (x := if sc 9 = 0 then nI 0 else nI 8) hp3 (show 3 < (lst.set 2 (moK E Wt 3)).length by rw [List.length_set]; omega)
    exact g_vret (Wd := rWs G) (sc, va_up ar 39 (upd (upd (ar 39) 2 (moK E Wt 3)) 3 (if sc 9 = 0 then nI 0 else nI 8))) hB hx hb hr hlocks rfl ⟨_, hp4, rfl⟩ dX12_putState_105
  · have c_2 : ¬ 4 ≤ (cl + 1) := fun h9 => c_2 ((nI_leI (a := 4) (b := (cl + 1)) (by omega) (by omega)).mpr h9)
    obtain ⟨e1, e2, e3⟩ := hE (cl + 1) (by omega) (by omega)
    refine lv_iconst (v := nI 0) hx hb dX12_putState_9 (by decide) ?_
    refine lv_istore_n (lv' := [(3, .int (nI 0)), (2, .int (nI (cl + 1))), (1, .int (moK E Wt cl)), (0, .ref G.2.1)]) hx hb dX12_putState_10 rfl hl (by decide) rfl (fun ls hl => ?_)
    refine lv_bipush (v := nI 8) hx hb dX12_putState_11 (by decide) ?_
    refine lv_iload_n hx hb dX12_putState_13 rfl (lv_at hl 1 rfl) ?_
    refine lv_imul hx hb dX12_putState_14 ?_
    refine g_top (y := nI (8 * (cl + 1))) (pk_mul _ _) ?_
    refine lv_istore (lv' := [(4, .int (nI (8 * (cl + 1)))), (3, .int (nI 0)), (2, .int (nI (cl + 1))), (1, .int (moK E Wt cl)), (0, .ref G.2.1)]) hx hb dX12_putState_15 hl (by decide) rfl (fun ls hl => ?_)
    have hl : lv_has ls 5 [(4, .int (nI (8 * (cl + 1) + 0))), (3, .int (nI (if Wt (cl + 1) < 0 then 1 else 0))), (2, .int (nI (cl + 1))), (1, .int (moK E Wt cl)), (0, .ref G.2.1)] := lv_sub hl [0, 1, 2, 3, 4] rfl
    have hB : gB G.1 (rT G) A s H locs (rWs G (sc, ar)) := hB
    refine g_loop (σ := Nat) (fun d xv H locs ls => (xv + d = (E (cl + 1)).length) ∧ gB G.1 (rT G) A s H locs (rWs G (sc, ar)) ∧ lv_has ls 5 [(4, .int (nI (8 * (cl + 1) + xv))), (3, .int (nI (if Wt (cl + 1) < xv then 1 else 0))), (2, .int (nI (cl + 1))), (1, .int (moK E Wt cl)), (0, .ref G.2.1)]) ((E (cl + 1)).length) (0) ⟨by omega, hB, hl⟩ ?_
    rintro d k H locs ls ⟨hk2, hB, hl⟩ ih_4
    have hk2 : k + d = (E (cl + 1)).length := hk2
    have hB : gB G.1 (rT G) A s H locs (rWs G (sc, ar)) := hB
    have hl : lv_has ls 5 [(4, .int (nI (8 * (cl + 1) + k))), (3, .int (nI (if Wt (cl + 1) < k then 1 else 0))), (2, .int (nI (cl + 1))), (1, .int (moK E Wt cl)), (0, .ref G.2.1)] := hl
    have hfl : (if Wt (cl + 1) < k then 1 else 0) ≤ 1 := by split <;> omega
    refine lv_iload hx hb dX12_putState_17 (lv_at hl 0 rfl) ?_
    refine lv_bipush (v := nI 8) hx hb dX12_putState_19 (by decide) ?_
    refine lv_iload_n hx hb dX12_putState_21 rfl (lv_at hl 2 rfl) ?_
    refine lv_imul hx hb dX12_putState_22 ?_
    refine g_top (y := nI (8 * (cl + 1))) (pk_mul _ _) ?_
    refine lv_aload_n hx hb dX12_putState_23 rfl (lv_at hl 4 rfl) ?_
    refine r_get (u := (sc, ar)) (v := .ref (G.2.2.1 4)) hx hb hts hin hown hB 4 (by decide) (hts (.fieldLink RX12 19 "PointReportsModel" "kept" "[I") (by decide +kernel)) rfl rfl dX12_putState_24 ?_
    refine lv_iload_n hx hb dX12_putState_27 rfl (lv_at hl 2 rfl) ?_
    refine r_ald (u := (sc, ar)) (f := ar 4) hx hb hB 4 rfl (cl + 1) rfl (by omega) (by decide) dX12_putState_28 ?_
    refine g_top (y := nI ((E (cl + 1)).length)) e1 ?_
    refine lv_iadd hx hb dX12_putState_29 ?_
    refine g_top (y := nI ((8 * (cl + 1)) + ((E (cl + 1)).length))) (nI_add _ _) ?_
    refine lv_icmp_ge (tgt := 59) hx hb dX12_putState_30 (by decide) (fun c_5 => ?_) (fun c_5 => ?_)
    · have c_5 : ((8 * (cl + 1)) + ((E (cl + 1)).length)) ≤ (8 * (cl + 1) + k) := (nI_leI (a := ((8 * (cl + 1)) + ((E (cl + 1)).length))) (b := (8 * (cl + 1) + k)) (by omega) (by omega)).mp c_5
      have hk9 : k = (E (cl + 1)).length := by omega
      refine lv_iload_n hx hb dX12_putState_59 rfl (lv_at hl 3 rfl) ?_
      refine lv_iload_n hx hb dX12_putState_60 rfl (lv_at hl 1 rfl) ?_
      refine g_cut (σ := Unit) 71 (fun _ H locs ls => gB G.1 (rT G) A s H locs (rWs G (sc, ar)) ∧ lv_has ls 5 [(4, .int (nI (8 * (cl + 1) + k))), (3, .int (nI (if Wt (cl + 1) < k then 1 else 0))), (2, .int (nI (cl + 1))), (1, .int (moK E Wt cl)), (0, .ref G.2.1)]) (fun _ => [.int (if Wt (cl + 1) < (E (cl + 1)).length then nI 1 <<< (nI (cl + 1) &&& 31) else nI 0), .int (moK E Wt cl)]) ?_ (fun cut => ?_)
      rotate_left
      · refine lv_if_eq (tgt := 70) hx hb dX12_putState_61 (by decide) (fun c_6 => ?_) (fun c_6 => ?_)
        · have c_6 : (if Wt (cl + 1) < k then 1 else 0) = 0 := (nI_eq (a := (if Wt (cl + 1) < k then 1 else 0)) (b := 0) (by omega) (by omega)).mp c_6
          refine lv_iconst (v := nI 0) hx hb dX12_putState_70 (by decide) ?_
          refine g_top (y := if Wt (cl + 1) < (E (cl + 1)).length then nI 1 <<< (nI (cl + 1) &&& 31) else nI 0) (by rw [if_neg (fun h9 => by rw [hk9, if_pos h9] at c_6; omega)]) ?_
          exact cut () H locs ls ⟨hB, hl⟩
        · have c_6 : ¬ (if Wt (cl + 1) < k then 1 else 0) = 0 := fun h9 => c_6 ((nI_eq (a := (if Wt (cl + 1) < k then 1 else 0)) (b := 0) (by omega) (by omega)).mpr h9)
          refine lv_iconst (v := nI 1) hx hb dX12_putState_64 (by decide) ?_
          refine lv_iload_n hx hb dX12_putState_65 rfl (lv_at hl 2 rfl) ?_
          refine lv_ishl hx hb dX12_putState_66 ?_
          refine lv_goto (tgt := 71) hx hb dX12_putState_67 (by decide) ?_
          refine g_top (y := if Wt (cl + 1) < (E (cl + 1)).length then nI 1 <<< (nI (cl + 1) &&& 31) else nI 0) (by rw [if_pos (Classical.byContradiction (fun h9 => c_6 (by rw [hk9, if_neg h9])))]) ?_
          exact cut () H locs ls ⟨hB, hl⟩
      rintro - H locs ls ⟨hB, hl⟩
      refine lv_iadd hx hb dX12_putState_71 ?_
      refine lv_istore_n (lv' := [(1, .int ((moK E Wt cl) + (if Wt (cl + 1) < (E (cl + 1)).length then nI 1 <<< (nI (cl + 1) &&& 31) else nI 0))), (4, .int (nI (8 * (cl + 1) + k))), (3, .int (nI (if Wt (cl + 1) < k then 1 else 0))), (2, .int (nI (cl + 1))), (0, .ref G.2.1)]) hx hb dX12_putState_72 rfl hl (by decide) rfl (fun ls hl => ?_)
      refine lv_iinc (v := nI (cl + 1 + 1)) (lv' := [(2, .int (nI (cl + 1 + 1))), (1, .int ((moK E Wt cl) + (if Wt (cl + 1) < (E (cl + 1)).length then nI 1 <<< (nI (cl + 1) &&& 31) else nI 0))), (4, .int (nI (8 * (cl + 1) + k))), (3, .int (nI (if Wt (cl + 1) < k then 1 else 0))), (0, .ref G.2.1)]) hx hb dX12_putState_73 hl (k := 3) rfl (nI_add _ _) (by decide) rfl (fun ls hl => ?_)
      refine lv_goto (tgt := 4) hx hb dX12_putState_76 (by decide) ?_
      have hl : lv_has ls 5 [(2, .int (nI ((cl + 1) + 1))), (1, .int (moK E Wt (cl + 1))), (0, .ref G.2.1)] := lv_sub hl [0, 1, 4] rfl
      have hB : gB G.1 (rT G) A s H locs (rWs G (sc, ar)) := hB
      have b_7 : (cl + 1) + (3 - (cl + 1)) = 3 := by omega
      exact ih_1 (3 - (cl + 1)) (cl + 1) H locs ls (by omega) ⟨b_7, hB, hl⟩
    · have c_5 : ¬ ((8 * (cl + 1)) + ((E (cl + 1)).length)) ≤ (8 * (cl + 1) + k) := fun h9 => c_5 ((nI_leI (a := ((8 * (cl + 1)) + ((E (cl + 1)).length))) (b := (8 * (cl + 1) + k)) (by omega) (by omega)).mpr h9)
      refine lv_iload_n hx hb dX12_putState_33 rfl (lv_at hl 1 rfl) ?_
      refine lv_if_ne (tgt := 47) hx hb dX12_putState_34 (by decide) (fun c_8 => ?_) (fun c_8 => ?_)
      · have c_8 : ¬ (if Wt (cl + 1) < k then 1 else 0) = 0 := fun h9 => c_8 ((nI_eq (a := (if Wt (cl + 1) < k then 1 else 0)) (b := 0) (by omega) (by omega)).mpr h9)
        have hw9 : Wt (cl + 1) < k := Classical.byContradiction (fun h9 => c_8 (by rw [if_neg h9]))
        refine lv_iconst (v := nI 1) hx hb dX12_putState_47 (by decide) ?_
        refine lv_goto (tgt := 52) hx hb dX12_putState_48 (by decide) ?_
        refine g_top (y := nI (if Wt (cl + 1) < k + 1 then 1 else 0)) (by rw [if_pos (by omega)]) ?_
        refine lv_istore_n (lv' := [(3, .int (nI (if Wt (cl + 1) < k + 1 then 1 else 0))), (4, .int (nI (8 * (cl + 1) + k))), (2, .int (nI (cl + 1))), (1, .int (moK E Wt cl)), (0, .ref G.2.1)]) hx hb dX12_putState_52 rfl hl (by decide) rfl (fun ls hl => ?_)
        refine lv_iinc (v := nI (8 * (cl + 1) + k + 1)) (lv' := [(4, .int (nI (8 * (cl + 1) + k + 1))), (3, .int (nI (if Wt (cl + 1) < k + 1 then 1 else 0))), (2, .int (nI (cl + 1))), (1, .int (moK E Wt cl)), (0, .ref G.2.1)]) hx hb dX12_putState_53 hl (k := 1) rfl (nI_add _ _) (by decide) rfl (fun ls hl => ?_)
        refine lv_goto (tgt := 17) hx hb dX12_putState_56 (by decide) ?_
        have hl : lv_has ls 5 [(4, .int (nI (8 * (cl + 1) + (k + 1)))), (3, .int (nI (if Wt (cl + 1) < (k + 1) then 1 else 0))), (2, .int (nI (cl + 1))), (1, .int (moK E Wt cl)), (0, .ref G.2.1)] := lv_sub hl [0, 1, 2, 3, 4] rfl
        have hB : gB G.1 (rT G) A s H locs (rWs G (sc, ar)) := hB
        have b_9 : (k + 1) + ((E (cl + 1)).length - (k + 1)) = (E (cl + 1)).length := by omega
        exact ih_4 ((E (cl + 1)).length - (k + 1)) (k + 1) H locs ls (by omega) ⟨b_9, hB, hl⟩
      · have c_8 : (if Wt (cl + 1) < k then 1 else 0) = 0 := (nI_eq (a := (if Wt (cl + 1) < k then 1 else 0)) (b := 0) (by omega) (by omega)).mp c_8
        have hw9 : ¬ Wt (cl + 1) < k := fun h9 => by rw [if_pos h9] at c_8; omega
        have ew := hW (cl + 1) (by omega) (by omega) k (by omega)
        refine lv_aload_n hx hb dX12_putState_37 rfl (lv_at hl 4 rfl) ?_
        refine r_get (u := (sc, ar)) (v := .ref (G.2.2.1 8)) hx hb hts hin hown hB 8 (by decide) (hts (.fieldLink RX12 31 "PointReportsModel" "waits" "[Z") (by decide +kernel)) rfl rfl dX12_putState_38 ?_
        refine lv_iload hx hb dX12_putState_41 (lv_at hl 0 rfl) ?_
        refine r_zald (u := (sc, ar)) (f := ar 8) hx hb hB 8 rfl (8 * (cl + 1) + k) rfl (by omega) (by decide) dX12_putState_43 ?_
        have ez : (ar 8 (8 * (cl + 1) + k)) = nI (if k < Wt (cl + 1) then 1 else 0) := by rw [ew]; split <;> rfl
        have ez2 : (if k < Wt (cl + 1) then 1 else 0) ≤ 1 := by split <;> omega
        refine g_top (y := nI (if k < Wt (cl + 1) then 1 else 0)) ez ?_
        refine lv_if_ne (tgt := 51) hx hb dX12_putState_44 (by decide) (fun c_10 => ?_) (fun c_10 => ?_)
        · have c_10 : ¬ (if k < Wt (cl + 1) then 1 else 0) = 0 := fun h9 => c_10 ((nI_eq (a := (if k < Wt (cl + 1) then 1 else 0)) (b := 0) (by omega) (by omega)).mpr h9)
          refine lv_iconst (v := nI 0) hx hb dX12_putState_51 (by decide) ?_
          refine g_top (y := nI (if Wt (cl + 1) < k + 1 then 1 else 0)) (by rw [if_neg (fun h9 => c_10 (by rw [if_neg (by omega)]))]) ?_
          refine lv_istore_n (lv' := [(3, .int (nI (if Wt (cl + 1) < k + 1 then 1 else 0))), (4, .int (nI (8 * (cl + 1) + k))), (2, .int (nI (cl + 1))), (1, .int (moK E Wt cl)), (0, .ref G.2.1)]) hx hb dX12_putState_52 rfl hl (by decide) rfl (fun ls hl => ?_)
          refine lv_iinc (v := nI (8 * (cl + 1) + k + 1)) (lv' := [(4, .int (nI (8 * (cl + 1) + k + 1))), (3, .int (nI (if Wt (cl + 1) < k + 1 then 1 else 0))), (2, .int (nI (cl + 1))), (1, .int (moK E Wt cl)), (0, .ref G.2.1)]) hx hb dX12_putState_53 hl (k := 1) rfl (nI_add _ _) (by decide) rfl (fun ls hl => ?_)
          refine lv_goto (tgt := 17) hx hb dX12_putState_56 (by decide) ?_
          have hl : lv_has ls 5 [(4, .int (nI (8 * (cl + 1) + (k + 1)))), (3, .int (nI (if Wt (cl + 1) < (k + 1) then 1 else 0))), (2, .int (nI (cl + 1))), (1, .int (moK E Wt cl)), (0, .ref G.2.1)] := lv_sub hl [0, 1, 2, 3, 4] rfl
          have hB : gB G.1 (rT G) A s H locs (rWs G (sc, ar)) := hB
          have b_11 : (k + 1) + ((E (cl + 1)).length - (k + 1)) = (E (cl + 1)).length := by omega
          exact ih_4 ((E (cl + 1)).length - (k + 1)) (k + 1) H locs ls (by omega) ⟨b_11, hB, hl⟩
        · have c_10 : (if k < Wt (cl + 1) then 1 else 0) = 0 := (nI_eq (a := (if k < Wt (cl + 1) then 1 else 0)) (b := 0) (by omega) (by omega)).mp c_10
          refine lv_iconst (v := nI 1) hx hb dX12_putState_47 (by decide) ?_
          refine lv_goto (tgt := 52) hx hb dX12_putState_48 (by decide) ?_
          refine g_top (y := nI (if Wt (cl + 1) < k + 1 then 1 else 0)) (by rw [if_pos (Classical.byContradiction (fun h9 => by rw [if_pos (by omega)] at c_10; omega))]) ?_
          refine lv_istore_n (lv' := [(3, .int (nI (if Wt (cl + 1) < k + 1 then 1 else 0))), (4, .int (nI (8 * (cl + 1) + k))), (2, .int (nI (cl + 1))), (1, .int (moK E Wt cl)), (0, .ref G.2.1)]) hx hb dX12_putState_52 rfl hl (by decide) rfl (fun ls hl => ?_)
          refine lv_iinc (v := nI (8 * (cl + 1) + k + 1)) (lv' := [(4, .int (nI (8 * (cl + 1) + k + 1))), (3, .int (nI (if Wt (cl + 1) < k + 1 then 1 else 0))), (2, .int (nI (cl + 1))), (1, .int (moK E Wt cl)), (0, .ref G.2.1)]) hx hb dX12_putState_53 hl (k := 1) rfl (nI_add _ _) (by decide) rfl (fun ls hl => ?_)
          refine lv_goto (tgt := 17) hx hb dX12_putState_56 (by decide) ?_
          have hl : lv_has ls 5 [(4, .int (nI (8 * (cl + 1) + (k + 1)))), (3, .int (nI (if Wt (cl + 1) < (k + 1) then 1 else 0))), (2, .int (nI (cl + 1))), (1, .int (moK E Wt cl)), (0, .ref G.2.1)] := lv_sub hl [0, 1, 2, 3, 4] rfl
          have hB : gB G.1 (rT G) A s H locs (rWs G (sc, ar)) := hB
          have b_12 : (k + 1) + ((E (cl + 1)).length - (k + 1)) = (E (cl + 1)).length := by omega
          exact ih_4 ((E (cl + 1)).length - (k + 1)) (k + 1) H locs ls (by omega) ⟨b_12, hB, hl⟩
