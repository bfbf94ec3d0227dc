theorem isRd_no {rd : List Nat} {a : Prop} (h : ¬ a) (hi : isRd rd → a) : ¬ isRd rd := fun z => h (hi z)
theorem evR_drop {ke po va ti ke2 po2 va2 ti2 : Nat → Int32} {E : evL} {c w : Nat} (h : evR ke po va ti E) (hc : 1 ≤ c) (h3 : c ≤ 3)
    (hk : ∀ x, ke2 x = if x = c then nI ((E c).length - w) else ke x)
    (h5 : ∀ z, po2 z = if 8 * c ≤ z ∧ z < 8 * c + ((E c).length - w) then po (z + w) else po z)
    (h6 : ∀ z, va2 z = if 8 * c ≤ z ∧ z < 8 * c + ((E c).length - w) then va (z + w) else va z)
    (h7 : ∀ z, ti2 z = if 8 * c ≤ z ∧ z < 8 * c + ((E c).length - w) then ti (z + w) else ti z) : evR ke2 po2 va2 ti2 (fun x => if x = c then (E x).drop w else E x) := by
  intro x hx hx3
  dsimp only
  by_cases hq : x = c
  · subst hq
    obtain ⟨e1, e2, e3⟩ := h x hx hx3
    rw [if_pos rfl]
    refine ⟨by rw [hk, if_pos rfl, List.length_drop], by rw [List.length_drop]; omega, fun k q hkq => ?_⟩
    rw [List.getElem?_drop] at hkq
    have hl := (List.getElem?_eq_some_iff.mp hkq).1
    obtain ⟨a1, a2, a3⟩ := e3 (w + k) q hkq
    have ez : 8 * x + k + w = 8 * x + (w + k) := by omega
    refine ⟨?_, ?_, ?_⟩
    · rw [h5, if_pos (by omega), ez]; exact a1
    · rw [h6, if_pos (by omega), ez]; exact a2
    · rw [h7, if_pos (by omega), ez]; exact a3
  · obtain ⟨e1, e2, e3⟩ := h x hx hx3
    rw [if_neg hq]
    refine ⟨by rw [hk, if_neg hq]; exact e1, e2, fun k q hkq => ?_⟩
    have hl := (List.getElem?_eq_some_iff.mp hkq).1
    obtain ⟨a1, a2, a3⟩ := e3 k q hkq
    have l8 := (h c hc h3).2.1
    refine ⟨?_, ?_, ?_⟩
    · rw [h5, if_neg (by omega)]; exact a1
    · rw [h6, if_neg (by omega)]; exact a2
    · rw [h7, if_neg (by omega)]; exact a3
theorem evR_ext {ke po va ti : Nat → Int32} {E E2 : evL} (h : evR ke po va ti E) (he : ∀ c, 1 ≤ c → c ≤ 3 → E c = E2 c) : evR ke po va ti E2 := fun c h1 h3 => by rw [← he c h1 h3]; exact h c h1 h3
set_option maxRecDepth 100000 in
set_option maxHeartbeats 4000000 in
/-- isRead() -/
theorem c_isRead (l : Launch) (G : rG) (sc : Nat → Int32) (ar : Nat → Nat → Int32) (rd : List Nat) (hrd : pfxN (ar 41) rd) (h42 : sc 42 = nI rd.length) (hr4 : rd.length ≤ 400) (hr2 : 2 ≤ rd.length) : gM l G.1 (rT G) yX12_isRead wsX12_isRead ({ frames := 0, cells := 0, slots := 0, locals := 0 }) [.ref G.2.1] (rWs G (sc, ar)) (gQi G.1 (rT G) (fun (r : Int32) (u : rSt) => ((r = nI 1 ∧ isRd rd) ∨ (r = nI 0 ∧ ¬ isRd rd)) ∧ u = (sc, ar)) (rWs G)) 0 0 := by
  refine gM.of (cc := cX12_isRead) (maxL := 3) (ret := (some .boolean)) (by decide) rfl (Nat.le_of_ble_eq_true rfl) ?_
  intro p e s m below meth c A ls hx hb hr hml hown hts hlocks hnm hB hl
  have hin : ∀ w ∈ wsX120, w ∈ wsX12_isRead := fun w h => List.mem_cons_of_mem _ (List.mem_append_right _ h)
  have hl : lv_has ls 3 [(0, .ref G.2.1)] := hl
  refine lv_aload_n hx hb dX12_isRead_0 rfl (lv_at hl 0 rfl) ?_
  refine r_get (u := (sc, ar)) (v := .ref (G.2.2.1 41)) hx hb hts hin hown hB 41 (by decide) (hts (.fieldLink RX12 78 "PointReportsModel" "read" "[I") (by decide +kernel)) rfl rfl dX12_isRead_1 ?_
  refine lv_iconst (v := nI 1) hx hb dX12_isRead_4 (by decide) ?_
  refine r_ald (u := (sc, ar)) (f := ar 41) hx hb hB 22 rfl 1 rfl (by omega) (by decide) dX12_isRead_5 ?_
  have q6 := hrd (1) (by omega)
  refine g_top (y := nI (rd.getD (1) 0)) q6.1 ?_
  have q6 := q6.2
  refine lv_iconst (v := nI 1) hx hb dX12_isRead_6 (by decide) ?_
  refine lv_icmp_ne (tgt := 53) hx hb dX12_isRead_7 (by decide) (fun c_1 => ?_) (fun c_1 => ?_)
  · have c_1 : ¬ (rd.getD (1) 0) = 1 := fun h9 => c_1 ((nI_eq (a := (rd.getD (1) 0)) (b := 1) (by omega) (by omega)).mpr h9)
    have hno : ¬ isRd rd := fun z => c_1 (by have := z.1; omega)
    refine lv_iconst (v := nI 0) hx hb dX12_isRead_53 (by decide) ?_
    refine lv_istore_n (lv' := [(1, .int (nI 0)), (0, .ref G.2.1)]) hx hb dX12_isRead_54 rfl hl (by decide) rfl (fun ls hl => ?_)
    refine lv_iconst (v := nI 2) hx hb dX12_isRead_55 (by decide) ?_
    refine lv_istore_n (lv' := [(2, .int (nI 2)), (1, .int (nI 0)), (0, .ref G.2.1)]) hx hb dX12_isRead_56 rfl hl (by decide) rfl (fun ls hl => ?_)
    refine lv_iload_n hx hb dX12_isRead_57 rfl (lv_at hl 0 rfl) ?_
    refine lv_aload_n hx hb dX12_isRead_58 rfl (lv_at hl 2 rfl) ?_
    refine r_get (u := (sc, ar)) (v := .int (sc 42)) hx hb hts hin hown hB 42 (by decide) (hts (.fieldLink RX12 127 "PointReportsModel" "readLength" "I") (by decide +kernel)) rfl rfl dX12_isRead_59 ?_
    refine g_top (y := nI rd.length) h42 ?_
    refine lv_icmp_ge (tgt := 129) hx hb dX12_isRead_62 (by decide) (fun c_2 => ?_) (fun c_2 => ?_)
    · have c_2 : rd.length ≤ 2 := (nI_leI (a := rd.length) (b := 2) (by omega) (by omega)).mp c_2
      refine lv_iload_n hx hb dX12_isRead_129 rfl (lv_at hl 1 rfl) ?_
      exact g_zret (Wd := rWs G) (v := nI 0) (sc, ar) hB hx hb hr hlocks rfl (narrow_z (Or.inl rfl)) ⟨Or.inr ⟨rfl, hno⟩, rfl⟩ dX12_isRead_130
    · have c_2 : ¬ rd.length ≤ 2 := fun h9 => c_2 ((nI_leI (a := rd.length) (b := 2) (by omega) (by omega)).mpr h9)
      refine lv_iload_n hx hb dX12_isRead_65 rfl (lv_at hl 1 rfl) ?_
      refine lv_if_eq (tgt := 129) hx hb dX12_isRead_66 (by decide) (fun c_3 => ?_) (fun c_3 => ?_)
      · have c_3 : 0 = 0 := (nI_eq (a := 0) (b := 0) (by omega) (by omega)).mp c_3
        refine lv_iload_n hx hb dX12_isRead_129 rfl (lv_at hl 1 rfl) ?_
        exact g_zret (Wd := rWs G) (v := nI 0) (sc, ar) hB hx hb hr hlocks rfl (narrow_z (Or.inl rfl)) ⟨Or.inr ⟨rfl, hno⟩, rfl⟩ dX12_isRead_130
      · have c_3 : ¬ 0 = 0 := fun h9 => c_3 ((nI_eq (a := 0) (b := 0) (by omega) (by omega)).mpr h9)
        exact absurd rfl c_3
  · have c_1 : (rd.getD (1) 0) = 1 := (nI_eq (a := (rd.getD (1) 0)) (b := 1) (by omega) (by omega)).mp c_1
    refine lv_aload_n hx hb dX12_isRead_10 rfl (lv_at hl 0 rfl) ?_
    refine r_get (u := (sc, ar)) (v := .ref (G.2.2.1 41)) hx hb hts hin hown hB 41 (by decide) (hts (.fieldLink RX12 78 "PointReportsModel" "read" "[I") (by decide +kernel)) rfl rfl dX12_isRead_11 ?_
    refine lv_iconst (v := nI 0) hx hb dX12_isRead_14 (by decide) ?_
    refine r_ald (u := (sc, ar)) (f := ar 41) hx hb hB 22 rfl 0 rfl (by omega) (by decide) dX12_isRead_15 ?_
    have q16 := hrd (0) (by omega)
    refine g_top (y := nI (rd.getD (0) 0)) q16.1 ?_
    have q16 := q16.2
    refine lv_bipush (v := nI 16) hx hb dX12_isRead_16 (by decide) ?_
    refine lv_iand hx hb dX12_isRead_18 ?_
    refine g_top (y := nI (rd.getD 0 0 &&& 16)) (nx_and _ _) ?_
    have l16 : rd.getD 0 0 &&& 16 < 256 := Nat.lt_of_le_of_lt Nat.and_le_left (by omega)
    refine lv_if_ne (tgt := 53) hx hb dX12_isRead_19 (by decide) (fun c_4 => ?_) (fun c_4 => ?_)
    · have c_4 : ¬ (rd.getD 0 0 &&& 16) = 0 := fun h9 => c_4 ((nI_eq (a := (rd.getD 0 0 &&& 16)) (b := 0) (by omega) (by omega)).mpr h9)
      have hno : ¬ isRd rd := fun z => c_4 z.2.1
      refine lv_iconst (v := nI 0) hx hb dX12_isRead_53 (by decide) ?_
      refine lv_istore_n (lv' := [(1, .int (nI 0)), (0, .ref G.2.1)]) hx hb dX12_isRead_54 rfl hl (by decide) rfl (fun ls hl => ?_)
      refine lv_iconst (v := nI 2) hx hb dX12_isRead_55 (by decide) ?_
      refine lv_istore_n (lv' := [(2, .int (nI 2)), (1, .int (nI 0)), (0, .ref G.2.1)]) hx hb dX12_isRead_56 rfl hl (by decide) rfl (fun ls hl => ?_)
      refine lv_iload_n hx hb dX12_isRead_57 rfl (lv_at hl 0 rfl) ?_
      refine lv_aload_n hx hb dX12_isRead_58 rfl (lv_at hl 2 rfl) ?_
      refine r_get (u := (sc, ar)) (v := .int (sc 42)) hx hb hts hin hown hB 42 (by decide) (hts (.fieldLink RX12 127 "PointReportsModel" "readLength" "I") (by decide +kernel)) rfl rfl dX12_isRead_59 ?_
      refine g_top (y := nI rd.length) h42 ?_
      refine lv_icmp_ge (tgt := 129) hx hb dX12_isRead_62 (by decide) (fun c_5 => ?_) (fun c_5 => ?_)
      · have c_5 : rd.length ≤ 2 := (nI_leI (a := rd.length) (b := 2) (by omega) (by omega)).mp c_5
        refine lv_iload_n hx hb dX12_isRead_129 rfl (lv_at hl 1 rfl) ?_
        exact g_zret (Wd := rWs G) (v := nI 0) (sc, ar) hB hx hb hr hlocks rfl (narrow_z (Or.inl rfl)) ⟨Or.inr ⟨rfl, hno⟩, rfl⟩ dX12_isRead_130
      · have c_5 : ¬ rd.length ≤ 2 := fun h9 => c_5 ((nI_leI (a := rd.length) (b := 2) (by omega) (by omega)).mpr h9)
        refine lv_iload_n hx hb dX12_isRead_65 rfl (lv_at hl 1 rfl) ?_
        refine lv_if_eq (tgt := 129) hx hb dX12_isRead_66 (by decide) (fun c_6 => ?_) (fun c_6 => ?_)
        · have c_6 : 0 = 0 := (nI_eq (a := 0) (b := 0) (by omega) (by omega)).mp c_6
          refine lv_iload_n hx hb dX12_isRead_129 rfl (lv_at hl 1 rfl) ?_
          exact g_zret (Wd := rWs G) (v := nI 0) (sc, ar) hB hx hb hr hlocks rfl (narrow_z (Or.inl rfl)) ⟨Or.inr ⟨rfl, hno⟩, rfl⟩ dX12_isRead_130
        · have c_6 : ¬ 0 = 0 := fun h9 => c_6 ((nI_eq (a := 0) (b := 0) (by omega) (by omega)).mpr h9)
          exact absurd rfl c_6
    · have c_4 : (rd.getD 0 0 &&& 16) = 0 := (nI_eq (a := (rd.getD 0 0 &&& 16)) (b := 0) (by omega) (by omega)).mp c_4
      refine lv_aload_n hx hb dX12_isRead_22 rfl (lv_at hl 0 rfl) ?_
      refine r_get (u := (sc, ar)) (v := .int (sc 42)) hx hb hts hin hown hB 42 (by decide) (hts (.fieldLink RX12 127 "PointReportsModel" "readLength" "I") (by decide +kernel)) rfl rfl dX12_isRead_23 ?_
      refine g_top (y := nI rd.length) h42 ?_
      refine lv_iconst (v := nI 5) hx hb dX12_isRead_26 (by decide) ?_
      refine lv_icmp_lt (tgt := 53) hx hb dX12_isRead_27 (by decide) (fun c_7 => ?_) (fun c_7 => ?_)
      · have c_7 : rd.length < 5 := (nI_ltI (a := rd.length) (b := 5) (by omega) (by omega)).mp c_7
        have hno : ¬ isRd rd := fun z => by have := z.2.2.1; omega
        refine lv_iconst (v := nI 0) hx hb dX12_isRead_53 (by decide) ?_
        refine lv_istore_n (lv' := [(1, .int (nI 0)), (0, .ref G.2.1)]) hx hb dX12_isRead_54 rfl hl (by decide) rfl (fun ls hl => ?_)
        refine lv_iconst (v := nI 2) hx hb dX12_isRead_55 (by decide) ?_
        refine lv_istore_n (lv' := [(2, .int (nI 2)), (1, .int (nI 0)), (0, .ref G.2.1)]) hx hb dX12_isRead_56 rfl hl (by decide) rfl (fun ls hl => ?_)
        refine lv_iload_n hx hb dX12_isRead_57 rfl (lv_at hl 0 rfl) ?_
        refine lv_aload_n hx hb dX12_isRead_58 rfl (lv_at hl 2 rfl) ?_
        refine r_get (u := (sc, ar)) (v := .int (sc 42)) hx hb hts hin hown hB 42 (by decide) (hts (.fieldLink RX12 127 "PointReportsModel" "readLength" "I") (by decide +kernel)) rfl rfl dX12_isRead_59 ?_
        refine g_top (y := nI rd.length) h42 ?_
        refine lv_icmp_ge (tgt := 129) hx hb dX12_isRead_62 (by decide) (fun c_8 => ?_) (fun c_8 => ?_)
        · have c_8 : rd.length ≤ 2 := (nI_leI (a := rd.length) (b := 2) (by omega) (by omega)).mp c_8
          refine lv_iload_n hx hb dX12_isRead_129 rfl (lv_at hl 1 rfl) ?_
          exact g_zret (Wd := rWs G) (v := nI 0) (sc, ar) hB hx hb hr hlocks rfl (narrow_z (Or.inl rfl)) ⟨Or.inr ⟨rfl, hno⟩, rfl⟩ dX12_isRead_130
        · have c_8 : ¬ rd.length ≤ 2 := fun h9 => c_8 ((nI_leI (a := rd.length) (b := 2) (by omega) (by omega)).mpr h9)
          refine lv_iload_n hx hb dX12_isRead_65 rfl (lv_at hl 1 rfl) ?_
          refine lv_if_eq (tgt := 129) hx hb dX12_isRead_66 (by decide) (fun c_9 => ?_) (fun c_9 => ?_)
          · have c_9 : 0 = 0 := (nI_eq (a := 0) (b := 0) (by omega) (by omega)).mp c_9
            refine lv_iload_n hx hb dX12_isRead_129 rfl (lv_at hl 1 rfl) ?_
            exact g_zret (Wd := rWs G) (v := nI 0) (sc, ar) hB hx hb hr hlocks rfl (narrow_z (Or.inl rfl)) ⟨Or.inr ⟨rfl, hno⟩, rfl⟩ dX12_isRead_130
          · have c_9 : ¬ 0 = 0 := fun h9 => c_9 ((nI_eq (a := 0) (b := 0) (by omega) (by omega)).mpr h9)
            exact absurd rfl c_9
      · have c_7 : ¬ rd.length < 5 := fun h9 => c_7 ((nI_ltI (a := rd.length) (b := 5) (by omega) (by omega)).mpr h9)
        refine lv_aload_n hx hb dX12_isRead_30 rfl (lv_at hl 0 rfl) ?_
        refine r_get (u := (sc, ar)) (v := .int (sc 42)) hx hb hts hin hown hB 42 (by decide) (hts (.fieldLink RX12 127 "PointReportsModel" "readLength" "I") (by decide +kernel)) rfl rfl dX12_isRead_31 ?_
        refine g_top (y := nI rd.length) h42 ?_
        refine lv_bipush (v := nI 14) hx hb dX12_isRead_34 (by decide) ?_
        refine lv_icmp_gt (tgt := 53) hx hb dX12_isRead_36 (by decide) (fun c_10 => ?_) (fun c_10 => ?_)
        · have c_10 : 14 < rd.length := (nI_ltI (a := 14) (b := rd.length) (by omega) (by omega)).mp c_10
          have hno : ¬ isRd rd := fun z => by have := z.2.2.2.1; omega
          refine lv_iconst (v := nI 0) hx hb dX12_isRead_53 (by decide) ?_
          refine lv_istore_n (lv' := [(1, .int (nI 0)), (0, .ref G.2.1)]) hx hb dX12_isRead_54 rfl hl (by decide) rfl (fun ls hl => ?_)
          refine lv_iconst (v := nI 2) hx hb dX12_isRead_55 (by decide) ?_
          refine lv_istore_n (lv' := [(2, .int (nI 2)), (1, .int (nI 0)), (0, .ref G.2.1)]) hx hb dX12_isRead_56 rfl hl (by decide) rfl (fun ls hl => ?_)
          refine lv_iload_n hx hb dX12_isRead_57 rfl (lv_at hl 0 rfl) ?_
          refine lv_aload_n hx hb dX12_isRead_58 rfl (lv_at hl 2 rfl) ?_
          refine r_get (u := (sc, ar)) (v := .int (sc 42)) hx hb hts hin hown hB 42 (by decide) (hts (.fieldLink RX12 127 "PointReportsModel" "readLength" "I") (by decide +kernel)) rfl rfl dX12_isRead_59 ?_
          refine g_top (y := nI rd.length) h42 ?_
          refine lv_icmp_ge (tgt := 129) hx hb dX12_isRead_62 (by decide) (fun c_11 => ?_) (fun c_11 => ?_)
          · have c_11 : rd.length ≤ 2 := (nI_leI (a := rd.length) (b := 2) (by omega) (by omega)).mp c_11
            refine lv_iload_n hx hb dX12_isRead_129 rfl (lv_at hl 1 rfl) ?_
            exact g_zret (Wd := rWs G) (v := nI 0) (sc, ar) hB hx hb hr hlocks rfl (narrow_z (Or.inl rfl)) ⟨Or.inr ⟨rfl, hno⟩, rfl⟩ dX12_isRead_130
          · have c_11 : ¬ rd.length ≤ 2 := fun h9 => c_11 ((nI_leI (a := rd.length) (b := 2) (by omega) (by omega)).mpr h9)
            refine lv_iload_n hx hb dX12_isRead_65 rfl (lv_at hl 1 rfl) ?_
            refine lv_if_eq (tgt := 129) hx hb dX12_isRead_66 (by decide) (fun c_12 => ?_) (fun c_12 => ?_)
            · have c_12 : 0 = 0 := (nI_eq (a := 0) (b := 0) (by omega) (by omega)).mp c_12
              refine lv_iload_n hx hb dX12_isRead_129 rfl (lv_at hl 1 rfl) ?_
              exact g_zret (Wd := rWs G) (v := nI 0) (sc, ar) hB hx hb hr hlocks rfl (narrow_z (Or.inl rfl)) ⟨Or.inr ⟨rfl, hno⟩, rfl⟩ dX12_isRead_130
            · have c_12 : ¬ 0 = 0 := fun h9 => c_12 ((nI_eq (a := 0) (b := 0) (by omega) (by omega)).mpr h9)
              exact absurd rfl c_12
        · have c_10 : ¬ 14 < rd.length := fun h9 => c_10 ((nI_ltI (a := 14) (b := rd.length) (by omega) (by omega)).mpr h9)
          refine lv_aload_n hx hb dX12_isRead_39 rfl (lv_at hl 0 rfl) ?_
          refine r_get (u := (sc, ar)) (v := .int (sc 42)) hx hb hts hin hown hB 42 (by decide) (hts (.fieldLink RX12 127 "PointReportsModel" "readLength" "I") (by decide +kernel)) rfl rfl dX12_isRead_40 ?_
          refine g_top (y := nI rd.length) h42 ?_
          refine lv_iconst (v := nI 3) hx hb dX12_isRead_43 (by decide) ?_
          refine lv_irem hx hb dX12_isRead_44 (by decide) ?_
          refine g_top (y := nI (rd.length % 3)) (pk_rem (by omega) (by decide) (by decide)) ?_
          refine lv_iconst (v := nI 2) hx hb dX12_isRead_45 (by decide) ?_
          refine lv_icmp_ne (tgt := 53) hx hb dX12_isRead_46 (by decide) (fun c_13 => ?_) (fun c_13 => ?_)
          · have c_13 : ¬ (rd.length % 3) = 2 := fun h9 => c_13 ((nI_eq (a := (rd.length % 3)) (b := 2) (by omega) (by omega)).mpr h9)
            have hno : ¬ isRd rd := fun z => by have := z.2.2.2.2.1; omega
            refine lv_iconst (v := nI 0) hx hb dX12_isRead_53 (by decide) ?_
            refine lv_istore_n (lv' := [(1, .int (nI 0)), (0, .ref G.2.1)]) hx hb dX12_isRead_54 rfl hl (by decide) rfl (fun ls hl => ?_)
            refine lv_iconst (v := nI 2) hx hb dX12_isRead_55 (by decide) ?_
            refine lv_istore_n (lv' := [(2, .int (nI 2)), (1, .int (nI 0)), (0, .ref G.2.1)]) hx hb dX12_isRead_56 rfl hl (by decide) rfl (fun ls hl => ?_)
            refine lv_iload_n hx hb dX12_isRead_57 rfl (lv_at hl 0 rfl) ?_
            refine lv_aload_n hx hb dX12_isRead_58 rfl (lv_at hl 2 rfl) ?_
            refine r_get (u := (sc, ar)) (v := .int (sc 42)) hx hb hts hin hown hB 42 (by decide) (hts (.fieldLink RX12 127 "PointReportsModel" "readLength" "I") (by decide +kernel)) rfl rfl dX12_isRead_59 ?_
            refine g_top (y := nI rd.length) h42 ?_
            refine lv_icmp_ge (tgt := 129) hx hb dX12_isRead_62 (by decide) (fun c_14 => ?_) (fun c_14 => ?_)
            · have c_14 : rd.length ≤ 2 := (nI_leI (a := rd.length) (b := 2) (by omega) (by omega)).mp c_14
              refine lv_iload_n hx hb dX12_isRead_129 rfl (lv_at hl 1 rfl) ?_
              exact g_zret (Wd := rWs G) (v := nI 0) (sc, ar) hB hx hb hr hlocks rfl (narrow_z (Or.inl rfl)) ⟨Or.inr ⟨rfl, hno⟩, rfl⟩ dX12_isRead_130
            · have c_14 : ¬ rd.length ≤ 2 := fun h9 => c_14 ((nI_leI (a := rd.length) (b := 2) (by omega) (by omega)).mpr h9)
              refine lv_iload_n hx hb dX12_isRead_65 rfl (lv_at hl 1 rfl) ?_
              refine lv_if_eq (tgt := 129) hx hb dX12_isRead_66 (by decide) (fun c_15 => ?_) (fun c_15 => ?_)
              · have c_15 : 0 = 0 := (nI_eq (a := 0) (b := 0) (by omega) (by omega)).mp c_15
                refine lv_iload_n hx hb dX12_isRead_129 rfl (lv_at hl 1 rfl) ?_
                exact g_zret (Wd := rWs G) (v := nI 0) (sc, ar) hB hx hb hr hlocks rfl (narrow_z (Or.inl rfl)) ⟨Or.inr ⟨rfl, hno⟩, rfl⟩ dX12_isRead_130
              · have c_15 : ¬ 0 = 0 := fun h9 => c_15 ((nI_eq (a := 0) (b := 0) (by omega) (by omega)).mpr h9)
                exact absurd rfl c_15
          · have c_13 : (rd.length % 3) = 2 := (nI_eq (a := (rd.length % 3)) (b := 2) (by omega) (by omega)).mp c_13
            refine lv_iconst (v := nI 1) hx hb dX12_isRead_49 (by decide) ?_
            refine lv_goto (tgt := 54) hx hb dX12_isRead_50 (by decide) ?_
            refine lv_istore_n (lv' := [(1, .int (nI 1)), (0, .ref G.2.1)]) hx hb dX12_isRead_54 rfl hl (by decide) rfl (fun ls hl => ?_)
            refine lv_iconst (v := nI 2) hx hb dX12_isRead_55 (by decide) ?_
            refine lv_istore_n (lv' := [(2, .int (nI 2)), (1, .int (nI 1)), (0, .ref G.2.1)]) hx hb dX12_isRead_56 rfl hl (by decide) rfl (fun ls hl => ?_)
            obtain ⟨n3, hn3⟩ : ∃ z, rd.length = 3 * z + 2 := ⟨(rd.length - 2) / 3, by omega⟩
            have hl : lv_has ls 3 [(2, .int (nI (3 * 0 + 2))), (1, .int (nI (rqF rd 0))), (0, .ref G.2.1)] := lv_sub hl [0, 1, 2] rfl
            have hB : gB G.1 (rT G) A s s.heap [] (rWs G (sc, ar)) := hB
            refine g_loop (σ := Nat) (fun d xv H locs ls => (xv + d = n3) ∧ gB G.1 (rT G) A s H locs (rWs G (sc, ar)) ∧ lv_has ls 3 [(2, .int (nI (3 * xv + 2))), (1, .int (nI (rqF rd xv))), (0, .ref G.2.1)]) n3 (0) ⟨by omega, hB, hl⟩ ?_
            rintro d k H locs ls ⟨hk, hB, hl⟩ ih_16
            have hk : k + d = n3 := hk
            have hB : gB G.1 (rT G) A s H locs (rWs G (sc, ar)) := hB
            have hl : lv_has ls 3 [(2, .int (nI (3 * k + 2))), (1, .int (nI (rqF rd k))), (0, .ref G.2.1)] := hl
            have l1 := rqF_le rd k
            have hn4 : (rd.length - 2) / 3 = n3 := by omega
            refine lv_iload_n hx hb dX12_isRead_57 rfl (lv_at hl 0 rfl) ?_
            refine lv_aload_n hx hb dX12_isRead_58 rfl (lv_at hl 2 rfl) ?_
            refine r_get (u := (sc, ar)) (v := .int (sc 42)) hx hb hts hin hown hB 42 (by decide) (hts (.fieldLink RX12 127 "PointReportsModel" "readLength" "I") (by decide +kernel)) rfl rfl dX12_isRead_59 ?_
            refine g_top (y := nI rd.length) h42 ?_
            refine lv_icmp_ge (tgt := 129) hx hb dX12_isRead_62 (by decide) (fun c_17 => ?_) (fun c_17 => ?_)
            · have c_17 : rd.length ≤ (3 * k + 2) := (nI_leI (a := rd.length) (b := (3 * k + 2)) (by omega) (by omega)).mp c_17
              have hk9 : k = n3 := by omega
              refine lv_iload_n hx hb dX12_isRead_129 rfl (lv_at hl 1 rfl) ?_
              have hend : (nI (rqF rd k) = nI 1 ∧ isRd rd) ∨ (nI (rqF rd k) = nI 0 ∧ ¬ isRd rd) := by
                by_cases h9 : rqF rd k = 1
                · exact Or.inl ⟨by rw [h9], by omega, c_4, by omega, by omega, by omega, by rw [hn4, ← hk9]; exact h9⟩
                · exact Or.inr ⟨by rw [show rqF rd k = 0 by omega], fun z => h9 (by have z6 := z.2.2.2.2.2; rw [hn4, ← hk9] at z6; exact z6)⟩
              exact g_zret (Wd := rWs G) (v := nI (rqF rd k)) (sc, ar) hB hx hb hr hlocks rfl (narrow_z (by rcases (show rqF rd k = 0 ∨ rqF rd k = 1 by omega) with h | h <;> rw [h]; exact Or.inl rfl; exact Or.inr rfl)) ⟨hend, rfl⟩ dX12_isRead_130
            · have c_17 : ¬ rd.length ≤ (3 * k + 2) := fun h9 => c_17 ((nI_leI (a := rd.length) (b := (3 * k + 2)) (by omega) (by omega)).mpr h9)
              refine lv_iload_n hx hb dX12_isRead_65 rfl (lv_at hl 1 rfl) ?_
              refine lv_if_eq (tgt := 129) hx hb dX12_isRead_66 (by decide) (fun c_18 => ?_) (fun c_18 => ?_)
              · have c_18 : (rqF rd k) = 0 := (nI_eq (a := (rqF rd k)) (b := 0) (by omega) (by omega)).mp c_18
                have hno : ¬ isRd rd := fun z => rqF_dead (k := k) (by omega) ((rd.length - 2) / 3) (by omega) z.2.2.2.2.2
                refine lv_iload_n hx hb dX12_isRead_129 rfl (lv_at hl 1 rfl) ?_
                refine g_top (y := nI 0) (by rw [c_18]) ?_
                exact g_zret (Wd := rWs G) (v := nI 0) (sc, ar) hB hx hb hr hlocks rfl (narrow_z (Or.inl rfl)) ⟨Or.inr ⟨rfl, hno⟩, rfl⟩ dX12_isRead_130
              · have c_18 : ¬ (rqF rd k) = 0 := fun h9 => c_18 ((nI_eq (a := (rqF rd k)) (b := 0) (by omega) (by omega)).mpr h9)
                refine lv_aload_n hx hb dX12_isRead_69 rfl (lv_at hl 2 rfl) ?_
                refine r_get (u := (sc, ar)) (v := .ref (G.2.2.1 41)) hx hb hts hin hown hB 41 (by decide) (hts (.fieldLink RX12 78 "PointReportsModel" "read" "[I") (by decide +kernel)) rfl rfl dX12_isRead_70 ?_
                refine lv_iload_n hx hb dX12_isRead_73 rfl (lv_at hl 0 rfl) ?_
                refine r_ald (u := (sc, ar)) (f := ar 41) hx hb hB 22 rfl (3 * k + 2) rfl (by omega) (by decide) dX12_isRead_74 ?_
                have q75 := hrd (3 * k + 2) (by omega)
                refine g_top (y := nI (rd.getD (3 * k + 2) 0)) q75.1 ?_
                have q75 := q75.2
                refine lv_bipush (v := nI 60) hx hb dX12_isRead_75 (by decide) ?_
                refine lv_icmp_ne (tgt := 121) hx hb dX12_isRead_77 (by decide) (fun c_19 => ?_) (fun c_19 => ?_)
                · have c_19 : ¬ (rd.getD (3 * k + 2) 0) = 60 := fun h9 => c_19 ((nI_eq (a := (rd.getD (3 * k + 2) 0)) (b := 60) (by omega) (by omega)).mpr h9)
                  refine lv_iconst (v := nI 0) hx hb dX12_isRead_121 (by decide) ?_
                  refine g_top (y := nI (rqF rd (k + 1))) (by rw [rqF, if_neg (fun z => by have := z.2.1; omega)]) ?_
                  refine lv_istore_n (lv' := [(1, .int (nI (rqF rd (k + 1)))), (2, .int (nI (3 * k + 2))), (0, .ref G.2.1)]) hx hb dX12_isRead_122 rfl hl (by decide) rfl (fun ls hl => ?_)
                  refine lv_iinc (v := nI (3 * k + 2 + 3)) (lv' := [(2, .int (nI (3 * k + 2 + 3))), (1, .int (nI (rqF rd (k + 1)))), (0, .ref G.2.1)]) hx hb dX12_isRead_123 hl (k := 1) rfl (nI_add _ _) (by decide) rfl (fun ls hl => ?_)
                  refine lv_goto (tgt := 57) hx hb dX12_isRead_126 (by decide) ?_
                  have hl : lv_has ls 3 [(2, .int (nI (3 * (k + 1) + 2))), (1, .int (nI (rqF rd (k + 1)))), (0, .ref G.2.1)] := lv_sub hl [0, 1, 2] rfl
                  have hB : gB G.1 (rT G) A s H locs (rWs G (sc, ar)) := hB
                  have b_20 : (k + 1) + (n3 - (k + 1)) = n3 := by omega
                  exact ih_16 (n3 - (k + 1)) (k + 1) H locs ls (by omega) ⟨b_20, hB, hl⟩
                · have c_19 : (rd.getD (3 * k + 2) 0) = 60 := (nI_eq (a := (rd.getD (3 * k + 2) 0)) (b := 60) (by omega) (by omega)).mp c_19
                  refine lv_aload_n hx hb dX12_isRead_80 rfl (lv_at hl 2 rfl) ?_
                  refine r_get (u := (sc, ar)) (v := .ref (G.2.2.1 41)) hx hb hts hin hown hB 41 (by decide) (hts (.fieldLink RX12 78 "PointReportsModel" "read" "[I") (by decide +kernel)) rfl rfl dX12_isRead_81 ?_
                  refine lv_iload_n hx hb dX12_isRead_84 rfl (lv_at hl 0 rfl) ?_
                  refine lv_iconst (v := nI 1) hx hb dX12_isRead_85 (by decide) ?_
                  refine lv_iadd hx hb dX12_isRead_86 ?_
                  refine g_top (y := nI ((3 * k + 2) + 1)) (nI_add _ _) ?_
                  refine r_ald (u := (sc, ar)) (f := ar 41) hx hb hB 22 rfl ((3 * k + 2) + 1) rfl (by omega) (by decide) dX12_isRead_87 ?_
                  have q88 := hrd (3 * k + 3) (by omega)
                  refine g_top (y := nI (rd.getD (3 * k + 3) 0)) q88.1 ?_
                  have q88 := q88.2
                  refine lv_iconst (v := nI 1) hx hb dX12_isRead_88 (by decide) ?_
                  refine lv_icmp_lt (tgt := 121) hx hb dX12_isRead_89 (by decide) (fun c_21 => ?_) (fun c_21 => ?_)
                  · have c_21 : (rd.getD (3 * k + 3) 0) < 1 := (nI_ltI (a := (rd.getD (3 * k + 3) 0)) (b := 1) (by omega) (by omega)).mp c_21
                    refine lv_iconst (v := nI 0) hx hb dX12_isRead_121 (by decide) ?_
                    refine g_top (y := nI (rqF rd (k + 1))) (by rw [rqF, if_neg (fun z => by have := z.2.2.1; omega)]) ?_
                    refine lv_istore_n (lv' := [(1, .int (nI (rqF rd (k + 1)))), (2, .int (nI (3 * k + 2))), (0, .ref G.2.1)]) hx hb dX12_isRead_122 rfl hl (by decide) rfl (fun ls hl => ?_)
                    refine lv_iinc (v := nI (3 * k + 2 + 3)) (lv' := [(2, .int (nI (3 * k + 2 + 3))), (1, .int (nI (rqF rd (k + 1)))), (0, .ref G.2.1)]) hx hb dX12_isRead_123 hl (k := 1) rfl (nI_add _ _) (by decide) rfl (fun ls hl => ?_)
                    refine lv_goto (tgt := 57) hx hb dX12_isRead_126 (by decide) ?_
                    have hl : lv_has ls 3 [(2, .int (nI (3 * (k + 1) + 2))), (1, .int (nI (rqF rd (k + 1)))), (0, .ref G.2.1)] := lv_sub hl [0, 1, 2] rfl
                    have hB : gB G.1 (rT G) A s H locs (rWs G (sc, ar)) := hB
                    have b_22 : (k + 1) + (n3 - (k + 1)) = n3 := by omega
                    exact ih_16 (n3 - (k + 1)) (k + 1) H locs ls (by omega) ⟨b_22, hB, hl⟩
                  · have c_21 : ¬ (rd.getD (3 * k + 3) 0) < 1 := fun h9 => c_21 ((nI_ltI (a := (rd.getD (3 * k + 3) 0)) (b := 1) (by omega) (by omega)).mpr h9)
                    refine lv_aload_n hx hb dX12_isRead_92 rfl (lv_at hl 2 rfl) ?_
                    refine r_get (u := (sc, ar)) (v := .ref (G.2.2.1 41)) hx hb hts hin hown hB 41 (by decide) (hts (.fieldLink RX12 78 "PointReportsModel" "read" "[I") (by decide +kernel)) rfl rfl dX12_isRead_93 ?_
                    refine lv_iload_n hx hb dX12_isRead_96 rfl (lv_at hl 0 rfl) ?_
                    refine lv_iconst (v := nI 1) hx hb dX12_isRead_97 (by decide) ?_
                    refine lv_iadd hx hb dX12_isRead_98 ?_
                    refine g_top (y := nI ((3 * k + 2) + 1)) (nI_add _ _) ?_
                    refine r_ald (u := (sc, ar)) (f := ar 41) hx hb hB 22 rfl ((3 * k + 2) + 1) rfl (by omega) (by decide) dX12_isRead_99 ?_
                    have q100 := hrd (3 * k + 3) (by omega)
                    refine g_top (y := nI (rd.getD (3 * k + 3) 0)) q100.1 ?_
                    have q100 := q100.2
                    refine lv_iconst (v := nI 4) hx hb dX12_isRead_100 (by decide) ?_
                    refine lv_icmp_gt (tgt := 121) hx hb dX12_isRead_101 (by decide) (fun c_23 => ?_) (fun c_23 => ?_)
                    · have c_23 : 4 < (rd.getD (3 * k + 3) 0) := (nI_ltI (a := 4) (b := (rd.getD (3 * k + 3) 0)) (by omega) (by omega)).mp c_23
                      refine lv_iconst (v := nI 0) hx hb dX12_isRead_121 (by decide) ?_
                      refine g_top (y := nI (rqF rd (k + 1))) (by rw [rqF, if_neg (fun z => by have := z.2.2.2.1; omega)]) ?_
                      refine lv_istore_n (lv' := [(1, .int (nI (rqF rd (k + 1)))), (2, .int (nI (3 * k + 2))), (0, .ref G.2.1)]) hx hb dX12_isRead_122 rfl hl (by decide) rfl (fun ls hl => ?_)
                      refine lv_iinc (v := nI (3 * k + 2 + 3)) (lv' := [(2, .int (nI (3 * k + 2 + 3))), (1, .int (nI (rqF rd (k + 1)))), (0, .ref G.2.1)]) hx hb dX12_isRead_123 hl (k := 1) rfl (nI_add _ _) (by decide) rfl (fun ls hl => ?_)
                      refine lv_goto (tgt := 57) hx hb dX12_isRead_126 (by decide) ?_
                      have hl : lv_has ls 3 [(2, .int (nI (3 * (k + 1) + 2))), (1, .int (nI (rqF rd (k + 1)))), (0, .ref G.2.1)] := lv_sub hl [0, 1, 2] rfl
                      have hB : gB G.1 (rT G) A s H locs (rWs G (sc, ar)) := hB
                      have b_24 : (k + 1) + (n3 - (k + 1)) = n3 := by omega
                      exact ih_16 (n3 - (k + 1)) (k + 1) H locs ls (by omega) ⟨b_24, hB, hl⟩
                    · have c_23 : ¬ 4 < (rd.getD (3 * k + 3) 0) := fun h9 => c_23 ((nI_ltI (a := 4) (b := (rd.getD (3 * k + 3) 0)) (by omega) (by omega)).mpr h9)
                      refine lv_aload_n hx hb dX12_isRead_104 rfl (lv_at hl 2 rfl) ?_
                      refine r_get (u := (sc, ar)) (v := .ref (G.2.2.1 41)) hx hb hts hin hown hB 41 (by decide) (hts (.fieldLink RX12 78 "PointReportsModel" "read" "[I") (by decide +kernel)) rfl rfl dX12_isRead_105 ?_
                      refine lv_iload_n hx hb dX12_isRead_108 rfl (lv_at hl 0 rfl) ?_
                      refine lv_iconst (v := nI 2) hx hb dX12_isRead_109 (by decide) ?_
                      refine lv_iadd hx hb dX12_isRead_110 ?_
                      refine g_top (y := nI ((3 * k + 2) + 2)) (nI_add _ _) ?_
                      refine r_ald (u := (sc, ar)) (f := ar 41) hx hb hB 22 rfl ((3 * k + 2) + 2) rfl (by omega) (by decide) dX12_isRead_111 ?_
                      have q112 := hrd (3 * k + 4) (by omega)
                      refine g_top (y := nI (rd.getD (3 * k + 4) 0)) q112.1 ?_
                      have q112 := q112.2
                      refine lv_bipush (v := nI 6) hx hb dX12_isRead_112 (by decide) ?_
                      refine lv_icmp_ne (tgt := 121) hx hb dX12_isRead_114 (by decide) (fun c_25 => ?_) (fun c_25 => ?_)
                      · have c_25 : ¬ (rd.getD (3 * k + 4) 0) = 6 := fun h9 => c_25 ((nI_eq (a := (rd.getD (3 * k + 4) 0)) (b := 6) (by omega) (by omega)).mpr h9)
                        refine lv_iconst (v := nI 0) hx hb dX12_isRead_121 (by decide) ?_
                        refine g_top (y := nI (rqF rd (k + 1))) (by rw [rqF, if_neg (fun z => by have := z.2.2.2.2; omega)]) ?_
                        refine lv_istore_n (lv' := [(1, .int (nI (rqF rd (k + 1)))), (2, .int (nI (3 * k + 2))), (0, .ref G.2.1)]) hx hb dX12_isRead_122 rfl hl (by decide) rfl (fun ls hl => ?_)
                        refine lv_iinc (v := nI (3 * k + 2 + 3)) (lv' := [(2, .int (nI (3 * k + 2 + 3))), (1, .int (nI (rqF rd (k + 1)))), (0, .ref G.2.1)]) hx hb dX12_isRead_123 hl (k := 1) rfl (nI_add _ _) (by decide) rfl (fun ls hl => ?_)
                        refine lv_goto (tgt := 57) hx hb dX12_isRead_126 (by decide) ?_
                        have hl : lv_has ls 3 [(2, .int (nI (3 * (k + 1) + 2))), (1, .int (nI (rqF rd (k + 1)))), (0, .ref G.2.1)] := lv_sub hl [0, 1, 2] rfl
                        have hB : gB G.1 (rT G) A s H locs (rWs G (sc, ar)) := hB
                        have b_26 : (k + 1) + (n3 - (k + 1)) = n3 := by omega
                        exact ih_16 (n3 - (k + 1)) (k + 1) H locs ls (by omega) ⟨b_26, hB, hl⟩
                      · have c_25 : (rd.getD (3 * k + 4) 0) = 6 := (nI_eq (a := (rd.getD (3 * k + 4) 0)) (b := 6) (by omega) (by omega)).mp c_25
                        refine lv_iconst (v := nI 1) hx hb dX12_isRead_117 (by decide) ?_
                        refine lv_goto (tgt := 122) hx hb dX12_isRead_118 (by decide) ?_
                        refine g_top (y := nI (rqF rd (k + 1))) (by rw [rqF, if_pos ⟨by omega, by omega, by omega, by omega, by omega⟩]) ?_
                        refine lv_istore_n (lv' := [(1, .int (nI (rqF rd (k + 1)))), (2, .int (nI (3 * k + 2))), (0, .ref G.2.1)]) hx hb dX12_isRead_122 rfl hl (by decide) rfl (fun ls hl => ?_)
                        refine lv_iinc (v := nI (3 * k + 2 + 3)) (lv' := [(2, .int (nI (3 * k + 2 + 3))), (1, .int (nI (rqF rd (k + 1)))), (0, .ref G.2.1)]) hx hb dX12_isRead_123 hl (k := 1) rfl (nI_add _ _) (by decide) rfl (fun ls hl => ?_)
                        refine lv_goto (tgt := 57) hx hb dX12_isRead_126 (by decide) ?_
                        have hl : lv_has ls 3 [(2, .int (nI (3 * (k + 1) + 2))), (1, .int (nI (rqF rd (k + 1)))), (0, .ref G.2.1)] := lv_sub hl [0, 1, 2] rfl
                        have hB : gB G.1 (rT G) A s H locs (rWs G (sc, ar)) := hB
                        have b_27 : (k + 1) + (n3 - (k + 1)) = n3 := by omega
                        exact ih_16 (n3 - (k + 1)) (k + 1) H locs ls (by omega) ⟨b_27, hB, hl⟩
set_option maxRecDepth 100000 in
set_option maxHeartbeats 4000000 in
/-- forget() -/
theorem c_forget (l : Launch) (G : rG) (sc : Nat → Int32) (ar : Nat → Nat → Int32) (E : evL) (Wt : Nat → Nat) (hE : evR (ar 4) (ar 5) (ar 6) (ar 7) E) (hW : wtR (ar 8) E Wt) : gM l G.1 (rT G) yX12_forget wsX12_forget ({ frames := 1, cells := 0, slots := 0, locals := 22 }) [.ref G.2.1] (rWs G (sc, ar)) (gQv G.1 (rT G) (fun u : rSt => ∃ ke po va ti wa, evR ke po va ti (fun x => (E x).drop (Wt x)) ∧ (∀ j, j < 32 → wa j = 0) ∧ u = (upd sc 11 (nI 0), va_up (va_up (va_up (va_up (va_up ar 4 ke) 5 po) 6 va) 7 ti) 8 wa)) (rWs G)) 0 0 := by
  refine gM.of (cc := cX12_forget) (maxL := 4) (ret := none) (by decide) rfl (Nat.le_of_ble_eq_true rfl) ?_
  intro p e s m below meth c A ls hx hb hr hml hown hts hlocks hnm hB hl
  have hin : ∀ w ∈ wsX120, w ∈ wsX12_forget := fun w h => List.mem_cons_of_mem _ (List.mem_append_right _ h)
  have hl : lv_has ls 4 [(0, .ref G.2.1)] := hl
  refine lv_iconst (v := nI 1) hx hb dX12_forget_0 (by decide) ?_
  refine lv_istore_n (lv' := [(1, .int (nI 1)), (0, .ref G.2.1)]) hx hb dX12_forget_1 rfl hl (by decide) rfl (fun ls hl => ?_)
  have hl : lv_has ls 4 [(1, .int (nI (0 + 1))), (0, .ref G.2.1)] := lv_sub hl [0, 1] rfl
  have hB : gB G.1 (rT G) A s s.heap [] (rWs G (sc, va_up (va_up (va_up (va_up (va_up ar 4 (ar 4)) 5 (ar 5)) 6 (ar 6)) 7 (ar 7)) 8 (ar 8))) := hB
  refine g_loop (σ := Nat × (Nat → Int32) × (Nat → Int32) × (Nat → Int32) × (Nat → Int32) × (Nat → Int32)) (fun d xv H locs ls => (xv.1 + d = 3) ∧ (evR xv.2.1 xv.2.2.1 xv.2.2.2.1 xv.2.2.2.2.1 (fun x => if x ≤ xv.1 then (E x).drop (Wt x) else E x)) ∧ (∀ x, xv.1 < x → x ≤ 3 → ∀ k, k < (E x).length → xv.2.2.2.2.2 (8 * x + k) = if k < Wt x then 1 else 0) ∧ gB G.1 (rT G) A s H locs (rWs G (sc, va_up (va_up (va_up (va_up (va_up ar 4 xv.2.1) 5 xv.2.2.1) 6 xv.2.2.2.1) 7 xv.2.2.2.2.1) 8 xv.2.2.2.2.2)) ∧ lv_has ls 4 [(1, .int (nI (xv.1 + 1))), (0, .ref G.2.1)]) 3 (0, ar 4, ar 5, ar 6, ar 7, ar 8) ⟨by omega, evR_ext hE (fun x h1 h3 => by rw [if_neg (by omega)]), fun x h1 h3 k hk => hW x (by omega) h3 k hk, hB, hl⟩ ?_
  rintro d ⟨cl, ke, po, va, ti, wa⟩ H locs ls ⟨hk, hF, hV, hB, hl⟩ ih_1
  have hk : cl + d = 3 := hk
  have hF : evR ke po va ti (fun x => if x ≤ cl then (E x).drop (Wt x) else E x) := hF
  have hV : ∀ x, cl < x → x ≤ 3 → ∀ k, k < (E x).length → wa (8 * x + k) = if k < Wt x then 1 else 0 := hV
  have hB : gB G.1 (rT G) A s H locs (rWs G (sc, va_up (va_up (va_up (va_up (va_up ar 4 ke) 5 po) 6 va) 7 ti) 8 wa)) := hB
  have hl : lv_has ls 4 [(1, .int (nI (cl + 1))), (0, .ref G.2.1)] := hl
  refine lv_iload_n hx hb dX12_forget_2 rfl (lv_at hl 0 rfl) ?_
  refine lv_iconst (v := nI 4) hx hb dX12_forget_3 (by decide) ?_
  refine lv_icmp_ge (tgt := 71) hx hb dX12_forget_4 (by decide) (fun c_2 => ?_) (fun c_2 => ?_)
  · have c_2 : 4 ≤ (cl + 1) := (nI_leI (a := 4) (b := (cl + 1)) (by omega) (by omega)).mp c_2
    have hk9 : cl = 3 := by omega
    refine lv_aload_n hx hb dX12_forget_71 rfl (lv_at hl 1 rfl) ?_
    refine g_callv (av := []) (rest := []) ⟨hx, hb, hml, hown, hts⟩ (c_noneWaits l G sc (va_up (va_up (va_up (va_up (va_up ar 4 ke) 5 po) 6 va) 7 ti) 8 wa)) (cwV 0 hts gX12_forget_X12_noneWaits rfl rfl rfl (by decide +kernel) ⟨Nat.le_of_ble_eq_true rfl, Nat.le_of_ble_eq_true rfl⟩) hB (q0 := 0) (ci := 9) rfl rfl rfl rfl hl.1 rfl (Nat.le_of_ble_eq_true rfl) dX12_forget_72 ⟨Nat.le_of_ble_eq_true rfl, Nat.le_of_ble_eq_true rfl⟩ (fun u H locs hw hB => ?_)
    obtain ⟨wz, hwz, rfl⟩ := hw
    have hB : gB G.1 (rT G) A s H locs (rWs G (upd sc 11 (nI 0), va_up (va_up (va_up (va_up (va_up ar 4 ke) 5 po) 6 va) 7 ti) 8 wz)) := hB
    exact g_vret (Wd := rWs G) (upd sc 11 (nI 0), va_up (va_up (va_up (va_up (va_up ar 4 ke) 5 po) 6 va) 7 ti) 8 wz) hB hx hb hr hlocks rfl ⟨ke, po, va, ti, wz, evR_ext hF (fun x h1 h3 => by rw [if_pos (by omega)]), hwz, rfl⟩ dX12_forget_75
  · have c_2 : ¬ 4 ≤ (cl + 1) := fun h9 => c_2 ((nI_leI (a := 4) (b := (cl + 1)) (by omega) (by omega)).mpr h9)
    obtain ⟨e1, e2, e3⟩ := hF (cl + 1) (by omega) (by omega)
    dsimp only at e1 e2 e3
    rw [if_neg (by omega)] at e1 e2 e3
    refine lv_iconst (v := nI 0) hx hb dX12_forget_7 (by decide) ?_
    refine lv_istore_n (lv' := [(2, .int (nI 0)), (1, .int (nI (cl + 1))), (0, .ref G.2.1)]) hx hb dX12_forget_8 rfl hl (by decide) rfl (fun ls hl => ?_)
    refine lv_bipush (v := nI 8) hx hb dX12_forget_9 (by decide) ?_
    refine lv_iload_n hx hb dX12_forget_11 rfl (lv_at hl 1 rfl) ?_
    refine lv_imul hx hb dX12_forget_12 ?_
    refine g_top (y := nI (8 * (cl + 1))) (pk_mul _ _) ?_
    refine lv_istore_n (lv' := [(3, .int (nI (8 * (cl + 1)))), (2, .int (nI 0)), (1, .int (nI (cl + 1))), (0, .ref G.2.1)]) hx hb dX12_forget_13 rfl hl (by decide) rfl (fun ls hl => ?_)
    have e0 : nI 0 = nI (0 - Wt (cl + 1)) := by rw [Nat.zero_sub]
    rw [e0] at hl
    have hl : lv_has ls 4 [(3, .int (nI (8 * (cl + 1) + 0))), (2, .int (nI (0 - Wt (cl + 1)))), (1, .int (nI (cl + 1))), (0, .ref G.2.1)] := lv_sub hl [0, 1, 2, 3] rfl
    have hB : gB G.1 (rT G) A s H locs (rWs G (sc, va_up (va_up (va_up (va_up (va_up ar 4 ke) 5 po) 6 va) 7 ti) 8 wa)) := hB
    refine g_loop (σ := Nat × (Nat → Int32) × (Nat → Int32) × (Nat → Int32) × (Nat → Int32)) (fun d xv H locs ls => (xv.1 + d = (E (cl + 1)).length) ∧ (∀ z, xv.2.1 z = if 8 * (cl + 1) ≤ z ∧ z < 8 * (cl + 1) + (xv.1 - Wt (cl + 1)) then po (z + Wt (cl + 1)) else po z) ∧ (∀ z, xv.2.2.1 z = if 8 * (cl + 1) ≤ z ∧ z < 8 * (cl + 1) + (xv.1 - Wt (cl + 1)) then va (z + Wt (cl + 1)) else va z) ∧ (∀ z, xv.2.2.2.1 z = if 8 * (cl + 1) ≤ z ∧ z < 8 * (cl + 1) + (xv.1 - Wt (cl + 1)) then ti (z + Wt (cl + 1)) else ti z) ∧ (∀ z, xv.2.2.2.2 z = if 8 * (cl + 1) ≤ z ∧ z < 8 * (cl + 1) + (xv.1 - Wt (cl + 1)) then wa (z + Wt (cl + 1)) else wa z) ∧ gB G.1 (rT G) A s H locs (rWs G (sc, va_up (va_up (va_up (va_up (va_up ar 4 ke) 5 xv.2.1) 6 xv.2.2.1) 7 xv.2.2.2.1) 8 xv.2.2.2.2)) ∧ lv_has ls 4 [(3, .int (nI (8 * (cl + 1) + xv.1))), (2, .int (nI (xv.1 - Wt (cl + 1)))), (1, .int (nI (cl + 1))), (0, .ref G.2.1)]) ((E (cl + 1)).length) (0, po, va, ti, wa) ⟨by omega, fun z => by rw [if_neg (by omega)], fun z => by rw [if_neg (by omega)], fun z => by rw [if_neg (by omega)], fun z => by rw [if_neg (by omega)], hB, hl⟩ ?_
    rintro d ⟨k, po2, va2, ti2, wa2⟩ H locs ls ⟨hk2, g0, g1, g2, g3, hB, hl⟩ ih_3
    have hk2 : k + d = (E (cl + 1)).length := hk2
    have g0 : ∀ z, po2 z = if 8 * (cl + 1) ≤ z ∧ z < 8 * (cl + 1) + (k - Wt (cl + 1)) then po (z + Wt (cl + 1)) else po z := g0
    have g1 : ∀ z, va2 z = if 8 * (cl + 1) ≤ z ∧ z < 8 * (cl + 1) + (k - Wt (cl + 1)) then va (z + Wt (cl + 1)) else va z := g1
    have g2 : ∀ z, ti2 z = if 8 * (cl + 1) ≤ z ∧ z < 8 * (cl + 1) + (k - Wt (cl + 1)) then ti (z + Wt (cl + 1)) else ti z := g2
    have g3 : ∀ z, wa2 z = if 8 * (cl + 1) ≤ z ∧ z < 8 * (cl + 1) + (k - Wt (cl + 1)) then wa (z + Wt (cl + 1)) else wa z := g3
    have hB : gB G.1 (rT G) A s H locs (rWs G (sc, va_up (va_up (va_up (va_up (va_up ar 4 ke) 5 po2) 6 va2) 7 ti2) 8 wa2)) := hB
    have hl : lv_has ls 4 [(3, .int (nI (8 * (cl + 1) + k))), (2, .int (nI (k - Wt (cl + 1)))), (1, .int (nI (cl + 1))), (0, .ref G.2.1)] := hl
    refine lv_iload_n hx hb dX12_forget_14 rfl (lv_at hl 0 rfl) ?_
    refine lv_bipush (v := nI 8) hx hb dX12_forget_15 (by decide) ?_
    refine lv_iload_n hx hb dX12_forget_17 rfl (lv_at hl 2 rfl) ?_
    refine lv_imul hx hb dX12_forget_18 ?_
    refine g_top (y := nI (8 * (cl + 1))) (pk_mul _ _) ?_
    refine lv_aload_n hx hb dX12_forget_19 rfl (lv_at hl 3 rfl) ?_
    refine r_get (u := (sc, va_up (va_up (va_up (va_up (va_up ar 4 ke) 5 po2) 6 va2) 7 ti2) 8 wa2)) (v := .ref (G.2.2.1 4)) hx hb hts hin hown hB 4 (by decide) (hts (.fieldLink RX12 19 "PointReportsModel" "kept" "[I") (by decide +kernel)) rfl rfl dX12_forget_20 ?_
    refine lv_iload_n hx hb dX12_forget_23 rfl (lv_at hl 2 rfl) ?_
    refine r_ald (u := (sc, va_up (va_up (va_up (va_up (va_up ar 4 ke) 5 po2) 6 va2) 7 ti2) 8 wa2)) (f := ke) hx hb hB 4 rfl (cl + 1) rfl (by omega) (by decide) dX12_forget_24 ?_
    refine g_top (y := nI ((E (cl + 1)).length)) e1 ?_
    refine lv_iadd hx hb dX12_forget_25 ?_
    refine g_top (y := nI ((8 * (cl + 1)) + ((E (cl + 1)).length))) (nI_add _ _) ?_
    refine lv_icmp_ge (tgt := 58) hx hb dX12_forget_26 (by decide) (fun c_4 => ?_) (fun c_4 => ?_)
    · have c_4 : ((8 * (cl + 1)) + ((E (cl + 1)).length)) ≤ (8 * (cl + 1) + k) := (nI_leI (a := ((8 * (cl + 1)) + ((E (cl + 1)).length))) (b := (8 * (cl + 1) + k)) (by omega) (by omega)).mp c_4
      have hk9 : k = (E (cl + 1)).length := by omega
      refine lv_aload_n hx hb dX12_forget_58 rfl (lv_at hl 3 rfl) ?_
      refine r_get (u := (sc, va_up (va_up (va_up (va_up (va_up ar 4 ke) 5 po2) 6 va2) 7 ti2) 8 wa2)) (v := .ref (G.2.2.1 4)) hx hb hts hin hown hB 4 (by decide) (hts (.fieldLink RX12 19 "PointReportsModel" "kept" "[I") (by decide +kernel)) rfl rfl dX12_forget_59 ?_
      refine lv_iload_n hx hb dX12_forget_62 rfl (lv_at hl 2 rfl) ?_
      refine lv_iload_n hx hb dX12_forget_63 rfl (lv_at hl 1 rfl) ?_
      refine r_ast (u := (sc, va_up (va_up (va_up (va_up (va_up ar 4 ke) 5 po2) 6 va2) 7 ti2) 8 wa2)) (f := ke) (x := nI (k - Wt (cl + 1))) (va_up (va_up (va_up (va_up (va_up ar 4 (upd ke (cl + 1) (nI (k - Wt (cl + 1))))) 5 po2) 6 va2) 7 ti2) 8 wa2) hx hb hB 4 rfl (cl + 1) rfl (by omega) (by decide) rfl dX12_forget_64 (fun H locs hB => ?_)
      refine lv_iinc (v := nI (cl + 1 + 1)) (lv' := [(1, .int (nI (cl + 1 + 1))), (3, .int (nI (8 * (cl + 1) + k))), (2, .int (nI (k - Wt (cl + 1)))), (0, .ref G.2.1)]) hx hb dX12_forget_65 hl (k := 2) rfl (nI_add _ _) (by decide) rfl (fun ls hl => ?_)
      refine lv_goto (tgt := 2) hx hb dX12_forget_68 (by decide) ?_
      rw [hk9] at g0 g1 g2 g3
      have hN := evR_drop (ke2 := upd ke (cl + 1) (nI (k - Wt (cl + 1)))) (po2 := po2) (va2 := va2) (ti2 := ti2) (E := (fun x => if x ≤ cl then (E x).drop (Wt x) else E x)) (c := cl + 1) (w := Wt (cl + 1)) hF (by omega) (by omega) (fun x => by
          rw [if_neg (show ¬ cl + 1 ≤ cl by omega)]
          by_cases h9 : x = cl + 1
          · subst h9; rw [upd_self, if_pos rfl, hk9]
          · rw [upd_ne h9, if_neg h9]) (fun z => by rw [if_neg (show ¬ cl + 1 ≤ cl by omega)]; exact g0 z) (fun z => by rw [if_neg (show ¬ cl + 1 ≤ cl by omega)]; exact g1 z) (fun z => by rw [if_neg (show ¬ cl + 1 ≤ cl by omega)]; exact g2 z)
      have hl : lv_has ls 4 [(1, .int (nI ((cl + 1) + 1))), (0, .ref G.2.1)] := lv_sub hl [0, 3] rfl
      have hB : gB G.1 (rT G) A s H locs (rWs G (sc, va_up (va_up (va_up (va_up (va_up ar 4 (upd ke (cl + 1) (nI (k - Wt (cl + 1))))) 5 po2) 6 va2) 7 ti2) 8 wa2)) := hB
      have b_5 : (cl + 1) + (3 - (cl + 1)) = 3 := by omega
      have b_6 : evR (upd ke (cl + 1) (nI (k - Wt (cl + 1)))) po2 va2 ti2 (fun x => if x ≤ (cl + 1) then (E x).drop (Wt x) else E x) := evR_ext hN (fun x h1 h3 => by
          try dsimp only
          by_cases h9 : x = cl + 1
          · subst h9; rw [if_pos rfl, if_neg (show ¬ cl + 1 ≤ cl by omega), if_pos (Nat.le_refl _)]
          · rw [if_neg h9]
            by_cases h8 : x ≤ cl
            · rw [if_pos h8, if_pos (by omega)]
            · rw [if_neg h8, if_neg (by omega)])
      have b_7 : ∀ x, (cl + 1) < x → x ≤ 3 → ∀ k, k < (E x).length → wa2 (8 * x + k) = if k < Wt x then 1 else 0 := fun x h1 h3 q hq => by
          rw [g3, if_neg (by omega)]
          exact hV x (by omega) h3 q hq
      exact ih_1 (3 - (cl + 1)) (cl + 1, upd ke (cl + 1) (nI (k - Wt (cl + 1))), po2, va2, ti2, wa2) H locs ls (by omega) ⟨b_5, b_6, b_7, hB, hl⟩
    · have c_4 : ¬ ((8 * (cl + 1)) + ((E (cl + 1)).length)) ≤ (8 * (cl + 1) + k) := fun h9 => c_4 ((nI_leI (a := ((8 * (cl + 1)) + ((E (cl + 1)).length))) (b := (8 * (cl + 1) + k)) (by omega) (by omega)).mpr h9)
      have ew : wa2 (8 * (cl + 1) + k) = nI (if k < Wt (cl + 1) then 1 else 0) := by
        rw [g3, if_neg (by omega), hV (cl + 1) (by omega) (by omega) k (by omega)]; split <;> rfl
      have ew2 : (if k < Wt (cl + 1) then 1 else 0) ≤ 1 := by split <;> omega
      refine lv_aload_n hx hb dX12_forget_29 rfl (lv_at hl 3 rfl) ?_
      refine r_get (u := (sc, va_up (va_up (va_up (va_up (va_up ar 4 ke) 5 po2) 6 va2) 7 ti2) 8 wa2)) (v := .ref (G.2.2.1 8)) hx hb hts hin hown hB 8 (by decide) (hts (.fieldLink RX12 31 "PointReportsModel" "waits" "[Z") (by decide +kernel)) rfl rfl dX12_forget_30 ?_
      refine lv_iload_n hx hb dX12_forget_33 rfl (lv_at hl 0 rfl) ?_
      refine r_zald (u := (sc, va_up (va_up (va_up (va_up (va_up ar 4 ke) 5 po2) 6 va2) 7 ti2) 8 wa2)) (f := wa2) hx hb hB 8 rfl (8 * (cl + 1) + k) rfl (by omega) (by decide) dX12_forget_34 ?_
      refine g_top (y := nI (if k < Wt (cl + 1) then 1 else 0)) ew ?_
      refine lv_if_ne (tgt := 52) hx hb dX12_forget_35 (by decide) (fun c_8 => ?_) (fun c_8 => ?_)
      · have c_8 : ¬ (if k < Wt (cl + 1) then 1 else 0) = 0 := fun h9 => c_8 ((nI_eq (a := (if k < Wt (cl + 1) then 1 else 0)) (b := 0) (by omega) (by omega)).mpr h9)
        have hw9 : k < Wt (cl + 1) := Classical.byContradiction (fun h9 => c_8 (by rw [if_neg h9]))
        refine lv_iinc (v := nI (8 * (cl + 1) + k + 1)) (lv' := [(3, .int (nI (8 * (cl + 1) + k + 1))), (2, .int (nI (k - Wt (cl + 1)))), (1, .int (nI (cl + 1))), (0, .ref G.2.1)]) hx hb dX12_forget_52 hl (k := 0) rfl (nI_add _ _) (by decide) rfl (fun ls hl => ?_)
        refine lv_goto (tgt := 14) hx hb dX12_forget_55 (by decide) ?_
        have e7 : k - Wt (cl + 1) = k + 1 - Wt (cl + 1) := by omega
        rw [e7] at hl
        have hl : lv_has ls 4 [(3, .int (nI (8 * (cl + 1) + (k + 1)))), (2, .int (nI ((k + 1) - Wt (cl + 1)))), (1, .int (nI (cl + 1))), (0, .ref G.2.1)] := lv_sub hl [0, 1, 2, 3] rfl
        have hB : gB G.1 (rT G) A s H locs (rWs G (sc, va_up (va_up (va_up (va_up (va_up ar 4 ke) 5 po2) 6 va2) 7 ti2) 8 wa2)) := hB
        have b_9 : (k + 1) + ((E (cl + 1)).length - (k + 1)) = (E (cl + 1)).length := by omega
        have b_10 : ∀ z, po2 z = if 8 * (cl + 1) ≤ z ∧ z < 8 * (cl + 1) + ((k + 1) - Wt (cl + 1)) then po (z + Wt (cl + 1)) else po z := fun z => by rw [← e7]; exact g0 z
        have b_11 : ∀ z, va2 z = if 8 * (cl + 1) ≤ z ∧ z < 8 * (cl + 1) + ((k + 1) - Wt (cl + 1)) then va (z + Wt (cl + 1)) else va z := fun z => by rw [← e7]; exact g1 z
        have b_12 : ∀ z, ti2 z = if 8 * (cl + 1) ≤ z ∧ z < 8 * (cl + 1) + ((k + 1) - Wt (cl + 1)) then ti (z + Wt (cl + 1)) else ti z := fun z => by rw [← e7]; exact g2 z
        have b_13 : ∀ z, wa2 z = if 8 * (cl + 1) ≤ z ∧ z < 8 * (cl + 1) + ((k + 1) - Wt (cl + 1)) then wa (z + Wt (cl + 1)) else wa z := fun z => by rw [← e7]; exact g3 z
        exact ih_3 ((E (cl + 1)).length - (k + 1)) (k + 1, po2, va2, ti2, wa2) H locs ls (by omega) ⟨b_9, b_10, b_11, b_12, b_13, hB, hl⟩
      · have c_8 : (if k < Wt (cl + 1) then 1 else 0) = 0 := (nI_eq (a := (if k < Wt (cl + 1) then 1 else 0)) (b := 0) (by omega) (by omega)).mp c_8
        have hw9 : ¬ k < Wt (cl + 1) := fun h9 => by rw [if_pos h9] at c_8; omega
        refine lv_aload_n hx hb dX12_forget_38 rfl (lv_at hl 3 rfl) ?_
        refine lv_bipush (v := nI 8) hx hb dX12_forget_39 (by decide) ?_
        refine lv_iload_n hx hb dX12_forget_41 rfl (lv_at hl 2 rfl) ?_
        refine lv_imul hx hb dX12_forget_42 ?_
        refine g_top (y := nI (8 * (cl + 1))) (pk_mul _ _) ?_
        refine lv_iload_n hx hb dX12_forget_43 rfl (lv_at hl 1 rfl) ?_
        refine lv_iadd hx hb dX12_forget_44 ?_
        refine g_top (y := nI ((8 * (cl + 1)) + (k - Wt (cl + 1)))) (nI_add _ _) ?_
        refine lv_iload_n hx hb dX12_forget_45 rfl (lv_at hl 0 rfl) ?_
        refine g_callv (av := [.int (nI ((8 * (cl + 1)) + (k - Wt (cl + 1)))), .int (nI (8 * (cl + 1) + k))]) (rest := []) ⟨hx, hb, hml, hown, hts⟩ (c_moveEvent l G sc (va_up (va_up (va_up (va_up (va_up ar 4 ke) 5 po2) 6 va2) 7 ti2) 8 wa2) (8 * (cl + 1) + (k - Wt (cl + 1))) (8 * (cl + 1) + k) (by omega) (by omega) (by show wa2 _ = 0 ∨ wa2 _ = 1; rw [ew, if_neg hw9]; exact Or.inl rfl)) (cwV 2 hts gX12_forget_X12_moveEvent rfl rfl rfl (by decide +kernel) ⟨Nat.le_of_ble_eq_true rfl, Nat.le_of_ble_eq_true rfl⟩) hB (q0 := 0) (ci := 9) rfl rfl rfl rfl hl.1 rfl (Nat.le_of_ble_eq_true rfl) dX12_forget_46 ⟨Nat.le_of_ble_eq_true rfl, Nat.le_of_ble_eq_true rfl⟩ (fun u H locs hw hB => ?_)
        obtain rfl := hw
        have hB : gB G.1 (rT G) A s H locs (rWs G (sc, va_up (va_up (va_up (va_up (va_up ar 4 ke) 5 (upd po2 (8 * (cl + 1) + (k - Wt (cl + 1))) (po2 (8 * (cl + 1) + k)))) 6 (upd va2 (8 * (cl + 1) + (k - Wt (cl + 1))) (va2 (8 * (cl + 1) + k)))) 7 (upd ti2 (8 * (cl + 1) + (k - Wt (cl + 1))) (ti2 (8 * (cl + 1) + k)))) 8 (upd wa2 (8 * (cl + 1) + (k - Wt (cl + 1))) (wa2 (8 * (cl + 1) + k))))) := hB
        refine lv_iinc (v := nI (k - Wt (cl + 1) + 1)) (lv' := [(2, .int (nI (k - Wt (cl + 1) + 1))), (3, .int (nI (8 * (cl + 1) + k))), (1, .int (nI (cl + 1))), (0, .ref G.2.1)]) hx hb dX12_forget_49 hl (k := 1) rfl (nI_add _ _) (by decide) rfl (fun ls hl => ?_)
        refine lv_iinc (v := nI (8 * (cl + 1) + k + 1)) (lv' := [(3, .int (nI (8 * (cl + 1) + k + 1))), (2, .int (nI (k - Wt (cl + 1) + 1))), (1, .int (nI (cl + 1))), (0, .ref G.2.1)]) hx hb dX12_forget_52 hl (k := 1) rfl (nI_add _ _) (by decide) rfl (fun ls hl => ?_)
        refine lv_goto (tgt := 14) hx hb dX12_forget_55 (by decide) ?_
        have e7 : k - Wt (cl + 1) + 1 = k + 1 - Wt (cl + 1) := by omega
        rw [e7] at hl
        have hl : lv_has ls 4 [(3, .int (nI (8 * (cl + 1) + (k + 1)))), (2, .int (nI ((k + 1) - Wt (cl + 1)))), (1, .int (nI (cl + 1))), (0, .ref G.2.1)] := lv_sub hl [0, 1, 2, 3] rfl
        have hB : gB G.1 (rT G) A s H locs (rWs G (sc, va_up (va_up (va_up (va_up (va_up ar 4 ke) 5 (upd po2 (8 * (cl + 1) + (k - Wt (cl + 1))) (po2 (8 * (cl + 1) + k)))) 6 (upd va2 (8 * (cl + 1) + (k - Wt (cl + 1))) (va2 (8 * (cl + 1) + k)))) 7 (upd ti2 (8 * (cl + 1) + (k - Wt (cl + 1))) (ti2 (8 * (cl + 1) + k)))) 8 (upd wa2 (8 * (cl + 1) + (k - Wt (cl + 1))) (wa2 (8 * (cl + 1) + k))))) := hB
        have b_14 : (k + 1) + ((E (cl + 1)).length - (k + 1)) = (E (cl + 1)).length := by omega
        have b_15 : ∀ z, (upd po2 (8 * (cl + 1) + (k - Wt (cl + 1))) (po2 (8 * (cl + 1) + k))) z = if 8 * (cl + 1) ≤ z ∧ z < 8 * (cl + 1) + ((k + 1) - Wt (cl + 1)) then po (z + Wt (cl + 1)) else po z := fun z => by
            by_cases hz : z = 8 * (cl + 1) + (k - Wt (cl + 1))
            · subst hz; rw [upd_self, if_pos (by omega), g0, if_neg (by omega)]; congr 1; omega
            · rw [upd_ne hz, g0]
              by_cases hz2 : 8 * (cl + 1) ≤ z ∧ z < 8 * (cl + 1) + (k - Wt (cl + 1))
              · rw [if_pos hz2, if_pos (by omega)]
              · rw [if_neg hz2, if_neg (by omega)]
        have b_16 : ∀ z, (upd va2 (8 * (cl + 1) + (k - Wt (cl + 1))) (va2 (8 * (cl + 1) + k))) z = if 8 * (cl + 1) ≤ z ∧ z < 8 * (cl + 1) + ((k + 1) - Wt (cl + 1)) then va (z + Wt (cl + 1)) else va z := fun z => by
            by_cases hz : z = 8 * (cl + 1) + (k - Wt (cl + 1))
            · subst hz; rw [upd_self, if_pos (by omega), g1, if_neg (by omega)]; congr 1; omega
            · rw [upd_ne hz, g1]
              by_cases hz2 : 8 * (cl + 1) ≤ z ∧ z < 8 * (cl + 1) + (k - Wt (cl + 1))
              · rw [if_pos hz2, if_pos (by omega)]
              · rw [if_neg hz2, if_neg (by omega)]
        have b_17 : ∀ z, (upd ti2 (8 * (cl + 1) + (k - Wt (cl + 1))) (ti2 (8 * (cl + 1) + k))) z = if 8 * (cl + 1) ≤ z ∧ z < 8 * (cl + 1) + ((k + 1) - Wt (cl + 1)) then ti (z + Wt (cl + 1)) else ti z := fun z => by
            by_cases hz : z = 8 * (cl + 1) + (k - Wt (cl + 1))
            · subst hz; rw [upd_self, if_pos (by omega), g2, if_neg (by omega)]; congr 1; omega
            · rw [upd_ne hz, g2]
              by_cases hz2 : 8 * (cl + 1) ≤ z ∧ z < 8 * (cl + 1) + (k - Wt (cl + 1))
              · rw [if_pos hz2, if_pos (by omega)]
              · rw [if_neg hz2, if_neg (by omega)]
        have b_18 : ∀ z, (upd wa2 (8 * (cl + 1) + (k - Wt (cl + 1))) (wa2 (8 * (cl + 1) + k))) z = if 8 * (cl + 1) ≤ z ∧ z < 8 * (cl + 1) + ((k + 1) - Wt (cl + 1)) then wa (z + Wt (cl + 1)) else wa z := fun z => by
            by_cases hz : z = 8 * (cl + 1) + (k - Wt (cl + 1))
            · subst hz; rw [upd_self, if_pos (by omega), g3, if_neg (by omega)]; congr 1; omega
            · rw [upd_ne hz, g3]
              by_cases hz2 : 8 * (cl + 1) ≤ z ∧ z < 8 * (cl + 1) + (k - Wt (cl + 1))
              · rw [if_pos hz2, if_pos (by omega)]
              · rw [if_neg hz2, if_neg (by omega)]
        exact ih_3 ((E (cl + 1)).length - (k + 1)) (k + 1, upd po2 (8 * (cl + 1) + (k - Wt (cl + 1))) (po2 (8 * (cl + 1) + k)), upd va2 (8 * (cl + 1) + (k - Wt (cl + 1))) (va2 (8 * (cl + 1) + k)), upd ti2 (8 * (cl + 1) + (k - Wt (cl + 1))) (ti2 (8 * (cl + 1) + k)), upd wa2 (8 * (cl + 1) + (k - Wt (cl + 1))) (wa2 (8 * (cl + 1) + k))) H locs ls (by omega) ⟨b_14, b_15, b_16, b_17, b_18, hB, hl⟩
