/-! A FRAME THAT COMES -/
def chkF (f : Nat → Int32) (a n : Nat) : Prop := f (a + n) = ck (seg f a n) &&& nI 255 ∧ f (a + n + 1) = ck (seg f a n) >>> (nI 8 &&& 31)
def chkL (bs : List Int32) (a n : Nat) : Prop := chkF (fun j => bs.getD j 0) a n
theorem chkF_L {f : Nat → Int32} {bs : List Int32} {o a n : Nat} (h : ∀ j, j < bs.length → f (o + j) = bs.getD j 0) (hl : a + n + 2 ≤ bs.length) : chkF f (o + a) n ↔ chkL bs a n := by
  have e : seg f (o + a) n = seg (fun j => bs.getD j 0) a n := seg_ext (fun j hj => by rw [Nat.add_assoc]; exact h (a + j) (by omega))
  unfold chkL chkF
  rw [e, Nat.add_assoc o a n, h (a + n) (by omega), Nat.add_assoc o (a + n) 1, h (a + n + 1) (by omega)]
/-- a byte of a list as a number -/
def bq (bs : List Int32) (j : Nat) : Nat := (bs.getD j 0).toNatClampNeg
theorem bq_at {bs : List Int32} (hB : ∀ x ∈ bs, isB x) {j : Nat} (hj : j < bs.length) : bs.getD j 0 = nI (bq bs j) ∧ bq bs j < 256 := by
  obtain ⟨n, h1, h2⟩ := hB (bs.getD j 0) (by rw [List.getD_eq_getElem?_getD, List.getElem?_eq_getElem hj]; exact List.getElem_mem hj)
  unfold bq
  rw [h2, nI_clamp (by omega)]
  exact ⟨rfl, h1⟩
/-- how many bytes it says that it carries -/
def nF (bs : List Int32) : Nat := bq bs 2 - 5
/-- whether a frame to the side sd is as it must be -/
def okF (sd : Nat) (bs : List Int32) : Prop := bq bs 0 = 5 ∧ bq bs 1 = 100 ∧ 7 ≤ bq bs 2 ∧ bq bs 2 ≤ 26 ∧ bq bs 3 = (if sd = 1 then 196 else 68) ∧ bq bs 4 = 1 + sd ∧ bq bs 5 = 0 ∧ bq bs 6 = 2 - sd ∧ bq bs 7 = 0 ∧ bs.length = 10 + nF bs + 2 * ((nF bs + 15) / 16) ∧ chkL bs 0 8 ∧ chkL bs 10 (if nF bs < 16 then nF bs else 16) ∧ (16 < nF bs → chkL bs 28 (nF bs - 16))
/-- the j-th byte that it carries -/
def crF (bs : List Int32) (j : Nat) : Nat := if j < 16 then bq bs (10 + j) else bq bs (12 + j)
theorem lt2_nI {x : Nat} (hx : x < 256) (c : Nat) (hc : c < 256) : nI x - nI 5 < nI c ↔ x < c + 5 := by
  rw [Int32.lt_iff_toInt_lt, pk_sub_toInt (by omega) (by omega), nI_toInt (by omega)]
  omega
set_option maxRecDepth 100000 in
set_option maxHeartbeats 4000000 in
/-- isChecked(a, n) -/
theorem c_isChecked (l : Launch) (G : rG) (sc : Nat → Int32) (ar : Nat → Nat → Int32) (a n : Nat) (h : a + n + 2 ≤ 1640) : gM l G.1 (rT G) yX12_isChecked wsX12_isChecked ({ frames := 1, cells := 0, slots := 0, locals := 25 }) [.ref G.2.1, .int (nI a), .int (nI n)] (rWs G (sc, ar)) (gQi G.1 (rT G) (fun (r : Int32) (u : rSt) => ((r = nI 1 ∧ chkF (ar 31) a n) ∨ (r = nI 0 ∧ ¬ chkF (ar 31) a n)) ∧ u = (sc, ar)) (rWs G)) 0 0 := by
  refine gM.of (cc := cX12_isChecked) (maxL := 4) (ret := (some .boolean)) (by decide) rfl (Nat.le_of_ble_eq_true rfl) ?_
  intro p e s m below meth c A ls hx hb hr hml hown hts hlocks hnm hB hl
  have hin : ∀ w ∈ wsX120, w ∈ wsX12_isChecked := fun w h => List.mem_cons_of_mem _ (List.mem_append_right _ h)
  have hl : lv_has ls 4 [(0, .ref G.2.1), (1, .int (nI a)), (2, .int (nI n))] := hl
  refine lv_aload_n hx hb dX12_isChecked_0 rfl (lv_at hl 0 rfl) ?_
  refine lv_iload_n hx hb dX12_isChecked_1 rfl (lv_at hl 1 rfl) ?_
  refine lv_iload_n hx hb dX12_isChecked_2 rfl (lv_at hl 2 rfl) ?_
  refine g_calli (av := [.int (nI a), .int (nI n)]) (rest := []) ⟨hx, hb, hml, hown, hts⟩ (c_checkOf l G sc ar a n (by omega)) (cwV 2 hts gX12_isChecked_X12_checkOf rfl rfl rfl (by decide +kernel) ⟨Nat.le_of_ble_eq_true rfl, Nat.le_of_ble_eq_true rfl⟩) hB (q0 := 0) (ci := 9) rfl rfl rfl rfl hl.1 rfl (Nat.le_of_ble_eq_true rfl) dX12_isChecked_3 ⟨Nat.le_of_ble_eq_true rfl, Nat.le_of_ble_eq_true rfl⟩ (fun r9 u H locs hw hB => ?_)
  obtain ⟨rfl, rfl⟩ := hw
  have hB : gB G.1 (rT G) A s H locs (rWs G (sc, ar)) := hB
  refine lv_istore_n (lv' := [(3, .int (ck (seg (ar 31) a n))), (0, .ref G.2.1), (1, .int (nI a)), (2, .int (nI n))]) hx hb dX12_isChecked_6 rfl hl (by decide) rfl (fun ls hl => ?_)
  refine lv_aload_n hx hb dX12_isChecked_7 rfl (lv_at hl 1 rfl) ?_
  refine r_get (u := (sc, ar)) (v := .ref (G.2.2.1 31)) hx hb hts hin hown hB 31 (by decide) (hts (.fieldLink RX12 51 "PointReportsModel" "frames" "[I") (by decide +kernel)) rfl rfl dX12_isChecked_8 ?_
  refine lv_iload_n hx hb dX12_isChecked_11 rfl (lv_at hl 2 rfl) ?_
  refine lv_iload_n hx hb dX12_isChecked_12 rfl (lv_at hl 3 rfl) ?_
  refine lv_iadd hx hb dX12_isChecked_13 ?_
  refine g_top (y := nI (a + n)) (nI_add _ _) ?_
  refine r_ald (u := (sc, ar)) (f := ar 31) hx hb hB 13 rfl (a + n) rfl (by omega) (by decide) dX12_isChecked_14 ?_
  refine lv_iload_n hx hb dX12_isChecked_15 rfl (lv_at hl 0 rfl) ?_
  refine lv_sipush (v := nI 255) hx hb dX12_isChecked_16 (by decide) ?_
  refine lv_iand hx hb dX12_isChecked_19 ?_
  refine lv_icmp_ne (tgt := 44) hx hb dX12_isChecked_20 (by decide) (fun c_1 => ?_) (fun c_1 => ?_)
  · have c_1 := c_1
    refine lv_iconst (v := nI 0) hx hb dX12_isChecked_44 (by decide) ?_
    exact g_zret (Wd := rWs G) (v := nI 0) (sc, ar) hB hx hb hr hlocks rfl (narrow_z (Or.inl rfl)) ⟨Or.inr ⟨rfl, fun z => c_1 z.1⟩, rfl⟩ dX12_isChecked_45
  · have c_1 := c_1
    refine lv_aload_n hx hb dX12_isChecked_23 rfl (lv_at hl 1 rfl) ?_
    refine r_get (u := (sc, ar)) (v := .ref (G.2.2.1 31)) hx hb hts hin hown hB 31 (by decide) (hts (.fieldLink RX12 51 "PointReportsModel" "frames" "[I") (by decide +kernel)) rfl rfl dX12_isChecked_24 ?_
    refine lv_iload_n hx hb dX12_isChecked_27 rfl (lv_at hl 2 rfl) ?_
    refine lv_iload_n hx hb dX12_isChecked_28 rfl (lv_at hl 3 rfl) ?_
    refine lv_iadd hx hb dX12_isChecked_29 ?_
    refine g_top (y := nI (a + n)) (nI_add _ _) ?_
    refine lv_iconst (v := nI 1) hx hb dX12_isChecked_30 (by decide) ?_
    refine lv_iadd hx hb dX12_isChecked_31 ?_
    refine g_top (y := nI ((a + n) + 1)) (nI_add _ _) ?_
    refine r_ald (u := (sc, ar)) (f := ar 31) hx hb hB 13 rfl ((a + n) + 1) rfl (by omega) (by decide) dX12_isChecked_32 ?_
    refine lv_iload_n hx hb dX12_isChecked_33 rfl (lv_at hl 0 rfl) ?_
    refine lv_bipush (v := nI 8) hx hb dX12_isChecked_34 (by decide) ?_
    refine lv_ishr hx hb dX12_isChecked_36 ?_
    refine lv_icmp_ne (tgt := 44) hx hb dX12_isChecked_37 (by decide) (fun c_2 => ?_) (fun c_2 => ?_)
    · have c_2 := c_2
      refine lv_iconst (v := nI 0) hx hb dX12_isChecked_44 (by decide) ?_
      exact g_zret (Wd := rWs G) (v := nI 0) (sc, ar) hB hx hb hr hlocks rfl (narrow_z (Or.inl rfl)) ⟨Or.inr ⟨rfl, fun z => c_2 z.2⟩, rfl⟩ dX12_isChecked_45
    · have c_2 := c_2
      refine lv_iconst (v := nI 1) hx hb dX12_isChecked_40 (by decide) ?_
      refine lv_goto (tgt := 45) hx hb dX12_isChecked_41 (by decide) ?_
      exact g_zret (Wd := rWs G) (v := nI 1) (sc, ar) hB hx hb hr hlocks rfl (narrow_z (Or.inr rfl)) ⟨Or.inl ⟨rfl, c_1, c_2⟩, rfl⟩ dX12_isChecked_45
set_option maxRecDepth 100000 in
set_option maxHeartbeats 4000000 in
/-- isFrame(i, sd) -/
theorem c_isFrame (l : Launch) (G : rG) (sc : Nat → Int32) (ar : Nat → Nat → Int32) (i sd : Nat) (hi : i < 41) (hsd : sd ≤ 1) (bs : List Int32) (hB9 : ∀ x ∈ bs, isB x) (hl13 : 13 ≤ bs.length) (hl40 : bs.length ≤ 40) (h32 : ar 32 i = nI bs.length) (hbs : ∀ j, j < bs.length → ar 31 (40 * i + j) = bs.getD j 0) : gM l G.1 (rT G) yX12_isFrame wsX12_isFrame ({ frames := 2, cells := 0, slots := 0, locals := 48 }) [.ref G.2.1, .int (nI i), .int (nI sd)] (rWs G (sc, ar)) (gQi G.1 (rT G) (fun (r : Int32) (u : rSt) => ∃ g cl, u = (upd sc 46 cl, va_up ar 45 g) ∧ ((r = nI 1 ∧ okF sd bs ∧ cl = nI (nF bs) ∧ ∀ j, j < nF bs → g j = nI (crF bs j)) ∨ (r = nI 0 ∧ ¬ okF sd bs))) (rWs G)) 0 0 := by
  refine gM.of (cc := cX12_isFrame) (maxL := 10) (ret := (some .boolean)) (by decide) rfl (Nat.le_of_ble_eq_true rfl) ?_
  intro p e s m below meth c A ls hx hb hr hml hown hts hlocks hnm hB hl
  have hin : ∀ w ∈ wsX120, w ∈ wsX12_isFrame := fun w h => List.mem_cons_of_mem _ (List.mem_append_right _ h)
  have hl : lv_has ls 10 [(0, .ref G.2.1), (1, .int (nI i)), (2, .int (nI sd))] := hl
  refine lv_bipush (v := nI 40) hx hb dX12_isFrame_0 (by decide) ?_
  refine lv_iload_n hx hb dX12_isFrame_2 rfl (lv_at hl 1 rfl) ?_
  refine lv_imul hx hb dX12_isFrame_3 ?_
  refine g_top (y := nI (40 * i)) (pk_mul _ _) ?_
  refine g_top (y := nI (40 * i)) rfl ?_
  refine lv_istore_n (lv' := [(3, .int (nI (40 * i))), (0, .ref G.2.1), (1, .int (nI i)), (2, .int (nI sd))]) hx hb dX12_isFrame_4 rfl hl (by decide) rfl (fun ls hl => ?_)
  refine lv_aload_n hx hb dX12_isFrame_5 rfl (lv_at hl 1 rfl) ?_
  refine r_get (u := (sc, ar)) (v := .ref (G.2.2.1 31)) hx hb hts hin hown hB 31 (by decide) (hts (.fieldLink RX12 51 "PointReportsModel" "frames" "[I") (by decide +kernel)) rfl rfl dX12_isFrame_6 ?_
  refine lv_iload_n hx hb dX12_isFrame_9 rfl (lv_at hl 0 rfl) ?_
  refine lv_iconst (v := nI 2) hx hb dX12_isFrame_10 (by decide) ?_
  refine lv_iadd hx hb dX12_isFrame_11 ?_
  refine g_top (y := nI ((40 * i) + 2)) (nI_add _ _) ?_
  refine r_ald (u := (sc, ar)) (f := ar 31) hx hb hB 13 rfl ((40 * i) + 2) rfl (by omega) (by decide) dX12_isFrame_12 ?_
  have q13 := bq_at hB9 (j := 2) (by omega)
  refine g_top (y := nI (bq bs 2)) ((hbs 2 (by omega)).trans q13.1) ?_
  have q13 := q13.2
  refine lv_iconst (v := nI 5) hx hb dX12_isFrame_13 (by decide) ?_
  refine lv_isub hx hb dX12_isFrame_14 ?_
  have hb2 := lt2_nI (x := bq bs 2) (by omega)
  refine lv_istore (lv' := [(4, .int ((nI (bq bs 2)) - (nI 5))), (3, .int (nI (40 * i))), (0, .ref G.2.1), (1, .int (nI i)), (2, .int (nI sd))]) hx hb dX12_isFrame_15 hl (by decide) rfl (fun ls hl => ?_)
  refine lv_aload_n hx hb dX12_isFrame_17 rfl (lv_at hl 2 rfl) ?_
  refine r_get (u := (sc, ar)) (v := .ref (G.2.2.1 31)) hx hb hts hin hown hB 31 (by decide) (hts (.fieldLink RX12 51 "PointReportsModel" "frames" "[I") (by decide +kernel)) rfl rfl dX12_isFrame_18 ?_
  refine lv_iload_n hx hb dX12_isFrame_21 rfl (lv_at hl 1 rfl) ?_
  refine r_ald (u := (sc, ar)) (f := ar 31) hx hb hB 13 rfl (40 * i) rfl (by omega) (by decide) dX12_isFrame_22 ?_
  have q23 := bq_at hB9 (j := 0) (by omega)
  refine g_top (y := nI (bq bs 0)) ((hbs 0 (by omega)).trans q23.1) ?_
  have q23 := q23.2
  refine lv_iconst (v := nI 5) hx hb dX12_isFrame_23 (by decide) ?_
  refine lv_icmp_ne (tgt := 57) hx hb dX12_isFrame_24 (by decide) (fun c_1 => ?_) (fun c_1 => ?_)
  · have c_1 : ¬ (bq bs 0) = 5 := fun h9 => c_1 ((nI_eq (a := (bq bs 0)) (b := 5) (by omega) (by omega)).mpr h9)
    have hno : ¬ okF sd bs := fun z => by have := z.1; omega
    refine lv_iconst (v := nI 0) hx hb dX12_isFrame_57 (by decide) ?_
    refine lv_istore (lv' := [(5, .int (nI 0)), (4, .int ((nI (bq bs 2)) - (nI 5))), (3, .int (nI (40 * i))), (0, .ref G.2.1), (1, .int (nI i)), (2, .int (nI sd))]) hx hb dX12_isFrame_58 hl (by decide) rfl (fun ls hl => ?_)
    refine lv_iload hx hb dX12_isFrame_60 (lv_at hl 0 rfl) ?_
    refine lv_if_eq (tgt := 145) hx hb dX12_isFrame_62 (by decide) (fun c_2 => ?_) (fun c_2 => ?_)
    · have c_2 : 0 = 0 := (nI_eq (a := 0) (b := 0) (by omega) (by omega)).mp c_2
      refine lv_iconst (v := nI 0) hx hb dX12_isFrame_145 (by decide) ?_
      refine lv_istore (lv' := [(5, .int (nI 0)), (4, .int ((nI (bq bs 2)) - (nI 5))), (3, .int (nI (40 * i))), (0, .ref G.2.1), (1, .int (nI i)), (2, .int (nI sd))]) hx hb dX12_isFrame_146 hl (by decide) rfl (fun ls hl => ?_)
      refine lv_iload hx hb dX12_isFrame_148 (lv_at hl 0 rfl) ?_
      refine lv_if_eq (tgt := 192) hx hb dX12_isFrame_150 (by decide) (fun c_3 => ?_) (fun c_3 => ?_)
      · have c_3 : 0 = 0 := (nI_eq (a := 0) (b := 0) (by omega) (by omega)).mp c_3
        refine lv_iconst (v := nI 0) hx hb dX12_isFrame_192 (by decide) ?_
        refine lv_istore (lv' := [(5, .int (nI 0)), (4, .int ((nI (bq bs 2)) - (nI 5))), (3, .int (nI (40 * i))), (0, .ref G.2.1), (1, .int (nI i)), (2, .int (nI sd))]) hx hb dX12_isFrame_193 hl (by decide) rfl (fun ls hl => ?_)
        refine lv_aload_n hx hb dX12_isFrame_195 rfl (lv_at hl 3 rfl) ?_
        refine lv_iconst (v := nI 0) hx hb dX12_isFrame_196 (by decide) ?_
        refine r_put (u := (sc, ar)) (v := nI 0) (upd sc 46 (nI 0)) hx hb hts hin hown hB 46 (by decide) (hts (.fieldLink RX12 118 "PointReportsModel" "carriedLength" "I") (by decide +kernel)) rfl (ty := .int) rfl rfl rfl rfl rfl dX12_isFrame_197 (fun H locs hB => ?_)
        refine lv_iload_n hx hb dX12_isFrame_200 rfl (lv_at hl 2 rfl) ?_
        refine lv_bipush (v := nI 10) hx hb dX12_isFrame_201 (by decide) ?_
        refine lv_iadd hx hb dX12_isFrame_203 ?_
        refine g_top (y := nI ((40 * i) + 10)) (nI_add _ _) ?_
        refine lv_istore (lv' := [(6, .int (nI ((40 * i) + 10))), (5, .int (nI 0)), (4, .int ((nI (bq bs 2)) - (nI 5))), (3, .int (nI (40 * i))), (0, .ref G.2.1), (1, .int (nI i)), (2, .int (nI sd))]) hx hb dX12_isFrame_204 hl (by decide) rfl (fun ls hl => ?_)
        refine lv_iload hx hb dX12_isFrame_206 (lv_at hl 2 rfl) ?_
        refine lv_istore (lv' := [(7, .int ((nI (bq bs 2)) - (nI 5))), (6, .int (nI ((40 * i) + 10))), (5, .int (nI 0)), (4, .int ((nI (bq bs 2)) - (nI 5))), (3, .int (nI (40 * i))), (0, .ref G.2.1), (1, .int (nI i)), (2, .int (nI sd))]) hx hb dX12_isFrame_208 hl (by decide) rfl (fun ls hl => ?_)
        refine lv_iload hx hb dX12_isFrame_210 (lv_at hl 2 rfl) ?_
        refine lv_if_eq (tgt := 310) hx hb dX12_isFrame_212 (by decide) (fun c_4 => ?_) (fun c_4 => ?_)
        · have c_4 : 0 = 0 := (nI_eq (a := 0) (b := 0) (by omega) (by omega)).mp c_4
          refine lv_iload hx hb dX12_isFrame_310 (lv_at hl 2 rfl) ?_
          have hB : gB G.1 (rT G) A s H locs (rWs G (upd sc 46 (nI 0), va_up ar 45 (ar 45))) := hB
          exact g_zret (Wd := rWs G) (v := nI 0) (upd sc 46 (nI 0), va_up ar 45 (ar 45)) hB hx hb hr hlocks rfl (narrow_z (Or.inl rfl)) ⟨ar 45, nI 0, rfl, Or.inr ⟨rfl, hno⟩⟩ dX12_isFrame_312
        · have c_4 : ¬ 0 = 0 := fun h9 => c_4 ((nI_eq (a := 0) (b := 0) (by omega) (by omega)).mpr h9)
          exact absurd rfl c_4
      · have c_3 : ¬ 0 = 0 := fun h9 => c_3 ((nI_eq (a := 0) (b := 0) (by omega) (by omega)).mpr h9)
        exact absurd rfl c_3
    · have c_2 : ¬ 0 = 0 := fun h9 => c_2 ((nI_eq (a := 0) (b := 0) (by omega) (by omega)).mpr h9)
      exact absurd rfl c_2
  · have c_1 : (bq bs 0) = 5 := (nI_eq (a := (bq bs 0)) (b := 5) (by omega) (by omega)).mp c_1
    refine lv_aload_n hx hb dX12_isFrame_27 rfl (lv_at hl 2 rfl) ?_
    refine r_get (u := (sc, ar)) (v := .ref (G.2.2.1 31)) hx hb hts hin hown hB 31 (by decide) (hts (.fieldLink RX12 51 "PointReportsModel" "frames" "[I") (by decide +kernel)) rfl rfl dX12_isFrame_28 ?_
    refine lv_iload_n hx hb dX12_isFrame_31 rfl (lv_at hl 1 rfl) ?_
    refine lv_iconst (v := nI 1) hx hb dX12_isFrame_32 (by decide) ?_
    refine lv_iadd hx hb dX12_isFrame_33 ?_
    refine g_top (y := nI ((40 * i) + 1)) (nI_add _ _) ?_
    refine r_ald (u := (sc, ar)) (f := ar 31) hx hb hB 13 rfl ((40 * i) + 1) rfl (by omega) (by decide) dX12_isFrame_34 ?_
    have q35 := bq_at hB9 (j := 1) (by omega)
    refine g_top (y := nI (bq bs 1)) ((hbs 1 (by omega)).trans q35.1) ?_
    have q35 := q35.2
    refine lv_bipush (v := nI 100) hx hb dX12_isFrame_35 (by decide) ?_
    refine lv_icmp_ne (tgt := 57) hx hb dX12_isFrame_37 (by decide) (fun c_5 => ?_) (fun c_5 => ?_)
    · have c_5 : ¬ (bq bs 1) = 100 := fun h9 => c_5 ((nI_eq (a := (bq bs 1)) (b := 100) (by omega) (by omega)).mpr h9)
      have hno : ¬ okF sd bs := fun z => by have := z.2.1; omega
      refine lv_iconst (v := nI 0) hx hb dX12_isFrame_57 (by decide) ?_
      refine lv_istore (lv' := [(5, .int (nI 0)), (4, .int ((nI (bq bs 2)) - (nI 5))), (3, .int (nI (40 * i))), (0, .ref G.2.1), (1, .int (nI i)), (2, .int (nI sd))]) hx hb dX12_isFrame_58 hl (by decide) rfl (fun ls hl => ?_)
      refine lv_iload hx hb dX12_isFrame_60 (lv_at hl 0 rfl) ?_
      refine lv_if_eq (tgt := 145) hx hb dX12_isFrame_62 (by decide) (fun c_6 => ?_) (fun c_6 => ?_)
      · have c_6 : 0 = 0 := (nI_eq (a := 0) (b := 0) (by omega) (by omega)).mp c_6
        refine lv_iconst (v := nI 0) hx hb dX12_isFrame_145 (by decide) ?_
        refine lv_istore (lv' := [(5, .int (nI 0)), (4, .int ((nI (bq bs 2)) - (nI 5))), (3, .int (nI (40 * i))), (0, .ref G.2.1), (1, .int (nI i)), (2, .int (nI sd))]) hx hb dX12_isFrame_146 hl (by decide) rfl (fun ls hl => ?_)
        refine lv_iload hx hb dX12_isFrame_148 (lv_at hl 0 rfl) ?_
        refine lv_if_eq (tgt := 192) hx hb dX12_isFrame_150 (by decide) (fun c_7 => ?_) (fun c_7 => ?_)
        · have c_7 : 0 = 0 := (nI_eq (a := 0) (b := 0) (by omega) (by omega)).mp c_7
          refine lv_iconst (v := nI 0) hx hb dX12_isFrame_192 (by decide) ?_
          refine lv_istore (lv' := [(5, .int (nI 0)), (4, .int ((nI (bq bs 2)) - (nI 5))), (3, .int (nI (40 * i))), (0, .ref G.2.1), (1, .int (nI i)), (2, .int (nI sd))]) hx hb dX12_isFrame_193 hl (by decide) rfl (fun ls hl => ?_)
          refine lv_aload_n hx hb dX12_isFrame_195 rfl (lv_at hl 3 rfl) ?_
          refine lv_iconst (v := nI 0) hx hb dX12_isFrame_196 (by decide) ?_
          refine r_put (u := (sc, ar)) (v := nI 0) (upd sc 46 (nI 0)) hx hb hts hin hown hB 46 (by decide) (hts (.fieldLink RX12 118 "PointReportsModel" "carriedLength" "I") (by decide +kernel)) rfl (ty := .int) rfl rfl rfl rfl rfl dX12_isFrame_197 (fun H locs hB => ?_)
          refine lv_iload_n hx hb dX12_isFrame_200 rfl (lv_at hl 2 rfl) ?_
          refine lv_bipush (v := nI 10) hx hb dX12_isFrame_201 (by decide) ?_
          refine lv_iadd hx hb dX12_isFrame_203 ?_
          refine g_top (y := nI ((40 * i) + 10)) (nI_add _ _) ?_
          refine lv_istore (lv' := [(6, .int (nI ((40 * i) + 10))), (5, .int (nI 0)), (4, .int ((nI (bq bs 2)) - (nI 5))), (3, .int (nI (40 * i))), (0, .ref G.2.1), (1, .int (nI i)), (2, .int (nI sd))]) hx hb dX12_isFrame_204 hl (by decide) rfl (fun ls hl => ?_)
          refine lv_iload hx hb dX12_isFrame_206 (lv_at hl 2 rfl) ?_
          refine lv_istore (lv' := [(7, .int ((nI (bq bs 2)) - (nI 5))), (6, .int (nI ((40 * i) + 10))), (5, .int (nI 0)), (4, .int ((nI (bq bs 2)) - (nI 5))), (3, .int (nI (40 * i))), (0, .ref G.2.1), (1, .int (nI i)), (2, .int (nI sd))]) hx hb dX12_isFrame_208 hl (by decide) rfl (fun ls hl => ?_)
          refine lv_iload hx hb dX12_isFrame_210 (lv_at hl 2 rfl) ?_
          refine lv_if_eq (tgt := 310) hx hb dX12_isFrame_212 (by decide) (fun c_8 => ?_) (fun c_8 => ?_)
          · have c_8 : 0 = 0 := (nI_eq (a := 0) (b := 0) (by omega) (by omega)).mp c_8
            refine lv_iload hx hb dX12_isFrame_310 (lv_at hl 2 rfl) ?_
            have hB : gB G.1 (rT G) A s H locs (rWs G (upd sc 46 (nI 0), va_up ar 45 (ar 45))) := hB
            exact g_zret (Wd := rWs G) (v := nI 0) (upd sc 46 (nI 0), va_up ar 45 (ar 45)) hB hx hb hr hlocks rfl (narrow_z (Or.inl rfl)) ⟨ar 45, nI 0, rfl, Or.inr ⟨rfl, hno⟩⟩ dX12_isFrame_312
          · have c_8 : ¬ 0 = 0 := fun h9 => c_8 ((nI_eq (a := 0) (b := 0) (by omega) (by omega)).mpr h9)
            exact absurd rfl c_8
        · have c_7 : ¬ 0 = 0 := fun h9 => c_7 ((nI_eq (a := 0) (b := 0) (by omega) (by omega)).mpr h9)
          exact absurd rfl c_7
      · have c_6 : ¬ 0 = 0 := fun h9 => c_6 ((nI_eq (a := 0) (b := 0) (by omega) (by omega)).mpr h9)
        exact absurd rfl c_6
    · have c_5 : (bq bs 1) = 100 := (nI_eq (a := (bq bs 1)) (b := 100) (by omega) (by omega)).mp c_5
      refine lv_iload hx hb dX12_isFrame_40 (lv_at hl 0 rfl) ?_
      refine lv_iconst (v := nI 2) hx hb dX12_isFrame_42 (by decide) ?_
      refine lv_icmp_lt (tgt := 57) hx hb dX12_isFrame_43 (by decide) (fun c_9 => ?_) (fun c_9 => ?_)
      · have c_9 := c_9
        have h7 : bq bs 2 < 2 + 5 := (hb2 2 (by decide)).mp c_9
        have hno : ¬ okF sd bs := fun z => by have := z.2.2.1; omega
        refine lv_iconst (v := nI 0) hx hb dX12_isFrame_57 (by decide) ?_
        refine lv_istore (lv' := [(5, .int (nI 0)), (4, .int ((nI (bq bs 2)) - (nI 5))), (3, .int (nI (40 * i))), (0, .ref G.2.1), (1, .int (nI i)), (2, .int (nI sd))]) hx hb dX12_isFrame_58 hl (by decide) rfl (fun ls hl => ?_)
        refine lv_iload hx hb dX12_isFrame_60 (lv_at hl 0 rfl) ?_
        refine lv_if_eq (tgt := 145) hx hb dX12_isFrame_62 (by decide) (fun c_10 => ?_) (fun c_10 => ?_)
        · have c_10 : 0 = 0 := (nI_eq (a := 0) (b := 0) (by omega) (by omega)).mp c_10
          refine lv_iconst (v := nI 0) hx hb dX12_isFrame_145 (by decide) ?_
          refine lv_istore (lv' := [(5, .int (nI 0)), (4, .int ((nI (bq bs 2)) - (nI 5))), (3, .int (nI (40 * i))), (0, .ref G.2.1), (1, .int (nI i)), (2, .int (nI sd))]) hx hb dX12_isFrame_146 hl (by decide) rfl (fun ls hl => ?_)
          refine lv_iload hx hb dX12_isFrame_148 (lv_at hl 0 rfl) ?_
          refine lv_if_eq (tgt := 192) hx hb dX12_isFrame_150 (by decide) (fun c_11 => ?_) (fun c_11 => ?_)
          · have c_11 : 0 = 0 := (nI_eq (a := 0) (b := 0) (by omega) (by omega)).mp c_11
            refine lv_iconst (v := nI 0) hx hb dX12_isFrame_192 (by decide) ?_
            refine lv_istore (lv' := [(5, .int (nI 0)), (4, .int ((nI (bq bs 2)) - (nI 5))), (3, .int (nI (40 * i))), (0, .ref G.2.1), (1, .int (nI i)), (2, .int (nI sd))]) hx hb dX12_isFrame_193 hl (by decide) rfl (fun ls hl => ?_)
            refine lv_aload_n hx hb dX12_isFrame_195 rfl (lv_at hl 3 rfl) ?_
            refine lv_iconst (v := nI 0) hx hb dX12_isFrame_196 (by decide) ?_
            refine r_put (u := (sc, ar)) (v := nI 0) (upd sc 46 (nI 0)) hx hb hts hin hown hB 46 (by decide) (hts (.fieldLink RX12 118 "PointReportsModel" "carriedLength" "I") (by decide +kernel)) rfl (ty := .int) rfl rfl rfl rfl rfl dX12_isFrame_197 (fun H locs hB => ?_)
            refine lv_iload_n hx hb dX12_isFrame_200 rfl (lv_at hl 2 rfl) ?_
            refine lv_bipush (v := nI 10) hx hb dX12_isFrame_201 (by decide) ?_
            refine lv_iadd hx hb dX12_isFrame_203 ?_
            refine g_top (y := nI ((40 * i) + 10)) (nI_add _ _) ?_
            refine lv_istore (lv' := [(6, .int (nI ((40 * i) + 10))), (5, .int (nI 0)), (4, .int ((nI (bq bs 2)) - (nI 5))), (3, .int (nI (40 * i))), (0, .ref G.2.1), (1, .int (nI i)), (2, .int (nI sd))]) hx hb dX12_isFrame_204 hl (by decide) rfl (fun ls hl => ?_)
            refine lv_iload hx hb dX12_isFrame_206 (lv_at hl 2 rfl) ?_
            refine lv_istore (lv' := [(7, .int ((nI (bq bs 2)) - (nI 5))), (6, .int (nI ((40 * i) + 10))), (5, .int (nI 0)), (4, .int ((nI (bq bs 2)) - (nI 5))), (3, .int (nI (40 * i))), (0, .ref G.2.1), (1, .int (nI i)), (2, .int (nI sd))]) hx hb dX12_isFrame_208 hl (by decide) rfl (fun ls hl => ?_)
            refine lv_iload hx hb dX12_isFrame_210 (lv_at hl 2 rfl) ?_
            refine lv_if_eq (tgt := 310) hx hb dX12_isFrame_212 (by decide) (fun c_12 => ?_) (fun c_12 => ?_)
            · have c_12 : 0 = 0 := (nI_eq (a := 0) (b := 0) (by omega) (by omega)).mp c_12
              refine lv_iload hx hb dX12_isFrame_310 (lv_at hl 2 rfl) ?_
              have hB : gB G.1 (rT G) A s H locs (rWs G (upd sc 46 (nI 0), va_up ar 45 (ar 45))) := hB
              exact g_zret (Wd := rWs G) (v := nI 0) (upd sc 46 (nI 0), va_up ar 45 (ar 45)) hB hx hb hr hlocks rfl (narrow_z (Or.inl rfl)) ⟨ar 45, nI 0, rfl, Or.inr ⟨rfl, hno⟩⟩ dX12_isFrame_312
            · have c_12 : ¬ 0 = 0 := fun h9 => c_12 ((nI_eq (a := 0) (b := 0) (by omega) (by omega)).mpr h9)
              exact absurd rfl c_12
          · have c_11 : ¬ 0 = 0 := fun h9 => c_11 ((nI_eq (a := 0) (b := 0) (by omega) (by omega)).mpr h9)
            exact absurd rfl c_11
        · have c_10 : ¬ 0 = 0 := fun h9 => c_10 ((nI_eq (a := 0) (b := 0) (by omega) (by omega)).mpr h9)
          exact absurd rfl c_10
      · have c_9 := c_9
        have h7 : ¬ bq bs 2 < 2 + 5 := fun z => c_9 ((hb2 2 (by decide)).mpr z)
        have hn : nI (bq bs 2) - nI 5 = nI (nF bs) := pk_sub (by omega)
        have hnF : nF bs = bq bs 2 - 5 := rfl
        rw [hn] at hl
        refine lv_iload hx hb dX12_isFrame_46 (lv_at hl 0 rfl) ?_
        refine lv_bipush (v := nI 21) hx hb dX12_isFrame_48 (by decide) ?_
        refine lv_icmp_gt (tgt := 57) hx hb dX12_isFrame_50 (by decide) (fun c_13 => ?_) (fun c_13 => ?_)
        · have c_13 : 21 < (nF bs) := (nI_ltI (a := 21) (b := (nF bs)) (by omega) (by omega)).mp c_13
          have hno : ¬ okF sd bs := fun z => by have := z.2.2.2.1; omega
          refine lv_iconst (v := nI 0) hx hb dX12_isFrame_57 (by decide) ?_
          refine lv_istore (lv' := [(5, .int (nI 0)), (4, .int (nI (nF bs))), (3, .int (nI (40 * i))), (0, .ref G.2.1), (1, .int (nI i)), (2, .int (nI sd))]) hx hb dX12_isFrame_58 hl (by decide) rfl (fun ls hl => ?_)
          refine lv_iload hx hb dX12_isFrame_60 (lv_at hl 0 rfl) ?_
          refine lv_if_eq (tgt := 145) hx hb dX12_isFrame_62 (by decide) (fun c_14 => ?_) (fun c_14 => ?_)
          · have c_14 : 0 = 0 := (nI_eq (a := 0) (b := 0) (by omega) (by omega)).mp c_14
            refine lv_iconst (v := nI 0) hx hb dX12_isFrame_145 (by decide) ?_
            refine lv_istore (lv' := [(5, .int (nI 0)), (4, .int (nI (nF bs))), (3, .int (nI (40 * i))), (0, .ref G.2.1), (1, .int (nI i)), (2, .int (nI sd))]) hx hb dX12_isFrame_146 hl (by decide) rfl (fun ls hl => ?_)
            refine lv_iload hx hb dX12_isFrame_148 (lv_at hl 0 rfl) ?_
            refine lv_if_eq (tgt := 192) hx hb dX12_isFrame_150 (by decide) (fun c_15 => ?_) (fun c_15 => ?_)
            · have c_15 : 0 = 0 := (nI_eq (a := 0) (b := 0) (by omega) (by omega)).mp c_15
              refine lv_iconst (v := nI 0) hx hb dX12_isFrame_192 (by decide) ?_
              refine lv_istore (lv' := [(5, .int (nI 0)), (4, .int (nI (nF bs))), (3, .int (nI (40 * i))), (0, .ref G.2.1), (1, .int (nI i)), (2, .int (nI sd))]) hx hb dX12_isFrame_193 hl (by decide) rfl (fun ls hl => ?_)
              refine lv_aload_n hx hb dX12_isFrame_195 rfl (lv_at hl 3 rfl) ?_
              refine lv_iconst (v := nI 0) hx hb dX12_isFrame_196 (by decide) ?_
              refine r_put (u := (sc, ar)) (v := nI 0) (upd sc 46 (nI 0)) hx hb hts hin hown hB 46 (by decide) (hts (.fieldLink RX12 118 "PointReportsModel" "carriedLength" "I") (by decide +kernel)) rfl (ty := .int) rfl rfl rfl rfl rfl dX12_isFrame_197 (fun H locs hB => ?_)
              refine lv_iload_n hx hb dX12_isFrame_200 rfl (lv_at hl 2 rfl) ?_
              refine lv_bipush (v := nI 10) hx hb dX12_isFrame_201 (by decide) ?_
              refine lv_iadd hx hb dX12_isFrame_203 ?_
              refine g_top (y := nI ((40 * i) + 10)) (nI_add _ _) ?_
              refine lv_istore (lv' := [(6, .int (nI ((40 * i) + 10))), (5, .int (nI 0)), (4, .int (nI (nF bs))), (3, .int (nI (40 * i))), (0, .ref G.2.1), (1, .int (nI i)), (2, .int (nI sd))]) hx hb dX12_isFrame_204 hl (by decide) rfl (fun ls hl => ?_)
              refine lv_iload hx hb dX12_isFrame_206 (lv_at hl 2 rfl) ?_
              refine lv_istore (lv' := [(7, .int (nI (nF bs))), (6, .int (nI ((40 * i) + 10))), (5, .int (nI 0)), (4, .int (nI (nF bs))), (3, .int (nI (40 * i))), (0, .ref G.2.1), (1, .int (nI i)), (2, .int (nI sd))]) hx hb dX12_isFrame_208 hl (by decide) rfl (fun ls hl => ?_)
              refine lv_iload hx hb dX12_isFrame_210 (lv_at hl 2 rfl) ?_
              refine lv_if_eq (tgt := 310) hx hb dX12_isFrame_212 (by decide) (fun c_16 => ?_) (fun c_16 => ?_)
              · have c_16 : 0 = 0 := (nI_eq (a := 0) (b := 0) (by omega) (by omega)).mp c_16
                refine lv_iload hx hb dX12_isFrame_310 (lv_at hl 2 rfl) ?_
                have hB : gB G.1 (rT G) A s H locs (rWs G (upd sc 46 (nI 0), va_up ar 45 (ar 45))) := hB
                exact g_zret (Wd := rWs G) (v := nI 0) (upd sc 46 (nI 0), va_up ar 45 (ar 45)) hB hx hb hr hlocks rfl (narrow_z (Or.inl rfl)) ⟨ar 45, nI 0, rfl, Or.inr ⟨rfl, hno⟩⟩ dX12_isFrame_312
              · have c_16 : ¬ 0 = 0 := fun h9 => c_16 ((nI_eq (a := 0) (b := 0) (by omega) (by omega)).mpr h9)
                exact absurd rfl c_16
            · have c_15 : ¬ 0 = 0 := fun h9 => c_15 ((nI_eq (a := 0) (b := 0) (by omega) (by omega)).mpr h9)
              exact absurd rfl c_15
          · have c_14 : ¬ 0 = 0 := fun h9 => c_14 ((nI_eq (a := 0) (b := 0) (by omega) (by omega)).mpr h9)
            exact absurd rfl c_14
        · have c_13 : ¬ 21 < (nF bs) := fun h9 => c_13 ((nI_ltI (a := 21) (b := (nF bs)) (by omega) (by omega)).mpr h9)
          refine lv_iconst (v := nI 1) hx hb dX12_isFrame_53 (by decide) ?_
          refine lv_goto (tgt := 58) hx hb dX12_isFrame_54 (by decide) ?_
          refine lv_istore (lv' := [(5, .int (nI 1)), (4, .int (nI (nF bs))), (3, .int (nI (40 * i))), (0, .ref G.2.1), (1, .int (nI i)), (2, .int (nI sd))]) hx hb dX12_isFrame_58 hl (by decide) rfl (fun ls hl => ?_)
          refine lv_iload hx hb dX12_isFrame_60 (lv_at hl 0 rfl) ?_
          refine lv_if_eq (tgt := 145) hx hb dX12_isFrame_62 (by decide) (fun c_17 => ?_) (fun c_17 => ?_)
          · have c_17 : 1 = 0 := (nI_eq (a := 1) (b := 0) (by omega) (by omega)).mp c_17
            exact absurd c_17 (by decide)
          · have c_17 : ¬ 1 = 0 := fun h9 => c_17 ((nI_eq (a := 1) (b := 0) (by omega) (by omega)).mpr h9)
            refine lv_aload_n hx hb dX12_isFrame_65 rfl (lv_at hl 3 rfl) ?_
            refine r_get (u := (sc, ar)) (v := .ref (G.2.2.1 31)) hx hb hts hin hown hB 31 (by decide) (hts (.fieldLink RX12 51 "PointReportsModel" "frames" "[I") (by decide +kernel)) rfl rfl dX12_isFrame_66 ?_
            refine lv_iload_n hx hb dX12_isFrame_69 rfl (lv_at hl 2 rfl) ?_
            refine lv_iconst (v := nI 3) hx hb dX12_isFrame_70 (by decide) ?_
            refine lv_iadd hx hb dX12_isFrame_71 ?_
            refine g_top (y := nI ((40 * i) + 3)) (nI_add _ _) ?_
            refine r_ald (u := (sc, ar)) (f := ar 31) hx hb hB 13 rfl ((40 * i) + 3) rfl (by omega) (by decide) dX12_isFrame_72 ?_
            have q73 := bq_at hB9 (j := 3) (by omega)
            refine g_top (y := nI (bq bs 3)) ((hbs 3 (by omega)).trans q73.1) ?_
            have q73 := q73.2
            refine lv_iload_n hx hb dX12_isFrame_73 rfl (lv_at hl 5 rfl) ?_
            refine lv_iconst (v := nI 1) hx hb dX12_isFrame_74 (by decide) ?_
            refine g_cut (σ := Unit) 86 (fun _ H locs ls => gB G.1 (rT G) A s H locs (rWs G (sc, ar)) ∧ lv_has ls 10 [(5, .int (nI 1)), (4, .int (nI (nF bs))), (3, .int (nI (40 * i))), (0, .ref G.2.1), (1, .int (nI i)), (2, .int (nI sd))]) (fun _ => [.int (nI (if sd = 1 then 196 else 68)), .int (nI (bq bs 3))]) ?_ (fun cut => ?_)
            rotate_left
            · refine lv_icmp_ne (tgt := 84) hx hb dX12_isFrame_75 (by decide) (fun c_18 => ?_) (fun c_18 => ?_)
              · have c_18 : ¬ sd = 1 := fun h9 => c_18 ((nI_eq (a := sd) (b := 1) (by omega) (by omega)).mpr h9)
                refine lv_bipush (v := nI 68) hx hb dX12_isFrame_84 (by decide) ?_
                refine g_top (y := nI (if sd = 1 then 196 else 68)) (by rw [if_neg c_18]) ?_
                exact cut () s.heap [] ls ⟨hB, hl⟩
              · have c_18 : sd = 1 := (nI_eq (a := sd) (b := 1) (by omega) (by omega)).mp c_18
                refine lv_sipush (v := nI 196) hx hb dX12_isFrame_78 (by decide) ?_
                refine lv_goto (tgt := 86) hx hb dX12_isFrame_81 (by decide) ?_
                refine g_top (y := nI (if sd = 1 then 196 else 68)) (by rw [if_pos c_18]) ?_
                exact cut () s.heap [] ls ⟨hB, hl⟩
            rintro - H locs ls ⟨hB, hl⟩
            have hc3 : (if sd = 1 then 196 else 68) < 256 := by split <;> decide
            refine lv_icmp_ne (tgt := 145) hx hb dX12_isFrame_86 (by decide) (fun c_19 => ?_) (fun c_19 => ?_)
            · have c_19 : ¬ (bq bs 3) = (if sd = 1 then 196 else 68) := fun h9 => c_19 ((nI_eq (a := (bq bs 3)) (b := (if sd = 1 then 196 else 68)) (by omega) (by omega)).mpr h9)
              have hno : ¬ okF sd bs := fun z => c_19 z.2.2.2.2.1
              refine lv_iconst (v := nI 0) hx hb dX12_isFrame_145 (by decide) ?_
              refine lv_istore (lv' := [(5, .int (nI 0)), (4, .int (nI (nF bs))), (3, .int (nI (40 * i))), (0, .ref G.2.1), (1, .int (nI i)), (2, .int (nI sd))]) hx hb dX12_isFrame_146 hl (by decide) rfl (fun ls hl => ?_)
              refine lv_iload hx hb dX12_isFrame_148 (lv_at hl 0 rfl) ?_
              refine lv_if_eq (tgt := 192) hx hb dX12_isFrame_150 (by decide) (fun c_20 => ?_) (fun c_20 => ?_)
              · have c_20 : 0 = 0 := (nI_eq (a := 0) (b := 0) (by omega) (by omega)).mp c_20
                refine lv_iconst (v := nI 0) hx hb dX12_isFrame_192 (by decide) ?_
                refine lv_istore (lv' := [(5, .int (nI 0)), (4, .int (nI (nF bs))), (3, .int (nI (40 * i))), (0, .ref G.2.1), (1, .int (nI i)), (2, .int (nI sd))]) hx hb dX12_isFrame_193 hl (by decide) rfl (fun ls hl => ?_)
                refine lv_aload_n hx hb dX12_isFrame_195 rfl (lv_at hl 3 rfl) ?_
                refine lv_iconst (v := nI 0) hx hb dX12_isFrame_196 (by decide) ?_
                refine r_put (u := (sc, ar)) (v := nI 0) (upd sc 46 (nI 0)) hx hb hts hin hown hB 46 (by decide) (hts (.fieldLink RX12 118 "PointReportsModel" "carriedLength" "I") (by decide +kernel)) rfl (ty := .int) rfl rfl rfl rfl rfl dX12_isFrame_197 (fun H locs hB => ?_)
                refine lv_iload_n hx hb dX12_isFrame_200 rfl (lv_at hl 2 rfl) ?_
                refine lv_bipush (v := nI 10) hx hb dX12_isFrame_201 (by decide) ?_
                refine lv_iadd hx hb dX12_isFrame_203 ?_
                refine g_top (y := nI ((40 * i) + 10)) (nI_add _ _) ?_
                refine lv_istore (lv' := [(6, .int (nI ((40 * i) + 10))), (5, .int (nI 0)), (4, .int (nI (nF bs))), (3, .int (nI (40 * i))), (0, .ref G.2.1), (1, .int (nI i)), (2, .int (nI sd))]) hx hb dX12_isFrame_204 hl (by decide) rfl (fun ls hl => ?_)
                refine lv_iload hx hb dX12_isFrame_206 (lv_at hl 2 rfl) ?_
                refine lv_istore (lv' := [(7, .int (nI (nF bs))), (6, .int (nI ((40 * i) + 10))), (5, .int (nI 0)), (4, .int (nI (nF bs))), (3, .int (nI (40 * i))), (0, .ref G.2.1), (1, .int (nI i)), (2, .int (nI sd))]) hx hb dX12_isFrame_208 hl (by decide) rfl (fun ls hl => ?_)
                refine lv_iload hx hb dX12_isFrame_210 (lv_at hl 2 rfl) ?_
                refine lv_if_eq (tgt := 310) hx hb dX12_isFrame_212 (by decide) (fun c_21 => ?_) (fun c_21 => ?_)
                · have c_21 : 0 = 0 := (nI_eq (a := 0) (b := 0) (by omega) (by omega)).mp c_21
                  refine lv_iload hx hb dX12_isFrame_310 (lv_at hl 2 rfl) ?_
                  have hB : gB G.1 (rT G) A s H locs (rWs G (upd sc 46 (nI 0), va_up ar 45 (ar 45))) := hB
                  exact g_zret (Wd := rWs G) (v := nI 0) (upd sc 46 (nI 0), va_up ar 45 (ar 45)) hB hx hb hr hlocks rfl (narrow_z (Or.inl rfl)) ⟨ar 45, nI 0, rfl, Or.inr ⟨rfl, hno⟩⟩ dX12_isFrame_312
                · have c_21 : ¬ 0 = 0 := fun h9 => c_21 ((nI_eq (a := 0) (b := 0) (by omega) (by omega)).mpr h9)
                  exact absurd rfl c_21
              · have c_20 : ¬ 0 = 0 := fun h9 => c_20 ((nI_eq (a := 0) (b := 0) (by omega) (by omega)).mpr h9)
                exact absurd rfl c_20
            · have c_19 : (bq bs 3) = (if sd = 1 then 196 else 68) := (nI_eq (a := (bq bs 3)) (b := (if sd = 1 then 196 else 68)) (by omega) (by omega)).mp c_19
              refine lv_aload_n hx hb dX12_isFrame_89 rfl (lv_at hl 3 rfl) ?_
              refine r_get (u := (sc, ar)) (v := .ref (G.2.2.1 31)) hx hb hts hin hown hB 31 (by decide) (hts (.fieldLink RX12 51 "PointReportsModel" "frames" "[I") (by decide +kernel)) rfl rfl dX12_isFrame_90 ?_
              refine lv_iload_n hx hb dX12_isFrame_93 rfl (lv_at hl 2 rfl) ?_
              refine lv_iconst (v := nI 4) hx hb dX12_isFrame_94 (by decide) ?_
              refine lv_iadd hx hb dX12_isFrame_95 ?_
              refine g_top (y := nI ((40 * i) + 4)) (nI_add _ _) ?_
              refine r_ald (u := (sc, ar)) (f := ar 31) hx hb hB 13 rfl ((40 * i) + 4) rfl (by omega) (by decide) dX12_isFrame_96 ?_
              have q97 := bq_at hB9 (j := 4) (by omega)
              refine g_top (y := nI (bq bs 4)) ((hbs 4 (by omega)).trans q97.1) ?_
              have q97 := q97.2
              refine lv_iconst (v := nI 1) hx hb dX12_isFrame_97 (by decide) ?_
              refine lv_iload_n hx hb dX12_isFrame_98 rfl (lv_at hl 5 rfl) ?_
              refine lv_iadd hx hb dX12_isFrame_99 ?_
              refine g_top (y := nI (1 + sd)) (nI_add _ _) ?_
              refine lv_icmp_ne (tgt := 145) hx hb dX12_isFrame_100 (by decide) (fun c_22 => ?_) (fun c_22 => ?_)
              · have c_22 : ¬ (bq bs 4) = (1 + sd) := fun h9 => c_22 ((nI_eq (a := (bq bs 4)) (b := (1 + sd)) (by omega) (by omega)).mpr h9)
                have hno : ¬ okF sd bs := fun z => c_22 z.2.2.2.2.2.1
                refine lv_iconst (v := nI 0) hx hb dX12_isFrame_145 (by decide) ?_
                refine lv_istore (lv' := [(5, .int (nI 0)), (4, .int (nI (nF bs))), (3, .int (nI (40 * i))), (0, .ref G.2.1), (1, .int (nI i)), (2, .int (nI sd))]) hx hb dX12_isFrame_146 hl (by decide) rfl (fun ls hl => ?_)
                refine lv_iload hx hb dX12_isFrame_148 (lv_at hl 0 rfl) ?_
                refine lv_if_eq (tgt := 192) hx hb dX12_isFrame_150 (by decide) (fun c_23 => ?_) (fun c_23 => ?_)
                · have c_23 : 0 = 0 := (nI_eq (a := 0) (b := 0) (by omega) (by omega)).mp c_23
                  refine lv_iconst (v := nI 0) hx hb dX12_isFrame_192 (by decide) ?_
                  refine lv_istore (lv' := [(5, .int (nI 0)), (4, .int (nI (nF bs))), (3, .int (nI (40 * i))), (0, .ref G.2.1), (1, .int (nI i)), (2, .int (nI sd))]) hx hb dX12_isFrame_193 hl (by decide) rfl (fun ls hl => ?_)
                  refine lv_aload_n hx hb dX12_isFrame_195 rfl (lv_at hl 3 rfl) ?_
                  refine lv_iconst (v := nI 0) hx hb dX12_isFrame_196 (by decide) ?_
                  refine r_put (u := (sc, ar)) (v := nI 0) (upd sc 46 (nI 0)) hx hb hts hin hown hB 46 (by decide) (hts (.fieldLink RX12 118 "PointReportsModel" "carriedLength" "I") (by decide +kernel)) rfl (ty := .int) rfl rfl rfl rfl rfl dX12_isFrame_197 (fun H locs hB => ?_)
                  refine lv_iload_n hx hb dX12_isFrame_200 rfl (lv_at hl 2 rfl) ?_
                  refine lv_bipush (v := nI 10) hx hb dX12_isFrame_201 (by decide) ?_
                  refine lv_iadd hx hb dX12_isFrame_203 ?_
                  refine g_top (y := nI ((40 * i) + 10)) (nI_add _ _) ?_
                  refine lv_istore (lv' := [(6, .int (nI ((40 * i) + 10))), (5, .int (nI 0)), (4, .int (nI (nF bs))), (3, .int (nI (40 * i))), (0, .ref G.2.1), (1, .int (nI i)), (2, .int (nI sd))]) hx hb dX12_isFrame_204 hl (by decide) rfl (fun ls hl => ?_)
                  refine lv_iload hx hb dX12_isFrame_206 (lv_at hl 2 rfl) ?_
                  refine lv_istore (lv' := [(7, .int (nI (nF bs))), (6, .int (nI ((40 * i) + 10))), (5, .int (nI 0)), (4, .int (nI (nF bs))), (3, .int (nI (40 * i))), (0, .ref G.2.1), (1, .int (nI i)), (2, .int (nI sd))]) hx hb dX12_isFrame_208 hl (by decide) rfl (fun ls hl => ?_)
                  refine lv_iload hx hb dX12_isFrame_210 (lv_at hl 2 rfl) ?_
                  refine lv_if_eq (tgt := 310) hx hb dX12_isFrame_212 (by decide) (fun c_24 => ?_) (fun c_24 => ?_)
                  · have c_24 : 0 = 0 := (nI_eq (a := 0) (b := 0) (by omega) (by omega)).mp c_24
                    refine lv_iload hx hb dX12_isFrame_310 (lv_at hl 2 rfl) ?_
                    have hB : gB G.1 (rT G) A s H locs (rWs G (upd sc 46 (nI 0), va_up ar 45 (ar 45))) := hB
                    exact g_zret (Wd := rWs G) (v := nI 0) (upd sc 46 (nI 0), va_up ar 45 (ar 45)) hB hx hb hr hlocks rfl (narrow_z (Or.inl rfl)) ⟨ar 45, nI 0, rfl, Or.inr ⟨rfl, hno⟩⟩ dX12_isFrame_312
                  · have c_24 : ¬ 0 = 0 := fun h9 => c_24 ((nI_eq (a := 0) (b := 0) (by omega) (by omega)).mpr h9)
                    exact absurd rfl c_24
                · have c_23 : ¬ 0 = 0 := fun h9 => c_23 ((nI_eq (a := 0) (b := 0) (by omega) (by omega)).mpr h9)
                  exact absurd rfl c_23
              · have c_22 : (bq bs 4) = (1 + sd) := (nI_eq (a := (bq bs 4)) (b := (1 + sd)) (by omega) (by omega)).mp c_22
                refine lv_aload_n hx hb dX12_isFrame_103 rfl (lv_at hl 3 rfl) ?_
                refine r_get (u := (sc, ar)) (v := .ref (G.2.2.1 31)) hx hb hts hin hown hB 31 (by decide) (hts (.fieldLink RX12 51 "PointReportsModel" "frames" "[I") (by decide +kernel)) rfl rfl dX12_isFrame_104 ?_
                refine lv_iload_n hx hb dX12_isFrame_107 rfl (lv_at hl 2 rfl) ?_
                refine lv_iconst (v := nI 5) hx hb dX12_isFrame_108 (by decide) ?_
                refine lv_iadd hx hb dX12_isFrame_109 ?_
                refine g_top (y := nI ((40 * i) + 5)) (nI_add _ _) ?_
                refine r_ald (u := (sc, ar)) (f := ar 31) hx hb hB 13 rfl ((40 * i) + 5) rfl (by omega) (by decide) dX12_isFrame_110 ?_
                have q111 := bq_at hB9 (j := 5) (by omega)
                refine g_top (y := nI (bq bs 5)) ((hbs 5 (by omega)).trans q111.1) ?_
                have q111 := q111.2
                refine lv_if_ne (tgt := 145) hx hb dX12_isFrame_111 (by decide) (fun c_25 => ?_) (fun c_25 => ?_)
                · have c_25 : ¬ (bq bs 5) = 0 := fun h9 => c_25 ((nI_eq (a := (bq bs 5)) (b := 0) (by omega) (by omega)).mpr h9)
                  have hno : ¬ okF sd bs := fun z => c_25 z.2.2.2.2.2.2.1
                  refine lv_iconst (v := nI 0) hx hb dX12_isFrame_145 (by decide) ?_
                  refine lv_istore (lv' := [(5, .int (nI 0)), (4, .int (nI (nF bs))), (3, .int (nI (40 * i))), (0, .ref G.2.1), (1, .int (nI i)), (2, .int (nI sd))]) hx hb dX12_isFrame_146 hl (by decide) rfl (fun ls hl => ?_)
                  refine lv_iload hx hb dX12_isFrame_148 (lv_at hl 0 rfl) ?_
                  refine lv_if_eq (tgt := 192) hx hb dX12_isFrame_150 (by decide) (fun c_26 => ?_) (fun c_26 => ?_)
                  · have c_26 : 0 = 0 := (nI_eq (a := 0) (b := 0) (by omega) (by omega)).mp c_26
                    refine lv_iconst (v := nI 0) hx hb dX12_isFrame_192 (by decide) ?_
                    refine lv_istore (lv' := [(5, .int (nI 0)), (4, .int (nI (nF bs))), (3, .int (nI (40 * i))), (0, .ref G.2.1), (1, .int (nI i)), (2, .int (nI sd))]) hx hb dX12_isFrame_193 hl (by decide) rfl (fun ls hl => ?_)
                    refine lv_aload_n hx hb dX12_isFrame_195 rfl (lv_at hl 3 rfl) ?_
                    refine lv_iconst (v := nI 0) hx hb dX12_isFrame_196 (by decide) ?_
                    refine r_put (u := (sc, ar)) (v := nI 0) (upd sc 46 (nI 0)) hx hb hts hin hown hB 46 (by decide) (hts (.fieldLink RX12 118 "PointReportsModel" "carriedLength" "I") (by decide +kernel)) rfl (ty := .int) rfl rfl rfl rfl rfl dX12_isFrame_197 (fun H locs hB => ?_)
                    refine lv_iload_n hx hb dX12_isFrame_200 rfl (lv_at hl 2 rfl) ?_
                    refine lv_bipush (v := nI 10) hx hb dX12_isFrame_201 (by decide) ?_
                    refine lv_iadd hx hb dX12_isFrame_203 ?_
                    refine g_top (y := nI ((40 * i) + 10)) (nI_add _ _) ?_
                    refine lv_istore (lv' := [(6, .int (nI ((40 * i) + 10))), (5, .int (nI 0)), (4, .int (nI (nF bs))), (3, .int (nI (40 * i))), (0, .ref G.2.1), (1, .int (nI i)), (2, .int (nI sd))]) hx hb dX12_isFrame_204 hl (by decide) rfl (fun ls hl => ?_)
                    refine lv_iload hx hb dX12_isFrame_206 (lv_at hl 2 rfl) ?_
                    refine lv_istore (lv' := [(7, .int (nI (nF bs))), (6, .int (nI ((40 * i) + 10))), (5, .int (nI 0)), (4, .int (nI (nF bs))), (3, .int (nI (40 * i))), (0, .ref G.2.1), (1, .int (nI i)), (2, .int (nI sd))]) hx hb dX12_isFrame_208 hl (by decide) rfl (fun ls hl => ?_)
                    refine lv_iload hx hb dX12_isFrame_210 (lv_at hl 2 rfl) ?_
                    refine lv_if_eq (tgt := 310) hx hb dX12_isFrame_212 (by decide) (fun c_27 => ?_) (fun c_27 => ?_)
                    · have c_27 : 0 = 0 := (nI_eq (a := 0) (b := 0) (by omega) (by omega)).mp c_27
                      refine lv_iload hx hb dX12_isFrame_310 (lv_at hl 2 rfl) ?_
                      have hB : gB G.1 (rT G) A s H locs (rWs G (upd sc 46 (nI 0), va_up ar 45 (ar 45))) := hB
                      exact g_zret (Wd := rWs G) (v := nI 0) (upd sc 46 (nI 0), va_up ar 45 (ar 45)) hB hx hb hr hlocks rfl (narrow_z (Or.inl rfl)) ⟨ar 45, nI 0, rfl, Or.inr ⟨rfl, hno⟩⟩ dX12_isFrame_312
                    · have c_27 : ¬ 0 = 0 := fun h9 => c_27 ((nI_eq (a := 0) (b := 0) (by omega) (by omega)).mpr h9)
                      exact absurd rfl c_27
                  · have c_26 : ¬ 0 = 0 := fun h9 => c_26 ((nI_eq (a := 0) (b := 0) (by omega) (by omega)).mpr h9)
                    exact absurd rfl c_26
                · have c_25 : (bq bs 5) = 0 := (nI_eq (a := (bq bs 5)) (b := 0) (by omega) (by omega)).mp c_25
                  refine lv_aload_n hx hb dX12_isFrame_114 rfl (lv_at hl 3 rfl) ?_
                  refine r_get (u := (sc, ar)) (v := .ref (G.2.2.1 31)) hx hb hts hin hown hB 31 (by decide) (hts (.fieldLink RX12 51 "PointReportsModel" "frames" "[I") (by decide +kernel)) rfl rfl dX12_isFrame_115 ?_
                  refine lv_iload_n hx hb dX12_isFrame_118 rfl (lv_at hl 2 rfl) ?_
                  refine lv_bipush (v := nI 6) hx hb dX12_isFrame_119 (by decide) ?_
                  refine lv_iadd hx hb dX12_isFrame_121 ?_
                  refine g_top (y := nI ((40 * i) + 6)) (nI_add _ _) ?_
                  refine r_ald (u := (sc, ar)) (f := ar 31) hx hb hB 13 rfl ((40 * i) + 6) rfl (by omega) (by decide) dX12_isFrame_122 ?_
                  have q123 := bq_at hB9 (j := 6) (by omega)
                  refine g_top (y := nI (bq bs 6)) ((hbs 6 (by omega)).trans q123.1) ?_
                  have q123 := q123.2
                  refine lv_iconst (v := nI 2) hx hb dX12_isFrame_123 (by decide) ?_
                  refine lv_iload_n hx hb dX12_isFrame_124 rfl (lv_at hl 5 rfl) ?_
                  refine lv_isub hx hb dX12_isFrame_125 ?_
                  refine g_top (y := nI (2 - sd)) (pk_sub (by omega)) ?_
                  refine lv_icmp_ne (tgt := 145) hx hb dX12_isFrame_126 (by decide) (fun c_28 => ?_) (fun c_28 => ?_)
                  · have c_28 : ¬ (bq bs 6) = (2 - sd) := fun h9 => c_28 ((nI_eq (a := (bq bs 6)) (b := (2 - sd)) (by omega) (by omega)).mpr h9)
                    have hno : ¬ okF sd bs := fun z => c_28 z.2.2.2.2.2.2.2.1
                    refine lv_iconst (v := nI 0) hx hb dX12_isFrame_145 (by decide) ?_
                    refine lv_istore (lv' := [(5, .int (nI 0)), (4, .int (nI (nF bs))), (3, .int (nI (40 * i))), (0, .ref G.2.1), (1, .int (nI i)), (2, .int (nI sd))]) hx hb dX12_isFrame_146 hl (by decide) rfl (fun ls hl => ?_)
                    refine lv_iload hx hb dX12_isFrame_148 (lv_at hl 0 rfl) ?_
                    refine lv_if_eq (tgt := 192) hx hb dX12_isFrame_150 (by decide) (fun c_29 => ?_) (fun c_29 => ?_)
                    · have c_29 : 0 = 0 := (nI_eq (a := 0) (b := 0) (by omega) (by omega)).mp c_29
                      refine lv_iconst (v := nI 0) hx hb dX12_isFrame_192 (by decide) ?_
                      refine lv_istore (lv' := [(5, .int (nI 0)), (4, .int (nI (nF bs))), (3, .int (nI (40 * i))), (0, .ref G.2.1), (1, .int (nI i)), (2, .int (nI sd))]) hx hb dX12_isFrame_193 hl (by decide) rfl (fun ls hl => ?_)
                      refine lv_aload_n hx hb dX12_isFrame_195 rfl (lv_at hl 3 rfl) ?_
                      refine lv_iconst (v := nI 0) hx hb dX12_isFrame_196 (by decide) ?_
                      refine r_put (u := (sc, ar)) (v := nI 0) (upd sc 46 (nI 0)) hx hb hts hin hown hB 46 (by decide) (hts (.fieldLink RX12 118 "PointReportsModel" "carriedLength" "I") (by decide +kernel)) rfl (ty := .int) rfl rfl rfl rfl rfl dX12_isFrame_197 (fun H locs hB => ?_)
                      refine lv_iload_n hx hb dX12_isFrame_200 rfl (lv_at hl 2 rfl) ?_
                      refine lv_bipush (v := nI 10) hx hb dX12_isFrame_201 (by decide) ?_
                      refine lv_iadd hx hb dX12_isFrame_203 ?_
                      refine g_top (y := nI ((40 * i) + 10)) (nI_add _ _) ?_
                      refine lv_istore (lv' := [(6, .int (nI ((40 * i) + 10))), (5, .int (nI 0)), (4, .int (nI (nF bs))), (3, .int (nI (40 * i))), (0, .ref G.2.1), (1, .int (nI i)), (2, .int (nI sd))]) hx hb dX12_isFrame_204 hl (by decide) rfl (fun ls hl => ?_)
                      refine lv_iload hx hb dX12_isFrame_206 (lv_at hl 2 rfl) ?_
                      refine lv_istore (lv' := [(7, .int (nI (nF bs))), (6, .int (nI ((40 * i) + 10))), (5, .int (nI 0)), (4, .int (nI (nF bs))), (3, .int (nI (40 * i))), (0, .ref G.2.1), (1, .int (nI i)), (2, .int (nI sd))]) hx hb dX12_isFrame_208 hl (by decide) rfl (fun ls hl => ?_)
                      refine lv_iload hx hb dX12_isFrame_210 (lv_at hl 2 rfl) ?_
                      refine lv_if_eq (tgt := 310) hx hb dX12_isFrame_212 (by decide) (fun c_30 => ?_) (fun c_30 => ?_)
                      · have c_30 : 0 = 0 := (nI_eq (a := 0) (b := 0) (by omega) (by omega)).mp c_30
                        refine lv_iload hx hb dX12_isFrame_310 (lv_at hl 2 rfl) ?_
                        have hB : gB G.1 (rT G) A s H locs (rWs G (upd sc 46 (nI 0), va_up ar 45 (ar 45))) := hB
                        exact g_zret (Wd := rWs G) (v := nI 0) (upd sc 46 (nI 0), va_up ar 45 (ar 45)) hB hx hb hr hlocks rfl (narrow_z (Or.inl rfl)) ⟨ar 45, nI 0, rfl, Or.inr ⟨rfl, hno⟩⟩ dX12_isFrame_312
                      · have c_30 : ¬ 0 = 0 := fun h9 => c_30 ((nI_eq (a := 0) (b := 0) (by omega) (by omega)).mpr h9)
                        exact absurd rfl c_30
                    · have c_29 : ¬ 0 = 0 := fun h9 => c_29 ((nI_eq (a := 0) (b := 0) (by omega) (by omega)).mpr h9)
                      exact absurd rfl c_29
                  · have c_28 : (bq bs 6) = (2 - sd) := (nI_eq (a := (bq bs 6)) (b := (2 - sd)) (by omega) (by omega)).mp c_28
                    refine lv_aload_n hx hb dX12_isFrame_129 rfl (lv_at hl 3 rfl) ?_
                    refine r_get (u := (sc, ar)) (v := .ref (G.2.2.1 31)) hx hb hts hin hown hB 31 (by decide) (hts (.fieldLink RX12 51 "PointReportsModel" "frames" "[I") (by decide +kernel)) rfl rfl dX12_isFrame_130 ?_
                    refine lv_iload_n hx hb dX12_isFrame_133 rfl (lv_at hl 2 rfl) ?_
                    refine lv_bipush (v := nI 7) hx hb dX12_isFrame_134 (by decide) ?_
                    refine lv_iadd hx hb dX12_isFrame_136 ?_
                    refine g_top (y := nI ((40 * i) + 7)) (nI_add _ _) ?_
                    refine r_ald (u := (sc, ar)) (f := ar 31) hx hb hB 13 rfl ((40 * i) + 7) rfl (by omega) (by decide) dX12_isFrame_137 ?_
                    have q138 := bq_at hB9 (j := 7) (by omega)
                    refine g_top (y := nI (bq bs 7)) ((hbs 7 (by omega)).trans q138.1) ?_
                    have q138 := q138.2
                    refine lv_if_ne (tgt := 145) hx hb dX12_isFrame_138 (by decide) (fun c_31 => ?_) (fun c_31 => ?_)
                    · have c_31 : ¬ (bq bs 7) = 0 := fun h9 => c_31 ((nI_eq (a := (bq bs 7)) (b := 0) (by omega) (by omega)).mpr h9)
                      have hno : ¬ okF sd bs := fun z => c_31 z.2.2.2.2.2.2.2.2.1
                      refine lv_iconst (v := nI 0) hx hb dX12_isFrame_145 (by decide) ?_
                      refine lv_istore (lv' := [(5, .int (nI 0)), (4, .int (nI (nF bs))), (3, .int (nI (40 * i))), (0, .ref G.2.1), (1, .int (nI i)), (2, .int (nI sd))]) hx hb dX12_isFrame_146 hl (by decide) rfl (fun ls hl => ?_)
                      refine lv_iload hx hb dX12_isFrame_148 (lv_at hl 0 rfl) ?_
                      refine lv_if_eq (tgt := 192) hx hb dX12_isFrame_150 (by decide) (fun c_32 => ?_) (fun c_32 => ?_)
                      · have c_32 : 0 = 0 := (nI_eq (a := 0) (b := 0) (by omega) (by omega)).mp c_32
                        refine lv_iconst (v := nI 0) hx hb dX12_isFrame_192 (by decide) ?_
                        refine lv_istore (lv' := [(5, .int (nI 0)), (4, .int (nI (nF bs))), (3, .int (nI (40 * i))), (0, .ref G.2.1), (1, .int (nI i)), (2, .int (nI sd))]) hx hb dX12_isFrame_193 hl (by decide) rfl (fun ls hl => ?_)
                        refine lv_aload_n hx hb dX12_isFrame_195 rfl (lv_at hl 3 rfl) ?_
                        refine lv_iconst (v := nI 0) hx hb dX12_isFrame_196 (by decide) ?_
                        refine r_put (u := (sc, ar)) (v := nI 0) (upd sc 46 (nI 0)) hx hb hts hin hown hB 46 (by decide) (hts (.fieldLink RX12 118 "PointReportsModel" "carriedLength" "I") (by decide +kernel)) rfl (ty := .int) rfl rfl rfl rfl rfl dX12_isFrame_197 (fun H locs hB => ?_)
                        refine lv_iload_n hx hb dX12_isFrame_200 rfl (lv_at hl 2 rfl) ?_
                        refine lv_bipush (v := nI 10) hx hb dX12_isFrame_201 (by decide) ?_
                        refine lv_iadd hx hb dX12_isFrame_203 ?_
                        refine g_top (y := nI ((40 * i) + 10)) (nI_add _ _) ?_
                        refine lv_istore (lv' := [(6, .int (nI ((40 * i) + 10))), (5, .int (nI 0)), (4, .int (nI (nF bs))), (3, .int (nI (40 * i))), (0, .ref G.2.1), (1, .int (nI i)), (2, .int (nI sd))]) hx hb dX12_isFrame_204 hl (by decide) rfl (fun ls hl => ?_)
                        refine lv_iload hx hb dX12_isFrame_206 (lv_at hl 2 rfl) ?_
                        refine lv_istore (lv' := [(7, .int (nI (nF bs))), (6, .int (nI ((40 * i) + 10))), (5, .int (nI 0)), (4, .int (nI (nF bs))), (3, .int (nI (40 * i))), (0, .ref G.2.1), (1, .int (nI i)), (2, .int (nI sd))]) hx hb dX12_isFrame_208 hl (by decide) rfl (fun ls hl => ?_)
                        refine lv_iload hx hb dX12_isFrame_210 (lv_at hl 2 rfl) ?_
                        refine lv_if_eq (tgt := 310) hx hb dX12_isFrame_212 (by decide) (fun c_33 => ?_) (fun c_33 => ?_)
                        · have c_33 : 0 = 0 := (nI_eq (a := 0) (b := 0) (by omega) (by omega)).mp c_33
                          refine lv_iload hx hb dX12_isFrame_310 (lv_at hl 2 rfl) ?_
                          have hB : gB G.1 (rT G) A s H locs (rWs G (upd sc 46 (nI 0), va_up ar 45 (ar 45))) := hB
                          exact g_zret (Wd := rWs G) (v := nI 0) (upd sc 46 (nI 0), va_up ar 45 (ar 45)) hB hx hb hr hlocks rfl (narrow_z (Or.inl rfl)) ⟨ar 45, nI 0, rfl, Or.inr ⟨rfl, hno⟩⟩ dX12_isFrame_312
                        · have c_33 : ¬ 0 = 0 := fun h9 => c_33 ((nI_eq (a := 0) (b := 0) (by omega) (by omega)).mpr h9)
                          exact absurd rfl c_33
                      · have c_32 : ¬ 0 = 0 := fun h9 => c_32 ((nI_eq (a := 0) (b := 0) (by omega) (by omega)).mpr h9)
                        exact absurd rfl c_32
                    · have c_31 : (bq bs 7) = 0 := (nI_eq (a := (bq bs 7)) (b := 0) (by omega) (by omega)).mp c_31
                      refine lv_iconst (v := nI 1) hx hb dX12_isFrame_141 (by decide) ?_
                      refine lv_goto (tgt := 146) hx hb dX12_isFrame_142 (by decide) ?_
                      refine lv_istore (lv' := [(5, .int (nI 1)), (4, .int (nI (nF bs))), (3, .int (nI (40 * i))), (0, .ref G.2.1), (1, .int (nI i)), (2, .int (nI sd))]) hx hb dX12_isFrame_146 hl (by decide) rfl (fun ls hl => ?_)
                      refine lv_iload hx hb dX12_isFrame_148 (lv_at hl 0 rfl) ?_
                      refine lv_if_eq (tgt := 192) hx hb dX12_isFrame_150 (by decide) (fun c_34 => ?_) (fun c_34 => ?_)
                      · have c_34 : 1 = 0 := (nI_eq (a := 1) (b := 0) (by omega) (by omega)).mp c_34
                        exact absurd c_34 (by decide)
                      · have c_34 : ¬ 1 = 0 := fun h9 => c_34 ((nI_eq (a := 1) (b := 0) (by omega) (by omega)).mpr h9)
                        refine lv_aload_n hx hb dX12_isFrame_153 rfl (lv_at hl 3 rfl) ?_
                        refine r_get (u := (sc, ar)) (v := .ref (G.2.2.1 32)) hx hb hts hin hown hB 32 (by decide) (hts (.fieldLink RX12 54 "PointReportsModel" "lengths" "[I") (by decide +kernel)) rfl rfl dX12_isFrame_154 ?_
                        refine lv_iload_n hx hb dX12_isFrame_157 rfl (lv_at hl 4 rfl) ?_
                        refine r_ald (u := (sc, ar)) (f := ar 32) hx hb hB 14 rfl i rfl (by omega) (by decide) dX12_isFrame_158 ?_
                        refine g_top (y := nI bs.length) h32 ?_
                        refine lv_bipush (v := nI 10) hx hb dX12_isFrame_159 (by decide) ?_
                        refine lv_iload hx hb dX12_isFrame_161 (lv_at hl 1 rfl) ?_
                        refine lv_iadd hx hb dX12_isFrame_163 ?_
                        refine g_top (y := nI (10 + (nF bs))) (nI_add _ _) ?_
                        refine lv_iconst (v := nI 2) hx hb dX12_isFrame_164 (by decide) ?_
                        refine lv_iload hx hb dX12_isFrame_165 (lv_at hl 1 rfl) ?_
                        refine lv_bipush (v := nI 15) hx hb dX12_isFrame_167 (by decide) ?_
                        refine lv_iadd hx hb dX12_isFrame_169 ?_
                        refine g_top (y := nI ((nF bs) + 15)) (nI_add _ _) ?_
                        refine lv_bipush (v := nI 16) hx hb dX12_isFrame_170 (by decide) ?_
                        refine lv_idiv hx hb dX12_isFrame_172 (by decide) ?_
                        refine g_top (y := nI ((nF bs + 15) / 16)) (pk_div (by omega) (by decide) (by decide)) ?_
                        refine lv_imul hx hb dX12_isFrame_173 ?_
                        refine g_top (y := nI (2 * ((nF bs + 15) / 16))) (pk_mul _ _) ?_
                        refine lv_iadd hx hb dX12_isFrame_174 ?_
                        refine g_top (y := nI ((10 + (nF bs)) + (2 * ((nF bs + 15) / 16)))) (nI_add _ _) ?_
                        refine lv_icmp_ne (tgt := 192) hx hb dX12_isFrame_175 (by decide) (fun c_35 => ?_) (fun c_35 => ?_)
                        · have c_35 : ¬ bs.length = ((10 + (nF bs)) + (2 * ((nF bs + 15) / 16))) := fun h9 => c_35 ((nI_eq (a := bs.length) (b := ((10 + (nF bs)) + (2 * ((nF bs + 15) / 16)))) (by omega) (by omega)).mpr h9)
                          have hno : ¬ okF sd bs := fun z => by have := z.2.2.2.2.2.2.2.2.2.1; omega
                          refine lv_iconst (v := nI 0) hx hb dX12_isFrame_192 (by decide) ?_
                          refine lv_istore (lv' := [(5, .int (nI 0)), (4, .int (nI (nF bs))), (3, .int (nI (40 * i))), (0, .ref G.2.1), (1, .int (nI i)), (2, .int (nI sd))]) hx hb dX12_isFrame_193 hl (by decide) rfl (fun ls hl => ?_)
                          refine lv_aload_n hx hb dX12_isFrame_195 rfl (lv_at hl 3 rfl) ?_
                          refine lv_iconst (v := nI 0) hx hb dX12_isFrame_196 (by decide) ?_
                          refine r_put (u := (sc, ar)) (v := nI 0) (upd sc 46 (nI 0)) hx hb hts hin hown hB 46 (by decide) (hts (.fieldLink RX12 118 "PointReportsModel" "carriedLength" "I") (by decide +kernel)) rfl (ty := .int) rfl rfl rfl rfl rfl dX12_isFrame_197 (fun H locs hB => ?_)
                          refine lv_iload_n hx hb dX12_isFrame_200 rfl (lv_at hl 2 rfl) ?_
                          refine lv_bipush (v := nI 10) hx hb dX12_isFrame_201 (by decide) ?_
                          refine lv_iadd hx hb dX12_isFrame_203 ?_
                          refine g_top (y := nI ((40 * i) + 10)) (nI_add _ _) ?_
                          refine lv_istore (lv' := [(6, .int (nI ((40 * i) + 10))), (5, .int (nI 0)), (4, .int (nI (nF bs))), (3, .int (nI (40 * i))), (0, .ref G.2.1), (1, .int (nI i)), (2, .int (nI sd))]) hx hb dX12_isFrame_204 hl (by decide) rfl (fun ls hl => ?_)
                          refine lv_iload hx hb dX12_isFrame_206 (lv_at hl 2 rfl) ?_
                          refine lv_istore (lv' := [(7, .int (nI (nF bs))), (6, .int (nI ((40 * i) + 10))), (5, .int (nI 0)), (4, .int (nI (nF bs))), (3, .int (nI (40 * i))), (0, .ref G.2.1), (1, .int (nI i)), (2, .int (nI sd))]) hx hb dX12_isFrame_208 hl (by decide) rfl (fun ls hl => ?_)
                          refine lv_iload hx hb dX12_isFrame_210 (lv_at hl 2 rfl) ?_
                          refine lv_if_eq (tgt := 310) hx hb dX12_isFrame_212 (by decide) (fun c_36 => ?_) (fun c_36 => ?_)
                          · have c_36 : 0 = 0 := (nI_eq (a := 0) (b := 0) (by omega) (by omega)).mp c_36
                            refine lv_iload hx hb dX12_isFrame_310 (lv_at hl 2 rfl) ?_
                            have hB : gB G.1 (rT G) A s H locs (rWs G (upd sc 46 (nI 0), va_up ar 45 (ar 45))) := hB
                            exact g_zret (Wd := rWs G) (v := nI 0) (upd sc 46 (nI 0), va_up ar 45 (ar 45)) hB hx hb hr hlocks rfl (narrow_z (Or.inl rfl)) ⟨ar 45, nI 0, rfl, Or.inr ⟨rfl, hno⟩⟩ dX12_isFrame_312
                          · have c_36 : ¬ 0 = 0 := fun h9 => c_36 ((nI_eq (a := 0) (b := 0) (by omega) (by omega)).mpr h9)
                            exact absurd rfl c_36
                        · have c_35 : bs.length = ((10 + (nF bs)) + (2 * ((nF bs + 15) / 16))) := (nI_eq (a := bs.length) (b := ((10 + (nF bs)) + (2 * ((nF bs + 15) / 16)))) (by omega) (by omega)).mp c_35
                          refine lv_aload_n hx hb dX12_isFrame_178 rfl (lv_at hl 3 rfl) ?_
                          refine lv_iload_n hx hb dX12_isFrame_179 rfl (lv_at hl 2 rfl) ?_
                          refine lv_bipush (v := nI 8) hx hb dX12_isFrame_180 (by decide) ?_
                          refine g_calli (av := [.int (nI (40 * i)), .int (nI 8)]) (rest := []) ⟨hx, hb, hml, hown, hts⟩ (c_isChecked l G sc ar (40 * i) 8 (by omega)) (cwV 2 hts gX12_isFrame_X12_isChecked rfl rfl rfl (by decide +kernel) ⟨Nat.le_of_ble_eq_true rfl, Nat.le_of_ble_eq_true rfl⟩) hB (q0 := 0) (ci := 9) rfl rfl rfl rfl hl.1 rfl (Nat.le_of_ble_eq_true rfl) dX12_isFrame_182 ⟨Nat.le_of_ble_eq_true rfl, Nat.le_of_ble_eq_true rfl⟩ (fun r9 u H locs hw hB => ?_)
                          obtain ⟨hck0, rfl⟩ := hw
                          have hB : gB G.1 (rT G) A s H locs (rWs G (sc, ar)) := hB
                          have ec0 : chkF (ar 31) (40 * i) 8 ↔ chkL bs 0 8 := chkF_L (a := 0) hbs (by omega)
                          refine lv_if_eq (tgt := 192) hx hb dX12_isFrame_185 (by decide) (fun c_37 => ?_) (fun c_37 => ?_)
                          · have c_37 := c_37
                            have hc0 : ¬ chkL bs 0 8 := fun z => by rcases hck0 with ⟨h1, h2⟩ | ⟨h1, h2⟩; exact absurd (h1.symm.trans c_37) (by decide); exact h2 (ec0.mpr z)
                            have hno : ¬ okF sd bs := fun z => hc0 z.2.2.2.2.2.2.2.2.2.2.1
                            refine lv_iconst (v := nI 0) hx hb dX12_isFrame_192 (by decide) ?_
                            refine lv_istore (lv' := [(5, .int (nI 0)), (4, .int (nI (nF bs))), (3, .int (nI (40 * i))), (0, .ref G.2.1), (1, .int (nI i)), (2, .int (nI sd))]) hx hb dX12_isFrame_193 hl (by decide) rfl (fun ls hl => ?_)
                            refine lv_aload_n hx hb dX12_isFrame_195 rfl (lv_at hl 3 rfl) ?_
                            refine lv_iconst (v := nI 0) hx hb dX12_isFrame_196 (by decide) ?_
                            refine r_put (u := (sc, ar)) (v := nI 0) (upd sc 46 (nI 0)) hx hb hts hin hown hB 46 (by decide) (hts (.fieldLink RX12 118 "PointReportsModel" "carriedLength" "I") (by decide +kernel)) rfl (ty := .int) rfl rfl rfl rfl rfl dX12_isFrame_197 (fun H locs hB => ?_)
                            refine lv_iload_n hx hb dX12_isFrame_200 rfl (lv_at hl 2 rfl) ?_
                            refine lv_bipush (v := nI 10) hx hb dX12_isFrame_201 (by decide) ?_
                            refine lv_iadd hx hb dX12_isFrame_203 ?_
                            refine g_top (y := nI ((40 * i) + 10)) (nI_add _ _) ?_
                            refine lv_istore (lv' := [(6, .int (nI ((40 * i) + 10))), (5, .int (nI 0)), (4, .int (nI (nF bs))), (3, .int (nI (40 * i))), (0, .ref G.2.1), (1, .int (nI i)), (2, .int (nI sd))]) hx hb dX12_isFrame_204 hl (by decide) rfl (fun ls hl => ?_)
                            refine lv_iload hx hb dX12_isFrame_206 (lv_at hl 2 rfl) ?_
                            refine lv_istore (lv' := [(7, .int (nI (nF bs))), (6, .int (nI ((40 * i) + 10))), (5, .int (nI 0)), (4, .int (nI (nF bs))), (3, .int (nI (40 * i))), (0, .ref G.2.1), (1, .int (nI i)), (2, .int (nI sd))]) hx hb dX12_isFrame_208 hl (by decide) rfl (fun ls hl => ?_)
                            refine lv_iload hx hb dX12_isFrame_210 (lv_at hl 2 rfl) ?_
                            refine lv_if_eq (tgt := 310) hx hb dX12_isFrame_212 (by decide) (fun c_38 => ?_) (fun c_38 => ?_)
                            · have c_38 : 0 = 0 := (nI_eq (a := 0) (b := 0) (by omega) (by omega)).mp c_38
                              refine lv_iload hx hb dX12_isFrame_310 (lv_at hl 2 rfl) ?_
                              have hB : gB G.1 (rT G) A s H locs (rWs G (upd sc 46 (nI 0), va_up ar 45 (ar 45))) := hB
                              exact g_zret (Wd := rWs G) (v := nI 0) (upd sc 46 (nI 0), va_up ar 45 (ar 45)) hB hx hb hr hlocks rfl (narrow_z (Or.inl rfl)) ⟨ar 45, nI 0, rfl, Or.inr ⟨rfl, hno⟩⟩ dX12_isFrame_312
                            · have c_38 : ¬ 0 = 0 := fun h9 => c_38 ((nI_eq (a := 0) (b := 0) (by omega) (by omega)).mpr h9)
                              exact absurd rfl c_38
                          · have c_37 := c_37
                            have hc0 : chkL bs 0 8 := by rcases hck0 with ⟨h1, h2⟩ | ⟨h1, h2⟩; exact ec0.mp h2; exact absurd h1 c_37
                            refine lv_iconst (v := nI 1) hx hb dX12_isFrame_188 (by decide) ?_
                            refine lv_goto (tgt := 193) hx hb dX12_isFrame_189 (by decide) ?_
                            refine lv_istore (lv' := [(5, .int (nI 1)), (4, .int (nI (nF bs))), (3, .int (nI (40 * i))), (0, .ref G.2.1), (1, .int (nI i)), (2, .int (nI sd))]) hx hb dX12_isFrame_193 hl (by decide) rfl (fun ls hl => ?_)
                            refine lv_aload_n hx hb dX12_isFrame_195 rfl (lv_at hl 3 rfl) ?_
                            refine lv_iconst (v := nI 0) hx hb dX12_isFrame_196 (by decide) ?_
                            refine r_put (u := (sc, ar)) (v := nI 0) (upd sc 46 (nI 0)) hx hb hts hin hown hB 46 (by decide) (hts (.fieldLink RX12 118 "PointReportsModel" "carriedLength" "I") (by decide +kernel)) rfl (ty := .int) rfl rfl rfl rfl rfl dX12_isFrame_197 (fun H locs hB => ?_)
                            refine lv_iload_n hx hb dX12_isFrame_200 rfl (lv_at hl 2 rfl) ?_
                            refine lv_bipush (v := nI 10) hx hb dX12_isFrame_201 (by decide) ?_
                            refine lv_iadd hx hb dX12_isFrame_203 ?_
                            refine g_top (y := nI ((40 * i) + 10)) (nI_add _ _) ?_
                            refine lv_istore (lv' := [(6, .int (nI ((40 * i) + 10))), (5, .int (nI 1)), (4, .int (nI (nF bs))), (3, .int (nI (40 * i))), (0, .ref G.2.1), (1, .int (nI i)), (2, .int (nI sd))]) hx hb dX12_isFrame_204 hl (by decide) rfl (fun ls hl => ?_)
                            refine lv_iload hx hb dX12_isFrame_206 (lv_at hl 2 rfl) ?_
                            refine lv_istore (lv' := [(7, .int (nI (nF bs))), (6, .int (nI ((40 * i) + 10))), (5, .int (nI 1)), (4, .int (nI (nF bs))), (3, .int (nI (40 * i))), (0, .ref G.2.1), (1, .int (nI i)), (2, .int (nI sd))]) hx hb dX12_isFrame_208 hl (by decide) rfl (fun ls hl => ?_)
                            refine lv_iload hx hb dX12_isFrame_210 (lv_at hl 2 rfl) ?_
                            refine lv_if_eq (tgt := 310) hx hb dX12_isFrame_212 (by decide) (fun c_39 => ?_) (fun c_39 => ?_)
                            · have c_39 : 1 = 0 := (nI_eq (a := 1) (b := 0) (by omega) (by omega)).mp c_39
                              exact absurd c_39 (by decide)
                            · have c_39 : ¬ 1 = 0 := fun h9 => c_39 ((nI_eq (a := 1) (b := 0) (by omega) (by omega)).mpr h9)
                              refine lv_iload hx hb dX12_isFrame_215 (lv_at hl 0 rfl) ?_
                              refine lv_if_le (tgt := 310) hx hb dX12_isFrame_217 (by decide) (fun c_40 => ?_) (fun c_40 => ?_)
                              · have c_40 : (nF bs) ≤ 0 := (nI_leI (a := (nF bs)) (b := 0) (by omega) (by omega)).mp c_40
                                exact absurd c_40 (by omega)
                              · have c_40 : ¬ (nF bs) ≤ 0 := fun h9 => c_40 ((nI_leI (a := (nF bs)) (b := 0) (by omega) (by omega)).mpr h9)
                                refine lv_iload hx hb dX12_isFrame_220 (lv_at hl 0 rfl) ?_
                                refine lv_bipush (v := nI 16) hx hb dX12_isFrame_222 (by decide) ?_
                                refine g_cut (σ := Unit) 234 (fun _ H locs ls => gB G.1 (rT G) A s H locs (rWs G (upd sc 46 (nI 0), ar)) ∧ lv_has ls 10 [(7, .int (nI (nF bs))), (6, .int (nI ((40 * i) + 10))), (5, .int (nI 1)), (4, .int (nI (nF bs))), (3, .int (nI (40 * i))), (0, .ref G.2.1), (1, .int (nI i)), (2, .int (nI sd))]) (fun _ => [.int (nI (if nF bs < 16 then nF bs else 16))]) ?_ (fun cut => ?_)
                                rotate_left
                                · refine lv_icmp_ge (tgt := 232) hx hb dX12_isFrame_224 (by decide) (fun c_41 => ?_) (fun c_41 => ?_)
                                  · have c_41 : 16 ≤ (nF bs) := (nI_leI (a := 16) (b := (nF bs)) (by omega) (by omega)).mp c_41
                                    refine lv_bipush (v := nI 16) hx hb dX12_isFrame_232 (by decide) ?_
                                    refine g_top (y := nI (if nF bs < 16 then nF bs else 16)) (by rw [if_neg (by omega)]) ?_
                                    exact cut () H locs ls ⟨hB, hl⟩
                                  · have c_41 : ¬ 16 ≤ (nF bs) := fun h9 => c_41 ((nI_leI (a := 16) (b := (nF bs)) (by omega) (by omega)).mpr h9)
                                    refine lv_iload hx hb dX12_isFrame_227 (lv_at hl 0 rfl) ?_
                                    refine lv_goto (tgt := 234) hx hb dX12_isFrame_229 (by decide) ?_
                                    refine g_top (y := nI (if nF bs < 16 then nF bs else 16)) (by rw [if_pos (by omega)]) ?_
                                    exact cut () H locs ls ⟨hB, hl⟩
                                rintro - H locs ls ⟨hB, hl⟩
                                obtain ⟨b1, eb1⟩ : ∃ z, z = if nF bs < 16 then nF bs else 16 := ⟨_, rfl⟩
                                have hb1 : b1 ≤ 16 ∧ b1 ≤ nF bs ∧ (nF bs ≤ 16 → b1 = nF bs) ∧ (16 ≤ nF bs → b1 = 16) := by rw [eb1]; split <;> omega
                                refine g_top (y := nI b1) (by rw [eb1]) ?_
                                refine lv_istore (lv' := [(8, .int (nI b1)), (7, .int (nI (nF bs))), (6, .int (nI ((40 * i) + 10))), (5, .int (nI 1)), (4, .int (nI (nF bs))), (3, .int (nI (40 * i))), (0, .ref G.2.1), (1, .int (nI i)), (2, .int (nI sd))]) hx hb dX12_isFrame_234 hl (by decide) rfl (fun ls hl => ?_)
                                refine lv_aload_n hx hb dX12_isFrame_236 rfl (lv_at hl 6 rfl) ?_
                                refine lv_iload hx hb dX12_isFrame_237 (lv_at hl 2 rfl) ?_
                                refine lv_iload hx hb dX12_isFrame_239 (lv_at hl 0 rfl) ?_
                                refine g_calli (av := [.int (nI ((40 * i) + 10)), .int (nI b1)]) (rest := []) ⟨hx, hb, hml, hown, hts⟩ (c_isChecked l G (upd sc 46 (nI 0)) ar (40 * i + 10) b1 (by omega)) (cwV 2 hts gX12_isFrame_X12_isChecked rfl rfl rfl (by decide +kernel) ⟨Nat.le_of_ble_eq_true rfl, Nat.le_of_ble_eq_true rfl⟩) hB (q0 := 0) (ci := 9) rfl rfl rfl rfl hl.1 rfl (Nat.le_of_ble_eq_true rfl) dX12_isFrame_241 ⟨Nat.le_of_ble_eq_true rfl, Nat.le_of_ble_eq_true rfl⟩ (fun r9 u H locs hw hB => ?_)
                                obtain ⟨hck1, rfl⟩ := hw
                                have hB : gB G.1 (rT G) A s H locs (rWs G (upd sc 46 (nI 0), ar)) := hB
                                have ec1 : chkF (ar 31) (40 * i + 10) b1 ↔ chkL bs 10 b1 := chkF_L (a := 10) hbs (by omega)
                                obtain ⟨g1v, hg1v⟩ : ∃ z, z = r9 := ⟨_, rfl⟩
                                rw [← hg1v] at hck1
                                refine g_top (y := g1v) hg1v.symm ?_
                                refine lv_istore (lv' := [(5, .int g1v), (8, .int (nI b1)), (7, .int (nI (nF bs))), (6, .int (nI ((40 * i) + 10))), (4, .int (nI (nF bs))), (3, .int (nI (40 * i))), (0, .ref G.2.1), (1, .int (nI i)), (2, .int (nI sd))]) hx hb dX12_isFrame_244 hl (by decide) rfl (fun ls hl => ?_)
                                refine lv_iconst (v := nI 0) hx hb dX12_isFrame_246 (by decide) ?_
                                refine lv_istore (lv' := [(9, .int (nI 0)), (5, .int g1v), (8, .int (nI b1)), (7, .int (nI (nF bs))), (6, .int (nI ((40 * i) + 10))), (4, .int (nI (nF bs))), (3, .int (nI (40 * i))), (0, .ref G.2.1), (1, .int (nI i)), (2, .int (nI sd))]) hx hb dX12_isFrame_247 hl (by decide) rfl (fun ls hl => ?_)
                                have hl : lv_has ls 10 [(9, .int (nI 0)), (5, .int g1v), (8, .int (nI b1)), (7, .int (nI (nF bs))), (6, .int (nI (40 * i + 10))), (4, .int (nI (nF bs))), (3, .int (nI (40 * i))), (0, .ref G.2.1), (1, .int (nI i)), (2, .int (nI sd))] := lv_sub hl [0, 1, 2, 3, 4, 5, 6, 7, 8, 9] rfl
                                have hB : gB G.1 (rT G) A s H locs (rWs G (upd sc 46 (nI 0), va_up ar 45 (ar 45))) := hB
                                refine g_loop (σ := Nat × (Nat → Int32)) (fun d xv H locs ls => (xv.1 + d = b1) ∧ (∀ j, j < xv.1 → xv.2 j = bs.getD (10 + j) 0) ∧ gB G.1 (rT G) A s H locs (rWs G (upd sc 46 (nI xv.1), va_up ar 45 xv.2)) ∧ lv_has ls 10 [(9, .int (nI xv.1)), (5, .int g1v), (8, .int (nI b1)), (7, .int (nI (nF bs))), (6, .int (nI (40 * i + 10))), (4, .int (nI (nF bs))), (3, .int (nI (40 * i))), (0, .ref G.2.1), (1, .int (nI i)), (2, .int (nI sd))]) b1 (0, ar 45) ⟨by omega, fun j hj => absurd hj (Nat.not_lt_zero j), hB, hl⟩ ?_
                                rintro d ⟨k, g⟩ H locs ls ⟨hk, hg, hB, hl⟩ ih_42
                                have hk : k + d = b1 := hk
                                have hg : ∀ j, j < k → g j = bs.getD (10 + j) 0 := hg
                                have hB : gB G.1 (rT G) A s H locs (rWs G (upd sc 46 (nI k), va_up ar 45 g)) := hB
                                have hl : lv_has ls 10 [(9, .int (nI k)), (5, .int g1v), (8, .int (nI b1)), (7, .int (nI (nF bs))), (6, .int (nI (40 * i + 10))), (4, .int (nI (nF bs))), (3, .int (nI (40 * i))), (0, .ref G.2.1), (1, .int (nI i)), (2, .int (nI sd))] := hl
                                refine lv_iload hx hb dX12_isFrame_249 (lv_at hl 0 rfl) ?_
                                refine lv_iload hx hb dX12_isFrame_251 (lv_at hl 2 rfl) ?_
                                refine lv_icmp_ge (tgt := 291) hx hb dX12_isFrame_253 (by decide) (fun c_43 => ?_) (fun c_43 => ?_)
                                · have c_43 : b1 ≤ k := (nI_leI (a := b1) (b := k) (by omega) (by omega)).mp c_43
                                  have hk9 : k = b1 := by omega
                                  refine lv_iload hx hb dX12_isFrame_291 (lv_at hl 4 rfl) ?_
                                  refine lv_iload hx hb dX12_isFrame_293 (lv_at hl 2 rfl) ?_
                                  refine lv_iconst (v := nI 2) hx hb dX12_isFrame_295 (by decide) ?_
                                  refine lv_iadd hx hb dX12_isFrame_296 ?_
                                  refine g_top (y := nI (b1 + 2)) (nI_add _ _) ?_
                                  refine lv_iadd hx hb dX12_isFrame_297 ?_
                                  refine g_top (y := nI ((40 * i + 10) + (b1 + 2))) (nI_add _ _) ?_
                                  refine lv_istore (lv' := [(6, .int (nI ((40 * i + 10) + (b1 + 2)))), (9, .int (nI k)), (5, .int g1v), (8, .int (nI b1)), (7, .int (nI (nF bs))), (4, .int (nI (nF bs))), (3, .int (nI (40 * i))), (0, .ref G.2.1), (1, .int (nI i)), (2, .int (nI sd))]) hx hb dX12_isFrame_298 hl (by decide) rfl (fun ls hl => ?_)
                                  refine lv_iload hx hb dX12_isFrame_300 (lv_at hl 4 rfl) ?_
                                  refine lv_iload hx hb dX12_isFrame_302 (lv_at hl 3 rfl) ?_
                                  refine lv_isub hx hb dX12_isFrame_304 ?_
                                  refine g_top (y := nI (nF bs - b1)) (pk_sub (by omega)) ?_
                                  refine lv_istore (lv' := [(7, .int (nI (nF bs - b1))), (6, .int (nI ((40 * i + 10) + (b1 + 2)))), (9, .int (nI k)), (5, .int g1v), (8, .int (nI b1)), (4, .int (nI (nF bs))), (3, .int (nI (40 * i))), (0, .ref G.2.1), (1, .int (nI i)), (2, .int (nI sd))]) hx hb dX12_isFrame_305 hl (by decide) rfl (fun ls hl => ?_)
                                  refine lv_goto (tgt := 210) hx hb dX12_isFrame_307 (by decide) ?_
                                  refine lv_iload hx hb dX12_isFrame_210 (lv_at hl 3 rfl) ?_
                                  refine lv_if_eq (tgt := 310) hx hb dX12_isFrame_212 (by decide) (fun c_44 => ?_) (fun c_44 => ?_)
                                  · have c_44 := c_44
                                    have hc1 : ¬ chkL bs 10 (if nF bs < 16 then nF bs else 16) := fun y => by rw [← eb1] at y; rcases hck1 with ⟨h1, h2⟩ | ⟨h1, h2⟩; exact absurd (h1.symm.trans c_44) (by decide); exact h2 (ec1.mpr y)
                                    refine lv_iload hx hb dX12_isFrame_310 (lv_at hl 3 rfl) ?_
                                    refine g_top (y := nI 0) c_44 ?_
                                    exact g_zret (Wd := rWs G) (v := nI 0) (upd sc 46 (nI k), va_up ar 45 g) hB hx hb hr hlocks rfl (narrow_z (Or.inl rfl)) ⟨g, nI k, rfl, Or.inr ⟨rfl, fun z => hc1 z.2.2.2.2.2.2.2.2.2.2.2.1⟩⟩ dX12_isFrame_312
                                  · have c_44 := c_44
                                    have hgo : g1v = nI 1 ∧ chkL bs 10 (if nF bs < 16 then nF bs else 16) := by rw [← eb1]; rcases hck1 with ⟨h1, h2⟩ | ⟨h1, h2⟩; exact ⟨h1, ec1.mp h2⟩; exact absurd h1 c_44
                                    refine lv_iload hx hb dX12_isFrame_215 (lv_at hl 0 rfl) ?_
                                    refine lv_if_le (tgt := 310) hx hb dX12_isFrame_217 (by decide) (fun c_45 => ?_) (fun c_45 => ?_)
                                    · have c_45 : (nF bs - b1) ≤ 0 := (nI_leI (a := (nF bs - b1)) (b := 0) (by omega) (by omega)).mp c_45
                                      refine lv_iload hx hb dX12_isFrame_310 (lv_at hl 3 rfl) ?_
                                      refine g_top (y := nI 1) hgo.1 ?_
                                      have hb9 : b1 = nF bs := by omega
                                      have hcar : ∀ j, j < nF bs → g j = nI (crF bs j) := fun j hj => by
                                        rw [hg j (by omega), crF, if_pos (by omega)]; exact (bq_at hB9 (by omega)).1
                                      exact g_zret (Wd := rWs G) (v := nI 1) (upd sc 46 (nI k), va_up ar 45 g) hB hx hb hr hlocks rfl (narrow_z (Or.inr rfl)) ⟨g, nI k, rfl, Or.inl ⟨rfl, ⟨by omega, by omega, by omega, by omega, c_19, c_22, c_25, c_28, c_31, by omega, hc0, hgo.2, fun y => absurd y (by omega)⟩, by rw [hk9, hb9], hcar⟩⟩ dX12_isFrame_312
                                    · have c_45 : ¬ (nF bs - b1) ≤ 0 := fun h9 => c_45 ((nI_leI (a := (nF bs - b1)) (b := 0) (by omega) (by omega)).mpr h9)
                                      have hb9 : b1 = 16 := by omega
                                      refine lv_iload hx hb dX12_isFrame_220 (lv_at hl 0 rfl) ?_
                                      refine lv_bipush (v := nI 16) hx hb dX12_isFrame_222 (by decide) ?_
                                      refine lv_icmp_ge (tgt := 232) hx hb dX12_isFrame_224 (by decide) (fun c_46 => ?_) (fun c_46 => ?_)
                                      · have c_46 : 16 ≤ (nF bs - b1) := (nI_leI (a := 16) (b := (nF bs - b1)) (by omega) (by omega)).mp c_46
                                        exact absurd c_46 (by omega)
                                      · have c_46 : ¬ 16 ≤ (nF bs - b1) := fun h9 => c_46 ((nI_leI (a := 16) (b := (nF bs - b1)) (by omega) (by omega)).mpr h9)
                                        refine lv_iload hx hb dX12_isFrame_227 (lv_at hl 0 rfl) ?_
                                        refine lv_goto (tgt := 234) hx hb dX12_isFrame_229 (by decide) ?_
                                        refine lv_istore (lv' := [(8, .int (nI (nF bs - b1))), (7, .int (nI (nF bs - b1))), (6, .int (nI ((40 * i + 10) + (b1 + 2)))), (9, .int (nI k)), (5, .int g1v), (4, .int (nI (nF bs))), (3, .int (nI (40 * i))), (0, .ref G.2.1), (1, .int (nI i)), (2, .int (nI sd))]) hx hb dX12_isFrame_234 hl (by decide) rfl (fun ls hl => ?_)
                                        refine lv_aload_n hx hb dX12_isFrame_236 rfl (lv_at hl 7 rfl) ?_
                                        refine lv_iload hx hb dX12_isFrame_237 (lv_at hl 2 rfl) ?_
                                        refine lv_iload hx hb dX12_isFrame_239 (lv_at hl 0 rfl) ?_
                                        have el : nF bs - b1 = nF bs - 16 := by omega
                                        have ef : 40 * i + 10 + (b1 + 2) = 40 * i + 28 := by omega
                                        refine g_calli (av := [.int (nI ((40 * i + 10) + (b1 + 2))), .int (nI (nF bs - b1))]) (rest := []) ⟨hx, hb, hml, hown, hts⟩ (c_isChecked l G (upd sc 46 (nI k)) (va_up ar 45 g) (40 * i + 10 + (b1 + 2)) (nF bs - b1) (by omega)) (cwV 2 hts gX12_isFrame_X12_isChecked rfl rfl rfl (by decide +kernel) ⟨Nat.le_of_ble_eq_true rfl, Nat.le_of_ble_eq_true rfl⟩) hB (q0 := 0) (ci := 9) rfl rfl rfl rfl hl.1 rfl (Nat.le_of_ble_eq_true rfl) dX12_isFrame_241 ⟨Nat.le_of_ble_eq_true rfl, Nat.le_of_ble_eq_true rfl⟩ (fun r9 u H locs hw hB => ?_)
                                        obtain ⟨hck2, rfl⟩ := hw
                                        have hB : gB G.1 (rT G) A s H locs (rWs G (upd sc 46 (nI k), va_up ar 45 g)) := hB
                                        have ec2 : chkF (ar 31) (40 * i + 28) (nF bs - 16) ↔ chkL bs 28 (nF bs - 16) := chkF_L (a := 28) hbs (by omega)
                                        have hck2 : (r9 = nI 1 ∧ chkF (ar 31) (40 * i + 28) (nF bs - 16)) ∨ (r9 = nI 0 ∧ ¬ chkF (ar 31) (40 * i + 28) (nF bs - 16)) := by rw [ef, el] at hck2; exact hck2
                                        obtain ⟨g2v, hg2v⟩ : ∃ z, z = r9 := ⟨_, rfl⟩
                                        rw [← hg2v] at hck2
                                        refine g_top (y := g2v) hg2v.symm ?_
                                        refine lv_istore (lv' := [(5, .int g2v), (8, .int (nI (nF bs - b1))), (7, .int (nI (nF bs - b1))), (6, .int (nI ((40 * i + 10) + (b1 + 2)))), (9, .int (nI k)), (4, .int (nI (nF bs))), (3, .int (nI (40 * i))), (0, .ref G.2.1), (1, .int (nI i)), (2, .int (nI sd))]) hx hb dX12_isFrame_244 hl (by decide) rfl (fun ls hl => ?_)
                                        refine lv_iconst (v := nI 0) hx hb dX12_isFrame_246 (by decide) ?_
                                        refine lv_istore (lv' := [(9, .int (nI 0)), (5, .int g2v), (8, .int (nI (nF bs - b1))), (7, .int (nI (nF bs - b1))), (6, .int (nI ((40 * i + 10) + (b1 + 2)))), (4, .int (nI (nF bs))), (3, .int (nI (40 * i))), (0, .ref G.2.1), (1, .int (nI i)), (2, .int (nI sd))]) hx hb dX12_isFrame_247 hl (by decide) rfl (fun ls hl => ?_)
                                        rw [hb9] at hl
                                        rw [hk9, hb9] at hB hg
                                        have hl : lv_has ls 10 [(9, .int (nI 0)), (5, .int g2v), (8, .int (nI (nF bs - 16))), (7, .int (nI (nF bs - 16))), (6, .int (nI ((40 * i + 10) + (16 + 2)))), (4, .int (nI (nF bs))), (3, .int (nI (40 * i))), (0, .ref G.2.1), (1, .int (nI i)), (2, .int (nI sd))] := lv_sub hl [0, 1, 2, 3, 4, 5, 6, 7, 8, 9] rfl
                                        have hB : gB G.1 (rT G) A s H locs (rWs G (upd sc 46 (nI (16 + 0)), va_up ar 45 g)) := hB
                                        refine g_loop (σ := Nat × (Nat → Int32)) (fun d xv H locs ls => (xv.1 + d = nF bs - 16) ∧ (∀ j, j < 16 → xv.2 j = bs.getD (10 + j) 0) ∧ (∀ j, j < xv.1 → xv.2 (16 + j) = bs.getD (28 + j) 0) ∧ gB G.1 (rT G) A s H locs (rWs G (upd sc 46 (nI (16 + xv.1)), va_up ar 45 xv.2)) ∧ lv_has ls 10 [(9, .int (nI xv.1)), (5, .int g2v), (8, .int (nI (nF bs - 16))), (7, .int (nI (nF bs - 16))), (6, .int (nI ((40 * i + 10) + (16 + 2)))), (4, .int (nI (nF bs))), (3, .int (nI (40 * i))), (0, .ref G.2.1), (1, .int (nI i)), (2, .int (nI sd))]) (nF bs - 16) (0, g) ⟨by omega, hg, fun j hj => absurd hj (Nat.not_lt_zero j), hB, hl⟩ ?_
                                        rintro d ⟨k2, h⟩ H locs ls ⟨hk2, hh1, hh2, hB, hl⟩ ih_47
                                        have hk2 : k2 + d = nF bs - 16 := hk2
                                        have hh1 : ∀ j, j < 16 → h j = bs.getD (10 + j) 0 := hh1
                                        have hh2 : ∀ j, j < k2 → h (16 + j) = bs.getD (28 + j) 0 := hh2
                                        have hB : gB G.1 (rT G) A s H locs (rWs G (upd sc 46 (nI (16 + k2)), va_up ar 45 h)) := hB
                                        have hl : lv_has ls 10 [(9, .int (nI k2)), (5, .int g2v), (8, .int (nI (nF bs - 16))), (7, .int (nI (nF bs - 16))), (6, .int (nI ((40 * i + 10) + (16 + 2)))), (4, .int (nI (nF bs))), (3, .int (nI (40 * i))), (0, .ref G.2.1), (1, .int (nI i)), (2, .int (nI sd))] := hl
                                        refine lv_iload hx hb dX12_isFrame_249 (lv_at hl 0 rfl) ?_
                                        refine lv_iload hx hb dX12_isFrame_251 (lv_at hl 2 rfl) ?_
                                        refine lv_icmp_ge (tgt := 291) hx hb dX12_isFrame_253 (by decide) (fun c_48 => ?_) (fun c_48 => ?_)
                                        · have c_48 : (nF bs - 16) ≤ k2 := (nI_leI (a := (nF bs - 16)) (b := k2) (by omega) (by omega)).mp c_48
                                          have hk29 : k2 = nF bs - 16 := by omega
                                          refine lv_iload hx hb dX12_isFrame_291 (lv_at hl 4 rfl) ?_
                                          refine lv_iload hx hb dX12_isFrame_293 (lv_at hl 2 rfl) ?_
                                          refine lv_iconst (v := nI 2) hx hb dX12_isFrame_295 (by decide) ?_
                                          refine lv_iadd hx hb dX12_isFrame_296 ?_
                                          refine g_top (y := nI ((nF bs - 16) + 2)) (nI_add _ _) ?_
                                          refine lv_iadd hx hb dX12_isFrame_297 ?_
                                          refine g_top (y := nI (((40 * i + 10) + (16 + 2)) + ((nF bs - 16) + 2))) (nI_add _ _) ?_
                                          refine lv_istore (lv' := [(6, .int (nI (((40 * i + 10) + (16 + 2)) + ((nF bs - 16) + 2)))), (9, .int (nI k2)), (5, .int g2v), (8, .int (nI (nF bs - 16))), (7, .int (nI (nF bs - 16))), (4, .int (nI (nF bs))), (3, .int (nI (40 * i))), (0, .ref G.2.1), (1, .int (nI i)), (2, .int (nI sd))]) hx hb dX12_isFrame_298 hl (by decide) rfl (fun ls hl => ?_)
                                          refine lv_iload hx hb dX12_isFrame_300 (lv_at hl 4 rfl) ?_
                                          refine lv_iload hx hb dX12_isFrame_302 (lv_at hl 3 rfl) ?_
                                          refine lv_isub hx hb dX12_isFrame_304 ?_
                                          refine g_top (y := nI 0) ((pk_sub (by omega)).trans (by congr 1; omega)) ?_
                                          refine lv_istore (lv' := [(7, .int (nI 0)), (6, .int (nI (((40 * i + 10) + (16 + 2)) + ((nF bs - 16) + 2)))), (9, .int (nI k2)), (5, .int g2v), (8, .int (nI (nF bs - 16))), (4, .int (nI (nF bs))), (3, .int (nI (40 * i))), (0, .ref G.2.1), (1, .int (nI i)), (2, .int (nI sd))]) hx hb dX12_isFrame_305 hl (by decide) rfl (fun ls hl => ?_)
                                          refine lv_goto (tgt := 210) hx hb dX12_isFrame_307 (by decide) ?_
                                          refine lv_iload hx hb dX12_isFrame_210 (lv_at hl 3 rfl) ?_
                                          refine lv_if_eq (tgt := 310) hx hb dX12_isFrame_212 (by decide) (fun c_49 => ?_) (fun c_49 => ?_)
                                          · have c_49 := c_49
                                            have hc2 : ¬ chkL bs 28 (nF bs - 16) := fun y => by rcases hck2 with ⟨h1, h2⟩ | ⟨h1, h2⟩; exact absurd (h1.symm.trans c_49) (by decide); exact h2 (ec2.mpr y)
                                            refine lv_iload hx hb dX12_isFrame_310 (lv_at hl 3 rfl) ?_
                                            refine g_top (y := nI 0) c_49 ?_
                                            exact g_zret (Wd := rWs G) (v := nI 0) (upd sc 46 (nI (16 + k2)), va_up ar 45 h) hB hx hb hr hlocks rfl (narrow_z (Or.inl rfl)) ⟨h, nI (16 + k2), rfl, Or.inr ⟨rfl, fun z => hc2 (z.2.2.2.2.2.2.2.2.2.2.2.2 (by omega))⟩⟩ dX12_isFrame_312
                                          · have c_49 := c_49
                                            have hgo2 : g2v = nI 1 ∧ chkL bs 28 (nF bs - 16) := by rcases hck2 with ⟨h1, h2⟩ | ⟨h1, h2⟩; exact ⟨h1, ec2.mp h2⟩; exact absurd h1 c_49
                                            refine lv_iload hx hb dX12_isFrame_215 (lv_at hl 0 rfl) ?_
                                            refine lv_if_le (tgt := 310) hx hb dX12_isFrame_217 (by decide) (fun c_50 => ?_) (fun c_50 => ?_)
                                            · have c_50 : 0 ≤ 0 := (nI_leI (a := 0) (b := 0) (by omega) (by omega)).mp c_50
                                              refine lv_iload hx hb dX12_isFrame_310 (lv_at hl 3 rfl) ?_
                                              refine g_top (y := nI 1) hgo2.1 ?_
                                              have hcar : ∀ j, j < nF bs → h j = nI (crF bs j) := fun j hj => by
                                                by_cases hj16 : j < 16
                                                · rw [hh1 j hj16, crF, if_pos hj16]; exact (bq_at hB9 (by omega)).1
                                                · have hx9 := hh2 (j - 16) (by omega)
                                                  rw [show 16 + (j - 16) = j by omega, show 28 + (j - 16) = 12 + j by omega] at hx9
                                                  rw [hx9, crF, if_neg hj16]; exact (bq_at hB9 (by omega)).1
                                              exact g_zret (Wd := rWs G) (v := nI 1) (upd sc 46 (nI (16 + k2)), va_up ar 45 h) hB hx hb hr hlocks rfl (narrow_z (Or.inr rfl)) ⟨h, nI (16 + k2), rfl, Or.inl ⟨rfl, ⟨by omega, by omega, by omega, by omega, c_19, c_22, c_25, c_28, c_31, by omega, hc0, hgo.2, fun _ => hgo2.2⟩, by congr 1; omega, hcar⟩⟩ dX12_isFrame_312
                                            · have c_50 : ¬ 0 ≤ 0 := fun h9 => c_50 ((nI_leI (a := 0) (b := 0) (by omega) (by omega)).mpr h9)
                                              exact absurd c_50 (by omega)
                                        · have c_48 : ¬ (nF bs - 16) ≤ k2 := fun h9 => c_48 ((nI_leI (a := (nF bs - 16)) (b := k2) (by omega) (by omega)).mpr h9)
                                          refine lv_aload_n hx hb dX12_isFrame_256 rfl (lv_at hl 7 rfl) ?_
                                          refine r_get (u := (upd sc 46 (nI (16 + k2)), va_up ar 45 h)) (v := .ref (G.2.2.1 45)) hx hb hts hin hown hB 45 (by decide) (hts (.fieldLink RX12 84 "PointReportsModel" "carried" "[I") (by decide +kernel)) rfl rfl dX12_isFrame_257 ?_
                                          refine lv_aload_n hx hb dX12_isFrame_260 rfl (lv_at hl 7 rfl) ?_
                                          refine r_get (u := (upd sc 46 (nI (16 + k2)), va_up ar 45 h)) (v := .int (nI (16 + k2))) hx hb hts hin hown hB 46 (by decide) (hts (.fieldLink RX12 118 "PointReportsModel" "carriedLength" "I") (by decide +kernel)) rfl rfl dX12_isFrame_261 ?_
                                          refine lv_aload_n hx hb dX12_isFrame_264 rfl (lv_at hl 7 rfl) ?_
                                          refine r_get (u := (upd sc 46 (nI (16 + k2)), va_up ar 45 h)) (v := .ref (G.2.2.1 31)) hx hb hts hin hown hB 31 (by decide) (hts (.fieldLink RX12 51 "PointReportsModel" "frames" "[I") (by decide +kernel)) rfl rfl dX12_isFrame_265 ?_
                                          refine lv_iload hx hb dX12_isFrame_268 (lv_at hl 4 rfl) ?_
                                          refine lv_iload hx hb dX12_isFrame_270 (lv_at hl 0 rfl) ?_
                                          refine lv_iadd hx hb dX12_isFrame_272 ?_
                                          refine g_top (y := nI (((40 * i + 10) + (16 + 2)) + k2)) (nI_add _ _) ?_
                                          refine r_ald (u := (upd sc 46 (nI (16 + k2)), va_up ar 45 h)) (f := ar 31) hx hb hB 13 rfl (((40 * i + 10) + (16 + 2)) + k2) rfl (by omega) (by decide) dX12_isFrame_273 ?_
                                          refine r_ast (u := (upd sc 46 (nI (16 + k2)), va_up ar 45 h)) (f := h) (x := (ar 31) (((40 * i + 10) + (16 + 2)) + k2)) (va_up ar 45 (upd h (16 + k2) ((ar 31) (((40 * i + 10) + (16 + 2)) + k2)))) hx hb hB 24 rfl (16 + k2) rfl (by omega) (by decide) rfl dX12_isFrame_274 (fun H locs hB => ?_)
                                          refine lv_aload_n hx hb dX12_isFrame_275 rfl (lv_at hl 7 rfl) ?_
                                          refine lv_dup hx hb dX12_isFrame_276 rfl ?_
                                          refine r_get (u := (upd sc 46 (nI (16 + k2)), va_up ar 45 (upd h (16 + k2) ((ar 31) (((40 * i + 10) + (16 + 2)) + k2))))) (v := .int (nI (16 + k2))) hx hb hts hin hown hB 46 (by decide) (hts (.fieldLink RX12 118 "PointReportsModel" "carriedLength" "I") (by decide +kernel)) rfl rfl dX12_isFrame_277 ?_
                                          refine lv_iconst (v := nI 1) hx hb dX12_isFrame_280 (by decide) ?_
                                          refine lv_iadd hx hb dX12_isFrame_281 ?_
                                          refine g_top (y := nI ((16 + k2) + 1)) (nI_add _ _) ?_
                                          refine r_put (u := (upd sc 46 (nI (16 + k2)), va_up ar 45 (upd h (16 + k2) ((ar 31) (((40 * i + 10) + (16 + 2)) + k2))))) (v := nI ((16 + k2) + 1)) (upd sc 46 (nI ((16 + k2) + 1))) hx hb hts hin hown hB 46 (by decide) (hts (.fieldLink RX12 118 "PointReportsModel" "carriedLength" "I") (by decide +kernel)) rfl (ty := .int) rfl rfl rfl rfl rfl dX12_isFrame_282 (fun H locs hB => ?_)
                                          refine lv_iinc (v := nI (k2 + 1)) (lv' := [(9, .int (nI (k2 + 1))), (5, .int g2v), (8, .int (nI (nF bs - 16))), (7, .int (nI (nF bs - 16))), (6, .int (nI ((40 * i + 10) + (16 + 2)))), (4, .int (nI (nF bs))), (3, .int (nI (40 * i))), (0, .ref G.2.1), (1, .int (nI i)), (2, .int (nI sd))]) hx hb dX12_isFrame_285 hl (k := 0) rfl (nI_add _ _) (by decide) rfl (fun ls hl => ?_)
                                          refine lv_goto (tgt := 249) hx hb dX12_isFrame_288 (by decide) ?_
                                          have hl : lv_has ls 10 [(9, .int (nI (k2 + 1))), (5, .int g2v), (8, .int (nI (nF bs - 16))), (7, .int (nI (nF bs - 16))), (6, .int (nI ((40 * i + 10) + (16 + 2)))), (4, .int (nI (nF bs))), (3, .int (nI (40 * i))), (0, .ref G.2.1), (1, .int (nI i)), (2, .int (nI sd))] := lv_sub hl [0, 1, 2, 3, 4, 5, 6, 7, 8, 9] rfl
                                          have hB : gB G.1 (rT G) A s H locs (rWs G (upd sc 46 (nI (16 + (k2 + 1))), va_up ar 45 (upd h (16 + k2) ((ar 31) (((40 * i + 10) + (16 + 2)) + k2))))) := hB
                                          have b_51 : (k2 + 1) + (nF bs - 16 - (k2 + 1)) = nF bs - 16 := by omega
                                          have b_52 : ∀ j, j < 16 → (upd h (16 + k2) ((ar 31) (((40 * i + 10) + (16 + 2)) + k2))) j = bs.getD (10 + j) 0 := fun j hj => by rw [upd_ne (by omega)]; exact hh1 j hj
                                          have b_53 : ∀ j, j < (k2 + 1) → (upd h (16 + k2) ((ar 31) (((40 * i + 10) + (16 + 2)) + k2))) (16 + j) = bs.getD (28 + j) 0 := fun j hj => by
                                              by_cases hz : j = k2
                                              · subst hz; rw [upd_self]
                                                rw [show 40 * i + 10 + (16 + 2) + j = 40 * i + (28 + j) by omega]
                                                exact hbs _ (by omega)
                                              · rw [upd_ne (by omega)]; exact hh2 j (by omega)
                                          exact ih_47 (nF bs - 16 - (k2 + 1)) (k2 + 1, upd h (16 + k2) ((ar 31) (((40 * i + 10) + (16 + 2)) + k2))) H locs ls (by omega) ⟨b_51, b_52, b_53, hB, hl⟩
                                · have c_43 : ¬ b1 ≤ k := fun h9 => c_43 ((nI_leI (a := b1) (b := k) (by omega) (by omega)).mpr h9)
                                  refine lv_aload_n hx hb dX12_isFrame_256 rfl (lv_at hl 7 rfl) ?_
                                  refine r_get (u := (upd sc 46 (nI k), va_up ar 45 g)) (v := .ref (G.2.2.1 45)) hx hb hts hin hown hB 45 (by decide) (hts (.fieldLink RX12 84 "PointReportsModel" "carried" "[I") (by decide +kernel)) rfl rfl dX12_isFrame_257 ?_
                                  refine lv_aload_n hx hb dX12_isFrame_260 rfl (lv_at hl 7 rfl) ?_
                                  refine r_get (u := (upd sc 46 (nI k), va_up ar 45 g)) (v := .int (nI k)) hx hb hts hin hown hB 46 (by decide) (hts (.fieldLink RX12 118 "PointReportsModel" "carriedLength" "I") (by decide +kernel)) rfl rfl dX12_isFrame_261 ?_
                                  refine lv_aload_n hx hb dX12_isFrame_264 rfl (lv_at hl 7 rfl) ?_
                                  refine r_get (u := (upd sc 46 (nI k), va_up ar 45 g)) (v := .ref (G.2.2.1 31)) hx hb hts hin hown hB 31 (by decide) (hts (.fieldLink RX12 51 "PointReportsModel" "frames" "[I") (by decide +kernel)) rfl rfl dX12_isFrame_265 ?_
                                  refine lv_iload hx hb dX12_isFrame_268 (lv_at hl 4 rfl) ?_
                                  refine lv_iload hx hb dX12_isFrame_270 (lv_at hl 0 rfl) ?_
                                  refine lv_iadd hx hb dX12_isFrame_272 ?_
                                  refine g_top (y := nI ((40 * i + 10) + k)) (nI_add _ _) ?_
                                  refine r_ald (u := (upd sc 46 (nI k), va_up ar 45 g)) (f := ar 31) hx hb hB 13 rfl ((40 * i + 10) + k) rfl (by omega) (by decide) dX12_isFrame_273 ?_
                                  refine r_ast (u := (upd sc 46 (nI k), va_up ar 45 g)) (f := g) (x := (ar 31) ((40 * i + 10) + k)) (va_up ar 45 (upd g k ((ar 31) ((40 * i + 10) + k)))) hx hb hB 24 rfl k rfl (by omega) (by decide) rfl dX12_isFrame_274 (fun H locs hB => ?_)
                                  refine lv_aload_n hx hb dX12_isFrame_275 rfl (lv_at hl 7 rfl) ?_
                                  refine lv_dup hx hb dX12_isFrame_276 rfl ?_
                                  refine r_get (u := (upd sc 46 (nI k), va_up ar 45 (upd g k ((ar 31) ((40 * i + 10) + k))))) (v := .int (nI k)) hx hb hts hin hown hB 46 (by decide) (hts (.fieldLink RX12 118 "PointReportsModel" "carriedLength" "I") (by decide +kernel)) rfl rfl dX12_isFrame_277 ?_
                                  refine lv_iconst (v := nI 1) hx hb dX12_isFrame_280 (by decide) ?_
                                  refine lv_iadd hx hb dX12_isFrame_281 ?_
                                  refine g_top (y := nI (k + 1)) (nI_add _ _) ?_
                                  refine r_put (u := (upd sc 46 (nI k), va_up ar 45 (upd g k ((ar 31) ((40 * i + 10) + k))))) (v := nI (k + 1)) (upd sc 46 (nI (k + 1))) hx hb hts hin hown hB 46 (by decide) (hts (.fieldLink RX12 118 "PointReportsModel" "carriedLength" "I") (by decide +kernel)) rfl (ty := .int) rfl rfl rfl rfl rfl dX12_isFrame_282 (fun H locs hB => ?_)
                                  refine lv_iinc (v := nI (k + 1)) (lv' := [(9, .int (nI (k + 1))), (5, .int g1v), (8, .int (nI b1)), (7, .int (nI (nF bs))), (6, .int (nI (40 * i + 10))), (4, .int (nI (nF bs))), (3, .int (nI (40 * i))), (0, .ref G.2.1), (1, .int (nI i)), (2, .int (nI sd))]) hx hb dX12_isFrame_285 hl (k := 0) rfl (nI_add _ _) (by decide) rfl (fun ls hl => ?_)
                                  refine lv_goto (tgt := 249) hx hb dX12_isFrame_288 (by decide) ?_
                                  have hl : lv_has ls 10 [(9, .int (nI (k + 1))), (5, .int g1v), (8, .int (nI b1)), (7, .int (nI (nF bs))), (6, .int (nI (40 * i + 10))), (4, .int (nI (nF bs))), (3, .int (nI (40 * i))), (0, .ref G.2.1), (1, .int (nI i)), (2, .int (nI sd))] := lv_sub hl [0, 1, 2, 3, 4, 5, 6, 7, 8, 9] rfl
                                  have hB : gB G.1 (rT G) A s H locs (rWs G (upd sc 46 (nI (k + 1)), va_up ar 45 (upd g k ((ar 31) ((40 * i + 10) + k))))) := hB
                                  have b_54 : (k + 1) + (b1 - (k + 1)) = b1 := by omega
                                  have b_55 : ∀ j, j < (k + 1) → (upd g k ((ar 31) ((40 * i + 10) + k))) j = bs.getD (10 + j) 0 := fun j hj => by
                                      by_cases hz : j = k
                                      · subst hz; rw [upd_self, Nat.add_assoc]; exact hbs _ (by omega)
                                      · rw [upd_ne hz]; exact hg j (by omega)
                                  exact ih_42 (b1 - (k + 1)) (k + 1, upd g k ((ar 31) ((40 * i + 10) + k))) H locs ls (by omega) ⟨b_54, b_55, hB, hl⟩
