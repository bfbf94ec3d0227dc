theorem if_01 (P : Prop) (i : Decidable P) (z : Nat) : (if (if P then 1 else 0) = 0 then 0 else z) = (if P then z else 0) := by
  by_cases h : P
  · rw [if_pos h, if_pos h]; rfl
  · rw [if_neg h, if_neg h]; rfl
theorem fb_eq (q a mm n : Nat) : q + (if (if a = 0 then 1 else 0) = 0 then 0 else 64) + (if (if a + mm = n then 1 else 0) = 0 then 0 else 128) = fbN a mm n q := by
  rw [if_01, if_01, fbN]; omega
theorem fA_ch (A C : List fE) {x y : fE} (h : x.1 = y.1) : fA (A ++ x :: C) = fA (A ++ y :: C) := by
  funext i
  unfold fA
  by_cases h1 : i < A.length
  · rw [List.getElem?_append_left h1, List.getElem?_append_left h1]
  · rw [List.getElem?_append_right (by omega), List.getElem?_append_right (by omega)]
    cases i - A.length with
    | zero => show some x.1 = some y.1; rw [h]
    | succ n => rfl
theorem mem_ch {A C : List fE} {x y z : fE} (hz : z ∈ A ++ y :: C) : z = y ∨ z ∈ A ++ x :: C := by
  rcases List.mem_append.mp hz with h | h
  · exact Or.inr (List.mem_append_left _ h)
  · rcases List.mem_cons.mp h with h | h
    · exact Or.inl h
    · exact Or.inr (List.mem_append_right _ (List.mem_cons_of_mem _ h))
theorem lR_push {k : Nat} {A C : List fE} {x y : fE} {L : List (Int32 × List Int32)} (hk : k ≤ 40) (hlen : L.length = k) (h40 : (A ++ x :: C).length = 40) (hok : ∀ z ∈ A ++ x :: C, fOk z) (eA : lnL A = (if k = 40 then L.drop 1 else L)) (hy : fOk y) : lR (A.length + 1) (A ++ y :: C) (pushL L (nI y.2.2.2.1, y.2.2.2.2.1)) := by
  have hl : A.length + (C.length + 1) = 40 := by rw [List.length_append, List.length_cons] at h40; exact h40
  refine ⟨by rw [List.length_append, List.length_cons]; exact hl, by omega, fun z hz => (mem_ch hz).elim (fun h => by rw [h]; exact hy) (hok z), ?_⟩
  have e1 : (A ++ y :: C).take (A.length + 1) = A ++ [y] := by
    rw [List.take_append, List.take_of_length_le (by omega), Nat.add_sub_cancel_left]; rfl
  rw [e1]
  show _ = (A ++ [y]).map _
  rw [List.map_append]
  show _ = lnL A ++ [_]
  rw [eA, pushL]
  by_cases h : k = 40
  · rw [if_neg (by omega), if_pos h]
    cases L with
    | nil => simp only [List.length_nil] at hlen; omega
    | cons z L => rfl
  · rw [if_pos (by omega), if_neg h]
def snW (G : rG) (sa la fa : Nat) (cF : ClassId) (sd : Nat) (ca da kz : Nat) (b : Int32 × (Nat → Int32)) (u : Nat × Nat × List fE) : va_W := [(sa, .inr (6, [.ref la, .int (nI (sd + 1)), .int (nI u.1)]))] ++ (bW G ca da kz b ++ lW G la fa cF u.2)
set_option maxRecDepth 100000 in
set_option maxHeartbeats 1000000 in
/-- Sender.send(fragment) -/
theorem k_Sender_send (l : Launch) (G : rG) (sa la fa : Nat) (cF : ClassId) (hTF : (rT G)[2]? = some (cF, .object RX3)) (sd : Nat) (hsd : sd ≤ 1) (q : Nat) (hq64 : q < 64) (k : Nat) (fs : List fE) (L : List (Int32 × List Int32)) (hR : lR k fs L) (ca da kz : Nat) (g : Nat → Int32) (fl : List Int32) (hq : pfx g fl) (hqn : fl.length ≤ kz) (hk9 : kz < 1000000) (hFB : ∀ x ∈ fl, isB x) (h400 : fl.length ≤ 400) : gM l G.1 (rT G) yX9_send wsX9_send { frames := 3, cells := 0, slots := 0, locals := 73 } [.ref sa, .ref ca] ([(sa, .inr (6, [.ref la, .int (nI (sd + 1)), .int (nI q)])), (ca, .inr (0, [.ref da, .int (nI fl.length)])), (da, .inl (G.2.2.2.1, kz, .inl g)), (la, .inr (3, [.ref fa, .int (nI k)])), (fa, .inl (cF, 40, .inr (.inr (.inr (.inr (fA fs))))))] ++ (plW G fs)) (gQv G.1 (rT G) (fun u : Nat × Nat × List fE => u.1 = (sndF sd fl L q).2 ∧ u.1 < 64 ∧ lR u.2.1 u.2.2 (sndF sd fl L q).1) (snW G sa la fa cF sd ca da kz (nI fl.length, g))) 0 0 := by
  refine gM.of (cc := cX9_send) (maxL := 6) (ret := none) (by decide) rfl (Nat.le_of_ble_eq_true rfl) ?_
  intro p e s m below meth c A ls hx hb hr hml hown hts hlocks hnm hB hl
  have hl : lv_has ls 6 [(0, .ref sa), (1, .ref ca)] := hl
  refine lv_aload_n hx hb dX9_send_0 rfl (lv_at hl 1 rfl) ?_
  have hB : gB G.1 (rT G) A s s.heap []  (([(sa, .inr (6, [.ref la, .int (nI (sd + 1)), .int (nI q)])), (la, .inr (3, [.ref fa, .int (nI k)])), (fa, .inl (cF, 40, .inr (.inr (.inr (.inr (fA fs))))))] ++ plW G fs) ++ [(ca, .inr (0, [.ref da, .int (nI fl.length)])), (da, .inl (G.2.2.2.1, kz, .inl g))]) := hB.ordP [0, 3, 4, 1, 2] 5 rfl (by decide) rfl
  refine g_calliA (wr := ([(sa, .inr (6, [.ref la, .int (nI (sd + 1)), .int (nI q)])), (la, .inr (3, [.ref fa, .int (nI k)])), (fa, .inl (cF, 40, .inr (.inr (.inr (.inr (fA fs))))))] ++ plW G fs)) (wc := [(ca, .inr (0, [.ref da, .int (nI fl.length)])), (da, .inl (G.2.2.2.1, kz, .inl g))]) (av := []) (rest := []) ⟨hx, hb, hml, hown, hts⟩ (k_Bytes_size l G ca da kz g fl hq hqn hk9) (cwV 0 hts gX9_send_X1_size rfl rfl rfl (by decide +kernel) ⟨Nat.le_of_ble_eq_true rfl, Nat.le_of_ble_eq_true rfl⟩) hB (q0 := 0) (ci := 0) rfl rfl rfl rfl hl.1 rfl (Nat.le_of_ble_eq_true rfl) dX9_send_1 ⟨Nat.le_of_ble_eq_true rfl, Nat.le_of_ble_eq_true rfl⟩ (fun r9 u H locs hw hB => ?_)
  obtain ⟨rfl, rfl⟩ := hw
  have hB : gB G.1 (rT G) A s H locs ([(sa, .inr (6, [.ref la, .int (nI (sd + 1)), .int (nI q)])), (la, .inr (3, [.ref fa, .int (nI k)])), (fa, .inl (cF, 40, .inr (.inr (.inr (.inr (fA fs)))))), (ca, .inr (0, [.ref da, .int (nI fl.length)])), (da, .inl (G.2.2.2.1, kz, .inl g))] ++ (plW G fs)) := gB.tail (wr := [(sa, .inr (6, [.ref la, .int (nI (sd + 1)), .int (nI q)])), (la, .inr (3, [.ref fa, .int (nI k)])), (fa, .inl (cF, 40, .inr (.inr (.inr (.inr (fA fs))))))]) (wc := [(ca, .inr (0, [.ref da, .int (nI fl.length)])), (da, .inl (G.2.2.2.1, kz, .inl g))]) hB
  refine lv_istore_n (lv' := [(2, .int (nI fl.length)), (0, .ref sa), (1, .ref ca)]) hx hb dX9_send_4 rfl hl (by decide) rfl (fun ls hl => ?_)
  refine lv_iconst (v := nI 0) hx hb dX9_send_5 (by decide) ?_
  refine lv_istore_n (lv' := [(3, .int (nI 0)), (2, .int (nI fl.length)), (0, .ref sa), (1, .ref ca)]) hx hb dX9_send_6 rfl hl (by decide) rfl (fun ls hl => ?_)
  have hB : gB G.1 (rT G) A s H locs ([(sa, .inr (6, [.ref la, .int (nI (sd + 1)), .int (nI q)])), (ca, .inr (0, [.ref da, .int (nI fl.length)])), (da, .inl (G.2.2.2.1, kz, .inl g)), (la, .inr (3, [.ref fa, .int (nI k)])), (fa, .inl (cF, 40, .inr (.inr (.inr (.inr (fA fs))))))] ++ (plW G fs)) := hB.ordW [0, 3, 4, 1, 2] 5 rfl (by decide) rfl
  have hl : lv_has ls 6 [(3, .int (nI 0)), (0, .ref sa), (1, .ref ca), (2, .int (nI fl.length))] := lv_sub hl [0, 2, 3, 1] rfl
  have hB : gB G.1 (rT G) A s H locs ([(sa, .inr (6, [.ref la, .int (nI (sd + 1)), .int (nI q)])), (ca, .inr (0, [.ref da, .int (nI fl.length)])), (da, .inl (G.2.2.2.1, kz, .inl g)), (la, .inr (3, [.ref fa, .int (nI k)])), (fa, .inl (cF, 40, .inr (.inr (.inr (.inr (fA fs))))))] ++ (plW G fs)) := hB
  refine g_loop (σ := Nat × (List (Int32 × List Int32)) × Nat × Nat × (List fE)) (fun d xv H locs ls => (sndS sd fl d xv.1 xv.2.1 xv.2.2.1 = sndF sd fl L q) ∧ (fl.length ≤ xv.1 + 20 * d) ∧ (xv.1 + 20 * d ≤ 420) ∧ (lR xv.2.2.2.1 xv.2.2.2.2 xv.2.1) ∧ (xv.2.2.1 < 64) ∧ gB G.1 (rT G) A s H locs ([(sa, .inr (6, [.ref la, .int (nI (sd + 1)), .int (nI xv.2.2.1)])), (ca, .inr (0, [.ref da, .int (nI fl.length)])), (da, .inl (G.2.2.2.1, kz, .inl g)), (la, .inr (3, [.ref fa, .int (nI xv.2.2.2.1)])), (fa, .inl (cF, 40, .inr (.inr (.inr (.inr (fA xv.2.2.2.2))))))] ++ (plW G xv.2.2.2.2)) ∧ lv_has ls 6 [(3, .int (nI xv.1)), (0, .ref sa), (1, .ref ca), (2, .int (nI fl.length))]) 21 (0, L, q, k, fs) ⟨rfl, by show fl.length ≤ 0 + 20 * 21; omega, by show 0 + 20 * 21 ≤ 420; decide, hR, hq64, hB, hl⟩ ?_
  rintro d ⟨a, L1, q1, k1, fs1⟩ H locs ls ⟨hs, ha, ha2, hR1, hq1, hB, hl⟩ ih_1
  have hs : sndS sd fl d a L1 q1 = sndF sd fl L q := hs
  have ha : fl.length ≤ a + 20 * d := ha
  have ha2 : a + 20 * d ≤ 420 := ha2
  have hR1 : lR k1 fs1 L1 := hR1
  have hq1 : q1 < 64 := hq1
  have hB : gB G.1 (rT G) A s H locs ([(sa, .inr (6, [.ref la, .int (nI (sd + 1)), .int (nI q1)])), (ca, .inr (0, [.ref da, .int (nI fl.length)])), (da, .inl (G.2.2.2.1, kz, .inl g)), (la, .inr (3, [.ref fa, .int (nI k1)])), (fa, .inl (cF, 40, .inr (.inr (.inr (.inr (fA fs1))))))] ++ (plW G fs1)) := hB
  have hl : lv_has ls 6 [(3, .int (nI a)), (0, .ref sa), (1, .ref ca), (2, .int (nI fl.length))] := hl
  have hk1 : k1 ≤ 40 := hR1.2.1
  have hlen1 := hR1.len
  refine lv_iload_n hx hb dX9_send_7 rfl (lv_at hl 0 rfl) ?_
  refine lv_iload_n hx hb dX9_send_8 rfl (lv_at hl 3 rfl) ?_
  refine lv_icmp_ge (tgt := 90) hx hb dX9_send_9 (by decide) (fun c_2 => ?_) (fun c_2 => ?_)
  · have c_2 : fl.length ≤ a := (nI_leI (a := fl.length) (b := a) (by omega) (by omega)).mp c_2
    rw [sndS_end (by omega)] at hs
    exact g_vret (Wd := snW G sa la fa cF sd ca da kz (nI fl.length, g)) (q1, k1, fs1) hB hx hb hr hlocks rfl ⟨by rw [← hs], hq1, by rw [← hs]; exact hR1⟩ dX9_send_90
  · have c_2 : ¬ fl.length ≤ a := fun h9 => c_2 ((nI_leI (a := fl.length) (b := a) (by omega) (by omega)).mpr h9)
    obtain ⟨d1, ed1⟩ : ∃ d1, d = d1 + 1 := ⟨d - 1, by omega⟩
    subst ed1
    rw [sndS, if_pos (by omega)] at hs
    obtain ⟨mm, emm⟩ : ∃ mm, mm = (if fl.length - a < 20 then fl.length - a else 20) := ⟨_, rfl⟩
    rw [← emm] at hs
    have hmm : mm ≤ 20 ∧ a + mm ≤ fl.length ∧ 1 ≤ mm := by rw [emm]; split <;> omega
    refine lv_bipush (v := nI 20) hx hb dX9_send_12 (by decide) ?_
    refine lv_iload_n hx hb dX9_send_14 rfl (lv_at hl 3 rfl) ?_
    refine lv_iload_n hx hb dX9_send_15 rfl (lv_at hl 0 rfl) ?_
    refine lv_isub hx hb dX9_send_16 ?_
    refine g_top (y := nI (fl.length - a)) (pk_sub (by omega)) ?_
    refine va_mmin (x := nI 20) (y := nI (fl.length - a)) hx hb (hml.trans hl.1.symm) hown (hts (.methodLink RX9 25 Lib.Math.min.name) (by decide +kernel)) (hts (.static Lib.Math.min.name) (by decide +kernel)) (hts (.initialized "java/lang/Math") (by decide +kernel)) (hts (.code Lib.Math.min.name Lib.Math.min.code 2 (some .int)) (by decide +kernel)) (Nat.le_of_ble_eq_true rfl) (Nat.le_of_ble_eq_true rfl) (Nat.zero_le _) (Nat.zero_le _) dX9_send_17 ?_
    refine g_top (y := nI mm) ((mn_nI (a := 20) (by decide) (by omega)).trans (congrArg nI (by rw [emm]; unfold mnN; split <;> split <;> omega))) ?_
    refine lv_istore (lv' := [(4, .int (nI mm)), (3, .int (nI a)), (0, .ref sa), (1, .ref ca), (2, .int (nI fl.length))]) hx hb dX9_send_20 hl (by decide) rfl (fun ls hl => ?_)
    refine lv_aload_n hx hb dX9_send_22 rfl (lv_at hl 2 rfl) ?_
    refine g_get (own := RX9) (C := RX9) (T := TX9) (N := 3) (ci := 6) (v := .int (nI q1)) hx hb hts (fun _ h => List.mem_cons_of_mem _ (List.mem_append_left _ (List.mem_append_left _ (List.mem_append_left _ (List.mem_append_right _ h))))) hown hB 0 rfl rfl 2 (by decide) (hts (.fieldLink RX9 31 "PointReports$Sender" "nextNumber" "I") (by decide +kernel)) rfl rfl dX9_send_23 ?_
    refine lv_iload_n hx hb dX9_send_26 rfl (lv_at hl 1 rfl) ?_
    refine g_cut (σ := Unit) 35 (fun _ H locs ls => gB G.1 (rT G) A s H locs ([(sa, .inr (6, [.ref la, .int (nI (sd + 1)), .int (nI q1)])), (ca, .inr (0, [.ref da, .int (nI fl.length)])), (da, .inl (G.2.2.2.1, kz, .inl g)), (la, .inr (3, [.ref fa, .int (nI k1)])), (fa, .inl (cF, 40, .inr (.inr (.inr (.inr (fA fs1))))))] ++ (plW G fs1)) ∧ lv_has ls 6 [(4, .int (nI mm)), (3, .int (nI a)), (0, .ref sa), (1, .ref ca), (2, .int (nI fl.length))]) (fun _ => [.int (nI (if a = 0 then 1 else 0)), .int (nI q1)]) ?_ (fun cut => ?_)
    rotate_left
    · refine lv_if_ne (tgt := 34) hx hb dX9_send_27 (by decide) (fun c_3 => ?_) (fun c_3 => ?_)
      · have c_3 : ¬ a = 0 := fun h9 => c_3 ((nI_eq (a := a) (b := 0) (by omega) (by omega)).mpr h9)
        refine lv_iconst (v := nI 0) hx hb dX9_send_34 (by decide) ?_
        refine g_top (y := nI (if a = 0 then 1 else 0)) (by rw [if_neg c_3]) ?_
        exact cut () H locs ls ⟨hB, hl⟩
      · have c_3 : a = 0 := (nI_eq (a := a) (b := 0) (by omega) (by omega)).mp c_3
        refine lv_iconst (v := nI 1) hx hb dX9_send_30 (by decide) ?_
        refine lv_goto (tgt := 35) hx hb dX9_send_31 (by decide) ?_
        refine g_top (y := nI (if a = 0 then 1 else 0)) (by rw [if_pos c_3]) ?_
        exact cut () H locs ls ⟨hB, hl⟩
    rintro - H locs ls ⟨hB, hl⟩
    refine lv_iload_n hx hb dX9_send_35 rfl (lv_at hl 1 rfl) ?_
    refine lv_iload hx hb dX9_send_36 (lv_at hl 0 rfl) ?_
    refine lv_iadd hx hb dX9_send_38 ?_
    refine g_top (y := nI (a + mm)) (nI_add _ _) ?_
    refine lv_iload_n hx hb dX9_send_39 rfl (lv_at hl 4 rfl) ?_
    refine g_cut (σ := Unit) 48 (fun _ H locs ls => gB G.1 (rT G) A s H locs ([(sa, .inr (6, [.ref la, .int (nI (sd + 1)), .int (nI q1)])), (ca, .inr (0, [.ref da, .int (nI fl.length)])), (da, .inl (G.2.2.2.1, kz, .inl g)), (la, .inr (3, [.ref fa, .int (nI k1)])), (fa, .inl (cF, 40, .inr (.inr (.inr (.inr (fA fs1))))))] ++ (plW G fs1)) ∧ lv_has ls 6 [(4, .int (nI mm)), (3, .int (nI a)), (0, .ref sa), (1, .ref ca), (2, .int (nI fl.length))]) (fun _ => [.int (nI (if a + mm = fl.length then 1 else 0)), .int (nI (if a = 0 then 1 else 0)), .int (nI q1)]) ?_ (fun cut => ?_)
    rotate_left
    · refine lv_icmp_ne (tgt := 47) hx hb dX9_send_40 (by decide) (fun c_4 => ?_) (fun c_4 => ?_)
      · have c_4 : ¬ (a + mm) = fl.length := fun h9 => c_4 ((nI_eq (a := (a + mm)) (b := fl.length) (by omega) (by omega)).mpr h9)
        refine lv_iconst (v := nI 0) hx hb dX9_send_47 (by decide) ?_
        refine g_top (y := nI (if a + mm = fl.length then 1 else 0)) (by rw [if_neg c_4]) ?_
        exact cut () H locs ls ⟨hB, hl⟩
      · have c_4 : (a + mm) = fl.length := (nI_eq (a := (a + mm)) (b := fl.length) (by omega) (by omega)).mp c_4
        refine lv_iconst (v := nI 1) hx hb dX9_send_43 (by decide) ?_
        refine lv_goto (tgt := 48) hx hb dX9_send_44 (by decide) ?_
        refine g_top (y := nI (if a + mm = fl.length then 1 else 0)) (by rw [if_pos c_4]) ?_
        exact cut () H locs ls ⟨hB, hl⟩
    rintro - H locs ls ⟨hB, hl⟩
    refine g_callS0 (av := [.int (nI q1), .int (nI (if a = 0 then 1 else 0)), .int (nI (if a + mm = fl.length then 1 else 0))]) (rest := []) ⟨hx, hb, hml, hown, hts⟩ (k_Segment_firstByte l G q1 (if a = 0 then 1 else 0) (if a + mm = fl.length then 1 else 0) (by split <;> decide) (by split <;> decide)) (va_cwS 3 hts gX9_send_X8_firstByte rfl rfl rfl (by decide +kernel) ⟨Nat.le_of_ble_eq_true rfl, Nat.le_of_ble_eq_true rfl⟩) hB rfl hl.1 rfl (Nat.le_of_ble_eq_true rfl) dX9_send_48 ⟨Nat.le_of_ble_eq_true rfl, Nat.le_of_ble_eq_true rfl⟩ (fun r9 H locs hw hB => ?_)
    have er := hw
    have er : r9 = nI (fbN a mm fl.length q1) := er.trans (congrArg nI (fb_eq _ _ _ _))
    subst er
    have hfst : fbN a mm fl.length q1 < 256 := by unfold fbN; split <;> split <;> omega
    refine lv_istore (lv' := [(5, .int (nI (fbN a mm fl.length q1))), (4, .int (nI mm)), (3, .int (nI a)), (0, .ref sa), (1, .ref ca), (2, .int (nI fl.length))]) hx hb dX9_send_51 hl (by decide) rfl (fun ls hl => ?_)
    refine lv_aload_n hx hb dX9_send_53 rfl (lv_at hl 3 rfl) ?_
    refine g_get (own := RX9) (C := RX9) (T := TX9) (N := 3) (ci := 6) (v := .ref la) hx hb hts (fun _ h => List.mem_cons_of_mem _ (List.mem_append_left _ (List.mem_append_left _ (List.mem_append_left _ (List.mem_append_right _ h))))) hown hB 0 rfl rfl 0 (by decide) (hts (.fieldLink RX9 7 "PointReports$Sender" "line" "LPointReports$Line;") (by decide +kernel)) rfl rfl dX9_send_54 ?_
    have hB : gB G.1 (rT G) A s H locs  ([(sa, .inr (6, [.ref la, .int (nI (sd + 1)), .int (nI q1)])), (ca, .inr (0, [.ref da, .int (nI fl.length)])), (da, .inl (G.2.2.2.1, kz, .inl g))] ++ ([(la, .inr (3, [.ref fa, .int (nI k1)])), (fa, .inl (cF, 40, .inr (.inr (.inr (.inr (fA fs1))))))] ++ plW G fs1)) := hB.ordQ [0, 1, 2, 3, 4] 5 rfl (by decide) rfl
    refine g_calloA (wr := [(sa, .inr (6, [.ref la, .int (nI (sd + 1)), .int (nI q1)])), (ca, .inr (0, [.ref da, .int (nI fl.length)])), (da, .inl (G.2.2.2.1, kz, .inl g))]) (wc := ([(la, .inr (3, [.ref fa, .int (nI k1)])), (fa, .inl (cF, 40, .inr (.inr (.inr (.inr (fA fs1))))))] ++ plW G fs1)) (av := []) (rest := []) ⟨hx, hb, hml, hown, hts⟩ (k_Line_launch l G la fa cF hTF k1 fs1 L1 hR1) (cwV 0 hts gX9_send_X5_launch rfl rfl rfl (by decide +kernel) ⟨Nat.le_of_ble_eq_true rfl, Nat.le_of_ble_eq_true rfl⟩) hB (q0 := 0) (ci := 3) rfl rfl rfl rfl hl.1 rfl (Nat.le_of_ble_eq_true rfl) dX9_send_57 ⟨Nat.le_of_ble_eq_true rfl, Nat.le_of_ble_eq_true rfl⟩ (fun r9 u H locs hw hB => ?_)
    obtain ⟨LA, LC, ⟨xa, xb, xr, xs, xl, xf⟩, rfl, rfl, h40, hok, eLA⟩ := hw
    have hB : gB G.1 (rT G) A s H locs ([(sa, .inr (6, [.ref la, .int (nI (sd + 1)), .int (nI q1)])), (ca, .inr (0, [.ref da, .int (nI fl.length)])), (da, .inl (G.2.2.2.1, kz, .inl g)), (la, .inr (3, [.ref fa, .int (nI (LA.length + 1))])), (fa, .inl (cF, 40, .inr (.inr (.inr (.inr (fA (LA ++ (xa, xb, xr, xs, xl, xf) :: LC)))))))] ++ (plW G (LA ++ (xa, xb, xr, xs, xl, xf) :: LC))) := hB
    have hxo : fOk (xa, xb, xr, xs, xl, xf) := hok _ (List.mem_append_right _ List.mem_cons_self)
    have hB : gB G.1 (rT G) A s H locs ([(sa, .inr (6, [.ref la, .int (nI (sd + 1)), .int (nI q1)])), (ca, .inr (0, [.ref da, .int (nI fl.length)])), (da, .inl (G.2.2.2.1, kz, .inl g)), (la, .inr (3, [.ref fa, .int (nI (LA.length + 1))])), (fa, .inl (cF, 40, .inr (.inr (.inr (.inr (fA (LA ++ (xa, xb, xr, xs, xl, xf) :: LC))))))), (xa, .inr (2, [.ref xb, .int (nI (xs + 1))])), (xb, .inr (0, [.ref xr, .int (nI xl.length)])), (xr, .inl (G.2.2.2.1, 35, .inl xf))] ++ (plW G (LA ++ LC))) := gB.plOut (G := G) (ws := [(sa, .inr (6, [.ref la, .int (nI (sd + 1)), .int (nI q1)])), (ca, .inr (0, [.ref da, .int (nI fl.length)])), (da, .inl (G.2.2.2.1, kz, .inl g)), (la, .inr (3, [.ref fa, .int (nI (LA.length + 1))])), (fa, .inl (cF, 40, .inr (.inr (.inr (.inr (fA (LA ++ (xa, xb, xr, xs, xl, xf) :: LC)))))))]) hB
    refine lv_aload_n hx hb dX9_send_60 rfl (lv_at hl 3 rfl) ?_
    refine g_get (own := RX9) (C := RX9) (T := TX9) (N := 3) (ci := 6) (v := .int (nI (sd + 1))) hx hb hts (fun _ h => List.mem_cons_of_mem _ (List.mem_append_left _ (List.mem_append_left _ (List.mem_append_left _ (List.mem_append_right _ h))))) hown hB 0 rfl rfl 1 (by decide) (hts (.fieldLink RX9 13 "PointReports$Sender" "goesTo" "I") (by decide +kernel)) rfl rfl dX9_send_61 ?_
    refine lv_iload hx hb dX9_send_64 (lv_at hl 0 rfl) ?_
    refine lv_aload_n hx hb dX9_send_66 rfl (lv_at hl 4 rfl) ?_
    refine lv_iload_n hx hb dX9_send_67 rfl (lv_at hl 2 rfl) ?_
    refine lv_iload hx hb dX9_send_68 (lv_at hl 1 rfl) ?_
    have hB : gB G.1 (rT G) A s H locs  (([(sa, .inr (6, [.ref la, .int (nI (sd + 1)), .int (nI q1)])), (la, .inr (3, [.ref fa, .int (nI (LA.length + 1))])), (fa, .inl (cF, 40, .inr (.inr (.inr (.inr (fA (LA ++ (xa, xb, xr, xs, xl, xf) :: LC)))))))] ++ plW G (LA ++ LC)) ++ [(ca, .inr (0, [.ref da, .int (nI fl.length)])), (da, .inl (G.2.2.2.1, kz, .inl g)), (xa, .inr (2, [.ref xb, .int (nI (xs + 1))])), (xb, .inr (0, [.ref xr, .int (nI xl.length)])), (xr, .inl (G.2.2.2.1, 35, .inl xf))]) := hB.ordP [0, 3, 4, 1, 2, 5, 6, 7] 8 rfl (by decide) rfl
    refine g_callvA (wr := ([(sa, .inr (6, [.ref la, .int (nI (sd + 1)), .int (nI q1)])), (la, .inr (3, [.ref fa, .int (nI (LA.length + 1))])), (fa, .inl (cF, 40, .inr (.inr (.inr (.inr (fA (LA ++ (xa, xb, xr, xs, xl, xf) :: LC)))))))] ++ plW G (LA ++ LC))) (wc := [(ca, .inr (0, [.ref da, .int (nI fl.length)])), (da, .inl (G.2.2.2.1, kz, .inl g)), (xa, .inr (2, [.ref xb, .int (nI (xs + 1))])), (xb, .inr (0, [.ref xr, .int (nI xl.length)])), (xr, .inl (G.2.2.2.1, 35, .inl xf))]) (av := [.int (nI (sd + 1)), .int (nI (fbN a mm fl.length q1)), .ref ca, .int (nI a), .int (nI mm)]) (rest := []) ⟨hx, hb, hml, hown, hts⟩ (k_Frame_pack l G xa sd (xs + 1) hsd xb xr xf xl hxo.2.1 hxo.2.2.1 ca da kz g fl hq hqn hk9 hFB (fbN a mm fl.length q1) hfst a mm hmm.1 hmm.2.1) (cwV 5 hts gX9_send_X3_pack rfl rfl rfl (by decide +kernel) ⟨Nat.le_of_ble_eq_true rfl, Nat.le_of_ble_eq_true rfl⟩) hB (q0 := 2) (ci := 2) rfl rfl rfl rfl hl.1 rfl (Nat.le_of_ble_eq_true rfl) dX9_send_70 ⟨Nat.le_of_ble_eq_true rfl, Nat.le_of_ble_eq_true rfl⟩ (fun u H locs hw hB => ?_)
    obtain ⟨f2, hf2, hl2, rfl⟩ := hw
    have hB : gB G.1 (rT G) A s H locs ([(sa, .inr (6, [.ref la, .int (nI (sd + 1)), .int (nI q1)])), (la, .inr (3, [.ref fa, .int (nI (LA.length + 1))])), (fa, .inl (cF, 40, .inr (.inr (.inr (.inr (fA (LA ++ (xa, xb, xr, xs, xl, xf) :: LC))))))), (ca, .inr (0, [.ref da, .int (nI fl.length)])), (da, .inl (G.2.2.2.1, kz, .inl g)), (xa, .inr (2, [.ref xb, .int (nI (sd + 1))])), (xb, .inr (0, [.ref xr, .int (nI ((frm sd (nI (fbN a mm fl.length q1)) (sub fl a mm)).length))])), (xr, .inl (G.2.2.2.1, 35, .inl f2))] ++ (plW G (LA ++ LC))) := gB.tail (wr := [(sa, .inr (6, [.ref la, .int (nI (sd + 1)), .int (nI q1)])), (la, .inr (3, [.ref fa, .int (nI (LA.length + 1))])), (fa, .inl (cF, 40, .inr (.inr (.inr (.inr (fA (LA ++ (xa, xb, xr, xs, xl, xf) :: LC)))))))]) (wc := [(ca, .inr (0, [.ref da, .int (nI fl.length)])), (da, .inl (G.2.2.2.1, kz, .inl g)), (xa, .inr (2, [.ref xb, .int (nI (sd + 1))])), (xb, .inr (0, [.ref xr, .int (nI ((frm sd (nI (fbN a mm fl.length q1)) (sub fl a mm)).length))])), (xr, .inl (G.2.2.2.1, 35, .inl f2))]) hB
    have hB : gB G.1 (rT G) A s H locs ([(sa, .inr (6, [.ref la, .int (nI (sd + 1)), .int (nI q1)])), (la, .inr (3, [.ref fa, .int (nI (LA.length + 1))])), (fa, .inl (cF, 40, .inr (.inr (.inr (.inr (fA (LA ++ (xa, xb, xr, xs, xl, xf) :: LC))))))), (ca, .inr (0, [.ref da, .int (nI fl.length)])), (da, .inl (G.2.2.2.1, kz, .inl g))] ++ (plW G (LA ++ (xa, xb, xr, sd, (frm sd (nI (fbN a mm fl.length q1)) (sub fl a mm)), f2) :: LC))) := gB.plIn (G := G) (ws := [(sa, .inr (6, [.ref la, .int (nI (sd + 1)), .int (nI q1)])), (la, .inr (3, [.ref fa, .int (nI (LA.length + 1))])), (fa, .inl (cF, 40, .inr (.inr (.inr (.inr (fA (LA ++ (xa, xb, xr, xs, xl, xf) :: LC))))))), (ca, .inr (0, [.ref da, .int (nI fl.length)])), (da, .inl (G.2.2.2.1, kz, .inl g))]) (X := LA) (C := LC) (x := (xa, xb, xr, sd, (frm sd (nI (fbN a mm fl.length q1)) (sub fl a mm)), f2)) hB
    rw [fA_ch LA LC (x := (xa, xb, xr, xs, xl, xf)) (y := (xa, xb, xr, sd, (frm sd (nI (fbN a mm fl.length q1)) (sub fl a mm)), f2)) rfl] at hB
    have hB : gB G.1 (rT G) A s H locs ([(sa, .inr (6, [.ref la, .int (nI (sd + 1)), .int (nI q1)])), (la, .inr (3, [.ref fa, .int (nI (LA.length + 1))])), (fa, .inl (cF, 40, .inr (.inr (.inr (.inr (fA (LA ++ (xa, xb, xr, sd, (frm sd (nI (fbN a mm fl.length q1)) (sub fl a mm)), f2) :: LC))))))), (ca, .inr (0, [.ref da, .int (nI fl.length)])), (da, .inl (G.2.2.2.1, kz, .inl g))] ++ (plW G (LA ++ (xa, xb, xr, sd, (frm sd (nI (fbN a mm fl.length q1)) (sub fl a mm)), f2) :: LC))) := hB
    have hxn : fOk (xa, xb, xr, sd, (frm sd (nI (fbN a mm fl.length q1)) (sub fl a mm)), f2) := ⟨hsd, hf2, hl2, (frm_ok _ _ _).2⟩
    refine lv_aload_n hx hb dX9_send_73 rfl (lv_at hl 3 rfl) ?_
    refine lv_aload_n hx hb dX9_send_74 rfl (lv_at hl 3 rfl) ?_
    refine g_get (own := RX9) (C := RX9) (T := TX9) (N := 3) (ci := 6) (v := .int (nI q1)) hx hb hts (fun _ h => List.mem_cons_of_mem _ (List.mem_append_left _ (List.mem_append_left _ (List.mem_append_left _ (List.mem_append_right _ h))))) hown hB 0 rfl rfl 2 (by decide) (hts (.fieldLink RX9 31 "PointReports$Sender" "nextNumber" "I") (by decide +kernel)) rfl rfl dX9_send_75 ?_
    refine g_callS0 (av := [.int (nI q1)]) (rest := [.ref sa]) ⟨hx, hb, hml, hown, hts⟩ (k_Segment_after l G q1 (by omega)) (va_cwS 1 hts gX9_send_X8_after rfl rfl rfl (by decide +kernel) ⟨Nat.le_of_ble_eq_true rfl, Nat.le_of_ble_eq_true rfl⟩) hB rfl hl.1 rfl (Nat.le_of_ble_eq_true rfl) dX9_send_78 ⟨Nat.le_of_ble_eq_true rfl, Nat.le_of_ble_eq_true rfl⟩ (fun r9 H locs hw hB => ?_)
    have er := hw
    subst er
    refine g_put (own := RX9) (C := RX9) (T := TX9) (N := 3) (ci := 6) (v := .int (nI ((q1 + 1) % 64))) hx hb ([(sa, .inr (6, [.ref la, .int (nI (sd + 1)), .int (nI ((q1 + 1) % 64))])), (la, .inr (3, [.ref fa, .int (nI (LA.length + 1))])), (fa, .inl (cF, 40, .inr (.inr (.inr (.inr (fA (LA ++ (xa, xb, xr, sd, (frm sd (nI (fbN a mm fl.length q1)) (sub fl a mm)), f2) :: LC))))))), (ca, .inr (0, [.ref da, .int (nI fl.length)])), (da, .inl (G.2.2.2.1, kz, .inl g))] ++ (plW G (LA ++ (xa, xb, xr, sd, (frm sd (nI (fbN a mm fl.length q1)) (sub fl a mm)), f2) :: LC))) hts (fun _ h => List.mem_cons_of_mem _ (List.mem_append_left _ (List.mem_append_left _ (List.mem_append_left _ (List.mem_append_right _ h))))) tyX9 tyX9_ok nmX9 hown hB 0 rfl rfl 2 (by decide) (hts (.fieldLink RX9 31 "PointReports$Sender" "nextNumber" "I") (by decide +kernel)) rfl rfl (ty := .int) rfl rfl rfl (Nat.le_of_ble_eq_true rfl) rfl dX9_send_81 (fun H locs hB => ?_)
    refine lv_iinc (v := nI (a + 20)) (lv' := [(3, .int (nI (a + 20))), (5, .int (nI (fbN a mm fl.length q1))), (4, .int (nI mm)), (0, .ref sa), (1, .ref ca), (2, .int (nI fl.length))]) hx hb dX9_send_84 hl (k := 2) rfl (nI_add _ _) (by decide) rfl (fun ls hl => ?_)
    refine lv_goto (tgt := 7) hx hb dX9_send_87 (by decide) ?_
    have hB : gB G.1 (rT G) A s H locs ([(sa, .inr (6, [.ref la, .int (nI (sd + 1)), .int (nI ((q1 + 1) % 64))])), (ca, .inr (0, [.ref da, .int (nI fl.length)])), (da, .inl (G.2.2.2.1, kz, .inl g)), (la, .inr (3, [.ref fa, .int (nI (LA.length + 1))])), (fa, .inl (cF, 40, .inr (.inr (.inr (.inr (fA (LA ++ (xa, xb, xr, sd, (frm sd (nI (fbN a mm fl.length q1)) (sub fl a mm)), f2) :: LC)))))))] ++ (plW G (LA ++ (xa, xb, xr, sd, (frm sd (nI (fbN a mm fl.length q1)) (sub fl a mm)), f2) :: LC))) := hB.ordW [0, 3, 4, 1, 2] 5 rfl (by decide) rfl
    have hl : lv_has ls 6 [(3, .int (nI (a + 20))), (0, .ref sa), (1, .ref ca), (2, .int (nI fl.length))] := lv_sub hl [0, 3, 4, 5] rfl
    have hB : gB G.1 (rT G) A s H locs ([(sa, .inr (6, [.ref la, .int (nI (sd + 1)), .int (nI ((q1 + 1) % 64))])), (ca, .inr (0, [.ref da, .int (nI fl.length)])), (da, .inl (G.2.2.2.1, kz, .inl g)), (la, .inr (3, [.ref fa, .int (nI (LA.length + 1))])), (fa, .inl (cF, 40, .inr (.inr (.inr (.inr (fA (LA ++ (xa, xb, xr, sd, (frm sd (nI (fbN a mm fl.length q1)) (sub fl a mm)), f2) :: LC)))))))] ++ (plW G (LA ++ (xa, xb, xr, sd, (frm sd (nI (fbN a mm fl.length q1)) (sub fl a mm)), f2) :: LC))) := hB
    have b_5 : sndS sd fl d1 (a + 20) (pushL L1 (nI sd, (frm sd (nI (fbN a mm fl.length q1)) (sub fl a mm)))) ((q1 + 1) % 64) = sndF sd fl L q := hs
    have b_6 : fl.length ≤ (a + 20) + 20 * d1 := by omega
    have b_7 : (a + 20) + 20 * d1 ≤ 420 := by omega
    have b_8 : lR (LA.length + 1) (LA ++ (xa, xb, xr, sd, (frm sd (nI (fbN a mm fl.length q1)) (sub fl a mm)), f2) :: LC) (pushL L1 (nI sd, (frm sd (nI (fbN a mm fl.length q1)) (sub fl a mm)))) := lR_push (x := (xa, xb, xr, xs, xl, xf)) hk1 hlen1 h40 hok eLA hxn
    have b_9 : ((q1 + 1) % 64) < 64 := Nat.mod_lt _ (by decide)
    exact ih_1 d1 (a + 20, pushL L1 (nI sd, (frm sd (nI (fbN a mm fl.length q1)) (sub fl a mm))), (q1 + 1) % 64, LA.length + 1, LA ++ (xa, xb, xr, sd, (frm sd (nI (fbN a mm fl.length q1)) (sub fl a mm)), f2) :: LC) H locs ls (by omega) ⟨b_5, b_6, b_7, b_8, b_9, hB, hl⟩
