set_option maxRecDepth 100000 in
set_option maxHeartbeats 2000000 in
/-- Line() -/
theorem k_Line_init (l : Launch) (G : rG) (la : Nat) (cF : ClassId) (hTF : (rT G)[2]? = some (cF, .object RX3)) : gMp l aoP G.1 (rT G) yX5_init wsX5_init { frames := 3, cells := 121, slots := 1600, locals := 61 } [.ref la] [(la, .inr (3, [.null, .int (nI 0)]))] (gQv G.1 (rT G) (fun u : Nat × List fE => u.2.length = 40 ∧ ∀ x ∈ u.2, fOk x) (fun u => lW G la u.1 cF (0, u.2))) 121 1600 := by
  refine gMp.of (cc := cX5_init) (maxL := 2) (ret := none) (by decide) rfl (Nat.le_of_ble_eq_true rfl) ?_
  intro p e s m below meth c A ls hx hb hr hml hown hts hlocks hnm hao hB hl
  have hl : lv_has ls 2 [(0, .ref la)] := hl
  refine lv_aload_n hx hb dX5_init_0 rfl (lv_at hl 0 rfl) ?_
  refine W.objInit hx hb hown (hts (.methodLink RX5 1 objectInit) (by decide +kernel)) (hts (.instanceMethod objectInit) (by decide +kernel)) (hts _ (List.mem_cons_of_mem _ (List.mem_append_left _ (List.mem_append_left _ (List.mem_append_left _ (List.mem_of_getElem? (i := 2) rfl)))))) rfl (by rw [hml]; exact hl.1) rfl dX5_init_1 (Nat.le_of_ble_eq_true rfl) (Nat.le_of_ble_eq_true rfl) ?_
  refine W.eq (g2 := F0 m 4 ls []) rfl ?_
  refine lv_aload_n hx hb dX5_init_4 rfl (lv_at hl 0 rfl) ?_
  refine lv_bipush (v := nI 40) hx hb dX5_init_5 (by decide) ?_
  refine g_newq (C := RX3) hx hb hown (hts (.classLink RX5 9 RX3) (by decide +kernel)) hao.1 hB 2 hTF 40 (nI_pos (by decide)) (nI_clamp (by decide)) (Nat.le_of_ble_eq_true rfl) (Nat.le_of_ble_eq_true rfl) (Nat.le_of_ble_eq_true rfl) dX5_init_7 (fun q1 H hB => ?_)
  have hB : gB G.1 (rT G) A s H [] [(la, .inr (3, [.null, .int (nI 0)])), (q1, .inl (cF, 40, .inr (.inr (.inr (.inr (fun _ => none))))))] := hB
  refine g_putF (own := RX5) (C := RX5) (T := TX5) (N := 2) (ci := 3) (v := .ref q1) hx hb ([(la, .inr (3, [.ref q1, .int (nI 0)])), (q1, .inl (cF, 40, .inr (.inr (.inr (.inr (fun _ => none))))))]) hts (fun _ h => List.mem_cons_of_mem _ (List.mem_append_left _ (List.mem_append_left _ (List.mem_append_right _ h)))) tyX5 tyX5_ok nmX5 hown hB 0 rfl rfl 0 (by decide) (hts (.fieldLink RX5 11 "PointReports$Line" "frames" "[LPointReports$Frame;") (by decide +kernel)) rfl rfl hnm rfl (ty := .array (.object "PointReports$Frame")) rfl rfl rfl (Nat.le_of_ble_eq_true rfl) rfl dX5_init_10 (fun H locs hB => ?_)
  refine lv_iconst (v := nI 0) hx hb dX5_init_13 (by decide) ?_
  refine lv_istore_n (lv' := [(1, .int (nI 0)), (0, .ref la)]) hx hb dX5_init_14 rfl hl (by decide) rfl (fun ls hl => ?_)
  have hl : lv_has ls 2 [(1, .int (nI ([] : List fE).length)), (0, .ref la)] := hl
  have hB : gB G.1 (rT G) A s H locs ([(la, .inr (3, [.ref q1, .int (nI 0)])), (q1, .inl (cF, 40, .inr (.inr (.inr (.inr (fA []))))))] ++ (plW G [])) := by rw [fA_nil, show plW G [] = [] from rfl, List.append_nil]; exact hB
  refine g_loopA (σ := List fE) (fun d fs H locs ls => fs.length + d = 40 ∧ (∀ x ∈ fs, fOk x) ∧ gB G.1 (rT G) A s H locs ([(la, .inr (3, [.ref q1, .int (nI 0)])), (q1, .inl (cF, 40, .inr (.inr (.inr (.inr (fA fs))))))] ++ (plW G fs)) ∧ lv_has ls 2 [(1, .int (nI fs.length)), (0, .ref la)]) (fun fs => 1 + 3 * fs.length) (fun fs => 40 + 39 * fs.length) 40 [] rfl rfl ⟨rfl, fun x hx => absurd hx List.not_mem_nil, hB, hl⟩ ?_
  rintro d fs H locs ls ⟨hd, hfo, hB, hl⟩ ih
  have hl : lv_has ls 2 [(1, .int (nI fs.length)), (0, .ref la)] := hl
  have hB : gB G.1 (rT G) A s H locs ([(la, .inr (3, [.ref q1, .int (nI 0)])), (q1, .inl (cF, 40, .inr (.inr (.inr (.inr (fA fs))))))] ++ (plW G fs)) := hB
  refine lv_iload_n hx hb dX5_init_15 rfl (lv_at hl 0 rfl) ?_
  refine lv_bipush (v := nI 40) hx hb dX5_init_16 (by decide) ?_
  refine lv_icmp_ge (tgt := 40) hx hb dX5_init_18 (by decide) (fun c_1 => ?_) (fun c_1 => ?_)
  · have c_1 : 40 ≤ fs.length := (nI_leI (a := 40) (b := fs.length) (by omega) (by omega)).mp c_1
    have h40 : fs.length = 40 := by omega
    refine W.csz (a := 121) (b := 1600) (by rw [h40]) (by rw [h40]) ?_
    exact g_vret (S := Nat × List fE) (Wd := fun u => lW G la u.1 cF (0, u.2)) (q1, fs) hB hx hb hr hlocks rfl ⟨h40, hfo⟩ dX5_init_40
  · have c_1 : ¬ 40 ≤ fs.length := fun h9 => c_1 ((nI_leI (a := 40) (b := fs.length) (by omega) (by omega)).mpr h9)
    refine lv_aload_n hx hb dX5_init_21 rfl (lv_at hl 1 rfl) ?_
    refine g_get (own := RX5) (C := RX5) (T := TX5) (N := 2) (ci := 3) (v := .ref q1) hx hb hts (fun _ h => List.mem_cons_of_mem _ (List.mem_append_left _ (List.mem_append_left _ (List.mem_append_right _ h)))) hown hB 0 rfl rfl 0 (by decide) (hts (.fieldLink RX5 11 "PointReports$Line" "frames" "[LPointReports$Frame;") (by decide +kernel)) rfl rfl dX5_init_22 ?_
    refine lv_iload_n hx hb dX5_init_25 rfl (lv_at hl 0 rfl) ?_
    have hfl : fs.length ≤ 39 := by omega
    refine g_new (own := RX5) (C := RX3) (T := TX3) (N := 2) (ci := 2) (fs := [.null, .int (nI 0)]) hx hb hts (fun _ h => List.mem_cons_of_mem _ (List.mem_append_left _ (List.mem_append_right _ h))) tyX3 tyX3_ok hown (hts (.classLink RX5 9 RX3) (by decide +kernel)) (hts (.instantiable RX3 2) (by decide +kernel)) (hts (.initialized RX3) (by decide +kernel)) hB rfl (by decide) (by show _ ≤ 121; omega) (by show _ ≤ 1600; omega) dX5_init_26 (fun q2 H hB => ?_)
    have hB : gB G.1 (rT G) A s H locs ([(la, .inr (3, [.ref q1, .int (nI 0)])), (q1, .inl (cF, 40, .inr (.inr (.inr (.inr (fA fs)))))), (q2, .inr (2, [.null, .int (nI 0)]))] ++ (plW G fs)) := gB.tail (wr := [(la, .inr (3, [.ref q1, .int (nI 0)])), (q1, .inl (cF, 40, .inr (.inr (.inr (.inr (fA fs))))))]) (wc := [(q2, .inr (2, [.null, .int (nI 0)]))]) hB
    refine lv_dup hx hb dX5_init_29 rfl ?_
    have hB : gB G.1 (rT G) A s H locs  (([(la, .inr (3, [.ref q1, .int (nI 0)])), (q1, .inl (cF, 40, .inr (.inr (.inr (.inr (fA fs))))))] ++ plW G fs) ++ [(q2, .inr (2, [.null, .int (nI 0)]))]) := hB.ordP [0, 1, 2] 3 rfl (by decide) rfl
    refine g_callIn (wr := ([(la, .inr (3, [.ref q1, .int (nI 0)])), (q1, .inl (cF, 40, .inr (.inr (.inr (.inr (fA fs))))))] ++ plW G fs)) (wc := [(q2, .inr (2, [.null, .int (nI 0)]))]) (av := []) (rest := [.ref q2, .int (nI fs.length), .ref q1]) ⟨hx, hb, hml, hown, hts⟩ (k_Frame_init l G q2) (⟨va_cnB 0 hts gX5_init_X3_init_n15 rfl rfl rfl hao.2.2.1 (hts (.initialized RX3) (by decide +kernel)) (by decide +kernel) ⟨Nat.le_of_ble_eq_true rfl, Nat.le_of_ble_eq_true rfl⟩, rfl, hts (.instanceMethod yX3_init) (by decide +kernel)⟩) hB rfl hl.1 rfl (Nat.le_of_ble_eq_true rfl) dX5_init_30 ⟨by show _ ≤ 121; omega, by show _ ≤ 1600; omega⟩ (fun u H locs hw hB => ?_)
    have hB : gB G.1 (rT G) A s H locs ([(la, .inr (3, [.ref q1, .int (nI 0)])), (q1, .inl (cF, 40, .inr (.inr (.inr (.inr (fA fs)))))), (q2, .inr (2, [.ref u.1, .int (nI 2)])), (u.1, .inr (0, [.ref u.2, .int (nI 0)])), (u.2, .inl (G.2.2.2.1, 35, .inl (fun _ => 0)))] ++ (plW G fs)) := gB.tail (wr := [(la, .inr (3, [.ref q1, .int (nI 0)])), (q1, .inl (cF, 40, .inr (.inr (.inr (.inr (fA fs))))))]) (wc := [(q2, .inr (2, [.ref u.1, .int (nI 2)])), (u.1, .inr (0, [.ref u.2, .int (nI 0)])), (u.2, .inl (G.2.2.2.1, 35, .inl (fun _ => 0)))]) hB
    obtain ⟨ub, ur⟩ := u
    have hB : gB G.1 (rT G) A s H locs ([(la, .inr (3, [.ref q1, .int (nI 0)])), (q1, .inl (cF, 40, .inr (.inr (.inr (.inr (fA fs)))))), (q2, .inr (2, [.ref ub, .int (nI (1 + 1))])), (ub, .inr (0, [.ref ur, .int (nI (([] : List Int32).length))])), (ur, .inl (G.2.2.2.1, 35, .inl (fun _ => 0)))] ++ (plW G fs)) := hB
    have eap : fs = fs ++ [] := (List.append_nil fs).symm
    have hB : gB G.1 (rT G) A s H locs ([(la, .inr (3, [.ref q1, .int (nI 0)])), (q1, .inl (cF, 40, .inr (.inr (.inr (.inr (fA fs))))))] ++ (plW G (fs ++ [(q2, ub, ur, 1, [], (fun _ => 0))]))) := gB.plIn (G := G) (ws := [(la, .inr (3, [.ref q1, .int (nI 0)])), (q1, .inl (cF, 40, .inr (.inr (.inr (.inr (fA fs))))))]) (X := fs) (C := []) (x := (q2, ub, ur, 1, [], (fun _ => 0))) (by rw [List.append_nil]; exact hB)
    obtain ⟨vs9, hm9⟩ := pl_mem (G := G) (show (q2, ub, ur, 1, [], (fun _ => 0)) ∈ fs ++ [(q2, ub, ur, 1, [], (fun _ => 0))] from List.mem_append_right _ List.mem_cons_self)
    obtain ⟨qk, hqk⟩ := List.getElem?_of_mem (List.mem_append_right [(la, .inr (3, [.ref q1, .int (nI 0)])), (q1, .inl (cF, 40, .inr (.inr (.inr (.inr (fA fs))))))] hm9)
    refine g_astq (q9 := (RX3, TX3, 2)) (v := q2) (g := fA (fs ++ [(q2, ub, ur, 1, [], (fun _ => 0))])) hx hb ([(la, .inr (3, [.ref q1, .int (nI 0)])), (q1, .inl (cF, 40, .inr (.inr (.inr (.inr (fA (fs ++ [(q2, ub, ur, 1, [], (fun _ => 0))])))))))] ++ (plW G (fs ++ [(q2, ub, ur, 1, [], (fun _ => 0))]))) hB 1 2 qk 2 rfl hTF hqk rfl fs.length rfl (by omega) (by omega) (fA_push fs (q2, ub, ur, 1, [], (fun _ => 0))) rfl dX5_init_33 (fun H locs hB => ?_)
    refine lv_iinc (v := nI (fs.length + 1)) (lv' := [(1, .int (nI (fs.length + 1))), (0, .ref la)]) hx hb dX5_init_34 hl (k := 0) rfl (nI_add _ _) (by decide) rfl (fun ls hl => ?_)
    refine lv_goto (tgt := 15) hx hb dX5_init_37 (by decide) ?_
    have eln : (fs ++ [(q2, ub, ur, 1, [], (fun _ => 0))]).length = fs.length + 1 := by rw [List.length_append]; rfl
    have hl : lv_has ls 2 [(1, .int (nI (fs ++ [(q2, ub, ur, 1, [], (fun _ => 0))]).length)), (0, .ref la)] := by rw [eln]; exact lv_sub hl [0, 1] rfl
    refine W.csz (a := 1 + 3 * (fs ++ [(q2, ub, ur, 1, [], (fun _ => 0))]).length) (b := 40 + 39 * (fs ++ [(q2, ub, ur, 1, [], (fun _ => 0))]).length) (by rw [eln]; omega) (by rw [eln]; omega) ?_
    exact ih (d - 1) (fs ++ [(q2, ub, ur, 1, [], (fun _ => 0))]) H locs ls (by omega) ⟨by rw [eln]; omega, fun x hx => (List.mem_append.mp hx).elim (hfo x) (fun h => by rw [List.mem_singleton.mp h]; exact ⟨Nat.le_refl 1, pfx_nil _, Nat.zero_le _, fun b hb => absurd hb List.not_mem_nil⟩), hB, hl⟩
