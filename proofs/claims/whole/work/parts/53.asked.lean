abbrev asF (rd : List Nat) : Prop := 5 ≤ rd.length ∧ rd.length ≤ 14 ∧ rd.length % 3 = 2 ∧ rqF rd ((rd.length - 2) / 3) = 1
set_option maxRecDepth 100000 in
set_option maxHeartbeats 1000000 in
/-- Asked.isSound(read) -/
theorem k_Asked_isSound (l : Launch) (G : rG) (b r n : Nat) (f : Nat → Int32) (bl : List Int32) (hp : pfx f bl) (hbn : bl.length ≤ n) (hn : n < 1000000) (hB9 : ∀ x ∈ bl, isB x) (rd : List Nat) (hrd : rd = rdN bl) (h2 : 2 ≤ bl.length) (h4 : bl.length ≤ 400) : gM l G.1 (rT G) yX0_isSound wsX0_isSound { frames := 1, cells := 0, slots := 0, locals := 21 } [.ref b] [(b, .inr (0, [.ref r, .int (nI bl.length)])), (r, .inl (G.2.2.2.1, n, .inl f))] (gQi G.1 (rT G) (fun (r : Int32) (u : Int32 × (Nat → Int32)) => ((r = nI 1 ∧ asF rd) ∨ (r = nI 0 ∧ ¬ asF rd)) ∧ u = (nI bl.length, f)) (bW G b r n)) 0 0 := by
  refine gM.of (cc := cX0_isSound) (maxL := 4) (ret := (some .boolean)) (by decide) rfl (Nat.le_of_ble_eq_true rfl) ?_
  intro p e s m below meth c A ls hx hb hr hml hown hts hlocks hnm hB hl
  have hl : lv_has ls 4 [(0, .ref b)] := hl
  have hrl : rd.length = bl.length := by rw [hrd, rdN_len]
  refine lv_aload_n hx hb dX0_isSound_0 rfl (lv_at hl 0 rfl) ?_
  refine g_calliA (wr := []) (wc := [(b, .inr (0, [.ref r, .int (nI bl.length)])), (r, .inl (G.2.2.2.1, n, .inl f))]) (av := []) (rest := []) ⟨hx, hb, hml, hown, hts⟩ (k_Bytes_size l G b r n f bl hp hbn hn) (cwV 0 hts gX0_isSound_X1_size rfl rfl rfl (by decide +kernel) ⟨Nat.le_of_ble_eq_true rfl, Nat.le_of_ble_eq_true rfl⟩) hB (q0 := 0) (ci := 0) rfl rfl rfl rfl hl.1 rfl (Nat.le_of_ble_eq_true rfl) dX0_isSound_1 ⟨Nat.le_of_ble_eq_true rfl, Nat.le_of_ble_eq_true rfl⟩ (fun r9 u H locs hw hB => ?_)
  obtain ⟨rfl, rfl⟩ := hw
  have hB : gB G.1 (rT G) A s H locs [(b, .inr (0, [.ref r, .int (nI bl.length)])), (r, .inl (G.2.2.2.1, n, .inl f))] := hB
  refine lv_iconst (v := nI 2) hx hb dX0_isSound_4 (by decide) ?_
  refine lv_isub hx hb dX0_isSound_5 ?_
  refine g_top (y := nI (bl.length - 2)) (pk_sub (by omega)) ?_
  refine lv_istore_n (lv' := [(1, .int (nI (bl.length - 2))), (0, .ref b)]) hx hb dX0_isSound_6 rfl hl (by decide) rfl (fun ls hl => ?_)
  refine lv_iload_n hx hb dX0_isSound_7 rfl (lv_at hl 0 rfl) ?_
  refine lv_iconst (v := nI 3) hx hb dX0_isSound_8 (by decide) ?_
  refine lv_icmp_lt (tgt := 24) hx hb dX0_isSound_9 (by decide) (fun c_1 => ?_) (fun c_1 => ?_)
  · have c_1 : (bl.length - 2) < 3 := (nI_ltI (a := (bl.length - 2)) (b := 3) (by omega) (by omega)).mp c_1
    refine lv_iconst (v := nI 0) hx hb dX0_isSound_24 (by decide) ?_
    exact g_zret (Wd := bW G b r n) (v := nI 0) (nI bl.length, f) hB hx hb hr hlocks rfl (narrow_z (Or.inl rfl)) ⟨Or.inr ⟨rfl, fun z => by have := z.1; omega⟩, rfl⟩ dX0_isSound_25
  · have c_1 : ¬ (bl.length - 2) < 3 := fun h9 => c_1 ((nI_ltI (a := (bl.length - 2)) (b := 3) (by omega) (by omega)).mpr h9)
    refine lv_iload_n hx hb dX0_isSound_12 rfl (lv_at hl 0 rfl) ?_
    refine lv_bipush (v := nI 12) hx hb dX0_isSound_13 (by decide) ?_
    refine lv_icmp_gt (tgt := 24) hx hb dX0_isSound_15 (by decide) (fun c_2 => ?_) (fun c_2 => ?_)
    · have c_2 : 12 < (bl.length - 2) := (nI_ltI (a := 12) (b := (bl.length - 2)) (by omega) (by omega)).mp c_2
      refine lv_iconst (v := nI 0) hx hb dX0_isSound_24 (by decide) ?_
      exact g_zret (Wd := bW G b r n) (v := nI 0) (nI bl.length, f) hB hx hb hr hlocks rfl (narrow_z (Or.inl rfl)) ⟨Or.inr ⟨rfl, fun z => by have := z.2.1; omega⟩, rfl⟩ dX0_isSound_25
    · have c_2 : ¬ 12 < (bl.length - 2) := fun h9 => c_2 ((nI_ltI (a := 12) (b := (bl.length - 2)) (by omega) (by omega)).mpr h9)
      refine lv_iload_n hx hb dX0_isSound_18 rfl (lv_at hl 0 rfl) ?_
      refine lv_iconst (v := nI 3) hx hb dX0_isSound_19 (by decide) ?_
      refine lv_irem hx hb dX0_isSound_20 (by decide) ?_
      refine g_top (y := nI ((bl.length - 2) % 3)) (pk_rem (by omega) (by decide) (by decide)) ?_
      refine lv_if_eq (tgt := 26) hx hb dX0_isSound_21 (by decide) (fun c_3 => ?_) (fun c_3 => ?_)
      · have c_3 : ((bl.length - 2) % 3) = 0 := (nI_eq (a := ((bl.length - 2) % 3)) (b := 0) (by omega) (by omega)).mp c_3
        refine lv_iconst (v := nI 2) hx hb dX0_isSound_26 (by decide) ?_
        refine lv_istore_n (lv' := [(2, .int (nI 2)), (1, .int (nI (bl.length - 2))), (0, .ref b)]) hx hb dX0_isSound_27 rfl hl (by decide) rfl (fun ls hl => ?_)
        have hl : lv_has ls 4 [(2, .int (nI (3 * 0 + 2))), (1, .int (nI (bl.length - 2))), (0, .ref b)] := hl
        have hl : lv_has ls 4 [(2, .int (nI (3 * 0 + 2))), (0, .ref b), (1, .int (nI (bl.length - 2)))] := lv_sub hl [0, 2, 1] rfl
        have hB : gB G.1 (rT G) A s H locs [(b, .inr (0, [.ref r, .int (nI bl.length)])), (r, .inl (G.2.2.2.1, n, .inl f))] := hB
        refine g_loop (σ := Nat) (fun d xv H locs ls => (xv + d = (bl.length - 2) / 3) ∧ (rqF rd xv = 1) ∧ gB G.1 (rT G) A s H locs [(b, .inr (0, [.ref r, .int (nI bl.length)])), (r, .inl (G.2.2.2.1, n, .inl f))] ∧ lv_has ls 4 [(2, .int (nI (3 * xv + 2))), (0, .ref b), (1, .int (nI (bl.length - 2)))]) ((bl.length - 2) / 3) (0) ⟨by omega, rfl, hB, hl⟩ ?_
        rintro d m H locs ls ⟨hm, hq, hB, hl⟩ ih_4
        have hm : m + d = (bl.length - 2) / 3 := hm
        have hq : rqF rd m = 1 := hq
        have hB : gB G.1 (rT G) A s H locs [(b, .inr (0, [.ref r, .int (nI bl.length)])), (r, .inl (G.2.2.2.1, n, .inl f))] := hB
        have hl : lv_has ls 4 [(2, .int (nI (3 * m + 2))), (0, .ref b), (1, .int (nI (bl.length - 2)))] := hl
        refine lv_iload_n hx hb dX0_isSound_28 rfl (lv_at hl 0 rfl) ?_
        refine lv_aload_n hx hb dX0_isSound_29 rfl (lv_at hl 1 rfl) ?_
        refine g_calliA (wr := []) (wc := [(b, .inr (0, [.ref r, .int (nI bl.length)])), (r, .inl (G.2.2.2.1, n, .inl f))]) (av := []) (rest := [.int (nI (3 * m + 2))]) ⟨hx, hb, hml, hown, hts⟩ (k_Bytes_size l G b r n f bl hp hbn hn) (cwV 0 hts gX0_isSound_X1_size rfl rfl rfl (by decide +kernel) ⟨Nat.le_of_ble_eq_true rfl, Nat.le_of_ble_eq_true rfl⟩) hB (q0 := 0) (ci := 0) rfl rfl rfl rfl hl.1 rfl (Nat.le_of_ble_eq_true rfl) dX0_isSound_30 ⟨Nat.le_of_ble_eq_true rfl, Nat.le_of_ble_eq_true rfl⟩ (fun r9 u H locs hw hB => ?_)
        obtain ⟨rfl, rfl⟩ := hw
        have hB : gB G.1 (rT G) A s H locs [(b, .inr (0, [.ref r, .int (nI bl.length)])), (r, .inl (G.2.2.2.1, n, .inl f))] := hB
        refine lv_icmp_ge (tgt := 84) hx hb dX0_isSound_33 (by decide) (fun c_5 => ?_) (fun c_5 => ?_)
        · have c_5 : bl.length ≤ (3 * m + 2) := (nI_leI (a := bl.length) (b := (3 * m + 2)) (by omega) (by omega)).mp c_5
          have hm9 : m = (bl.length - 2) / 3 := by omega
          refine lv_iconst (v := nI 1) hx hb dX0_isSound_84 (by decide) ?_
          exact g_zret (Wd := bW G b r n) (v := nI 1) (nI bl.length, f) hB hx hb hr hlocks rfl (narrow_z (Or.inr rfl)) ⟨Or.inl ⟨rfl, by omega, by omega, by omega, by rw [hrl, ← hm9]; exact hq⟩, rfl⟩ dX0_isSound_85
        · have c_5 : ¬ bl.length ≤ (3 * m + 2) := fun h9 => c_5 ((nI_leI (a := bl.length) (b := (3 * m + 2)) (by omega) (by omega)).mpr h9)
          have m9 : 3 * m + 5 ≤ bl.length := by omega
          refine lv_aload_n hx hb dX0_isSound_36 rfl (lv_at hl 1 rfl) ?_
          refine lv_iload_n hx hb dX0_isSound_37 rfl (lv_at hl 0 rfl) ?_
          refine lv_iconst (v := nI 1) hx hb dX0_isSound_38 (by decide) ?_
          refine lv_iadd hx hb dX0_isSound_39 ?_
          refine g_top (y := nI ((3 * m + 2) + 1)) (nI_add _ _) ?_
          refine g_top (y := nI (3 * m + 3)) rfl ?_
          refine g_calliA (wr := []) (wc := [(b, .inr (0, [.ref r, .int (nI bl.length)])), (r, .inl (G.2.2.2.1, n, .inl f))]) (av := [.int (nI (3 * m + 3))]) (rest := []) ⟨hx, hb, hml, hown, hts⟩ (k_Bytes_get l G b r n f bl hp hbn hn (nI (3 * m + 3))) (cwV 1 hts gX0_isSound_X1_get rfl rfl rfl (by decide +kernel) ⟨Nat.le_of_ble_eq_true rfl, Nat.le_of_ble_eq_true rfl⟩) hB (q0 := 0) (ci := 0) rfl rfl rfl rfl hl.1 rfl (Nat.le_of_ble_eq_true rfl) dX0_isSound_40 ⟨Nat.le_of_ble_eq_true rfl, Nat.le_of_ble_eq_true rfl⟩ (fun r9 u H locs hw hB => ?_)
          obtain ⟨er, rfl⟩ := hw
          have hB : gB G.1 (rT G) A s H locs [(b, .inr (0, [.ref r, .int (nI bl.length)])), (r, .inl (G.2.2.2.1, n, .inl f))] := hB
          have hlt9 : 3 * m + 3 < bl.length := by omega
          have g_6 : rd.getD (3 * m + 3) 0 < 256 := by rw [hrd, rdN_get]; exact (bq_at hB9 hlt9).2
          have er : r9 = nI (rd.getD (3 * m + 3) 0) := by rw [hrd, rdN_get]; exact er.trans (get_in hB9 hlt9 (by omega))
          subst er
          refine lv_istore_n (lv' := [(3, .int (nI (rd.getD (3 * m + 3) 0))), (2, .int (nI (3 * m + 2))), (0, .ref b), (1, .int (nI (bl.length - 2)))]) hx hb dX0_isSound_43 rfl hl (by decide) rfl (fun ls hl => ?_)
          refine lv_aload_n hx hb dX0_isSound_44 rfl (lv_at hl 2 rfl) ?_
          refine lv_iload_n hx hb dX0_isSound_45 rfl (lv_at hl 1 rfl) ?_
          refine g_calliA (wr := []) (wc := [(b, .inr (0, [.ref r, .int (nI bl.length)])), (r, .inl (G.2.2.2.1, n, .inl f))]) (av := [.int (nI (3 * m + 2))]) (rest := []) ⟨hx, hb, hml, hown, hts⟩ (k_Bytes_get l G b r n f bl hp hbn hn (nI (3 * m + 2))) (cwV 1 hts gX0_isSound_X1_get rfl rfl rfl (by decide +kernel) ⟨Nat.le_of_ble_eq_true rfl, Nat.le_of_ble_eq_true rfl⟩) hB (q0 := 0) (ci := 0) rfl rfl rfl rfl hl.1 rfl (Nat.le_of_ble_eq_true rfl) dX0_isSound_46 ⟨Nat.le_of_ble_eq_true rfl, Nat.le_of_ble_eq_true rfl⟩ (fun r9 u H locs hw hB => ?_)
          obtain ⟨er, rfl⟩ := hw
          have hB : gB G.1 (rT G) A s H locs [(b, .inr (0, [.ref r, .int (nI bl.length)])), (r, .inl (G.2.2.2.1, n, .inl f))] := hB
          have hlt9 : 3 * m + 2 < bl.length := by omega
          have g_7 : rd.getD (3 * m + 2) 0 < 256 := by rw [hrd, rdN_get]; exact (bq_at hB9 hlt9).2
          have er : r9 = nI (rd.getD (3 * m + 2) 0) := by rw [hrd, rdN_get]; exact er.trans (get_in hB9 hlt9 (by omega))
          subst er
          refine lv_bipush (v := nI 60) hx hb dX0_isSound_49 (by decide) ?_
          refine lv_icmp_ne (tgt := 76) hx hb dX0_isSound_51 (by decide) (fun c_8 => ?_) (fun c_8 => ?_)
          · have c_8 : ¬ (rd.getD (3 * m + 2) 0) = 60 := fun h9 => c_8 ((nI_eq (a := (rd.getD (3 * m + 2) 0)) (b := 60) (by omega) (by omega)).mpr h9)
            have hz : ¬ rqF rd (m + 1) = 1 := by rw [rqF, if_neg (fun z => by exact c_8 z.2.1)]; decide
            refine lv_iconst (v := nI 0) hx hb dX0_isSound_76 (by decide) ?_
            exact g_zret (Wd := bW G b r n) (v := nI 0) (nI bl.length, f) hB hx hb hr hlocks rfl (narrow_z (Or.inl rfl)) ⟨Or.inr ⟨rfl, fun z => rqF_dead hz _ (by omega) z.2.2.2⟩, rfl⟩ dX0_isSound_77
          · have c_8 : (rd.getD (3 * m + 2) 0) = 60 := (nI_eq (a := (rd.getD (3 * m + 2) 0)) (b := 60) (by omega) (by omega)).mp c_8
            refine lv_iload_n hx hb dX0_isSound_54 rfl (lv_at hl 0 rfl) ?_
            refine lv_iconst (v := nI 1) hx hb dX0_isSound_55 (by decide) ?_
            refine lv_icmp_lt (tgt := 76) hx hb dX0_isSound_56 (by decide) (fun c_9 => ?_) (fun c_9 => ?_)
            · have c_9 : (rd.getD (3 * m + 3) 0) < 1 := (nI_ltI (a := (rd.getD (3 * m + 3) 0)) (b := 1) (by omega) (by omega)).mp c_9
              have hz : ¬ rqF rd (m + 1) = 1 := by rw [rqF, if_neg (fun z => by have := z.2.2.1; omega)]; decide
              refine lv_iconst (v := nI 0) hx hb dX0_isSound_76 (by decide) ?_
              exact g_zret (Wd := bW G b r n) (v := nI 0) (nI bl.length, f) hB hx hb hr hlocks rfl (narrow_z (Or.inl rfl)) ⟨Or.inr ⟨rfl, fun z => rqF_dead hz _ (by omega) z.2.2.2⟩, rfl⟩ dX0_isSound_77
            · have c_9 : ¬ (rd.getD (3 * m + 3) 0) < 1 := fun h9 => c_9 ((nI_ltI (a := (rd.getD (3 * m + 3) 0)) (b := 1) (by omega) (by omega)).mpr h9)
              refine lv_iload_n hx hb dX0_isSound_59 rfl (lv_at hl 0 rfl) ?_
              refine lv_iconst (v := nI 4) hx hb dX0_isSound_60 (by decide) ?_
              refine lv_icmp_gt (tgt := 76) hx hb dX0_isSound_61 (by decide) (fun c_10 => ?_) (fun c_10 => ?_)
              · have c_10 : 4 < (rd.getD (3 * m + 3) 0) := (nI_ltI (a := 4) (b := (rd.getD (3 * m + 3) 0)) (by omega) (by omega)).mp c_10
                have hz : ¬ rqF rd (m + 1) = 1 := by rw [rqF, if_neg (fun z => by have := z.2.2.2.1; omega)]; decide
                refine lv_iconst (v := nI 0) hx hb dX0_isSound_76 (by decide) ?_
                exact g_zret (Wd := bW G b r n) (v := nI 0) (nI bl.length, f) hB hx hb hr hlocks rfl (narrow_z (Or.inl rfl)) ⟨Or.inr ⟨rfl, fun z => rqF_dead hz _ (by omega) z.2.2.2⟩, rfl⟩ dX0_isSound_77
              · have c_10 : ¬ 4 < (rd.getD (3 * m + 3) 0) := fun h9 => c_10 ((nI_ltI (a := 4) (b := (rd.getD (3 * m + 3) 0)) (by omega) (by omega)).mpr h9)
                refine lv_aload_n hx hb dX0_isSound_64 rfl (lv_at hl 2 rfl) ?_
                refine lv_iload_n hx hb dX0_isSound_65 rfl (lv_at hl 1 rfl) ?_
                refine lv_iconst (v := nI 2) hx hb dX0_isSound_66 (by decide) ?_
                refine lv_iadd hx hb dX0_isSound_67 ?_
                refine g_top (y := nI ((3 * m + 2) + 2)) (nI_add _ _) ?_
                refine g_top (y := nI (3 * m + 4)) rfl ?_
                refine g_calliA (wr := []) (wc := [(b, .inr (0, [.ref r, .int (nI bl.length)])), (r, .inl (G.2.2.2.1, n, .inl f))]) (av := [.int (nI (3 * m + 4))]) (rest := []) ⟨hx, hb, hml, hown, hts⟩ (k_Bytes_get l G b r n f bl hp hbn hn (nI (3 * m + 4))) (cwV 1 hts gX0_isSound_X1_get rfl rfl rfl (by decide +kernel) ⟨Nat.le_of_ble_eq_true rfl, Nat.le_of_ble_eq_true rfl⟩) hB (q0 := 0) (ci := 0) rfl rfl rfl rfl hl.1 rfl (Nat.le_of_ble_eq_true rfl) dX0_isSound_68 ⟨Nat.le_of_ble_eq_true rfl, Nat.le_of_ble_eq_true rfl⟩ (fun r9 u H locs hw hB => ?_)
                obtain ⟨er, rfl⟩ := hw
                have hB : gB G.1 (rT G) A s H locs [(b, .inr (0, [.ref r, .int (nI bl.length)])), (r, .inl (G.2.2.2.1, n, .inl f))] := hB
                have hlt9 : 3 * m + 4 < bl.length := by omega
                have g_11 : rd.getD (3 * m + 4) 0 < 256 := by rw [hrd, rdN_get]; exact (bq_at hB9 hlt9).2
                have er : r9 = nI (rd.getD (3 * m + 4) 0) := by rw [hrd, rdN_get]; exact er.trans (get_in hB9 hlt9 (by omega))
                subst er
                refine lv_bipush (v := nI 6) hx hb dX0_isSound_71 (by decide) ?_
                refine lv_icmp_eq (tgt := 78) hx hb dX0_isSound_73 (by decide) (fun c_12 => ?_) (fun c_12 => ?_)
                · have c_12 : (rd.getD (3 * m + 4) 0) = 6 := (nI_eq (a := (rd.getD (3 * m + 4) 0)) (b := 6) (by omega) (by omega)).mp c_12
                  refine lv_iinc (v := nI (3 * m + 2 + 3)) (lv' := [(2, .int (nI (3 * m + 2 + 3))), (3, .int (nI (rd.getD (3 * m + 3) 0))), (0, .ref b), (1, .int (nI (bl.length - 2)))]) hx hb dX0_isSound_78 hl (k := 1) rfl (nI_add _ _) (by decide) rfl (fun ls hl => ?_)
                  refine lv_goto (tgt := 28) hx hb dX0_isSound_81 (by decide) ?_
                  rw [show 3 * m + 2 + 3 = 3 * (m + 1) + 2 from by omega] at hl
                  have hl : lv_has ls 4 [(2, .int (nI (3 * (m + 1) + 2))), (3, .int (nI (rd.getD (3 * m + 3) 0))), (0, .ref b), (1, .int (nI (bl.length - 2)))] := hl
                  have hl : lv_has ls 4 [(2, .int (nI (3 * (m + 1) + 2))), (0, .ref b), (1, .int (nI (bl.length - 2)))] := lv_sub hl [0, 2, 3] rfl
                  have hB : gB G.1 (rT G) A s H locs [(b, .inr (0, [.ref r, .int (nI bl.length)])), (r, .inl (G.2.2.2.1, n, .inl f))] := hB
                  have b_13 : (m + 1) + (d - 1) = (bl.length - 2) / 3 := by omega
                  have b_14 : rqF rd (m + 1) = 1 := by rw [rqF, if_pos ⟨hq, c_8, by omega, by omega, c_12⟩]
                  exact ih_4 (d - 1) (m + 1) H locs ls (by omega) ⟨b_13, b_14, hB, hl⟩
                · have c_12 : ¬ (rd.getD (3 * m + 4) 0) = 6 := fun h9 => c_12 ((nI_eq (a := (rd.getD (3 * m + 4) 0)) (b := 6) (by omega) (by omega)).mpr h9)
                  have hz : ¬ rqF rd (m + 1) = 1 := by rw [rqF, if_neg (fun z => by exact c_12 z.2.2.2.2)]; decide
                  refine lv_iconst (v := nI 0) hx hb dX0_isSound_76 (by decide) ?_
                  exact g_zret (Wd := bW G b r n) (v := nI 0) (nI bl.length, f) hB hx hb hr hlocks rfl (narrow_z (Or.inl rfl)) ⟨Or.inr ⟨rfl, fun z => rqF_dead hz _ (by omega) z.2.2.2⟩, rfl⟩ dX0_isSound_77
      · have c_3 : ¬ ((bl.length - 2) % 3) = 0 := fun h9 => c_3 ((nI_eq (a := ((bl.length - 2) % 3)) (b := 0) (by omega) (by omega)).mpr h9)
        refine lv_iconst (v := nI 0) hx hb dX0_isSound_24 (by decide) ?_
        exact g_zret (Wd := bW G b r n) (v := nI 0) (nI bl.length, f) hB hx hb hr hlocks rfl (narrow_z (Or.inl rfl)) ⟨Or.inr ⟨rfl, fun z => by have := z.2.2.1; omega⟩, rfl⟩ dX0_isSound_25
set_option maxRecDepth 100000 in
set_option maxHeartbeats 1000000 in
/-- Group.isStates(fragment, from) -/
theorem k_Group_isStates (l : Launch) (G : rG) (b r n : Nat) (f : Nat → Int32) (bl : List Int32) (hp : pfx f bl) (hbn : bl.length ≤ n) (hn : n < 1000000) (hB9 : ∀ x ∈ bl, isB x) (rd : List Nat) (hrd : rd = rdN bl) (a : Nat) (ha : a + 3 ≤ bl.length) : gM l G.1 (rT G) yX4_isStates wsX4_isStates { frames := 1, cells := 0, slots := 0, locals := 21 } [.ref b, .int (nI a)] [(b, .inr (0, [.ref r, .int (nI bl.length)])), (r, .inl (G.2.2.2.1, n, .inl f))] (gQi G.1 (rT G) (fun (r : Int32) (u : Int32 × (Nat → Int32)) => ((r = nI 1 ∧ isPG rd a) ∨ (r = nI 0 ∧ ¬ isPG rd a)) ∧ u = (nI bl.length, f)) (bW G b r n)) 0 0 := by
  refine gM.of (cc := cX4_isStates) (maxL := 2) (ret := (some .boolean)) (by decide) rfl (Nat.le_of_ble_eq_true rfl) ?_
  intro p e s m below meth c A ls hx hb hr hml hown hts hlocks hnm hB hl
  have hl : lv_has ls 2 [(0, .ref b), (1, .int (nI a))] := hl
  refine lv_aload_n hx hb dX4_isStates_0 rfl (lv_at hl 0 rfl) ?_
  refine lv_iload_n hx hb dX4_isStates_1 rfl (lv_at hl 1 rfl) ?_
  refine g_calliA (wr := []) (wc := [(b, .inr (0, [.ref r, .int (nI bl.length)])), (r, .inl (G.2.2.2.1, n, .inl f))]) (av := [.int (nI a)]) (rest := []) ⟨hx, hb, hml, hown, hts⟩ (k_Bytes_get l G b r n f bl hp hbn hn (nI a)) (cwV 1 hts gX4_isStates_X1_get rfl rfl rfl (by decide +kernel) ⟨Nat.le_of_ble_eq_true rfl, Nat.le_of_ble_eq_true rfl⟩) hB (q0 := 0) (ci := 0) rfl rfl rfl rfl hl.1 rfl (Nat.le_of_ble_eq_true rfl) dX4_isStates_2 ⟨Nat.le_of_ble_eq_true rfl, Nat.le_of_ble_eq_true rfl⟩ (fun r9 u H locs hw hB => ?_)
  obtain ⟨er, rfl⟩ := hw
  have hB : gB G.1 (rT G) A s H locs [(b, .inr (0, [.ref r, .int (nI bl.length)])), (r, .inl (G.2.2.2.1, n, .inl f))] := hB
  have hlt9 : a < bl.length := by omega
  have g_1 : rd.getD (a) 0 < 256 := by rw [hrd, rdN_get]; exact (bq_at hB9 hlt9).2
  have er : r9 = nI (rd.getD (a) 0) := by rw [hrd, rdN_get]; exact er.trans (get_in hB9 hlt9 (by omega))
  subst er
  refine lv_bipush (v := nI 30) hx hb dX4_isStates_5 (by decide) ?_
  refine lv_icmp_ne (tgt := 25) hx hb dX4_isStates_7 (by decide) (fun c_2 => ?_) (fun c_2 => ?_)
  · have c_2 : ¬ (rd.getD (a) 0) = 30 := fun h9 => c_2 ((nI_eq (a := (rd.getD (a) 0)) (b := 30) (by omega) (by omega)).mpr h9)
    refine lv_iconst (v := nI 0) hx hb dX4_isStates_25 (by decide) ?_
    exact g_zret (Wd := bW G b r n) (v := nI 0) (nI bl.length, f) hB hx hb hr hlocks rfl (narrow_z (Or.inl rfl)) ⟨Or.inr ⟨rfl, fun z => c_2 z.1⟩, rfl⟩ dX4_isStates_26
  · have c_2 : (rd.getD (a) 0) = 30 := (nI_eq (a := (rd.getD (a) 0)) (b := 30) (by omega) (by omega)).mp c_2
    refine lv_aload_n hx hb dX4_isStates_10 rfl (lv_at hl 0 rfl) ?_
    refine lv_iload_n hx hb dX4_isStates_11 rfl (lv_at hl 1 rfl) ?_
    refine lv_iconst (v := nI 1) hx hb dX4_isStates_12 (by decide) ?_
    refine lv_iadd hx hb dX4_isStates_13 ?_
    refine g_top (y := nI (a + 1)) (nI_add _ _) ?_
    refine g_calliA (wr := []) (wc := [(b, .inr (0, [.ref r, .int (nI bl.length)])), (r, .inl (G.2.2.2.1, n, .inl f))]) (av := [.int (nI (a + 1))]) (rest := []) ⟨hx, hb, hml, hown, hts⟩ (k_Bytes_get l G b r n f bl hp hbn hn (nI (a + 1))) (cwV 1 hts gX4_isStates_X1_get rfl rfl rfl (by decide +kernel) ⟨Nat.le_of_ble_eq_true rfl, Nat.le_of_ble_eq_true rfl⟩) hB (q0 := 0) (ci := 0) rfl rfl rfl rfl hl.1 rfl (Nat.le_of_ble_eq_true rfl) dX4_isStates_14 ⟨Nat.le_of_ble_eq_true rfl, Nat.le_of_ble_eq_true rfl⟩ (fun r9 u H locs hw hB => ?_)
    obtain ⟨er, rfl⟩ := hw
    have hB : gB G.1 (rT G) A s H locs [(b, .inr (0, [.ref r, .int (nI bl.length)])), (r, .inl (G.2.2.2.1, n, .inl f))] := hB
    have hlt9 : a + 1 < bl.length := by omega
    have g_3 : rd.getD (a + 1) 0 < 256 := by rw [hrd, rdN_get]; exact (bq_at hB9 hlt9).2
    have er : r9 = nI (rd.getD (a + 1) 0) := by rw [hrd, rdN_get]; exact er.trans (get_in hB9 hlt9 (by omega))
    subst er
    refine lv_iconst (v := nI 2) hx hb dX4_isStates_17 (by decide) ?_
    refine lv_icmp_ne (tgt := 25) hx hb dX4_isStates_18 (by decide) (fun c_4 => ?_) (fun c_4 => ?_)
    · have c_4 : ¬ (rd.getD (a + 1) 0) = 2 := fun h9 => c_4 ((nI_eq (a := (rd.getD (a + 1) 0)) (b := 2) (by omega) (by omega)).mpr h9)
      refine lv_iconst (v := nI 0) hx hb dX4_isStates_25 (by decide) ?_
      exact g_zret (Wd := bW G b r n) (v := nI 0) (nI bl.length, f) hB hx hb hr hlocks rfl (narrow_z (Or.inl rfl)) ⟨Or.inr ⟨rfl, fun z => c_4 z.2⟩, rfl⟩ dX4_isStates_26
    · have c_4 : (rd.getD (a + 1) 0) = 2 := (nI_eq (a := (rd.getD (a + 1) 0)) (b := 2) (by omega) (by omega)).mp c_4
      refine lv_iconst (v := nI 1) hx hb dX4_isStates_21 (by decide) ?_
      refine lv_goto (tgt := 26) hx hb dX4_isStates_22 (by decide) ?_
      exact g_zret (Wd := bW G b r n) (v := nI 1) (nI bl.length, f) hB hx hb hr hlocks rfl (narrow_z (Or.inr rfl)) ⟨Or.inl ⟨rfl, c_2, c_4⟩, rfl⟩ dX4_isStates_26
set_option maxRecDepth 100000 in
set_option maxHeartbeats 1000000 in
/-- Group.end(fragment, from) -/
theorem k_Group_end (l : Launch) (G : rG) (b r n : Nat) (f : Nat → Int32) (bl : List Int32) (hp : pfx f bl) (hbn : bl.length ≤ n) (hn : n < 1000000) (hB9 : ∀ x ∈ bl, isB x) (rd : List Nat) (hrd : rd = rdN bl) (a : Nat) (ha : a ≤ bl.length) (h4 : bl.length ≤ 400) : gM l G.1 (rT G) yX4_end wsX4_end { frames := 2, cells := 0, slots := 0, locals := 42 } [.ref b, .int (nI a)] [(b, .inr (0, [.ref r, .int (nI bl.length)])), (r, .inl (G.2.2.2.1, n, .inl f))] (gQi G.1 (rT G) (fun (r : Int32) (u : Int32 × (Nat → Int32)) => ((gpN rd a = 0 ∧ r = -1) ∨ (gpN rd a ≠ 0 ∧ r = nI (a + gpN rd a))) ∧ u = (nI bl.length, f)) (bW G b r n)) 0 0 := by
  refine gM.of (cc := cX4_end) (maxL := 6) (ret := (some .int)) (by decide) rfl (Nat.le_of_ble_eq_true rfl) ?_
  intro p e s m below meth c A ls hx hb hr hml hown hts hlocks hnm hB hl
  have hl : lv_has ls 6 [(0, .ref b), (1, .int (nI a))] := hl
  have hrl : rd.length = bl.length := by rw [hrd, rdN_len]
  refine lv_iload_n hx hb dX4_end_0 rfl (lv_at hl 1 rfl) ?_
  refine lv_iconst (v := nI 3) hx hb dX4_end_1 (by decide) ?_
  refine lv_iadd hx hb dX4_end_2 ?_
  refine g_top (y := nI (a + 3)) (nI_add _ _) ?_
  refine lv_aload_n hx hb dX4_end_3 rfl (lv_at hl 0 rfl) ?_
  refine g_calliA (wr := []) (wc := [(b, .inr (0, [.ref r, .int (nI bl.length)])), (r, .inl (G.2.2.2.1, n, .inl f))]) (av := []) (rest := [.int (nI (a + 3))]) ⟨hx, hb, hml, hown, hts⟩ (k_Bytes_size l G b r n f bl hp hbn hn) (cwV 0 hts gX4_end_X1_size rfl rfl rfl (by decide +kernel) ⟨Nat.le_of_ble_eq_true rfl, Nat.le_of_ble_eq_true rfl⟩) hB (q0 := 0) (ci := 0) rfl rfl rfl rfl hl.1 rfl (Nat.le_of_ble_eq_true rfl) dX4_end_4 ⟨Nat.le_of_ble_eq_true rfl, Nat.le_of_ble_eq_true rfl⟩ (fun r9 u H locs hw hB => ?_)
  obtain ⟨rfl, rfl⟩ := hw
  have hB : gB G.1 (rT G) A s H locs [(b, .inr (0, [.ref r, .int (nI bl.length)])), (r, .inl (G.2.2.2.1, n, .inl f))] := hB
  refine lv_icmp_le (tgt := 12) hx hb dX4_end_7 (by decide) (fun c_1 => ?_) (fun c_1 => ?_)
  · have c_1 : (a + 3) ≤ bl.length := (nI_leI (a := (a + 3)) (b := bl.length) (by omega) (by omega)).mp c_1
    refine lv_aload_n hx hb dX4_end_12 rfl (lv_at hl 0 rfl) ?_
    refine lv_iload_n hx hb dX4_end_13 rfl (lv_at hl 1 rfl) ?_
    refine g_calliA (wr := []) (wc := [(b, .inr (0, [.ref r, .int (nI bl.length)])), (r, .inl (G.2.2.2.1, n, .inl f))]) (av := [.int (nI a)]) (rest := []) ⟨hx, hb, hml, hown, hts⟩ (k_Bytes_get l G b r n f bl hp hbn hn (nI a)) (cwV 1 hts gX4_end_X1_get rfl rfl rfl (by decide +kernel) ⟨Nat.le_of_ble_eq_true rfl, Nat.le_of_ble_eq_true rfl⟩) hB (q0 := 0) (ci := 0) rfl rfl rfl rfl hl.1 rfl (Nat.le_of_ble_eq_true rfl) dX4_end_14 ⟨Nat.le_of_ble_eq_true rfl, Nat.le_of_ble_eq_true rfl⟩ (fun r9 u H locs hw hB => ?_)
    obtain ⟨er, rfl⟩ := hw
    have hB : gB G.1 (rT G) A s H locs [(b, .inr (0, [.ref r, .int (nI bl.length)])), (r, .inl (G.2.2.2.1, n, .inl f))] := hB
    have hlt9 : a < bl.length := by omega
    have g_2 : rd.getD (a) 0 < 256 := by rw [hrd, rdN_get]; exact (bq_at hB9 hlt9).2
    have er : r9 = nI (rd.getD (a) 0) := by rw [hrd, rdN_get]; exact er.trans (get_in hB9 hlt9 (by omega))
    subst er
    refine lv_bipush (v := nI 32) hx hb dX4_end_17 (by decide) ?_
    refine lv_icmp_ne (tgt := 26) hx hb dX4_end_19 (by decide) (fun c_3 => ?_) (fun c_3 => ?_)
    · have c_3 : ¬ (rd.getD (a) 0) = 32 := fun h9 => c_3 ((nI_eq (a := (rd.getD (a) 0)) (b := 32) (by omega) (by omega)).mpr h9)
      refine lv_iconst (v := nI 0) hx hb dX4_end_26 (by decide) ?_
      refine lv_istore_n (lv' := [(2, .int (nI 0)), (0, .ref b), (1, .int (nI a))]) hx hb dX4_end_27 rfl hl (by decide) rfl (fun ls hl => ?_)
      refine lv_iload_n hx hb dX4_end_28 rfl (lv_at hl 0 rfl) ?_
      refine lv_if_eq (tgt := 48) hx hb dX4_end_29 (by decide) (fun c_4 => ?_) (fun c_4 => ?_)
      · have c_4 : 0 = 0 := (nI_eq (a := 0) (b := 0) (by omega) (by omega)).mp c_4
        refine lv_aload_n hx hb dX4_end_48 rfl (lv_at hl 1 rfl) ?_
        refine lv_iload_n hx hb dX4_end_49 rfl (lv_at hl 2 rfl) ?_
        refine g_callSiA (wr := []) (wc := [(b, .inr (0, [.ref r, .int (nI bl.length)])), (r, .inl (G.2.2.2.1, n, .inl f))]) (av := [.ref b, .int (nI a)]) (rest := []) ⟨hx, hb, hml, hown, hts⟩ (k_Group_isStates l G b r n f bl hp hbn hn hB9 rd hrd a (by omega)) (va_cwS 2 hts gX4_end_X4_isStates rfl rfl rfl (by decide +kernel) ⟨Nat.le_of_ble_eq_true rfl, Nat.le_of_ble_eq_true rfl⟩) hB rfl hl.1 rfl (Nat.le_of_ble_eq_true rfl) dX4_end_50 ⟨Nat.le_of_ble_eq_true rfl, Nat.le_of_ble_eq_true rfl⟩ (fun r9 u H locs hw hB => ?_)
        obtain ⟨hst, rfl⟩ := hw
        have hB : gB G.1 (rT G) A s H locs [(b, .inr (0, [.ref r, .int (nI bl.length)])), (r, .inl (G.2.2.2.1, n, .inl f))] := hB
        refine lv_if_ne (tgt := 58) hx hb dX4_end_53 (by decide) (fun c_5 => ?_) (fun c_5 => ?_)
        · have c_5 := c_5
          have hpg : isPG rd a := by rcases hst with ⟨-, h1⟩ | ⟨h1, -⟩; exact h1; exact absurd h1 c_5
          refine lv_iload_n hx hb dX4_end_58 rfl (lv_at hl 0 rfl) ?_
          refine lv_if_eq (tgt := 67) hx hb dX4_end_59 (by decide) (fun c_6 => ?_) (fun c_6 => ?_)
          · have c_6 : 0 = 0 := (nI_eq (a := 0) (b := 0) (by omega) (by omega)).mp c_6
            refine lv_iconst (v := nI 3) hx hb dX4_end_67 (by decide) ?_
            refine lv_istore_n (lv' := [(3, .int (nI 3)), (2, .int (nI 0)), (0, .ref b), (1, .int (nI a))]) hx hb dX4_end_68 rfl hl (by decide) rfl (fun ls hl => ?_)
            refine lv_iload_n hx hb dX4_end_69 rfl (lv_at hl 3 rfl) ?_
            refine lv_iconst (v := nI 3) hx hb dX4_end_70 (by decide) ?_
            refine lv_iadd hx hb dX4_end_71 ?_
            refine g_top (y := nI (a + 3)) (nI_add _ _) ?_
            refine lv_aload_n hx hb dX4_end_72 rfl (lv_at hl 2 rfl) ?_
            refine lv_iload_n hx hb dX4_end_73 rfl (lv_at hl 3 rfl) ?_
            refine lv_iconst (v := nI 2) hx hb dX4_end_74 (by decide) ?_
            refine lv_iadd hx hb dX4_end_75 ?_
            refine g_top (y := nI (a + 2)) (nI_add _ _) ?_
            refine g_calliA (wr := []) (wc := [(b, .inr (0, [.ref r, .int (nI bl.length)])), (r, .inl (G.2.2.2.1, n, .inl f))]) (av := [.int (nI (a + 2))]) (rest := [.int (nI (a + 3))]) ⟨hx, hb, hml, hown, hts⟩ (k_Bytes_get l G b r n f bl hp hbn hn (nI (a + 2))) (cwV 1 hts gX4_end_X1_get rfl rfl rfl (by decide +kernel) ⟨Nat.le_of_ble_eq_true rfl, Nat.le_of_ble_eq_true rfl⟩) hB (q0 := 0) (ci := 0) rfl rfl rfl rfl hl.1 rfl (Nat.le_of_ble_eq_true rfl) dX4_end_76 ⟨Nat.le_of_ble_eq_true rfl, Nat.le_of_ble_eq_true rfl⟩ (fun r9 u H locs hw hB => ?_)
            obtain ⟨er, rfl⟩ := hw
            have hB : gB G.1 (rT G) A s H locs [(b, .inr (0, [.ref r, .int (nI bl.length)])), (r, .inl (G.2.2.2.1, n, .inl f))] := hB
            have hlt9 : a + 2 < bl.length := by omega
            have g_7 : rd.getD (a + 2) 0 < 256 := by rw [hrd, rdN_get]; exact (bq_at hB9 hlt9).2
            have er : r9 = nI (rd.getD (a + 2) 0) := by rw [hrd, rdN_get]; exact er.trans (get_in hB9 hlt9 (by omega))
            subst er
            refine lv_iload_n hx hb dX4_end_79 rfl (lv_at hl 0 rfl) ?_
            refine lv_imul hx hb dX4_end_80 ?_
            refine g_top (y := nI ((rd.getD (a + 2) 0) * 3)) (pk_mul _ _) ?_
            refine lv_iadd hx hb dX4_end_81 ?_
            refine g_top (y := nI ((a + 3) + ((rd.getD (a + 2) 0) * 3))) (nI_add _ _) ?_
            refine lv_istore (lv' := [(4, .int (nI ((a + 3) + ((rd.getD (a + 2) 0) * 3)))), (3, .int (nI 3)), (2, .int (nI 0)), (0, .ref b), (1, .int (nI a))]) hx hb dX4_end_82 hl (by decide) rfl (fun ls hl => ?_)
            refine lv_iload hx hb dX4_end_84 (lv_at hl 0 rfl) ?_
            refine lv_aload_n hx hb dX4_end_86 rfl (lv_at hl 3 rfl) ?_
            refine g_calliA (wr := []) (wc := [(b, .inr (0, [.ref r, .int (nI bl.length)])), (r, .inl (G.2.2.2.1, n, .inl f))]) (av := []) (rest := [.int (nI ((a + 3) + ((rd.getD (a + 2) 0) * 3)))]) ⟨hx, hb, hml, hown, hts⟩ (k_Bytes_size l G b r n f bl hp hbn hn) (cwV 0 hts gX4_end_X1_size rfl rfl rfl (by decide +kernel) ⟨Nat.le_of_ble_eq_true rfl, Nat.le_of_ble_eq_true rfl⟩) hB (q0 := 0) (ci := 0) rfl rfl rfl rfl hl.1 rfl (Nat.le_of_ble_eq_true rfl) dX4_end_87 ⟨Nat.le_of_ble_eq_true rfl, Nat.le_of_ble_eq_true rfl⟩ (fun r9 u H locs hw hB => ?_)
            obtain ⟨rfl, rfl⟩ := hw
            have hB : gB G.1 (rT G) A s H locs [(b, .inr (0, [.ref r, .int (nI bl.length)])), (r, .inl (G.2.2.2.1, n, .inl f))] := hB
            refine lv_icmp_le (tgt := 95) hx hb dX4_end_90 (by decide) (fun c_8 => ?_) (fun c_8 => ?_)
            · have c_8 : ((a + 3) + ((rd.getD (a + 2) 0) * 3)) ≤ bl.length := (nI_leI (a := ((a + 3) + ((rd.getD (a + 2) 0) * 3))) (b := bl.length) (by omega) (by omega)).mp c_8
              refine lv_iload_n hx hb dX4_end_95 rfl (lv_at hl 4 rfl) ?_
              refine lv_iconst (v := nI 3) hx hb dX4_end_96 (by decide) ?_
              refine lv_iadd hx hb dX4_end_97 ?_
              refine g_top (y := nI (a + 3)) (nI_add _ _) ?_
              refine lv_istore (lv' := [(5, .int (nI (a + 3))), (4, .int (nI ((a + 3) + ((rd.getD (a + 2) 0) * 3)))), (3, .int (nI 3)), (2, .int (nI 0)), (0, .ref b), (1, .int (nI a))]) hx hb dX4_end_98 hl (by decide) rfl (fun ls hl => ?_)
              have hl : lv_has ls 6 [(5, .int (nI (a + 3 + 3 * 0))), (4, .int (nI ((a + 3) + ((rd.getD (a + 2) 0) * 3)))), (3, .int (nI 3)), (2, .int (nI 0)), (0, .ref b), (1, .int (nI a))] := hl
              have hl : lv_has ls 6 [(5, .int (nI (a + 3 + 3 * 0))), (0, .ref b), (1, .int (nI a)), (2, .int (nI 0)), (3, .int (nI 3)), (4, .int (nI (a + 3 + rd.getD (a + 2) 0 * 3)))] := lv_sub hl [0, 4, 5, 3, 2, 1] rfl
              have hB : gB G.1 (rT G) A s H locs [(b, .inr (0, [.ref r, .int (nI bl.length)])), (r, .inl (G.2.2.2.1, n, .inl f))] := hB
              refine g_loop (σ := Nat) (fun d xv H locs ls => (xv + d = rd.getD (a + 2) 0) ∧ (gpF rd a 3 (isPG rd a) inferInstance  xv = 1) ∧ gB G.1 (rT G) A s H locs [(b, .inr (0, [.ref r, .int (nI bl.length)])), (r, .inl (G.2.2.2.1, n, .inl f))] ∧ lv_has ls 6 [(5, .int (nI (a + 3 + 3 * xv))), (0, .ref b), (1, .int (nI a)), (2, .int (nI 0)), (3, .int (nI 3)), (4, .int (nI (a + 3 + rd.getD (a + 2) 0 * 3)))]) (rd.getD (a + 2) 0) (0) ⟨by omega, rfl, hB, hl⟩ ?_
              rintro d m H locs ls ⟨hm, hq, hB, hl⟩ ih_9
              have hm : m + d = rd.getD (a + 2) 0 := hm
              have hq : gpF rd a 3 (isPG rd a) inferInstance  m = 1 := hq
              have hB : gB G.1 (rT G) A s H locs [(b, .inr (0, [.ref r, .int (nI bl.length)])), (r, .inl (G.2.2.2.1, n, .inl f))] := hB
              have hl : lv_has ls 6 [(5, .int (nI (a + 3 + 3 * m))), (0, .ref b), (1, .int (nI a)), (2, .int (nI 0)), (3, .int (nI 3)), (4, .int (nI (a + 3 + rd.getD (a + 2) 0 * 3)))] := hl
              refine lv_iload hx hb dX4_end_100 (lv_at hl 0 rfl) ?_
              refine lv_iload hx hb dX4_end_102 (lv_at hl 5 rfl) ?_
              refine lv_icmp_ge (tgt := 148) hx hb dX4_end_104 (by decide) (fun c_10 => ?_) (fun c_10 => ?_)
              · have c_10 : (a + 3 + rd.getD (a + 2) 0 * 3) ≤ (a + 3 + 3 * m) := (nI_leI (a := (a + 3 + rd.getD (a + 2) 0 * 3)) (b := (a + 3 + 3 * m)) (by omega) (by omega)).mp c_10
                have hm9 : m = rd.getD (a + 2) 0 := by omega
                have hw : wdG rd a = 3 := if_pos hpg
                have hg : gpN rd a = 3 + 3 * rd.getD (a + 2) 0 := by unfold gpN; rw [hw]; exact if_pos ⟨by omega, Or.inl hpg, by omega, by rw [← hm9]; exact hq⟩
                refine lv_iload hx hb dX4_end_148 (lv_at hl 5 rfl) ?_
                refine g_top (y := nI (a + gpN rd a)) (congrArg nI (by rw [hg]; omega)) ?_
                exact g_iret (Wd := bW G b r n) (v := nI (a + gpN rd a)) (nI bl.length, f) hB hx hb hr hlocks rfl ⟨Or.inr ⟨by omega, rfl⟩, rfl⟩ dX4_end_150
              · have c_10 : ¬ (a + 3 + rd.getD (a + 2) 0 * 3) ≤ (a + 3 + 3 * m) := fun h9 => c_10 ((nI_leI (a := (a + 3 + rd.getD (a + 2) 0 * 3)) (b := (a + 3 + 3 * m)) (by omega) (by omega)).mpr h9)
                have m9 : m + 1 ≤ rd.getD (a + 2) 0 := by omega
                refine lv_aload_n hx hb dX4_end_107 rfl (lv_at hl 1 rfl) ?_
                refine lv_iload hx hb dX4_end_108 (lv_at hl 0 rfl) ?_
                refine g_calliA (wr := []) (wc := [(b, .inr (0, [.ref r, .int (nI bl.length)])), (r, .inl (G.2.2.2.1, n, .inl f))]) (av := [.int (nI (a + 3 + 3 * m))]) (rest := []) ⟨hx, hb, hml, hown, hts⟩ (k_Bytes_get l G b r n f bl hp hbn hn (nI (a + 3 + 3 * m))) (cwV 1 hts gX4_end_X1_get rfl rfl rfl (by decide +kernel) ⟨Nat.le_of_ble_eq_true rfl, Nat.le_of_ble_eq_true rfl⟩) hB (q0 := 0) (ci := 0) rfl rfl rfl rfl hl.1 rfl (Nat.le_of_ble_eq_true rfl) dX4_end_110 ⟨Nat.le_of_ble_eq_true rfl, Nat.le_of_ble_eq_true rfl⟩ (fun r9 u H locs hw hB => ?_)
                obtain ⟨er, rfl⟩ := hw
                have hB : gB G.1 (rT G) A s H locs [(b, .inr (0, [.ref r, .int (nI bl.length)])), (r, .inl (G.2.2.2.1, n, .inl f))] := hB
                have hlt9 : a + 3 + 3 * m < bl.length := by omega
                have g_11 : rd.getD (a + 3 + 3 * m) 0 < 256 := by rw [hrd, rdN_get]; exact (bq_at hB9 hlt9).2
                have er : r9 = nI (rd.getD (a + 3 + 3 * m) 0) := by rw [hrd, rdN_get]; exact er.trans (get_in hB9 hlt9 (by omega))
                subst er
                refine lv_bipush (v := nI 10) hx hb dX4_end_113 (by decide) ?_
                refine lv_icmp_ge (tgt := 137) hx hb dX4_end_115 (by decide) (fun c_12 => ?_) (fun c_12 => ?_)
                · have c_12 : 10 ≤ (rd.getD (a + 3 + 3 * m) 0) := (nI_leI (a := 10) (b := (rd.getD (a + 3 + 3 * m) 0)) (by omega) (by omega)).mp c_12
                  have hw : wdG rd a = 3 := if_pos hpg
                  have hz : ¬ gpF rd a 3 (isPG rd a) inferInstance  (m + 1) = 1 := by rw [gpF, if_neg (fun z => by have := z.2.1; omega)]; decide
                  refine lv_iconst (v := (-1)) hx hb dX4_end_137 (by decide) ?_
                  exact g_iret (Wd := bW G b r n) (v := (-1)) (nI bl.length, f) hB hx hb hr hlocks rfl ⟨Or.inl ⟨if_neg (fun z => by have z4 := z.2.2.2; rw [hw] at z4; exact gpF_dead hz _ (by omega) z4), rfl⟩, rfl⟩ dX4_end_138
                · have c_12 : ¬ 10 ≤ (rd.getD (a + 3 + 3 * m) 0) := fun h9 => c_12 ((nI_leI (a := 10) (b := (rd.getD (a + 3 + 3 * m) 0)) (by omega) (by omega)).mpr h9)
                  refine lv_iload_n hx hb dX4_end_118 rfl (lv_at hl 3 rfl) ?_
                  refine lv_if_eq (tgt := 139) hx hb dX4_end_119 (by decide) (fun c_13 => ?_) (fun c_13 => ?_)
                  · have c_13 : 0 = 0 := (nI_eq (a := 0) (b := 0) (by omega) (by omega)).mp c_13
                    refine lv_iload hx hb dX4_end_139 (lv_at hl 0 rfl) ?_
                    refine lv_iload_n hx hb dX4_end_141 rfl (lv_at hl 4 rfl) ?_
                    refine lv_iadd hx hb dX4_end_142 ?_
                    refine g_top (y := nI ((a + 3 + 3 * m) + 3)) (nI_add _ _) ?_
                    refine lv_istore (lv' := [(5, .int (nI ((a + 3 + 3 * m) + 3))), (0, .ref b), (1, .int (nI a)), (2, .int (nI 0)), (3, .int (nI 3)), (4, .int (nI (a + 3 + rd.getD (a + 2) 0 * 3)))]) hx hb dX4_end_143 hl (by decide) rfl (fun ls hl => ?_)
                    refine lv_goto (tgt := 100) hx hb dX4_end_145 (by decide) ?_
                    rw [show (a + 3 + 3 * m) + 3 = a + 3 + 3 * (m + 1) from by omega] at hl
                    have hl : lv_has ls 6 [(5, .int (nI (a + 3 + 3 * (m + 1)))), (0, .ref b), (1, .int (nI a)), (2, .int (nI 0)), (3, .int (nI 3)), (4, .int (nI (a + 3 + rd.getD (a + 2) 0 * 3)))] := hl
                    have hl : lv_has ls 6 [(5, .int (nI (a + 3 + 3 * (m + 1)))), (0, .ref b), (1, .int (nI a)), (2, .int (nI 0)), (3, .int (nI 3)), (4, .int (nI (a + 3 + rd.getD (a + 2) 0 * 3)))] := lv_sub hl [0, 1, 2, 3, 4, 5] rfl
                    have hB : gB G.1 (rT G) A s H locs [(b, .inr (0, [.ref r, .int (nI bl.length)])), (r, .inl (G.2.2.2.1, n, .inl f))] := hB
                    have b_14 : (m + 1) + (d - 1) = rd.getD (a + 2) 0 := by omega
                    have b_15 : gpF rd a 3 (isPG rd a) inferInstance  (m + 1) = 1 := by rw [gpF, if_pos ⟨hq, by omega, Or.inl hpg⟩]
                    exact ih_9 (d - 1) (m + 1) H locs ls (by omega) ⟨b_14, b_15, hB, hl⟩
                  · have c_13 : ¬ 0 = 0 := fun h9 => c_13 ((nI_eq (a := 0) (b := 0) (by omega) (by omega)).mpr h9)
                    exact absurd rfl c_13
            · have c_8 : ¬ ((a + 3) + ((rd.getD (a + 2) 0) * 3)) ≤ bl.length := fun h9 => c_8 ((nI_leI (a := ((a + 3) + ((rd.getD (a + 2) 0) * 3))) (b := bl.length) (by omega) (by omega)).mpr h9)
              have hw : wdG rd a = 3 := if_pos hpg
              refine lv_iconst (v := (-1)) hx hb dX4_end_93 (by decide) ?_
              exact g_iret (Wd := bW G b r n) (v := (-1)) (nI bl.length, f) hB hx hb hr hlocks rfl ⟨Or.inl ⟨if_neg (fun z => by have z3 := z.2.2.1; rw [hw] at z3; omega), rfl⟩, rfl⟩ dX4_end_94
          · have c_6 : ¬ 0 = 0 := fun h9 => c_6 ((nI_eq (a := 0) (b := 0) (by omega) (by omega)).mpr h9)
            exact absurd rfl c_6
        · have c_5 := c_5
          have hnp : ¬ isPG rd a := by rcases hst with ⟨h1, -⟩ | ⟨-, h1⟩; exact fun _ => absurd (h1.symm.trans c_5) (by decide); exact h1
          refine lv_iconst (v := (-1)) hx hb dX4_end_56 (by decide) ?_
          exact g_iret (Wd := bW G b r n) (v := (-1)) (nI bl.length, f) hB hx hb hr hlocks rfl ⟨Or.inl ⟨if_neg (fun z => by rcases z.2.1 with z | z; exact hnp z; exact c_3 z.1), rfl⟩, rfl⟩ dX4_end_57
      · have c_4 : ¬ 0 = 0 := fun h9 => c_4 ((nI_eq (a := 0) (b := 0) (by omega) (by omega)).mpr h9)
        exact absurd rfl c_4
    · have c_3 : (rd.getD (a) 0) = 32 := (nI_eq (a := (rd.getD (a) 0)) (b := 32) (by omega) (by omega)).mp c_3
      refine lv_iconst (v := nI 1) hx hb dX4_end_22 (by decide) ?_
      refine lv_goto (tgt := 27) hx hb dX4_end_23 (by decide) ?_
      refine lv_istore_n (lv' := [(2, .int (nI 1)), (0, .ref b), (1, .int (nI a))]) hx hb dX4_end_27 rfl hl (by decide) rfl (fun ls hl => ?_)
      refine lv_iload_n hx hb dX4_end_28 rfl (lv_at hl 0 rfl) ?_
      refine lv_if_eq (tgt := 48) hx hb dX4_end_29 (by decide) (fun c_16 => ?_) (fun c_16 => ?_)
      · have c_16 : 1 = 0 := (nI_eq (a := 1) (b := 0) (by omega) (by omega)).mp c_16
        exact absurd c_16 (by decide)
      · have c_16 : ¬ 1 = 0 := fun h9 => c_16 ((nI_eq (a := 1) (b := 0) (by omega) (by omega)).mpr h9)
        refine lv_aload_n hx hb dX4_end_32 rfl (lv_at hl 1 rfl) ?_
        refine lv_iload_n hx hb dX4_end_33 rfl (lv_at hl 2 rfl) ?_
        refine lv_iconst (v := nI 1) hx hb dX4_end_34 (by decide) ?_
        refine lv_iadd hx hb dX4_end_35 ?_
        refine g_top (y := nI (a + 1)) (nI_add _ _) ?_
        refine g_calliA (wr := []) (wc := [(b, .inr (0, [.ref r, .int (nI bl.length)])), (r, .inl (G.2.2.2.1, n, .inl f))]) (av := [.int (nI (a + 1))]) (rest := []) ⟨hx, hb, hml, hown, hts⟩ (k_Bytes_get l G b r n f bl hp hbn hn (nI (a + 1))) (cwV 1 hts gX4_end_X1_get rfl rfl rfl (by decide +kernel) ⟨Nat.le_of_ble_eq_true rfl, Nat.le_of_ble_eq_true rfl⟩) hB (q0 := 0) (ci := 0) rfl rfl rfl rfl hl.1 rfl (Nat.le_of_ble_eq_true rfl) dX4_end_36 ⟨Nat.le_of_ble_eq_true rfl, Nat.le_of_ble_eq_true rfl⟩ (fun r9 u H locs hw hB => ?_)
        obtain ⟨er, rfl⟩ := hw
        have hB : gB G.1 (rT G) A s H locs [(b, .inr (0, [.ref r, .int (nI bl.length)])), (r, .inl (G.2.2.2.1, n, .inl f))] := hB
        have hlt9 : a + 1 < bl.length := by omega
        have g_17 : rd.getD (a + 1) 0 < 256 := by rw [hrd, rdN_get]; exact (bq_at hB9 hlt9).2
        have er : r9 = nI (rd.getD (a + 1) 0) := by rw [hrd, rdN_get]; exact er.trans (get_in hB9 hlt9 (by omega))
        subst er
        refine g_callS0 (av := [.int (nI (rd.getD (a + 1) 0))]) (rest := []) ⟨hx, hb, hml, hown, hts⟩ (k_Group_isClass l G (nI (rd.getD (a + 1) 0))) (va_cwS 1 hts gX4_end_X4_isClass rfl rfl rfl (by decide +kernel) ⟨Nat.le_of_ble_eq_true rfl, Nat.le_of_ble_eq_true rfl⟩) hB rfl hl.1 rfl (Nat.le_of_ble_eq_true rfl) dX4_end_39 ⟨Nat.le_of_ble_eq_true rfl, Nat.le_of_ble_eq_true rfl⟩ (fun r9 H locs hw hB => ?_)
        have hcl := hw
        refine lv_if_eq (tgt := 56) hx hb dX4_end_42 (by decide) (fun c_18 => ?_) (fun c_18 => ?_)
        · have c_18 := c_18
          have hne : ¬ isEG rd a := fun z => by rcases hcl with ⟨h1, -⟩ | ⟨-, h2 | h2⟩; exact absurd (h1.symm.trans c_18) (by decide); exact absurd ((nI_ltI (by omega) (by omega)).mp h2) (by have := z.2.1; omega); exact absurd ((nI_ltI (by omega) (by omega)).mp h2) (by have := z.2.2; omega)
          refine lv_iconst (v := (-1)) hx hb dX4_end_56 (by decide) ?_
          exact g_iret (Wd := bW G b r n) (v := (-1)) (nI bl.length, f) hB hx hb hr hlocks rfl ⟨Or.inl ⟨if_neg (fun z => by rcases z.2.1 with z | z; (have := z.1; omega); exact hne z), rfl⟩, rfl⟩ dX4_end_57
        · have c_18 := c_18
          have hev : isEG rd a := by rcases hcl with ⟨-, h1, h2⟩ | ⟨h1, -⟩; exact ⟨c_3, Nat.not_lt.mp (fun z => h1 ((nI_ltI (by omega) (by omega)).mpr z)), Nat.not_lt.mp (fun z => h2 ((nI_ltI (by omega) (by omega)).mpr z))⟩; exact absurd h1 c_18
          refine lv_goto (tgt := 58) hx hb dX4_end_45 (by decide) ?_
          refine lv_iload_n hx hb dX4_end_58 rfl (lv_at hl 0 rfl) ?_
          refine lv_if_eq (tgt := 67) hx hb dX4_end_59 (by decide) (fun c_19 => ?_) (fun c_19 => ?_)
          · have c_19 : 1 = 0 := (nI_eq (a := 1) (b := 0) (by omega) (by omega)).mp c_19
            exact absurd c_19 (by decide)
          · have c_19 : ¬ 1 = 0 := fun h9 => c_19 ((nI_eq (a := 1) (b := 0) (by omega) (by omega)).mpr h9)
            refine lv_bipush (v := nI 7) hx hb dX4_end_62 (by decide) ?_
            refine lv_goto (tgt := 68) hx hb dX4_end_64 (by decide) ?_
            refine lv_istore_n (lv' := [(3, .int (nI 7)), (2, .int (nI 1)), (0, .ref b), (1, .int (nI a))]) hx hb dX4_end_68 rfl hl (by decide) rfl (fun ls hl => ?_)
            refine lv_iload_n hx hb dX4_end_69 rfl (lv_at hl 3 rfl) ?_
            refine lv_iconst (v := nI 3) hx hb dX4_end_70 (by decide) ?_
            refine lv_iadd hx hb dX4_end_71 ?_
            refine g_top (y := nI (a + 3)) (nI_add _ _) ?_
            refine lv_aload_n hx hb dX4_end_72 rfl (lv_at hl 2 rfl) ?_
            refine lv_iload_n hx hb dX4_end_73 rfl (lv_at hl 3 rfl) ?_
            refine lv_iconst (v := nI 2) hx hb dX4_end_74 (by decide) ?_
            refine lv_iadd hx hb dX4_end_75 ?_
            refine g_top (y := nI (a + 2)) (nI_add _ _) ?_
            refine g_calliA (wr := []) (wc := [(b, .inr (0, [.ref r, .int (nI bl.length)])), (r, .inl (G.2.2.2.1, n, .inl f))]) (av := [.int (nI (a + 2))]) (rest := [.int (nI (a + 3))]) ⟨hx, hb, hml, hown, hts⟩ (k_Bytes_get l G b r n f bl hp hbn hn (nI (a + 2))) (cwV 1 hts gX4_end_X1_get rfl rfl rfl (by decide +kernel) ⟨Nat.le_of_ble_eq_true rfl, Nat.le_of_ble_eq_true rfl⟩) hB (q0 := 0) (ci := 0) rfl rfl rfl rfl hl.1 rfl (Nat.le_of_ble_eq_true rfl) dX4_end_76 ⟨Nat.le_of_ble_eq_true rfl, Nat.le_of_ble_eq_true rfl⟩ (fun r9 u H locs hw hB => ?_)
            obtain ⟨er, rfl⟩ := hw
            have hB : gB G.1 (rT G) A s H locs [(b, .inr (0, [.ref r, .int (nI bl.length)])), (r, .inl (G.2.2.2.1, n, .inl f))] := hB
            have hlt9 : a + 2 < bl.length := by omega
            have g_20 : rd.getD (a + 2) 0 < 256 := by rw [hrd, rdN_get]; exact (bq_at hB9 hlt9).2
            have er : r9 = nI (rd.getD (a + 2) 0) := by rw [hrd, rdN_get]; exact er.trans (get_in hB9 hlt9 (by omega))
            subst er
            refine lv_iload_n hx hb dX4_end_79 rfl (lv_at hl 0 rfl) ?_
            refine lv_imul hx hb dX4_end_80 ?_
            refine g_top (y := nI ((rd.getD (a + 2) 0) * 7)) (pk_mul _ _) ?_
            refine lv_iadd hx hb dX4_end_81 ?_
            refine g_top (y := nI ((a + 3) + ((rd.getD (a + 2) 0) * 7))) (nI_add _ _) ?_
            refine lv_istore (lv' := [(4, .int (nI ((a + 3) + ((rd.getD (a + 2) 0) * 7)))), (3, .int (nI 7)), (2, .int (nI 1)), (0, .ref b), (1, .int (nI a))]) hx hb dX4_end_82 hl (by decide) rfl (fun ls hl => ?_)
            refine lv_iload hx hb dX4_end_84 (lv_at hl 0 rfl) ?_
            refine lv_aload_n hx hb dX4_end_86 rfl (lv_at hl 3 rfl) ?_
            refine g_calliA (wr := []) (wc := [(b, .inr (0, [.ref r, .int (nI bl.length)])), (r, .inl (G.2.2.2.1, n, .inl f))]) (av := []) (rest := [.int (nI ((a + 3) + ((rd.getD (a + 2) 0) * 7)))]) ⟨hx, hb, hml, hown, hts⟩ (k_Bytes_size l G b r n f bl hp hbn hn) (cwV 0 hts gX4_end_X1_size rfl rfl rfl (by decide +kernel) ⟨Nat.le_of_ble_eq_true rfl, Nat.le_of_ble_eq_true rfl⟩) hB (q0 := 0) (ci := 0) rfl rfl rfl rfl hl.1 rfl (Nat.le_of_ble_eq_true rfl) dX4_end_87 ⟨Nat.le_of_ble_eq_true rfl, Nat.le_of_ble_eq_true rfl⟩ (fun r9 u H locs hw hB => ?_)
            obtain ⟨rfl, rfl⟩ := hw
            have hB : gB G.1 (rT G) A s H locs [(b, .inr (0, [.ref r, .int (nI bl.length)])), (r, .inl (G.2.2.2.1, n, .inl f))] := hB
            refine lv_icmp_le (tgt := 95) hx hb dX4_end_90 (by decide) (fun c_21 => ?_) (fun c_21 => ?_)
            · have c_21 : ((a + 3) + ((rd.getD (a + 2) 0) * 7)) ≤ bl.length := (nI_leI (a := ((a + 3) + ((rd.getD (a + 2) 0) * 7))) (b := bl.length) (by omega) (by omega)).mp c_21
              refine lv_iload_n hx hb dX4_end_95 rfl (lv_at hl 4 rfl) ?_
              refine lv_iconst (v := nI 3) hx hb dX4_end_96 (by decide) ?_
              refine lv_iadd hx hb dX4_end_97 ?_
              refine g_top (y := nI (a + 3)) (nI_add _ _) ?_
              refine lv_istore (lv' := [(5, .int (nI (a + 3))), (4, .int (nI ((a + 3) + ((rd.getD (a + 2) 0) * 7)))), (3, .int (nI 7)), (2, .int (nI 1)), (0, .ref b), (1, .int (nI a))]) hx hb dX4_end_98 hl (by decide) rfl (fun ls hl => ?_)
              have hl : lv_has ls 6 [(5, .int (nI (a + 3 + 7 * 0))), (4, .int (nI ((a + 3) + ((rd.getD (a + 2) 0) * 7)))), (3, .int (nI 7)), (2, .int (nI 1)), (0, .ref b), (1, .int (nI a))] := hl
              have hl : lv_has ls 6 [(5, .int (nI (a + 3 + 7 * 0))), (0, .ref b), (1, .int (nI a)), (2, .int (nI 1)), (3, .int (nI 7)), (4, .int (nI (a + 3 + rd.getD (a + 2) 0 * 7)))] := lv_sub hl [0, 4, 5, 3, 2, 1] rfl
              have hB : gB G.1 (rT G) A s H locs [(b, .inr (0, [.ref r, .int (nI bl.length)])), (r, .inl (G.2.2.2.1, n, .inl f))] := hB
              refine g_loop (σ := Nat) (fun d xv H locs ls => (xv + d = rd.getD (a + 2) 0) ∧ (gpF rd a 7 (isPG rd a) inferInstance  xv = 1) ∧ gB G.1 (rT G) A s H locs [(b, .inr (0, [.ref r, .int (nI bl.length)])), (r, .inl (G.2.2.2.1, n, .inl f))] ∧ lv_has ls 6 [(5, .int (nI (a + 3 + 7 * xv))), (0, .ref b), (1, .int (nI a)), (2, .int (nI 1)), (3, .int (nI 7)), (4, .int (nI (a + 3 + rd.getD (a + 2) 0 * 7)))]) (rd.getD (a + 2) 0) (0) ⟨by omega, rfl, hB, hl⟩ ?_
              rintro d m H locs ls ⟨hm, hq, hB, hl⟩ ih_22
              have hm : m + d = rd.getD (a + 2) 0 := hm
              have hq : gpF rd a 7 (isPG rd a) inferInstance  m = 1 := hq
              have hB : gB G.1 (rT G) A s H locs [(b, .inr (0, [.ref r, .int (nI bl.length)])), (r, .inl (G.2.2.2.1, n, .inl f))] := hB
              have hl : lv_has ls 6 [(5, .int (nI (a + 3 + 7 * m))), (0, .ref b), (1, .int (nI a)), (2, .int (nI 1)), (3, .int (nI 7)), (4, .int (nI (a + 3 + rd.getD (a + 2) 0 * 7)))] := hl
              refine lv_iload hx hb dX4_end_100 (lv_at hl 0 rfl) ?_
              refine lv_iload hx hb dX4_end_102 (lv_at hl 5 rfl) ?_
              refine lv_icmp_ge (tgt := 148) hx hb dX4_end_104 (by decide) (fun c_23 => ?_) (fun c_23 => ?_)
              · have c_23 : (a + 3 + rd.getD (a + 2) 0 * 7) ≤ (a + 3 + 7 * m) := (nI_leI (a := (a + 3 + rd.getD (a + 2) 0 * 7)) (b := (a + 3 + 7 * m)) (by omega) (by omega)).mp c_23
                have hm9 : m = rd.getD (a + 2) 0 := by omega
                have hw : wdG rd a = 7 := if_neg (fun z => by have := z.1; have := hev.1; omega)
                have hg : gpN rd a = 3 + 7 * rd.getD (a + 2) 0 := by unfold gpN; rw [hw]; exact if_pos ⟨by omega, Or.inr hev, by omega, by rw [← hm9]; exact hq⟩
                refine lv_iload hx hb dX4_end_148 (lv_at hl 5 rfl) ?_
                refine g_top (y := nI (a + gpN rd a)) (congrArg nI (by rw [hg]; omega)) ?_
                exact g_iret (Wd := bW G b r n) (v := nI (a + gpN rd a)) (nI bl.length, f) hB hx hb hr hlocks rfl ⟨Or.inr ⟨by omega, rfl⟩, rfl⟩ dX4_end_150
              · have c_23 : ¬ (a + 3 + rd.getD (a + 2) 0 * 7) ≤ (a + 3 + 7 * m) := fun h9 => c_23 ((nI_leI (a := (a + 3 + rd.getD (a + 2) 0 * 7)) (b := (a + 3 + 7 * m)) (by omega) (by omega)).mpr h9)
                have m9 : m + 1 ≤ rd.getD (a + 2) 0 := by omega
                refine lv_aload_n hx hb dX4_end_107 rfl (lv_at hl 1 rfl) ?_
                refine lv_iload hx hb dX4_end_108 (lv_at hl 0 rfl) ?_
                refine g_calliA (wr := []) (wc := [(b, .inr (0, [.ref r, .int (nI bl.length)])), (r, .inl (G.2.2.2.1, n, .inl f))]) (av := [.int (nI (a + 3 + 7 * m))]) (rest := []) ⟨hx, hb, hml, hown, hts⟩ (k_Bytes_get l G b r n f bl hp hbn hn (nI (a + 3 + 7 * m))) (cwV 1 hts gX4_end_X1_get rfl rfl rfl (by decide +kernel) ⟨Nat.le_of_ble_eq_true rfl, Nat.le_of_ble_eq_true rfl⟩) hB (q0 := 0) (ci := 0) rfl rfl rfl rfl hl.1 rfl (Nat.le_of_ble_eq_true rfl) dX4_end_110 ⟨Nat.le_of_ble_eq_true rfl, Nat.le_of_ble_eq_true rfl⟩ (fun r9 u H locs hw hB => ?_)
                obtain ⟨er, rfl⟩ := hw
                have hB : gB G.1 (rT G) A s H locs [(b, .inr (0, [.ref r, .int (nI bl.length)])), (r, .inl (G.2.2.2.1, n, .inl f))] := hB
                have hlt9 : a + 3 + 7 * m < bl.length := by omega
                have g_24 : rd.getD (a + 3 + 7 * m) 0 < 256 := by rw [hrd, rdN_get]; exact (bq_at hB9 hlt9).2
                have er : r9 = nI (rd.getD (a + 3 + 7 * m) 0) := by rw [hrd, rdN_get]; exact er.trans (get_in hB9 hlt9 (by omega))
                subst er
                refine lv_bipush (v := nI 10) hx hb dX4_end_113 (by decide) ?_
                refine lv_icmp_ge (tgt := 137) hx hb dX4_end_115 (by decide) (fun c_25 => ?_) (fun c_25 => ?_)
                · have c_25 : 10 ≤ (rd.getD (a + 3 + 7 * m) 0) := (nI_leI (a := 10) (b := (rd.getD (a + 3 + 7 * m) 0)) (by omega) (by omega)).mp c_25
                  have hw : wdG rd a = 7 := if_neg (fun z => by have := z.1; have := hev.1; omega)
                  have hz : ¬ gpF rd a 7 (isPG rd a) inferInstance  (m + 1) = 1 := by rw [gpF, if_neg (fun z => by have := z.2.1; omega)]; decide
                  refine lv_iconst (v := (-1)) hx hb dX4_end_137 (by decide) ?_
                  exact g_iret (Wd := bW G b r n) (v := (-1)) (nI bl.length, f) hB hx hb hr hlocks rfl ⟨Or.inl ⟨if_neg (fun z => by have z4 := z.2.2.2; rw [hw] at z4; exact gpF_dead hz _ (by omega) z4), rfl⟩, rfl⟩ dX4_end_138
                · have c_25 : ¬ 10 ≤ (rd.getD (a + 3 + 7 * m) 0) := fun h9 => c_25 ((nI_leI (a := 10) (b := (rd.getD (a + 3 + 7 * m) 0)) (by omega) (by omega)).mpr h9)
                  refine lv_iload_n hx hb dX4_end_118 rfl (lv_at hl 3 rfl) ?_
                  refine lv_if_eq (tgt := 139) hx hb dX4_end_119 (by decide) (fun c_26 => ?_) (fun c_26 => ?_)
                  · have c_26 : 1 = 0 := (nI_eq (a := 1) (b := 0) (by omega) (by omega)).mp c_26
                    exact absurd c_26 (by decide)
                  · have c_26 : ¬ 1 = 0 := fun h9 => c_26 ((nI_eq (a := 1) (b := 0) (by omega) (by omega)).mpr h9)
                    refine lv_aload_n hx hb dX4_end_122 rfl (lv_at hl 1 rfl) ?_
                    refine lv_iload hx hb dX4_end_123 (lv_at hl 0 rfl) ?_
                    refine lv_bipush (v := nI 6) hx hb dX4_end_125 (by decide) ?_
                    refine lv_iadd hx hb dX4_end_127 ?_
                    refine g_top (y := nI ((a + 3 + 7 * m) + 6)) (nI_add _ _) ?_
                    refine g_calliA (wr := []) (wc := [(b, .inr (0, [.ref r, .int (nI bl.length)])), (r, .inl (G.2.2.2.1, n, .inl f))]) (av := [.int (nI ((a + 3 + 7 * m) + 6))]) (rest := []) ⟨hx, hb, hml, hown, hts⟩ (k_Bytes_get l G b r n f bl hp hbn hn (nI (a + 3 + 7 * m + 6))) (cwV 1 hts gX4_end_X1_get rfl rfl rfl (by decide +kernel) ⟨Nat.le_of_ble_eq_true rfl, Nat.le_of_ble_eq_true rfl⟩) hB (q0 := 0) (ci := 0) rfl rfl rfl rfl hl.1 rfl (Nat.le_of_ble_eq_true rfl) dX4_end_128 ⟨Nat.le_of_ble_eq_true rfl, Nat.le_of_ble_eq_true rfl⟩ (fun r9 u H locs hw hB => ?_)
                    obtain ⟨er, rfl⟩ := hw
                    have hB : gB G.1 (rT G) A s H locs [(b, .inr (0, [.ref r, .int (nI bl.length)])), (r, .inl (G.2.2.2.1, n, .inl f))] := hB
                    have hlt9 : a + 3 + 7 * m + 6 < bl.length := by omega
                    have g_27 : rd.getD (a + 3 + 7 * m + 6) 0 < 256 := by rw [hrd, rdN_get]; exact (bq_at hB9 hlt9).2
                    have er : r9 = nI (rd.getD (a + 3 + 7 * m + 6) 0) := by rw [hrd, rdN_get]; exact er.trans (get_in hB9 hlt9 (by omega))
                    subst er
                    refine lv_sipush (v := nI 128) hx hb dX4_end_131 (by decide) ?_
                    refine lv_icmp_lt (tgt := 139) hx hb dX4_end_134 (by decide) (fun c_28 => ?_) (fun c_28 => ?_)
                    · have c_28 : (rd.getD (a + 3 + 7 * m + 6) 0) < 128 := (nI_ltI (a := (rd.getD (a + 3 + 7 * m + 6) 0)) (b := 128) (by omega) (by omega)).mp c_28
                      refine lv_iload hx hb dX4_end_139 (lv_at hl 0 rfl) ?_
                      refine lv_iload_n hx hb dX4_end_141 rfl (lv_at hl 4 rfl) ?_
                      refine lv_iadd hx hb dX4_end_142 ?_
                      refine g_top (y := nI ((a + 3 + 7 * m) + 7)) (nI_add _ _) ?_
                      refine lv_istore (lv' := [(5, .int (nI ((a + 3 + 7 * m) + 7))), (0, .ref b), (1, .int (nI a)), (2, .int (nI 1)), (3, .int (nI 7)), (4, .int (nI (a + 3 + rd.getD (a + 2) 0 * 7)))]) hx hb dX4_end_143 hl (by decide) rfl (fun ls hl => ?_)
                      refine lv_goto (tgt := 100) hx hb dX4_end_145 (by decide) ?_
                      rw [show (a + 3 + 7 * m) + 7 = a + 3 + 7 * (m + 1) from by omega] at hl
                      have hl : lv_has ls 6 [(5, .int (nI (a + 3 + 7 * (m + 1)))), (0, .ref b), (1, .int (nI a)), (2, .int (nI 1)), (3, .int (nI 7)), (4, .int (nI (a + 3 + rd.getD (a + 2) 0 * 7)))] := hl
                      have hl : lv_has ls 6 [(5, .int (nI (a + 3 + 7 * (m + 1)))), (0, .ref b), (1, .int (nI a)), (2, .int (nI 1)), (3, .int (nI 7)), (4, .int (nI (a + 3 + rd.getD (a + 2) 0 * 7)))] := lv_sub hl [0, 1, 2, 3, 4, 5] rfl
                      have hB : gB G.1 (rT G) A s H locs [(b, .inr (0, [.ref r, .int (nI bl.length)])), (r, .inl (G.2.2.2.1, n, .inl f))] := hB
                      have b_29 : (m + 1) + (d - 1) = rd.getD (a + 2) 0 := by omega
                      have b_30 : gpF rd a 7 (isPG rd a) inferInstance  (m + 1) = 1 := by rw [gpF, if_pos ⟨hq, by omega, Or.inr (by omega)⟩]
                      exact ih_22 (d - 1) (m + 1) H locs ls (by omega) ⟨b_29, b_30, hB, hl⟩
                    · have c_28 : ¬ (rd.getD (a + 3 + 7 * m + 6) 0) < 128 := fun h9 => c_28 ((nI_ltI (a := (rd.getD (a + 3 + 7 * m + 6) 0)) (b := 128) (by omega) (by omega)).mpr h9)
                      have hw : wdG rd a = 7 := if_neg (fun z => by have := z.1; have := hev.1; omega)
                      have hz : ¬ gpF rd a 7 (isPG rd a) inferInstance  (m + 1) = 1 := by rw [gpF, if_neg (fun z => by rcases z.2.2 with z | z; (have := z.1; have := hev.1; omega); omega)]; decide
                      refine lv_iconst (v := (-1)) hx hb dX4_end_137 (by decide) ?_
                      exact g_iret (Wd := bW G b r n) (v := (-1)) (nI bl.length, f) hB hx hb hr hlocks rfl ⟨Or.inl ⟨if_neg (fun z => by have z4 := z.2.2.2; rw [hw] at z4; exact gpF_dead hz _ (by omega) z4), rfl⟩, rfl⟩ dX4_end_138
            · have c_21 : ¬ ((a + 3) + ((rd.getD (a + 2) 0) * 7)) ≤ bl.length := fun h9 => c_21 ((nI_leI (a := ((a + 3) + ((rd.getD (a + 2) 0) * 7))) (b := bl.length) (by omega) (by omega)).mpr h9)
              have hw : wdG rd a = 7 := if_neg (fun z => by have := z.1; have := hev.1; omega)
              refine lv_iconst (v := (-1)) hx hb dX4_end_93 (by decide) ?_
              exact g_iret (Wd := bW G b r n) (v := (-1)) (nI bl.length, f) hB hx hb hr hlocks rfl ⟨Or.inl ⟨if_neg (fun z => by have z3 := z.2.2.1; rw [hw] at z3; omega), rfl⟩, rfl⟩ dX4_end_94
  · have c_1 : ¬ (a + 3) ≤ bl.length := fun h9 => c_1 ((nI_leI (a := (a + 3)) (b := bl.length) (by omega) (by omega)).mpr h9)
    refine lv_iconst (v := (-1)) hx hb dX4_end_10 (by decide) ?_
    exact g_iret (Wd := bW G b r n) (v := (-1)) (nI bl.length, f) hB hx hb hr hlocks rfl ⟨Or.inl ⟨if_neg (fun z => by have := z.1; omega), rfl⟩, rfl⟩ dX4_end_11
