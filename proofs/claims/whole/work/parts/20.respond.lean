/-! THE ANSWER TO A READ -/
def evS (q : List (Int32 × Int32 × Int32)) : Nat → List Int32
  | 0 => []
  | n + 1 => evS q n ++ ([(q.getD n (0, 0, 0)).1 &&& 255] ++ bN (q.getD n (0, 0, 0)).2.1 2 ++ bN (q.getD n (0, 0, 0)).2.2 4)
def grS (q : List (Int32 × Int32 × Int32)) (c n : Nat) : List Int32 := if n = 0 then [] else [nI 32 &&& 255, nI c &&& 255, nI n &&& 255] ++ evS q n
theorem evN_S {ke po va ti : Nat → Int32} {E : evL} {c : Nat} (h : evR ke po va ti E) (h1 : 1 ≤ c) (h3 : c ≤ 3) : ∀ n, n ≤ (E c).length → evN po va ti (8 * c) n = evS (E c) n := by
  intro n
  induction n with
  | zero => intro _; rfl
  | succ n ih =>
    intro hn
    obtain ⟨-, -, e3⟩ := h c h1 h3
    obtain ⟨a1, a2, a3⟩ := e3 n ((E c).getD n (0, 0, 0)) (by rw [List.getD_eq_getElem?_getD, List.getElem?_eq_getElem (by omega)]; rfl)
    rw [evN, evS, ih (by omega), a1, a2, a3]
theorem grN_S {ke po va ti : Nat → Int32} {E : evL} {c : Nat} (h : evR ke po va ti E) (h1 : 1 ≤ c) (h3 : c ≤ 3) {n : Nat} (hn : n ≤ (E c).length) : grN po va ti c n = grS (E c) c n := by
  rw [grN, grS, evN_S h h1 h3 n hn]
theorem evS_len (q : List (Int32 × Int32 × Int32)) (n : Nat) : (evS q n).length = 7 * n := by
  induction n with
  | zero => rfl
  | succ n ih => rw [evS, List.length_append, ih, List.length_append, List.length_append, bN_len, bN_len, List.length_singleton]; omega
theorem grS_len (q : List (Int32 × Int32 × Int32)) (c n : Nat) : (grS q c n).length ≤ 3 + 7 * n := by
  unfold grS
  split
  · exact Nat.zero_le _
  · rw [List.length_append, evS_len]; exact Nat.le_refl _
/-- how many events come: n of the class, at most so many -/
def mnN (a b : Nat) : Nat := if a < b then a else b
theorem wtR_put {wa wb : Nat → Int32} {E : evL} {Wt : Nat → Nat} {c n : Nat} (h : wtR wa E Wt) (hn : n ≤ 8) (hb : ∀ j, wb j = if 8 * c ≤ j ∧ j < 8 * c + n then 1 else wa j) (h8 : ∀ x, 1 ≤ x → x ≤ 3 → (E x).length ≤ 8) : wtR wb E (va_up Wt c (max (Wt c) n)) := by
  intro x h1 h3 k hk
  have l8 := h8 x h1 h3
  rw [hb]
  by_cases hx : x = c
  · subst hx
    have e : va_up Wt x (max (Wt x) n) x = max (Wt x) n := by simp [va_up]
    rw [e]
    by_cases hk2 : k < n
    · rw [if_pos (by omega), if_pos (by omega)]
    · rw [if_neg (by omega), h x h1 h3 k hk]
      by_cases hk3 : k < Wt x
      · rw [if_pos hk3, if_pos (by omega)]
      · rw [if_neg hk3, if_neg (by omega)]
  · have e : va_up Wt c (max (Wt c) n) x = Wt x := by simp [va_up, hx]
    rw [e, if_neg (by omega)]
    exact h x h1 h3 k hk
theorem rqF_at {rd : List Nat} : ∀ n, rqF rd n = 1 → ∀ k, k < n → 1 ≤ rd.getD (3 * k + 3) 0 ∧ rd.getD (3 * k + 3) 0 ≤ 4 := by
  intro n
  induction n with
  | zero => intro _ k hk; omega
  | succ n ih =>
    intro h k hk
    rw [rqF] at h
    by_cases hc : rqF rd n = 1 ∧ rd.getD (3 * n + 2) 0 = 60 ∧ 1 ≤ rd.getD (3 * n + 3) 0 ∧ rd.getD (3 * n + 3) 0 ≤ 4 ∧ rd.getD (3 * n + 4) 0 = 6
    · by_cases hq : k = n
      · subst hq; exact ⟨hc.2.2.1, hc.2.2.2.1⟩
      · exact ih hc.1 k (by omega)
    · rw [if_neg hc] at h; omega
/-- what stands in the answer behind k asked things; how many events may come yet; whether what is so was asked; who waits -/
def rsS (E : evL) (vals : Nat → Int32) (rd : List Nat) (h0 : List Int32) : Nat → List Int32 × Nat × Nat × (Nat → Nat)
  | 0 => (h0, 16, 0, fun _ => 0)
  | k + 1 => if fsF rd (rd.getD (3 * k + 3) 0) k = 1 then (if rd.getD (3 * k + 3) 0 = 1 then ((rsS E vals rd h0 k).1 ++ ptG vals, (rsS E vals rd h0 k).2.1, 1, (rsS E vals rd h0 k).2.2.2) else ((rsS E vals rd h0 k).1 ++ grS (E (rd.getD (3 * k + 3) 0 - 1)) (rd.getD (3 * k + 3) 0 - 1) (mnN (E (rd.getD (3 * k + 3) 0 - 1)).length (rsS E vals rd h0 k).2.1), (rsS E vals rd h0 k).2.1 - mnN (E (rd.getD (3 * k + 3) 0 - 1)).length (rsS E vals rd h0 k).2.1, (rsS E vals rd h0 k).2.2.1, va_up (rsS E vals rd h0 k).2.2.2 (rd.getD (3 * k + 3) 0 - 1) (max ((rsS E vals rd h0 k).2.2.2 (rd.getD (3 * k + 3) 0 - 1)) (mnN (E (rd.getD (3 * k + 3) 0 - 1)).length (rsS E vals rd h0 k).2.1)))) else rsS E vals rd h0 k
/-- the four bytes that a response begins with, before its groups are known -/
def rsH (seq : Nat) : List Int32 := [(nI 192 + nI seq) &&& 255, nI 129 &&& 255, nI 0 &&& 255, nI 0 &&& 255]
def rsN (rd : List Nat) : Nat := (rd.length - 2) / 3
noncomputable def rsE (E : evL) (vals : Nat → Int32) (rd : List Nat) : List Int32 × Nat × Nat × (Nat → Nat) := rsS E vals rd (rsH (rd.getD 0 0 &&& 15)) (rsN rd)
/-- the response, lost: whether events were lost -/
noncomputable def rsO (E : evL) (vals : Nat → Int32) (rd : List Nat) (lost : Int32) : List Int32 := (fun l : List Int32 => if (rsE E vals rd).2.1 < 16 then l.set 0 (l.getD 0 0 + nI 32) else l) (((rsE E vals rd).1.set 2 (moK E (rsE E vals rd).2.2.2 3)).set 3 (if lost = 0 then nI 0 else nI 8))
theorem ptG_len (v : Nat → Int32) : (ptG v).length = 33 := by rw [ptG, List.length_append, ptN_len]; rfl
theorem rsS_len (E : evL) (vals : Nat → Int32) (rd : List Nat) (h0 : List Int32) (h4 : h0.length = 4) : ∀ k, (rsS E vals rd h0 k).1.length + 7 * (rsS E vals rd h0 k).2.1 ≤ 116 + 33 * k ∧ (rsS E vals rd h0 k).2.1 ≤ 16 ∧ 4 ≤ (rsS E vals rd h0 k).1.length ∧ (rsS E vals rd h0 k).2.2.1 ≤ 1 := by
  intro k
  induction k with
  | zero => rw [rsS]; dsimp only; omega
  | succ k ih =>
    obtain ⟨i1, i2, i3, i4⟩ := ih
    rw [rsS]
    by_cases hf : fsF rd (rd.getD (3 * k + 3) 0) k = 1
    · rw [if_pos hf]
      by_cases hv : rd.getD (3 * k + 3) 0 = 1
      · rw [if_pos hv]
        dsimp only
        rw [List.length_append, ptG_len]
        omega
      · rw [if_neg hv]
        dsimp only
        have l1 := grS_len (E (rd.getD (3 * k + 3) 0 - 1)) (rd.getD (3 * k + 3) 0 - 1) (mnN (E (rd.getD (3 * k + 3) 0 - 1)).length (rsS E vals rd h0 k).2.1)
        have l2 : mnN (E (rd.getD (3 * k + 3) 0 - 1)).length (rsS E vals rd h0 k).2.1 ≤ (rsS E vals rd h0 k).2.1 := by unfold mnN; split <;> omega
        rw [List.length_append]
        omega
    · rw [if_neg hf]
      omega
theorem rsS_wt (E : evL) (vals : Nat → Int32) (rd : List Nat) (h0 : List Int32) : ∀ k c, (rsS E vals rd h0 k).2.2.2 c ≤ (E c).length := by
  intro k
  induction k with
  | zero => intro c; exact Nat.zero_le _
  | succ k ih =>
    intro c
    rw [rsS]
    by_cases hf : fsF rd (rd.getD (3 * k + 3) 0) k = 1
    · rw [if_pos hf]
      by_cases hv : rd.getD (3 * k + 3) 0 = 1
      · rw [if_pos hv]; exact ih c
      · rw [if_neg hv]
        dsimp only
        unfold va_up
        split
        · rename_i hc
          subst hc
          have h1 := ih (rd.getD (3 * k + 3) 0 - 1)
          have l2 : mnN (E (rd.getD (3 * k + 3) 0 - 1)).length (rsS E vals rd h0 k).2.1 ≤ (E (rd.getD (3 * k + 3) 0 - 1)).length := by unfold mnN; split <;> omega
          omega
        · exact ih c
    · rw [if_neg hf]; exact ih c
set_option maxRecDepth 100000 in
set_option maxHeartbeats 4000000 in
/-- respond() -/
theorem c_respond (l : Launch) (G : rG) (sc : Nat → Int32) (ar : Nat → Nat → Int32) (rd : List Nat) (hrd : pfxN (ar 41) rd) (h42 : sc 42 = nI rd.length) (hr4 : rd.length ≤ 400) (hi : isRd rd) (E : evL) (hE : evR (ar 4) (ar 5) (ar 6) (ar 7) E) (h9 : sc 9 = 0 ∨ sc 9 = 1) (L : List (Int32 × List Int32)) (hR : lnR (ar 31) (ar 32) (ar 33) L) (h30 : sc 30 = nI L.length) (hL : L.length ≤ 40) (q : Nat) (hq : ar 34 1 = nI q) (hq64 : q < 64) : gM l G.1 (rT G) yX12_respond wsX12_respond ({ frames := 4, cells := 0, slots := 0, locals := 96 }) [.ref G.2.1] (rWs G (sc, ar)) (gQv G.1 (rT G) (fun u : rSt => ∃ f wa fr le si nu, wtR wa E (rsE E (ar 2) rd).2.2.2 ∧ lnR fr le si (sndF 0 (rsO E (ar 2) rd (sc 9)) L q).1 ∧ (sndF 0 (rsO E (ar 2) rd (sc 9)) L q).1.length ≤ 40 ∧ (sndF 0 (rsO E (ar 2) rd (sc 9)) L q).2 < 64 ∧ nu 1 = nI (sndF 0 (rsO E (ar 2) rd (sc 9)) L q).2 ∧ nu 0 = ar 34 0 ∧ u = (upd (upd (upd (upd (upd sc 9 (if sc 9 = 0 then nI 0 else if (rsE E (ar 2) rd).2.2.1 = 0 then nI 1 else nI 0)) 11 (if (rsE E (ar 2) rd).2.1 < 16 then nI 1 else nI 0)) 12 (if (rsE E (ar 2) rd).2.1 < 16 then nI (rd.getD 0 0 &&& 15) else sc 12)) 30 (nI (sndF 0 (rsO E (ar 2) rd (sc 9)) L q).1.length)) 40 (nI (rsO E (ar 2) rd (sc 9)).length), va_up (va_up (va_up (va_up (va_up (va_up ar 8 wa) 31 fr) 32 le) 33 si) 34 nu) 39 f)) (rWs G)) 0 0 := by
  refine gM.of (cc := cX12_respond) (maxL := 5) (ret := none) (by decide) rfl (Nat.le_of_ble_eq_true rfl) ?_
  intro p e s m below meth c A ls hx hb hr hml hown hts hlocks hnm hB hl
  have hin : ∀ w ∈ wsX120, w ∈ wsX12_respond := fun w h => List.mem_cons_of_mem _ (List.mem_append_right _ h)
  have hl : lv_has ls 5 [(0, .ref G.2.1)] := hl
  obtain ⟨i1, i2, i3, i4, i5, i6⟩ := id hi
  obtain ⟨n3, hn3⟩ : ∃ z, rd.length = 3 * z + 2 := ⟨(rd.length - 2) / 3, by omega⟩
  have hn4 : (rd.length - 2) / 3 = n3 := by omega
  rw [hn4] at i6
  refine lv_aload_n hx hb dX12_respond_0 rfl (lv_at hl 0 rfl) ?_
  refine r_get (u := (sc, ar)) (v := .ref (G.2.2.1 41)) hx hb hts hin hown hB 41 (by decide) (hts (.fieldLink RX12 78 "PointReportsModel" "read" "[I") (by decide +kernel)) rfl rfl dX12_respond_1 ?_
  refine lv_iconst (v := nI 0) hx hb dX12_respond_4 (by decide) ?_
  refine r_ald (u := (sc, ar)) (f := ar 41) hx hb hB 22 rfl 0 rfl (by omega) (by decide) dX12_respond_5 ?_
  have q6 := hrd (0) (by omega)
  refine g_top (y := nI (rd.getD (0) 0)) q6.1 ?_
  have q6 := q6.2
  refine lv_bipush (v := nI 15) hx hb dX12_respond_6 (by decide) ?_
  refine lv_iand hx hb dX12_respond_8 ?_
  refine g_top (y := nI (rd.getD 0 0 &&& 15)) (nx_and _ _) ?_
  refine lv_istore_n (lv' := [(1, .int (nI (rd.getD 0 0 &&& 15))), (0, .ref G.2.1)]) hx hb dX12_respond_9 rfl hl (by decide) rfl (fun ls hl => ?_)
  refine lv_aload_n hx hb dX12_respond_10 rfl (lv_at hl 1 rfl) ?_
  refine g_callv (av := []) (rest := []) ⟨hx, hb, hml, hown, hts⟩ (c_noneWaits l G sc ar) (cwV 0 hts gX12_respond_X12_noneWaits rfl rfl rfl (by decide +kernel) ⟨Nat.le_of_ble_eq_true rfl, Nat.le_of_ble_eq_true rfl⟩) hB (q0 := 0) (ci := 9) rfl rfl rfl rfl hl.1 rfl (Nat.le_of_ble_eq_true rfl) dX12_respond_11 ⟨Nat.le_of_ble_eq_true rfl, Nat.le_of_ble_eq_true rfl⟩ (fun u H locs hw hB => ?_)
  obtain ⟨wa0, hw0, rfl⟩ := hw
  have hB : gB G.1 (rT G) A s H locs (rWs G (upd sc 11 (nI 0), va_up ar 8 wa0)) := hB
  refine lv_aload_n hx hb dX12_respond_14 rfl (lv_at hl 1 rfl) ?_
  refine lv_iload_n hx hb dX12_respond_15 rfl (lv_at hl 0 rfl) ?_
  refine lv_sipush (v := nI 129) hx hb dX12_respond_16 (by decide) ?_
  refine g_callv (av := [.int (nI (rd.getD 0 0 &&& 15)), .int (nI 129)]) (rest := []) ⟨hx, hb, hml, hown, hts⟩ (c_begin l G (upd sc 11 (nI 0)) (va_up ar 8 wa0) (nI (rd.getD 0 0 &&& 15)) (nI 129)) (cwV 2 hts gX12_respond_X12_begin rfl rfl rfl (by decide +kernel) ⟨Nat.le_of_ble_eq_true rfl, Nat.le_of_ble_eq_true rfl⟩) hB (q0 := 0) (ci := 9) rfl rfl rfl rfl hl.1 rfl (Nat.le_of_ble_eq_true rfl) dX12_respond_19 ⟨Nat.le_of_ble_eq_true rfl, Nat.le_of_ble_eq_true rfl⟩ (fun u H locs hw hB => ?_)
  obtain ⟨f1, hf1, rfl⟩ := hw
  have hB : gB G.1 (rT G) A s H locs (rWs G (upd (upd sc 11 (nI 0)) 40 (nI 2), va_up (va_up ar 8 wa0) 39 f1)) := hB
  refine lv_aload_n hx hb dX12_respond_22 rfl (lv_at hl 1 rfl) ?_
  refine lv_iconst (v := nI 0) hx hb dX12_respond_23 (by decide) ?_
  refine g_callv (av := [.int (nI 0)]) (rest := []) ⟨hx, hb, hml, hown, hts⟩ (c_put l G (upd (upd sc 11 (nI 0)) 40 (nI 2)) (va_up (va_up ar 8 wa0) 39 f1) (nI 0) [(nI 192 + nI (rd.getD 0 0 &&& 15)) &&& 255, nI 129 &&& 255] hf1 rfl (Nat.le_of_ble_eq_true rfl)) (cwV 1 hts gX12_respond_X12_put rfl rfl rfl (by decide +kernel) ⟨Nat.le_of_ble_eq_true rfl, Nat.le_of_ble_eq_true rfl⟩) hB (q0 := 0) (ci := 9) rfl rfl rfl rfl hl.1 rfl (Nat.le_of_ble_eq_true rfl) dX12_respond_24 ⟨Nat.le_of_ble_eq_true rfl, Nat.le_of_ble_eq_true rfl⟩ (fun u H locs hw hB => ?_)
  obtain ⟨f2, hf2, rfl⟩ := hw
  have hB : gB G.1 (rT G) A s H locs (rWs G (upd (upd sc 11 (nI 0)) 40 (nI 3), va_up (va_up ar 8 wa0) 39 f2)) := hB
  refine lv_aload_n hx hb dX12_respond_27 rfl (lv_at hl 1 rfl) ?_
  refine lv_iconst (v := nI 0) hx hb dX12_respond_28 (by decide) ?_
  refine g_callv (av := [.int (nI 0)]) (rest := []) ⟨hx, hb, hml, hown, hts⟩ (c_put l G (upd (upd sc 11 (nI 0)) 40 (nI 3)) (va_up (va_up ar 8 wa0) 39 f2) (nI 0) [(nI 192 + nI (rd.getD 0 0 &&& 15)) &&& 255, nI 129 &&& 255, nI 0 &&& 255] hf2 rfl (Nat.le_of_ble_eq_true rfl)) (cwV 1 hts gX12_respond_X12_put rfl rfl rfl (by decide +kernel) ⟨Nat.le_of_ble_eq_true rfl, Nat.le_of_ble_eq_true rfl⟩) hB (q0 := 0) (ci := 9) rfl rfl rfl rfl hl.1 rfl (Nat.le_of_ble_eq_true rfl) dX12_respond_29 ⟨Nat.le_of_ble_eq_true rfl, Nat.le_of_ble_eq_true rfl⟩ (fun u H locs hw hB => ?_)
  obtain ⟨f3, hf3, rfl⟩ := hw
  have hB : gB G.1 (rT G) A s H locs (rWs G (upd (upd sc 11 (nI 0)) 40 (nI 4), va_up (va_up ar 8 wa0) 39 f3)) := hB
  have hf3 : pfx f3 (rsH (rd.getD 0 0 &&& 15)) := hf3
  refine lv_bipush (v := nI 16) hx hb dX12_respond_32 (by decide) ?_
  refine lv_istore_n (lv' := [(2, .int (nI 16)), (1, .int (nI (rd.getD 0 0 &&& 15))), (0, .ref G.2.1)]) hx hb dX12_respond_34 rfl hl (by decide) rfl (fun ls hl => ?_)
  refine lv_iconst (v := nI 0) hx hb dX12_respond_35 (by decide) ?_
  refine lv_istore_n (lv' := [(3, .int (nI 0)), (2, .int (nI 16)), (1, .int (nI (rd.getD 0 0 &&& 15))), (0, .ref G.2.1)]) hx hb dX12_respond_36 rfl hl (by decide) rfl (fun ls hl => ?_)
  refine lv_iconst (v := nI 2) hx hb dX12_respond_37 (by decide) ?_
  refine lv_istore (lv' := [(4, .int (nI 2)), (3, .int (nI 0)), (2, .int (nI 16)), (1, .int (nI (rd.getD 0 0 &&& 15))), (0, .ref G.2.1)]) hx hb dX12_respond_38 hl (by decide) rfl (fun ls hl => ?_)
  have hl : lv_has ls 5 [(4, .int (nI (3 * 0 + 2))), (3, .int (nI ((rsS E (ar 2) rd (rsH (rd.getD 0 0 &&& 15)) 0).2.2.1))), (2, .int (nI ((rsS E (ar 2) rd (rsH (rd.getD 0 0 &&& 15)) 0).2.1))), (1, .int (nI (rd.getD 0 0 &&& 15))), (0, .ref G.2.1)] := lv_sub hl [0, 1, 2, 3, 4] rfl
  have hB : gB G.1 (rT G) A s H locs (rWs G (upd (upd sc 11 (nI 0)) 40 (nI ((rsS E (ar 2) rd (rsH (rd.getD 0 0 &&& 15)) 0).1.length)), va_up (va_up ar 8 wa0) 39 f3)) := hB
  refine g_loop (σ := Nat × (Nat → Int32) × (Nat → Int32)) (fun d xv H locs ls => (xv.1 + d = n3) ∧ (pfx xv.2.1 (rsS E (ar 2) rd (rsH (rd.getD 0 0 &&& 15)) xv.1).1) ∧ (wtR xv.2.2 E (rsS E (ar 2) rd (rsH (rd.getD 0 0 &&& 15)) xv.1).2.2.2) ∧ gB G.1 (rT G) A s H locs (rWs G (upd (upd sc 11 (nI 0)) 40 (nI ((rsS E (ar 2) rd (rsH (rd.getD 0 0 &&& 15)) xv.1).1.length)), va_up (va_up ar 8 xv.2.2) 39 xv.2.1)) ∧ lv_has ls 5 [(4, .int (nI (3 * xv.1 + 2))), (3, .int (nI ((rsS E (ar 2) rd (rsH (rd.getD 0 0 &&& 15)) xv.1).2.2.1))), (2, .int (nI ((rsS E (ar 2) rd (rsH (rd.getD 0 0 &&& 15)) xv.1).2.1))), (1, .int (nI (rd.getD 0 0 &&& 15))), (0, .ref G.2.1)]) n3 (0, f3, wa0) ⟨by omega, hf3, fun c h1 h3 j hj => by show wa0 (8 * c + j) = if j < 0 then 1 else 0; rw [if_neg (Nat.not_lt_zero _)]; exact hw0 _ (by have := (hE c h1 h3).2.1; omega), hB, hl⟩ ?_
  rintro d ⟨k, f, wa⟩ H locs ls ⟨hk, hf, hw, hB, hl⟩ ih_1
  have hk : k + d = n3 := hk
  have hf : pfx f (rsS E (ar 2) rd (rsH (rd.getD 0 0 &&& 15)) k).1 := hf
  have hw : wtR wa E (rsS E (ar 2) rd (rsH (rd.getD 0 0 &&& 15)) k).2.2.2 := hw
  have hB : gB G.1 (rT G) A s H locs (rWs G (upd (upd sc 11 (nI 0)) 40 (nI ((rsS E (ar 2) rd (rsH (rd.getD 0 0 &&& 15)) k).1.length)), va_up (va_up ar 8 wa) 39 f)) := hB
  have hl : lv_has ls 5 [(4, .int (nI (3 * k + 2))), (3, .int (nI ((rsS E (ar 2) rd (rsH (rd.getD 0 0 &&& 15)) k).2.2.1))), (2, .int (nI ((rsS E (ar 2) rd (rsH (rd.getD 0 0 &&& 15)) k).2.1))), (1, .int (nI (rd.getD 0 0 &&& 15))), (0, .ref G.2.1)] := hl
  obtain ⟨z1, z2, z3, z4⟩ := rsS_len E (ar 2) rd (rsH (rd.getD 0 0 &&& 15)) rfl k
  refine lv_iload hx hb dX12_respond_40 (lv_at hl 0 rfl) ?_
  refine lv_aload_n hx hb dX12_respond_42 rfl (lv_at hl 4 rfl) ?_
  refine r_get (u := (upd (upd sc 11 (nI 0)) 40 (nI ((rsS E (ar 2) rd (rsH (rd.getD 0 0 &&& 15)) k).1.length)), va_up (va_up ar 8 wa) 39 f)) (v := .int (sc 42)) hx hb hts hin hown hB 42 (by decide) (hts (.fieldLink RX12 127 "PointReportsModel" "readLength" "I") (by decide +kernel)) rfl rfl dX12_respond_43 ?_
  refine g_top (y := nI rd.length) h42 ?_
  refine lv_icmp_ge (tgt := 114) hx hb dX12_respond_46 (by decide) (fun c_2 => ?_) (fun c_2 => ?_)
  · have c_2 : rd.length ≤ (3 * k + 2) := (nI_leI (a := rd.length) (b := (3 * k + 2)) (by omega) (by omega)).mp c_2
    have hk9 : k = n3 := by omega
    have eE : (rsE E (ar 2) rd) = (rsS E (ar 2) rd (rsH (rd.getD 0 0 &&& 15)) k) := by rw [rsE, rsN, hn4, hk9]
    refine lv_aload_n hx hb dX12_respond_114 rfl (lv_at hl 4 rfl) ?_
    refine g_callv (av := []) (rest := []) ⟨hx, hb, hml, hown, hts⟩ (c_putState l G (upd (upd sc 11 (nI 0)) 40 (nI ((rsS E (ar 2) rd (rsH (rd.getD 0 0 &&& 15)) k).1.length))) (va_up (va_up ar 8 wa) 39 f) E (rsS E (ar 2) rd (rsH (rd.getD 0 0 &&& 15)) k).2.2.2 hE hw (rsS E (ar 2) rd (rsH (rd.getD 0 0 &&& 15)) k).1 hf z3) (cwV 0 hts gX12_respond_X12_putState rfl rfl rfl (by decide +kernel) ⟨Nat.le_of_ble_eq_true rfl, Nat.le_of_ble_eq_true rfl⟩) hB (q0 := 0) (ci := 9) rfl rfl rfl rfl hl.1 rfl (Nat.le_of_ble_eq_true rfl) dX12_respond_115 ⟨Nat.le_of_ble_eq_true rfl, Nat.le_of_ble_eq_true rfl⟩ (fun u H locs hw hB => ?_)
    obtain ⟨g1, hg1, rfl⟩ := hw
    have hB : gB G.1 (rT G) A s H locs (rWs G (upd (upd sc 11 (nI 0)) 40 (nI ((rsS E (ar 2) rd (rsH (rd.getD 0 0 &&& 15)) k).1.length)), va_up (va_up ar 8 wa) 39 g1)) := hB
    have hg1 : pfx g1 (((rsS E (ar 2) rd (rsH (rd.getD 0 0 &&& 15)) k).1.set 2 (moK E (rsS E (ar 2) rd (rsH (rd.getD 0 0 &&& 15)) k).2.2.2 3)).set 3 (if sc 9 = 0 then nI 0 else nI 8)) := hg1
    have l4 : (((rsS E (ar 2) rd (rsH (rd.getD 0 0 &&& 15)) k).1.set 2 (moK E (rsS E (ar 2) rd (rsH (rd.getD 0 0 &&& 15)) k).2.2.2 3)).set 3 (if sc 9 = 0 then nI 0 else nI 8)).length = (rsS E (ar 2) rd (rsH (rd.getD 0 0 &&& 15)) k).1.length := by rw [List.length_set, List.length_set]
    have hg0 : g1 0 = (((rsS E (ar 2) rd (rsH (rd.getD 0 0 &&& 15)) k).1.set 2 (moK E (rsS E (ar 2) rd (rsH (rd.getD 0 0 &&& 15)) k).2.2.2 3)).set 3 (if sc 9 = 0 then nI 0 else nI 8)).getD 0 0 := hg1 0 (by omega)
    refine lv_iload_n hx hb dX12_respond_118 rfl (lv_at hl 2 rfl) ?_
    refine lv_bipush (v := nI 16) hx hb dX12_respond_119 (by decide) ?_
    refine lv_icmp_ge (tgt := 145) hx hb dX12_respond_121 (by decide) (fun c_16 => ?_) (fun c_16 => ?_)
    · have c_16 : 16 ≤ ((rsS E (ar 2) rd (rsH (rd.getD 0 0 &&& 15)) k).2.1) := (nI_leI (a := 16) (b := ((rsS E (ar 2) rd (rsH (rd.getD 0 0 &&& 15)) k).2.1)) (by omega) (by omega)).mp c_16
      have eO : (rsO E (ar 2) rd (sc 9)) = ((((rsS E (ar 2) rd (rsH (rd.getD 0 0 &&& 15)) k).1.set 2 (moK E (rsS E (ar 2) rd (rsH (rd.getD 0 0 &&& 15)) k).2.2.2 3)).set 3 (if sc 9 = 0 then nI 0 else nI 8))) := by rw [rsO, eE]; dsimp only; rw [if_neg (by omega)]
      refine lv_aload_n hx hb dX12_respond_145 rfl (lv_at hl 4 rfl) ?_
      refine lv_aload_n hx hb dX12_respond_146 rfl (lv_at hl 4 rfl) ?_
      refine r_get (u := (upd (upd sc 11 (nI 0)) 40 (nI ((rsS E (ar 2) rd (rsH (rd.getD 0 0 &&& 15)) k).1.length)), va_up (va_up ar 8 wa) 39 g1)) (v := .int (sc 9)) hx hb hts hin hown hB 9 (by decide) (hts (.fieldLink RX12 154 "PointReportsModel" "lost" "Z") (by decide +kernel)) rfl rfl dX12_respond_147 ?_
      refine g_cut (σ := Unit) 162 (fun _ H locs ls => gB G.1 (rT G) A s H locs (rWs G (upd (upd sc 11 (nI 0)) 40 (nI ((rsS E (ar 2) rd (rsH (rd.getD 0 0 &&& 15)) k).1.length)), va_up (va_up ar 8 wa) 39 g1)) ∧ lv_has ls 5 [(4, .int (nI (3 * k + 2))), (3, .int (nI ((rsS E (ar 2) rd (rsH (rd.getD 0 0 &&& 15)) k).2.2.1))), (2, .int (nI ((rsS E (ar 2) rd (rsH (rd.getD 0 0 &&& 15)) k).2.1))), (1, .int (nI (rd.getD 0 0 &&& 15))), (0, .ref G.2.1)]) (fun _ => [.int (if sc 9 = 0 then nI 0 else if (rsS E (ar 2) rd (rsH (rd.getD 0 0 &&& 15)) k).2.2.1 = 0 then nI 1 else nI 0), .ref G.2.1]) ?_ (fun cut => ?_)
      rotate_left
      · refine lv_if_eq (tgt := 161) hx hb dX12_respond_150 (by decide) (fun c_17 => ?_) (fun c_17 => ?_)
        · have c_17 := c_17
          refine lv_iconst (v := nI 0) hx hb dX12_respond_161 (by decide) ?_
          refine g_top (y := if sc 9 = 0 then nI 0 else if (rsS E (ar 2) rd (rsH (rd.getD 0 0 &&& 15)) k).2.2.1 = 0 then nI 1 else nI 0) (by rw [if_pos c_17]) ?_
          exact cut () H locs ls ⟨hB, hl⟩
        · have c_17 := c_17
          refine lv_iload_n hx hb dX12_respond_153 rfl (lv_at hl 1 rfl) ?_
          refine lv_if_ne (tgt := 161) hx hb dX12_respond_154 (by decide) (fun c_18 => ?_) (fun c_18 => ?_)
          · have c_18 : ¬ ((rsS E (ar 2) rd (rsH (rd.getD 0 0 &&& 15)) k).2.2.1) = 0 := fun h9 => c_18 ((nI_eq (a := ((rsS E (ar 2) rd (rsH (rd.getD 0 0 &&& 15)) k).2.2.1)) (b := 0) (by omega) (by omega)).mpr h9)
            refine lv_iconst (v := nI 0) hx hb dX12_respond_161 (by decide) ?_
            refine g_top (y := if sc 9 = 0 then nI 0 else if (rsS E (ar 2) rd (rsH (rd.getD 0 0 &&& 15)) k).2.2.1 = 0 then nI 1 else nI 0) (by rw [if_neg c_17, if_neg c_18]) ?_
            exact cut () H locs ls ⟨hB, hl⟩
          · have c_18 : ((rsS E (ar 2) rd (rsH (rd.getD 0 0 &&& 15)) k).2.2.1) = 0 := (nI_eq (a := ((rsS E (ar 2) rd (rsH (rd.getD 0 0 &&& 15)) k).2.2.1)) (b := 0) (by omega) (by omega)).mp c_18
            refine lv_iconst (v := nI 1) hx hb dX12_respond_157 (by decide) ?_
            refine lv_goto (tgt := 162) hx hb dX12_respond_158 (by decide) ?_
            refine g_top (y := if sc 9 = 0 then nI 0 else if (rsS E (ar 2) rd (rsH (rd.getD 0 0 &&& 15)) k).2.2.1 = 0 then nI 1 else nI 0) (by rw [if_neg c_17, if_pos c_18]) ?_
            exact cut () H locs ls ⟨hB, hl⟩
      rintro - H locs ls ⟨hB, hl⟩
      refine r_put (u := (upd (upd sc 11 (nI 0)) 40 (nI ((rsS E (ar 2) rd (rsH (rd.getD 0 0 &&& 15)) k).1.length)), va_up (va_up ar 8 wa) 39 g1)) (v := if sc 9 = 0 then nI 0 else if (rsS E (ar 2) rd (rsH (rd.getD 0 0 &&& 15)) k).2.2.1 = 0 then nI 1 else nI 0) (upd (upd (upd sc 9 (if sc 9 = 0 then nI 0 else if (rsS E (ar 2) rd (rsH (rd.getD 0 0 &&& 15)) k).2.2.1 = 0 then nI 1 else nI 0)) 11 (nI 0)) 40 (nI ((rsS E (ar 2) rd (rsH (rd.getD 0 0 &&& 15)) k).1.length))) hx hb hts hin hown hB 9 (by decide) (hts (.fieldLink RX12 154 "PointReportsModel" "lost" "Z") (by decide +kernel)) rfl (ty := .boolean) rfl rfl (narrow_z (by split; exact Or.inl rfl; split; exact Or.inr rfl; exact Or.inl rfl)) (fits_z (by split; exact Or.inl rfl; split; exact Or.inr rfl; exact Or.inl rfl)) rfl dX12_respond_162 (fun H locs hB => ?_)
      refine lv_aload_n hx hb dX12_respond_165 rfl (lv_at hl 4 rfl) ?_
      refine lv_iconst (v := nI 0) hx hb dX12_respond_166 (by decide) ?_
      have lO : (rsO E (ar 2) rd (sc 9)).length = (rsS E (ar 2) rd (rsH (rd.getD 0 0 &&& 15)) k).1.length := by rw [eO, l4]
      refine g_callv (av := [.int (nI 0)]) (rest := []) ⟨hx, hb, hml, hown, hts⟩ (c_send l G (upd (upd (upd sc 9 (if sc 9 = 0 then nI 0 else if (rsS E (ar 2) rd (rsH (rd.getD 0 0 &&& 15)) k).2.2.1 = 0 then nI 1 else nI 0)) 11 (nI 0)) 40 (nI ((rsS E (ar 2) rd (rsH (rd.getD 0 0 &&& 15)) k).1.length))) (va_up (va_up ar 8 wa) 39 g1) 0 (by decide) (rsO E (ar 2) rd (sc 9)) (by rw [eO]; exact hg1) (by rw [lO]; rfl) (by omega) L hR h30 hL q hq hq64) (cwV 1 hts gX12_respond_X12_send rfl rfl rfl (by decide +kernel) ⟨Nat.le_of_ble_eq_true rfl, Nat.le_of_ble_eq_true rfl⟩) hB (q0 := 0) (ci := 9) rfl rfl rfl rfl hl.1 rfl (Nat.le_of_ble_eq_true rfl) dX12_respond_167 ⟨Nat.le_of_ble_eq_true rfl, Nat.le_of_ble_eq_true rfl⟩ (fun u H locs hw hB => ?_)
      obtain ⟨fr, le, si, nu, hs1, hs2, hs3, hs4, hs5, rfl⟩ := hw
      have hB : gB G.1 (rT G) A s H locs (rWs G (upd (upd (upd (upd sc 9 (if sc 9 = 0 then nI 0 else if (rsS E (ar 2) rd (rsH (rd.getD 0 0 &&& 15)) k).2.2.1 = 0 then nI 1 else nI 0)) 11 (nI 0)) 30 (nI ((sndF 0 (rsO E (ar 2) rd (sc 9)) L q).1.length))) 40 (nI ((rsS E (ar 2) rd (rsH (rd.getD 0 0 &&& 15)) k).1.length)), va_up (va_up (va_up (va_up (va_up (va_up ar 8 wa) 31 fr) 32 le) 33 si) 34 nu) 39 g1)) := hB
      have hB : gB G.1 (rT G) A s H locs (rWs G (upd (upd (upd (upd (upd sc 9 (if sc 9 = 0 then nI 0 else if (rsE E (ar 2) rd).2.2.1 = 0 then nI 1 else nI 0)) 11 (if (rsE E (ar 2) rd).2.1 < 16 then nI 1 else nI 0)) 12 (if (rsE E (ar 2) rd).2.1 < 16 then nI (rd.getD 0 0 &&& 15) else sc 12)) 30 (nI (sndF 0 (rsO E (ar 2) rd (sc 9)) L q).1.length)) 40 (nI (rsO E (ar 2) rd (sc 9)).length), va_up (va_up (va_up (va_up (va_up (va_up ar 8 wa) 31 fr) 32 le) 33 si) 34 nu) 39 g1)) := by rw [eE, lO, if_neg (show ¬ (rsS E (ar 2) rd (rsH (rd.getD 0 0 &&& 15)) k).2.1 < 16 by omega), if_neg (show ¬ (rsS E (ar 2) rd (rsH (rd.getD 0 0 &&& 15)) k).2.1 < 16 by omega)]; exact hB
      exact g_vret (Wd := rWs G) (upd (upd (upd (upd (upd sc 9 (if sc 9 = 0 then nI 0 else if (rsE E (ar 2) rd).2.2.1 = 0 then nI 1 else nI 0)) 11 (if (rsE E (ar 2) rd).2.1 < 16 then nI 1 else nI 0)) 12 (if (rsE E (ar 2) rd).2.1 < 16 then nI (rd.getD 0 0 &&& 15) else sc 12)) 30 (nI (sndF 0 (rsO E (ar 2) rd (sc 9)) L q).1.length)) 40 (nI (rsO E (ar 2) rd (sc 9)).length), va_up (va_up (va_up (va_up (va_up (va_up ar 8 wa) 31 fr) 32 le) 33 si) 34 nu) 39 g1) hB hx hb hr hlocks rfl ⟨_, wa, fr, le, si, nu, by rw [eE]; exact hw, hs1, hs2, hs3, hs4, hs5, rfl⟩ dX12_respond_170
    · have c_16 : ¬ 16 ≤ ((rsS E (ar 2) rd (rsH (rd.getD 0 0 &&& 15)) k).2.1) := fun h9 => c_16 ((nI_leI (a := 16) (b := ((rsS E (ar 2) rd (rsH (rd.getD 0 0 &&& 15)) k).2.1)) (by omega) (by omega)).mpr h9)
      refine lv_aload_n hx hb dX12_respond_124 rfl (lv_at hl 4 rfl) ?_
      refine r_get (u := (upd (upd sc 11 (nI 0)) 40 (nI ((rsS E (ar 2) rd (rsH (rd.getD 0 0 &&& 15)) k).1.length)), va_up (va_up ar 8 wa) 39 g1)) (v := .ref (G.2.2.1 39)) hx hb hts hin hown hB 39 (by decide) (hts (.fieldLink RX12 75 "PointReportsModel" "made" "[I") (by decide +kernel)) rfl rfl dX12_respond_125 ?_
      refine lv_iconst (v := nI 0) hx hb dX12_respond_128 (by decide) ?_
      refine lv_dup2_11 hx hb dX12_respond_129 rfl rfl ?_
      refine r_ald (u := (upd (upd sc 11 (nI 0)) 40 (nI ((rsS E (ar 2) rd (rsH (rd.getD 0 0 &&& 15)) k).1.length)), va_up (va_up ar 8 wa) 39 g1)) (f := g1) hx hb hB 21 rfl 0 rfl (by omega) (by decide) dX12_respond_130 ?_
      refine g_top (y := (((rsS E (ar 2) rd (rsH (rd.getD 0 0 &&& 15)) k).1.set 2 (moK E (rsS E (ar 2) rd (rsH (rd.getD 0 0 &&& 15)) k).2.2.2 3)).set 3 (if sc 9 = 0 then nI 0 else nI 8)).getD 0 0) hg0 ?_
      refine lv_bipush (v := nI 32) hx hb dX12_respond_131 (by decide) ?_
      refine lv_iadd hx hb dX12_respond_133 ?_
      refine r_ast (u := (upd (upd sc 11 (nI 0)) 40 (nI ((rsS E (ar 2) rd (rsH (rd.getD 0 0 &&& 15)) k).1.length)), va_up (va_up ar 8 wa) 39 g1)) (f := g1) (x := ((((rsS E (ar 2) rd (rsH (rd.getD 0 0 &&& 15)) k).1.set 2 (moK E (rsS E (ar 2) rd (rsH (rd.getD 0 0 &&& 15)) k).2.2.2 3)).set 3 (if sc 9 = 0 then nI 0 else nI 8)).getD 0 0) + (nI 32)) (va_up (va_up ar 8 wa) 39 (upd g1 0 (((((rsS E (ar 2) rd (rsH (rd.getD 0 0 &&& 15)) k).1.set 2 (moK E (rsS E (ar 2) rd (rsH (rd.getD 0 0 &&& 15)) k).2.2.2 3)).set 3 (if sc 9 = 0 then nI 0 else nI 8)).getD 0 0) + (nI 32)))) hx hb hB 21 rfl 0 rfl (by omega) (by decide) rfl dX12_respond_134 (fun H locs hB => ?_)
      have hg2 := pfx_set (x := (((rsS E (ar 2) rd (rsH (rd.getD 0 0 &&& 15)) k).1.set 2 (moK E (rsS E (ar 2) rd (rsH (rd.getD 0 0 &&& 15)) k).2.2.2 3)).set 3 (if sc 9 = 0 then nI 0 else nI 8)).getD 0 0 + nI 32) hg1 (show 0 < (((rsS E (ar 2) rd (rsH (rd.getD 0 0 &&& 15)) k).1.set 2 (moK E (rsS E (ar 2) rd (rsH (rd.getD 0 0 &&& 15)) k).2.2.2 3)).set 3 (if sc 9 = 0 then nI 0 else nI 8)).length by omega)
      have eO : (rsO E (ar 2) rd (sc 9)) = ((((rsS E (ar 2) rd (rsH (rd.getD 0 0 &&& 15)) k).1.set 2 (moK E (rsS E (ar 2) rd (rsH (rd.getD 0 0 &&& 15)) k).2.2.2 3)).set 3 (if sc 9 = 0 then nI 0 else nI 8)).set 0 ((((rsS E (ar 2) rd (rsH (rd.getD 0 0 &&& 15)) k).1.set 2 (moK E (rsS E (ar 2) rd (rsH (rd.getD 0 0 &&& 15)) k).2.2.2 3)).set 3 (if sc 9 = 0 then nI 0 else nI 8)).getD 0 0 + nI 32)) := by rw [rsO, eE]; dsimp only; rw [if_pos (by omega)]
      refine lv_aload_n hx hb dX12_respond_135 rfl (lv_at hl 4 rfl) ?_
      refine lv_iconst (v := nI 1) hx hb dX12_respond_136 (by decide) ?_
      refine r_put (u := (upd (upd sc 11 (nI 0)) 40 (nI ((rsS E (ar 2) rd (rsH (rd.getD 0 0 &&& 15)) k).1.length)), va_up (va_up ar 8 wa) 39 (upd g1 0 (((((rsS E (ar 2) rd (rsH (rd.getD 0 0 &&& 15)) k).1.set 2 (moK E (rsS E (ar 2) rd (rsH (rd.getD 0 0 &&& 15)) k).2.2.2 3)).set 3 (if sc 9 = 0 then nI 0 else nI 8)).getD 0 0) + (nI 32))))) (v := nI 1) (upd (upd sc 11 (nI 1)) 40 (nI ((rsS E (ar 2) rd (rsH (rd.getD 0 0 &&& 15)) k).1.length))) hx hb hts hin hown hB 11 (by decide) (hts (.fieldLink RX12 147 "PointReportsModel" "waiting" "I") (by decide +kernel)) rfl (ty := .int) rfl rfl rfl rfl rfl dX12_respond_137 (fun H locs hB => ?_)
      refine lv_aload_n hx hb dX12_respond_140 rfl (lv_at hl 4 rfl) ?_
      refine lv_iload_n hx hb dX12_respond_141 rfl (lv_at hl 3 rfl) ?_
      refine r_put (u := (upd (upd sc 11 (nI 1)) 40 (nI ((rsS E (ar 2) rd (rsH (rd.getD 0 0 &&& 15)) k).1.length)), va_up (va_up ar 8 wa) 39 (upd g1 0 (((((rsS E (ar 2) rd (rsH (rd.getD 0 0 &&& 15)) k).1.set 2 (moK E (rsS E (ar 2) rd (rsH (rd.getD 0 0 &&& 15)) k).2.2.2 3)).set 3 (if sc 9 = 0 then nI 0 else nI 8)).getD 0 0) + (nI 32))))) (v := nI (rd.getD 0 0 &&& 15)) (upd (upd (upd sc 11 (nI 1)) 12 (nI (rd.getD 0 0 &&& 15))) 40 (nI ((rsS E (ar 2) rd (rsH (rd.getD 0 0 &&& 15)) k).1.length))) hx hb hts hin hown hB 12 (by decide) (hts (.fieldLink RX12 175 "PointReportsModel" "waitingSeq" "I") (by decide +kernel)) rfl (ty := .int) rfl rfl rfl rfl rfl dX12_respond_142 (fun H locs hB => ?_)
      refine lv_aload_n hx hb dX12_respond_145 rfl (lv_at hl 4 rfl) ?_
      refine lv_aload_n hx hb dX12_respond_146 rfl (lv_at hl 4 rfl) ?_
      refine r_get (u := (upd (upd (upd sc 11 (nI 1)) 12 (nI (rd.getD 0 0 &&& 15))) 40 (nI ((rsS E (ar 2) rd (rsH (rd.getD 0 0 &&& 15)) k).1.length)), va_up (va_up ar 8 wa) 39 (upd g1 0 (((((rsS E (ar 2) rd (rsH (rd.getD 0 0 &&& 15)) k).1.set 2 (moK E (rsS E (ar 2) rd (rsH (rd.getD 0 0 &&& 15)) k).2.2.2 3)).set 3 (if sc 9 = 0 then nI 0 else nI 8)).getD 0 0) + (nI 32))))) (v := .int (sc 9)) hx hb hts hin hown hB 9 (by decide) (hts (.fieldLink RX12 154 "PointReportsModel" "lost" "Z") (by decide +kernel)) rfl rfl dX12_respond_147 ?_
      refine g_cut (σ := Unit) 162 (fun _ H locs ls => gB G.1 (rT G) A s H locs (rWs G (upd (upd (upd sc 11 (nI 1)) 12 (nI (rd.getD 0 0 &&& 15))) 40 (nI ((rsS E (ar 2) rd (rsH (rd.getD 0 0 &&& 15)) k).1.length)), va_up (va_up ar 8 wa) 39 (upd g1 0 (((((rsS E (ar 2) rd (rsH (rd.getD 0 0 &&& 15)) k).1.set 2 (moK E (rsS E (ar 2) rd (rsH (rd.getD 0 0 &&& 15)) k).2.2.2 3)).set 3 (if sc 9 = 0 then nI 0 else nI 8)).getD 0 0) + (nI 32))))) ∧ lv_has ls 5 [(4, .int (nI (3 * k + 2))), (3, .int (nI ((rsS E (ar 2) rd (rsH (rd.getD 0 0 &&& 15)) k).2.2.1))), (2, .int (nI ((rsS E (ar 2) rd (rsH (rd.getD 0 0 &&& 15)) k).2.1))), (1, .int (nI (rd.getD 0 0 &&& 15))), (0, .ref G.2.1)]) (fun _ => [.int (if sc 9 = 0 then nI 0 else if (rsS E (ar 2) rd (rsH (rd.getD 0 0 &&& 15)) k).2.2.1 = 0 then nI 1 else nI 0), .ref G.2.1]) ?_ (fun cut => ?_)
      rotate_left
      · refine lv_if_eq (tgt := 161) hx hb dX12_respond_150 (by decide) (fun c_19 => ?_) (fun c_19 => ?_)
        · have c_19 := c_19
          refine lv_iconst (v := nI 0) hx hb dX12_respond_161 (by decide) ?_
          refine g_top (y := if sc 9 = 0 then nI 0 else if (rsS E (ar 2) rd (rsH (rd.getD 0 0 &&& 15)) k).2.2.1 = 0 then nI 1 else nI 0) (by rw [if_pos c_19]) ?_
          exact cut () H locs ls ⟨hB, hl⟩
        · have c_19 := c_19
          refine lv_iload_n hx hb dX12_respond_153 rfl (lv_at hl 1 rfl) ?_
          refine lv_if_ne (tgt := 161) hx hb dX12_respond_154 (by decide) (fun c_20 => ?_) (fun c_20 => ?_)
          · have c_20 : ¬ ((rsS E (ar 2) rd (rsH (rd.getD 0 0 &&& 15)) k).2.2.1) = 0 := fun h9 => c_20 ((nI_eq (a := ((rsS E (ar 2) rd (rsH (rd.getD 0 0 &&& 15)) k).2.2.1)) (b := 0) (by omega) (by omega)).mpr h9)
            refine lv_iconst (v := nI 0) hx hb dX12_respond_161 (by decide) ?_
            refine g_top (y := if sc 9 = 0 then nI 0 else if (rsS E (ar 2) rd (rsH (rd.getD 0 0 &&& 15)) k).2.2.1 = 0 then nI 1 else nI 0) (by rw [if_neg c_19, if_neg c_20]) ?_
            exact cut () H locs ls ⟨hB, hl⟩
          · have c_20 : ((rsS E (ar 2) rd (rsH (rd.getD 0 0 &&& 15)) k).2.2.1) = 0 := (nI_eq (a := ((rsS E (ar 2) rd (rsH (rd.getD 0 0 &&& 15)) k).2.2.1)) (b := 0) (by omega) (by omega)).mp c_20
            refine lv_iconst (v := nI 1) hx hb dX12_respond_157 (by decide) ?_
            refine lv_goto (tgt := 162) hx hb dX12_respond_158 (by decide) ?_
            refine g_top (y := if sc 9 = 0 then nI 0 else if (rsS E (ar 2) rd (rsH (rd.getD 0 0 &&& 15)) k).2.2.1 = 0 then nI 1 else nI 0) (by rw [if_neg c_19, if_pos c_20]) ?_
            exact cut () H locs ls ⟨hB, hl⟩
      rintro - H locs ls ⟨hB, hl⟩
      refine r_put (u := (upd (upd (upd sc 11 (nI 1)) 12 (nI (rd.getD 0 0 &&& 15))) 40 (nI ((rsS E (ar 2) rd (rsH (rd.getD 0 0 &&& 15)) k).1.length)), va_up (va_up ar 8 wa) 39 (upd g1 0 (((((rsS E (ar 2) rd (rsH (rd.getD 0 0 &&& 15)) k).1.set 2 (moK E (rsS E (ar 2) rd (rsH (rd.getD 0 0 &&& 15)) k).2.2.2 3)).set 3 (if sc 9 = 0 then nI 0 else nI 8)).getD 0 0) + (nI 32))))) (v := if sc 9 = 0 then nI 0 else if (rsS E (ar 2) rd (rsH (rd.getD 0 0 &&& 15)) k).2.2.1 = 0 then nI 1 else nI 0) (upd (upd (upd (upd sc 9 (if sc 9 = 0 then nI 0 else if (rsS E (ar 2) rd (rsH (rd.getD 0 0 &&& 15)) k).2.2.1 = 0 then nI 1 else nI 0)) 11 (nI 1)) 12 (nI (rd.getD 0 0 &&& 15))) 40 (nI ((rsS E (ar 2) rd (rsH (rd.getD 0 0 &&& 15)) k).1.length))) hx hb hts hin hown hB 9 (by decide) (hts (.fieldLink RX12 154 "PointReportsModel" "lost" "Z") (by decide +kernel)) rfl (ty := .boolean) rfl rfl (narrow_z (by split; exact Or.inl rfl; split; exact Or.inr rfl; exact Or.inl rfl)) (fits_z (by split; exact Or.inl rfl; split; exact Or.inr rfl; exact Or.inl rfl)) rfl dX12_respond_162 (fun H locs hB => ?_)
      refine lv_aload_n hx hb dX12_respond_165 rfl (lv_at hl 4 rfl) ?_
      refine lv_iconst (v := nI 0) hx hb dX12_respond_166 (by decide) ?_
      have lO : (rsO E (ar 2) rd (sc 9)).length = (rsS E (ar 2) rd (rsH (rd.getD 0 0 &&& 15)) k).1.length := by rw [eO, List.length_set, l4]
      refine g_callv (av := [.int (nI 0)]) (rest := []) ⟨hx, hb, hml, hown, hts⟩ (c_send l G (upd (upd (upd (upd sc 9 (if sc 9 = 0 then nI 0 else if (rsS E (ar 2) rd (rsH (rd.getD 0 0 &&& 15)) k).2.2.1 = 0 then nI 1 else nI 0)) 11 (nI 1)) 12 (nI (rd.getD 0 0 &&& 15))) 40 (nI ((rsS E (ar 2) rd (rsH (rd.getD 0 0 &&& 15)) k).1.length))) (va_up (va_up ar 8 wa) 39 (upd g1 0 (((((rsS E (ar 2) rd (rsH (rd.getD 0 0 &&& 15)) k).1.set 2 (moK E (rsS E (ar 2) rd (rsH (rd.getD 0 0 &&& 15)) k).2.2.2 3)).set 3 (if sc 9 = 0 then nI 0 else nI 8)).getD 0 0) + (nI 32)))) 0 (by decide) (rsO E (ar 2) rd (sc 9)) (by rw [eO]; exact hg2) (by rw [lO]; rfl) (by omega) L hR h30 hL q hq hq64) (cwV 1 hts gX12_respond_X12_send rfl rfl rfl (by decide +kernel) ⟨Nat.le_of_ble_eq_true rfl, Nat.le_of_ble_eq_true rfl⟩) hB (q0 := 0) (ci := 9) rfl rfl rfl rfl hl.1 rfl (Nat.le_of_ble_eq_true rfl) dX12_respond_167 ⟨Nat.le_of_ble_eq_true rfl, Nat.le_of_ble_eq_true rfl⟩ (fun u H locs hw hB => ?_)
      obtain ⟨fr, le, si, nu, hs1, hs2, hs3, hs4, hs5, rfl⟩ := hw
      have hB : gB G.1 (rT G) A s H locs (rWs G (upd (upd (upd (upd (upd sc 9 (if sc 9 = 0 then nI 0 else if (rsS E (ar 2) rd (rsH (rd.getD 0 0 &&& 15)) k).2.2.1 = 0 then nI 1 else nI 0)) 11 (nI 1)) 12 (nI (rd.getD 0 0 &&& 15))) 30 (nI ((sndF 0 (rsO E (ar 2) rd (sc 9)) L q).1.length))) 40 (nI ((rsS E (ar 2) rd (rsH (rd.getD 0 0 &&& 15)) k).1.length)), va_up (va_up (va_up (va_up (va_up (va_up ar 8 wa) 31 fr) 32 le) 33 si) 34 nu) 39 (upd g1 0 (((((rsS E (ar 2) rd (rsH (rd.getD 0 0 &&& 15)) k).1.set 2 (moK E (rsS E (ar 2) rd (rsH (rd.getD 0 0 &&& 15)) k).2.2.2 3)).set 3 (if sc 9 = 0 then nI 0 else nI 8)).getD 0 0) + (nI 32))))) := hB
      have hB : gB G.1 (rT G) A s H locs (rWs G (upd (upd (upd (upd (upd sc 9 (if sc 9 = 0 then nI 0 else if (rsE E (ar 2) rd).2.2.1 = 0 then nI 1 else nI 0)) 11 (if (rsE E (ar 2) rd).2.1 < 16 then nI 1 else nI 0)) 12 (if (rsE E (ar 2) rd).2.1 < 16 then nI (rd.getD 0 0 &&& 15) else sc 12)) 30 (nI (sndF 0 (rsO E (ar 2) rd (sc 9)) L q).1.length)) 40 (nI (rsO E (ar 2) rd (sc 9)).length), va_up (va_up (va_up (va_up (va_up (va_up ar 8 wa) 31 fr) 32 le) 33 si) 34 nu) 39 (upd g1 0 (((((rsS E (ar 2) rd (rsH (rd.getD 0 0 &&& 15)) k).1.set 2 (moK E (rsS E (ar 2) rd (rsH (rd.getD 0 0 &&& 15)) k).2.2.2 3)).set 3 (if sc 9 = 0 then nI 0 else nI 8)).getD 0 0) + (nI 32))))) := by rw [eE, lO, if_pos (show (rsS E (ar 2) rd (rsH (rd.getD 0 0 &&& 15)) k).2.1 < 16 by omega), if_pos (show (rsS E (ar 2) rd (rsH (rd.getD 0 0 &&& 15)) k).2.1 < 16 by omega)]; exact hB
      exact g_vret (Wd := rWs G) (upd (upd (upd (upd (upd sc 9 (if sc 9 = 0 then nI 0 else if (rsE E (ar 2) rd).2.2.1 = 0 then nI 1 else nI 0)) 11 (if (rsE E (ar 2) rd).2.1 < 16 then nI 1 else nI 0)) 12 (if (rsE E (ar 2) rd).2.1 < 16 then nI (rd.getD 0 0 &&& 15) else sc 12)) 30 (nI (sndF 0 (rsO E (ar 2) rd (sc 9)) L q).1.length)) 40 (nI (rsO E (ar 2) rd (sc 9)).length), va_up (va_up (va_up (va_up (va_up (va_up ar 8 wa) 31 fr) 32 le) 33 si) 34 nu) 39 (upd g1 0 (((((rsS E (ar 2) rd (rsH (rd.getD 0 0 &&& 15)) k).1.set 2 (moK E (rsS E (ar 2) rd (rsH (rd.getD 0 0 &&& 15)) k).2.2.2 3)).set 3 (if sc 9 = 0 then nI 0 else nI 8)).getD 0 0) + (nI 32)))) hB hx hb hr hlocks rfl ⟨_, wa, fr, le, si, nu, by rw [eE]; exact hw, hs1, hs2, hs3, hs4, hs5, rfl⟩ dX12_respond_170
  · have c_2 : ¬ rd.length ≤ (3 * k + 2) := fun h9 => c_2 ((nI_leI (a := rd.length) (b := (3 * k + 2)) (by omega) (by omega)).mpr h9)
    obtain ⟨v1, v4⟩ := rqF_at n3 i6 k (by omega)
    have fl := fsF_le rd (rd.getD (3 * k + 3) 0) k
    refine lv_aload_n hx hb dX12_respond_49 rfl (lv_at hl 4 rfl) ?_
    refine lv_iload hx hb dX12_respond_50 (lv_at hl 0 rfl) ?_
    refine g_calli (av := [.int (nI (3 * k + 2))]) (rest := []) ⟨hx, hb, hml, hown, hts⟩ (c_isNew l G (upd (upd sc 11 (nI 0)) 40 (nI ((rsS E (ar 2) rd (rsH (rd.getD 0 0 &&& 15)) k).1.length))) (va_up (va_up ar 8 wa) 39 f) rd hrd h42 hr4 k (by omega)) (cwV 1 hts gX12_respond_X12_isNew rfl rfl rfl (by decide +kernel) ⟨Nat.le_of_ble_eq_true rfl, Nat.le_of_ble_eq_true rfl⟩) hB (q0 := 0) (ci := 9) rfl rfl rfl rfl hl.1 rfl (Nat.le_of_ble_eq_true rfl) dX12_respond_52 ⟨Nat.le_of_ble_eq_true rfl, Nat.le_of_ble_eq_true rfl⟩ (fun r9 u H locs hw hB => ?_)
    obtain ⟨rfl, rfl⟩ := hw
    have hB : gB G.1 (rT G) A s H locs (rWs G (upd (upd sc 11 (nI 0)) 40 (nI ((rsS E (ar 2) rd (rsH (rd.getD 0 0 &&& 15)) k).1.length)), va_up (va_up ar 8 wa) 39 f)) := hB
    refine lv_if_eq (tgt := 80) hx hb dX12_respond_55 (by decide) (fun c_3 => ?_) (fun c_3 => ?_)
    · have c_3 : (fsF rd (rd.getD (3 * k + 3) 0) k) = 0 := (nI_eq (a := (fsF rd (rd.getD (3 * k + 3) 0) k)) (b := 0) (by omega) (by omega)).mp c_3
      refine lv_aload_n hx hb dX12_respond_80 rfl (lv_at hl 4 rfl) ?_
      refine lv_iload hx hb dX12_respond_81 (lv_at hl 0 rfl) ?_
      refine g_calli (av := [.int (nI (3 * k + 2))]) (rest := []) ⟨hx, hb, hml, hown, hts⟩ (c_isNew l G (upd (upd sc 11 (nI 0)) 40 (nI ((rsS E (ar 2) rd (rsH (rd.getD 0 0 &&& 15)) k).1.length))) (va_up (va_up ar 8 wa) 39 f) rd hrd h42 hr4 k (by omega)) (cwV 1 hts gX12_respond_X12_isNew rfl rfl rfl (by decide +kernel) ⟨Nat.le_of_ble_eq_true rfl, Nat.le_of_ble_eq_true rfl⟩) hB (q0 := 0) (ci := 9) rfl rfl rfl rfl hl.1 rfl (Nat.le_of_ble_eq_true rfl) dX12_respond_83 ⟨Nat.le_of_ble_eq_true rfl, Nat.le_of_ble_eq_true rfl⟩ (fun r9 u H locs hw hB => ?_)
      obtain ⟨rfl, rfl⟩ := hw
      have hB : gB G.1 (rT G) A s H locs (rWs G (upd (upd sc 11 (nI 0)) 40 (nI ((rsS E (ar 2) rd (rsH (rd.getD 0 0 &&& 15)) k).1.length)), va_up (va_up ar 8 wa) 39 f)) := hB
      refine lv_if_eq (tgt := 108) hx hb dX12_respond_86 (by decide) (fun c_4 => ?_) (fun c_4 => ?_)
      · have c_4 : (fsF rd (rd.getD (3 * k + 3) 0) k) = 0 := (nI_eq (a := (fsF rd (rd.getD (3 * k + 3) 0) k)) (b := 0) (by omega) (by omega)).mp c_4
        have eN : (rsS E (ar 2) rd (rsH (rd.getD 0 0 &&& 15)) (k + 1)) = (rsS E (ar 2) rd (rsH (rd.getD 0 0 &&& 15)) k) := by rw [rsS, if_neg (by omega)]
        refine lv_iinc (v := nI (3 * k + 2 + 3)) (lv' := [(4, .int (nI (3 * k + 2 + 3))), (3, .int (nI ((rsS E (ar 2) rd (rsH (rd.getD 0 0 &&& 15)) k).2.2.1))), (2, .int (nI ((rsS E (ar 2) rd (rsH (rd.getD 0 0 &&& 15)) k).2.1))), (1, .int (nI (rd.getD 0 0 &&& 15))), (0, .ref G.2.1)]) hx hb dX12_respond_108 hl (k := 0) rfl (nI_add _ _) (by decide) rfl (fun ls hl => ?_)
        refine lv_goto (tgt := 40) hx hb dX12_respond_111 (by decide) ?_
        rw [← eN] at hl hf hw
        have hB : gB G.1 (rT G) A s H locs (rWs G (upd (upd sc 11 (nI 0)) 40 (nI ((rsS E (ar 2) rd (rsH (rd.getD 0 0 &&& 15)) (k + 1)).1.length)), va_up (va_up ar 8 wa) 39 f)) := by rw [← eN] at hB; exact hB
        have hl : lv_has ls 5 [(4, .int (nI (3 * (k + 1) + 2))), (3, .int (nI ((rsS E (ar 2) rd (rsH (rd.getD 0 0 &&& 15)) (k + 1)).2.2.1))), (2, .int (nI ((rsS E (ar 2) rd (rsH (rd.getD 0 0 &&& 15)) (k + 1)).2.1))), (1, .int (nI (rd.getD 0 0 &&& 15))), (0, .ref G.2.1)] := lv_sub hl [0, 1, 2, 3, 4] rfl
        have hB : gB G.1 (rT G) A s H locs (rWs G (upd (upd sc 11 (nI 0)) 40 (nI ((rsS E (ar 2) rd (rsH (rd.getD 0 0 &&& 15)) (k + 1)).1.length)), va_up (va_up ar 8 wa) 39 f)) := hB
        have b_5 : (k + 1) + (n3 - (k + 1)) = n3 := by omega
        have b_6 : pfx f (rsS E (ar 2) rd (rsH (rd.getD 0 0 &&& 15)) (k + 1)).1 := hf
        have b_7 : wtR wa E (rsS E (ar 2) rd (rsH (rd.getD 0 0 &&& 15)) (k + 1)).2.2.2 := hw
        exact ih_1 (n3 - (k + 1)) (k + 1, f, wa) H locs ls (by omega) ⟨b_5, b_6, b_7, hB, hl⟩
      · have c_4 : ¬ (fsF rd (rd.getD (3 * k + 3) 0) k) = 0 := fun h9 => c_4 ((nI_eq (a := (fsF rd (rd.getD (3 * k + 3) 0) k)) (b := 0) (by omega) (by omega)).mpr h9)
        exact absurd (show fsF rd (rd.getD (3 * k + 3) 0) k = 0 by omega) c_4
    · have c_3 : ¬ (fsF rd (rd.getD (3 * k + 3) 0) k) = 0 := fun h9 => c_3 ((nI_eq (a := (fsF rd (rd.getD (3 * k + 3) 0) k)) (b := 0) (by omega) (by omega)).mpr h9)
      refine lv_aload_n hx hb dX12_respond_58 rfl (lv_at hl 4 rfl) ?_
      refine r_get (u := (upd (upd sc 11 (nI 0)) 40 (nI ((rsS E (ar 2) rd (rsH (rd.getD 0 0 &&& 15)) k).1.length)), va_up (va_up ar 8 wa) 39 f)) (v := .ref (G.2.2.1 41)) hx hb hts hin hown hB 41 (by decide) (hts (.fieldLink RX12 78 "PointReportsModel" "read" "[I") (by decide +kernel)) rfl rfl dX12_respond_59 ?_
      refine lv_iload hx hb dX12_respond_62 (lv_at hl 0 rfl) ?_
      refine lv_iconst (v := nI 1) hx hb dX12_respond_64 (by decide) ?_
      refine lv_iadd hx hb dX12_respond_65 ?_
      refine g_top (y := nI ((3 * k + 2) + 1)) (nI_add _ _) ?_
      refine r_ald (u := (upd (upd sc 11 (nI 0)) 40 (nI ((rsS E (ar 2) rd (rsH (rd.getD 0 0 &&& 15)) k).1.length)), va_up (va_up ar 8 wa) 39 f)) (f := ar 41) hx hb hB 22 rfl ((3 * k + 2) + 1) rfl (by omega) (by decide) dX12_respond_66 ?_
      have q67 := hrd (3 * k + 3) (by omega)
      refine g_top (y := nI (rd.getD (3 * k + 3) 0)) q67.1 ?_
      have q67 := q67.2
      refine lv_iconst (v := nI 1) hx hb dX12_respond_67 (by decide) ?_
      refine lv_icmp_ne (tgt := 80) hx hb dX12_respond_68 (by decide) (fun c_8 => ?_) (fun c_8 => ?_)
      · have c_8 : ¬ (rd.getD (3 * k + 3) 0) = 1 := fun h9 => c_8 ((nI_eq (a := (rd.getD (3 * k + 3) 0)) (b := 1) (by omega) (by omega)).mpr h9)
        refine lv_aload_n hx hb dX12_respond_80 rfl (lv_at hl 4 rfl) ?_
        refine lv_iload hx hb dX12_respond_81 (lv_at hl 0 rfl) ?_
        refine g_calli (av := [.int (nI (3 * k + 2))]) (rest := []) ⟨hx, hb, hml, hown, hts⟩ (c_isNew l G (upd (upd sc 11 (nI 0)) 40 (nI ((rsS E (ar 2) rd (rsH (rd.getD 0 0 &&& 15)) k).1.length))) (va_up (va_up ar 8 wa) 39 f) rd hrd h42 hr4 k (by omega)) (cwV 1 hts gX12_respond_X12_isNew rfl rfl rfl (by decide +kernel) ⟨Nat.le_of_ble_eq_true rfl, Nat.le_of_ble_eq_true rfl⟩) hB (q0 := 0) (ci := 9) rfl rfl rfl rfl hl.1 rfl (Nat.le_of_ble_eq_true rfl) dX12_respond_83 ⟨Nat.le_of_ble_eq_true rfl, Nat.le_of_ble_eq_true rfl⟩ (fun r9 u H locs hw hB => ?_)
        obtain ⟨rfl, rfl⟩ := hw
        have hB : gB G.1 (rT G) A s H locs (rWs G (upd (upd sc 11 (nI 0)) 40 (nI ((rsS E (ar 2) rd (rsH (rd.getD 0 0 &&& 15)) k).1.length)), va_up (va_up ar 8 wa) 39 f)) := hB
        refine lv_if_eq (tgt := 108) hx hb dX12_respond_86 (by decide) (fun c_9 => ?_) (fun c_9 => ?_)
        · have c_9 : (fsF rd (rd.getD (3 * k + 3) 0) k) = 0 := (nI_eq (a := (fsF rd (rd.getD (3 * k + 3) 0) k)) (b := 0) (by omega) (by omega)).mp c_9
          exact absurd c_9 (by omega)
        · have c_9 : ¬ (fsF rd (rd.getD (3 * k + 3) 0) k) = 0 := fun h9 => c_9 ((nI_eq (a := (fsF rd (rd.getD (3 * k + 3) 0) k)) (b := 0) (by omega) (by omega)).mpr h9)
          refine lv_iload_n hx hb dX12_respond_89 rfl (lv_at hl 2 rfl) ?_
          refine lv_aload_n hx hb dX12_respond_90 rfl (lv_at hl 4 rfl) ?_
          refine lv_aload_n hx hb dX12_respond_91 rfl (lv_at hl 4 rfl) ?_
          refine r_get (u := (upd (upd sc 11 (nI 0)) 40 (nI ((rsS E (ar 2) rd (rsH (rd.getD 0 0 &&& 15)) k).1.length)), va_up (va_up ar 8 wa) 39 f)) (v := .ref (G.2.2.1 41)) hx hb hts hin hown hB 41 (by decide) (hts (.fieldLink RX12 78 "PointReportsModel" "read" "[I") (by decide +kernel)) rfl rfl dX12_respond_92 ?_
          refine lv_iload hx hb dX12_respond_95 (lv_at hl 0 rfl) ?_
          refine lv_iconst (v := nI 1) hx hb dX12_respond_97 (by decide) ?_
          refine lv_iadd hx hb dX12_respond_98 ?_
          refine g_top (y := nI ((3 * k + 2) + 1)) (nI_add _ _) ?_
          refine r_ald (u := (upd (upd sc 11 (nI 0)) 40 (nI ((rsS E (ar 2) rd (rsH (rd.getD 0 0 &&& 15)) k).1.length)), va_up (va_up ar 8 wa) 39 f)) (f := ar 41) hx hb hB 22 rfl ((3 * k + 2) + 1) rfl (by omega) (by decide) dX12_respond_99 ?_
          have q100 := hrd (3 * k + 3) (by omega)
          refine g_top (y := nI (rd.getD (3 * k + 3) 0)) q100.1 ?_
          have q100 := q100.2
          refine lv_iconst (v := nI 1) hx hb dX12_respond_100 (by decide) ?_
          refine lv_isub hx hb dX12_respond_101 ?_
          refine g_top (y := nI ((rd.getD (3 * k + 3) 0) - 1)) (pk_sub (by omega)) ?_
          refine lv_iload_n hx hb dX12_respond_102 rfl (lv_at hl 2 rfl) ?_
          have lE := (hE ((rd.getD (3 * k + 3) 0) - 1) (by omega) (by omega)).2.1
          have hm1 : (mnN (E ((rd.getD (3 * k + 3) 0) - 1)).length (rsS E (ar 2) rd (rsH (rd.getD 0 0 &&& 15)) k).2.1) ≤ (E ((rd.getD (3 * k + 3) 0) - 1)).length ∧ (mnN (E ((rd.getD (3 * k + 3) 0) - 1)).length (rsS E (ar 2) rd (rsH (rd.getD 0 0 &&& 15)) k).2.1) ≤ (rsS E (ar 2) rd (rsH (rd.getD 0 0 &&& 15)) k).2.1 := by unfold mnN; split <;> omega
          refine g_calli (av := [.int (nI ((rd.getD (3 * k + 3) 0) - 1)), .int (nI ((rsS E (ar 2) rd (rsH (rd.getD 0 0 &&& 15)) k).2.1))]) (rest := [.int (nI ((rsS E (ar 2) rd (rsH (rd.getD 0 0 &&& 15)) k).2.1))]) ⟨hx, hb, hml, hown, hts⟩ (c_putEvents l G (upd (upd sc 11 (nI 0)) 40 (nI ((rsS E (ar 2) rd (rsH (rd.getD 0 0 &&& 15)) k).1.length))) (va_up (va_up ar 8 wa) 39 f) ((rd.getD (3 * k + 3) 0) - 1) (E ((rd.getD (3 * k + 3) 0) - 1)).length (rsS E (ar 2) rd (rsH (rd.getD 0 0 &&& 15)) k).2.1 (by omega) (by omega) (hE ((rd.getD (3 * k + 3) 0) - 1) (by omega) (by omega)).1 lE z2 (rsS E (ar 2) rd (rsH (rd.getD 0 0 &&& 15)) k).1 hf rfl (by omega)) (cwV 2 hts gX12_respond_X12_putEvents rfl rfl rfl (by decide +kernel) ⟨Nat.le_of_ble_eq_true rfl, Nat.le_of_ble_eq_true rfl⟩) hB (q0 := 0) (ci := 9) rfl rfl rfl rfl hl.1 rfl (Nat.le_of_ble_eq_true rfl) dX12_respond_103 ⟨Nat.le_of_ble_eq_true rfl, Nat.le_of_ble_eq_true rfl⟩ (fun r9 u H locs hw hB => ?_)
          obtain ⟨rfl, g1, wb, hg1, hwb, rfl⟩ := hw
          have eG : grN (ar 5) (ar 6) (ar 7) ((rd.getD (3 * k + 3) 0) - 1) (if (E ((rd.getD (3 * k + 3) 0) - 1)).length < (rsS E (ar 2) rd (rsH (rd.getD 0 0 &&& 15)) k).2.1 then (E ((rd.getD (3 * k + 3) 0) - 1)).length else (rsS E (ar 2) rd (rsH (rd.getD 0 0 &&& 15)) k).2.1) = grS (E ((rd.getD (3 * k + 3) 0) - 1)) ((rd.getD (3 * k + 3) 0) - 1) (mnN (E ((rd.getD (3 * k + 3) 0) - 1)).length (rsS E (ar 2) rd (rsH (rd.getD 0 0 &&& 15)) k).2.1) := grN_S hE (by omega) (by omega) hm1.1
          have hg1 : pfx g1 ((rsS E (ar 2) rd (rsH (rd.getD 0 0 &&& 15)) k).1 ++ grS (E ((rd.getD (3 * k + 3) 0) - 1)) ((rd.getD (3 * k + 3) 0) - 1) (mnN (E ((rd.getD (3 * k + 3) 0) - 1)).length (rsS E (ar 2) rd (rsH (rd.getD 0 0 &&& 15)) k).2.1)) := by rw [← eG]; exact hg1
          have hB : gB G.1 (rT G) A s H locs (rWs G (upd (upd sc 11 (nI 0)) 40 (nI ((rsS E (ar 2) rd (rsH (rd.getD 0 0 &&& 15)) k).1 ++ grS (E ((rd.getD (3 * k + 3) 0) - 1)) ((rd.getD (3 * k + 3) 0) - 1) (mnN (E ((rd.getD (3 * k + 3) 0) - 1)).length (rsS E (ar 2) rd (rsH (rd.getD 0 0 &&& 15)) k).2.1)).length), va_up (va_up ar 8 wb) 39 g1)) := by rw [← eG]; exact hB
          refine lv_isub hx hb dX12_respond_106 ?_
          refine g_top (y := nI ((rsS E (ar 2) rd (rsH (rd.getD 0 0 &&& 15)) k).2.1 - (mnN (E ((rd.getD (3 * k + 3) 0) - 1)).length (rsS E (ar 2) rd (rsH (rd.getD 0 0 &&& 15)) k).2.1))) (pk_sub hm1.2) ?_
          have eN : (rsS E (ar 2) rd (rsH (rd.getD 0 0 &&& 15)) (k + 1)) = ((rsS E (ar 2) rd (rsH (rd.getD 0 0 &&& 15)) k).1 ++ grS (E ((rd.getD (3 * k + 3) 0) - 1)) ((rd.getD (3 * k + 3) 0) - 1) (mnN (E ((rd.getD (3 * k + 3) 0) - 1)).length (rsS E (ar 2) rd (rsH (rd.getD 0 0 &&& 15)) k).2.1), (rsS E (ar 2) rd (rsH (rd.getD 0 0 &&& 15)) k).2.1 - (mnN (E ((rd.getD (3 * k + 3) 0) - 1)).length (rsS E (ar 2) rd (rsH (rd.getD 0 0 &&& 15)) k).2.1), (rsS E (ar 2) rd (rsH (rd.getD 0 0 &&& 15)) k).2.2.1, va_up (rsS E (ar 2) rd (rsH (rd.getD 0 0 &&& 15)) k).2.2.2 ((rd.getD (3 * k + 3) 0) - 1) (max ((rsS E (ar 2) rd (rsH (rd.getD 0 0 &&& 15)) k).2.2.2 ((rd.getD (3 * k + 3) 0) - 1)) (mnN (E ((rd.getD (3 * k + 3) 0) - 1)).length (rsS E (ar 2) rd (rsH (rd.getD 0 0 &&& 15)) k).2.1))) := by rw [rsS, if_pos (by omega), if_neg (by omega)]
          have e1 : (rsS E (ar 2) rd (rsH (rd.getD 0 0 &&& 15)) (k + 1)).1 = (rsS E (ar 2) rd (rsH (rd.getD 0 0 &&& 15)) k).1 ++ grS (E ((rd.getD (3 * k + 3) 0) - 1)) ((rd.getD (3 * k + 3) 0) - 1) (mnN (E ((rd.getD (3 * k + 3) 0) - 1)).length (rsS E (ar 2) rd (rsH (rd.getD 0 0 &&& 15)) k).2.1) := by rw [eN]
          have e2 : (rsS E (ar 2) rd (rsH (rd.getD 0 0 &&& 15)) (k + 1)).2.1 = (rsS E (ar 2) rd (rsH (rd.getD 0 0 &&& 15)) k).2.1 - (mnN (E ((rd.getD (3 * k + 3) 0) - 1)).length (rsS E (ar 2) rd (rsH (rd.getD 0 0 &&& 15)) k).2.1) := by rw [eN]
          have e3 : (rsS E (ar 2) rd (rsH (rd.getD 0 0 &&& 15)) (k + 1)).2.2.1 = (rsS E (ar 2) rd (rsH (rd.getD 0 0 &&& 15)) k).2.2.1 := by rw [eN]
          have e4 : (rsS E (ar 2) rd (rsH (rd.getD 0 0 &&& 15)) (k + 1)).2.2.2 = va_up (rsS E (ar 2) rd (rsH (rd.getD 0 0 &&& 15)) k).2.2.2 ((rd.getD (3 * k + 3) 0) - 1) (max ((rsS E (ar 2) rd (rsH (rd.getD 0 0 &&& 15)) k).2.2.2 ((rd.getD (3 * k + 3) 0) - 1)) (mnN (E ((rd.getD (3 * k + 3) 0) - 1)).length (rsS E (ar 2) rd (rsH (rd.getD 0 0 &&& 15)) k).2.1)) := by rw [eN]
          refine lv_istore_n (lv' := [(2, .int (nI ((rsS E (ar 2) rd (rsH (rd.getD 0 0 &&& 15)) k).2.1 - (mnN (E ((rd.getD (3 * k + 3) 0) - 1)).length (rsS E (ar 2) rd (rsH (rd.getD 0 0 &&& 15)) k).2.1)))), (4, .int (nI (3 * k + 2))), (3, .int (nI ((rsS E (ar 2) rd (rsH (rd.getD 0 0 &&& 15)) k).2.2.1))), (1, .int (nI (rd.getD 0 0 &&& 15))), (0, .ref G.2.1)]) hx hb dX12_respond_107 rfl hl (by decide) rfl (fun ls hl => ?_)
          refine lv_iinc (v := nI (3 * k + 2 + 3)) (lv' := [(4, .int (nI (3 * k + 2 + 3))), (2, .int (nI ((rsS E (ar 2) rd (rsH (rd.getD 0 0 &&& 15)) k).2.1 - (mnN (E ((rd.getD (3 * k + 3) 0) - 1)).length (rsS E (ar 2) rd (rsH (rd.getD 0 0 &&& 15)) k).2.1)))), (3, .int (nI ((rsS E (ar 2) rd (rsH (rd.getD 0 0 &&& 15)) k).2.2.1))), (1, .int (nI (rd.getD 0 0 &&& 15))), (0, .ref G.2.1)]) hx hb dX12_respond_108 hl (k := 1) rfl (nI_add _ _) (by decide) rfl (fun ls hl => ?_)
          refine lv_goto (tgt := 40) hx hb dX12_respond_111 (by decide) ?_
          have hl : lv_has ls 5 [(4, .int (nI (3 * k + 2 + 3))), (2, .int (nI ((rsS E (ar 2) rd (rsH (rd.getD 0 0 &&& 15)) (k + 1)).2.1))), (3, .int (nI ((rsS E (ar 2) rd (rsH (rd.getD 0 0 &&& 15)) (k + 1)).2.2.1))), (1, .int (nI (rd.getD 0 0 &&& 15))), (0, .ref G.2.1)] := by rw [e2, e3]; exact hl
          have hB : gB G.1 (rT G) A s H locs (rWs G (upd (upd sc 11 (nI 0)) 40 (nI ((rsS E (ar 2) rd (rsH (rd.getD 0 0 &&& 15)) (k + 1)).1.length)), va_up (va_up ar 8 wb) 39 g1)) := by rw [e1]; exact hB
          have hl : lv_has ls 5 [(4, .int (nI (3 * (k + 1) + 2))), (3, .int (nI ((rsS E (ar 2) rd (rsH (rd.getD 0 0 &&& 15)) (k + 1)).2.2.1))), (2, .int (nI ((rsS E (ar 2) rd (rsH (rd.getD 0 0 &&& 15)) (k + 1)).2.1))), (1, .int (nI (rd.getD 0 0 &&& 15))), (0, .ref G.2.1)] := lv_sub hl [0, 2, 1, 3, 4] rfl
          have hB : gB G.1 (rT G) A s H locs (rWs G (upd (upd sc 11 (nI 0)) 40 (nI ((rsS E (ar 2) rd (rsH (rd.getD 0 0 &&& 15)) (k + 1)).1.length)), va_up (va_up ar 8 wb) 39 g1)) := hB
          have b_10 : (k + 1) + (n3 - (k + 1)) = n3 := by omega
          have b_11 : pfx g1 (rsS E (ar 2) rd (rsH (rd.getD 0 0 &&& 15)) (k + 1)).1 := by rw [e1]; exact hg1
          have b_12 : wtR wb E (rsS E (ar 2) rd (rsH (rd.getD 0 0 &&& 15)) (k + 1)).2.2.2 := by rw [e4]; exact wtR_put hw (by omega) hwb (fun y h1 h3 => (hE y h1 h3).2.1)
          exact ih_1 (n3 - (k + 1)) (k + 1, g1, wb) H locs ls (by omega) ⟨b_10, b_11, b_12, hB, hl⟩
      · have c_8 : (rd.getD (3 * k + 3) 0) = 1 := (nI_eq (a := (rd.getD (3 * k + 3) 0)) (b := 1) (by omega) (by omega)).mp c_8
        refine lv_aload_n hx hb dX12_respond_71 rfl (lv_at hl 4 rfl) ?_
        refine g_callv (av := []) (rest := []) ⟨hx, hb, hml, hown, hts⟩ (c_putPoints l G (upd (upd sc 11 (nI 0)) 40 (nI ((rsS E (ar 2) rd (rsH (rd.getD 0 0 &&& 15)) k).1.length))) (va_up (va_up ar 8 wa) 39 f) (rsS E (ar 2) rd (rsH (rd.getD 0 0 &&& 15)) k).1 hf rfl (by omega)) (cwV 0 hts gX12_respond_X12_putPoints rfl rfl rfl (by decide +kernel) ⟨Nat.le_of_ble_eq_true rfl, Nat.le_of_ble_eq_true rfl⟩) hB (q0 := 0) (ci := 9) rfl rfl rfl rfl hl.1 rfl (Nat.le_of_ble_eq_true rfl) dX12_respond_72 ⟨Nat.le_of_ble_eq_true rfl, Nat.le_of_ble_eq_true rfl⟩ (fun u H locs hw hB => ?_)
        obtain ⟨g1, hg1, rfl⟩ := hw
        have hB : gB G.1 (rT G) A s H locs (rWs G (upd (upd sc 11 (nI 0)) 40 (nI ((rsS E (ar 2) rd (rsH (rd.getD 0 0 &&& 15)) k).1.length + 33)), va_up (va_up ar 8 wa) 39 g1)) := hB
        have eN : (rsS E (ar 2) rd (rsH (rd.getD 0 0 &&& 15)) (k + 1)) = ((rsS E (ar 2) rd (rsH (rd.getD 0 0 &&& 15)) k).1 ++ ptG (ar 2), (rsS E (ar 2) rd (rsH (rd.getD 0 0 &&& 15)) k).2.1, 1, (rsS E (ar 2) rd (rsH (rd.getD 0 0 &&& 15)) k).2.2.2) := by rw [rsS, if_pos (by omega), if_pos (by omega)]
        have e1 : (rsS E (ar 2) rd (rsH (rd.getD 0 0 &&& 15)) (k + 1)).1 = (rsS E (ar 2) rd (rsH (rd.getD 0 0 &&& 15)) k).1 ++ ptG (ar 2) := by rw [eN]
        have e2 : (rsS E (ar 2) rd (rsH (rd.getD 0 0 &&& 15)) (k + 1)).2.1 = (rsS E (ar 2) rd (rsH (rd.getD 0 0 &&& 15)) k).2.1 := by rw [eN]
        have e3 : (rsS E (ar 2) rd (rsH (rd.getD 0 0 &&& 15)) (k + 1)).2.2.1 = 1 := by rw [eN]
        have e4 : (rsS E (ar 2) rd (rsH (rd.getD 0 0 &&& 15)) (k + 1)).2.2.2 = (rsS E (ar 2) rd (rsH (rd.getD 0 0 &&& 15)) k).2.2.2 := by rw [eN]
        refine lv_iconst (v := nI 1) hx hb dX12_respond_75 (by decide) ?_
        refine lv_istore_n (lv' := [(3, .int (nI 1)), (4, .int (nI (3 * k + 2))), (2, .int (nI ((rsS E (ar 2) rd (rsH (rd.getD 0 0 &&& 15)) k).2.1))), (1, .int (nI (rd.getD 0 0 &&& 15))), (0, .ref G.2.1)]) hx hb dX12_respond_76 rfl hl (by decide) rfl (fun ls hl => ?_)
        refine lv_goto (tgt := 108) hx hb dX12_respond_77 (by decide) ?_
        refine lv_iinc (v := nI (3 * k + 2 + 3)) (lv' := [(4, .int (nI (3 * k + 2 + 3))), (3, .int (nI 1)), (2, .int (nI ((rsS E (ar 2) rd (rsH (rd.getD 0 0 &&& 15)) k).2.1))), (1, .int (nI (rd.getD 0 0 &&& 15))), (0, .ref G.2.1)]) hx hb dX12_respond_108 hl (k := 1) rfl (nI_add _ _) (by decide) rfl (fun ls hl => ?_)
        refine lv_goto (tgt := 40) hx hb dX12_respond_111 (by decide) ?_
        have hl : lv_has ls 5 [(4, .int (nI (3 * k + 2 + 3))), (3, .int (nI ((rsS E (ar 2) rd (rsH (rd.getD 0 0 &&& 15)) (k + 1)).2.2.1))), (2, .int (nI ((rsS E (ar 2) rd (rsH (rd.getD 0 0 &&& 15)) (k + 1)).2.1))), (1, .int (nI (rd.getD 0 0 &&& 15))), (0, .ref G.2.1)] := by rw [e2, e3]; exact hl
        have hB : gB G.1 (rT G) A s H locs (rWs G (upd (upd sc 11 (nI 0)) 40 (nI ((rsS E (ar 2) rd (rsH (rd.getD 0 0 &&& 15)) (k + 1)).1.length)), va_up (va_up ar 8 wa) 39 g1)) := by rw [e1, List.length_append, ptG_len]; exact hB
        have hl : lv_has ls 5 [(4, .int (nI (3 * (k + 1) + 2))), (3, .int (nI ((rsS E (ar 2) rd (rsH (rd.getD 0 0 &&& 15)) (k + 1)).2.2.1))), (2, .int (nI ((rsS E (ar 2) rd (rsH (rd.getD 0 0 &&& 15)) (k + 1)).2.1))), (1, .int (nI (rd.getD 0 0 &&& 15))), (0, .ref G.2.1)] := lv_sub hl [0, 1, 2, 3, 4] rfl
        have hB : gB G.1 (rT G) A s H locs (rWs G (upd (upd sc 11 (nI 0)) 40 (nI ((rsS E (ar 2) rd (rsH (rd.getD 0 0 &&& 15)) (k + 1)).1.length)), va_up (va_up ar 8 wa) 39 g1)) := hB
        have b_13 : (k + 1) + (n3 - (k + 1)) = n3 := by omega
        have b_14 : pfx g1 (rsS E (ar 2) rd (rsH (rd.getD 0 0 &&& 15)) (k + 1)).1 := by rw [e1]; exact hg1
        have b_15 : wtR wa E (rsS E (ar 2) rd (rsH (rd.getD 0 0 &&& 15)) (k + 1)).2.2.2 := by rw [e4]; exact hw
        exact ih_1 (n3 - (k + 1)) (k + 1, g1, wa) H locs ls (by omega) ⟨b_13, b_14, b_15, hB, hl⟩
