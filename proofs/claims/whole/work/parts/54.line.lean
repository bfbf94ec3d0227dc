/-! PointReports$Line: the frames as a pool -/
/-- a frame: the addresses of its cells, its side, its bytes, its row -/
abbrev fE : Type := Nat × Nat × Nat × Nat × List Int32 × (Nat → Int32)
def fC (G : rG) (x : fE) : va_W := fW G x.1 x.2.1 x.2.2.1 35 (nI (x.2.2.2.1 + 1), nI x.2.2.2.2.1.length, x.2.2.2.2.2)
def plW (G : rG) (fs : List fE) : va_W := fs.flatMap (fC G)
def fOk (x : fE) : Prop := x.2.2.2.1 ≤ 1 ∧ pfx x.2.2.2.2.2 x.2.2.2.2.1 ∧ x.2.2.2.2.1.length ≤ 35 ∧ ∀ b ∈ x.2.2.2.2.1, isB b
def fA (fs : List fE) : Nat → Option Nat := fun i => (fs[i]?).map (fun x => x.1)
def lnL (fs : List fE) : List (Int32 × List Int32) := fs.map (fun x => (nI x.2.2.2.1, x.2.2.2.2.1))
def lW (G : rG) (la fa : Nat) (cF : ClassId) (u : Nat × List fE) : va_W := [(la, .inr (3, [.ref fa, .int (nI u.1)])), (fa, .inl (cF, 40, .inr (.inr (.inr (.inr (fA u.2))))))] ++ plW G u.2
/-- the line: k frames in flight, the first k of fs -/
def lR (k : Nat) (fs : List fE) (L : List (Int32 × List Int32)) : Prop := fs.length = 40 ∧ k ≤ 40 ∧ (∀ x ∈ fs, fOk x) ∧ L = lnL (fs.take k)
theorem lR.len {k : Nat} {fs : List fE} {L : List (Int32 × List Int32)} (h : lR k fs L) : L.length = k := by
  obtain ⟨h1, h2, -, h4⟩ := h
  rw [h4, lnL, List.length_map, List.length_take]; omega
theorem fA_mid (A : List fE) (x : fE) (C : List fE) : fA (A ++ x :: C) A.length = some x.1 := by
  unfold fA; rw [List.getElem?_append_right (Nat.le_refl _), Nat.sub_self]; rfl
def tkA (A B C : List fE) (x : fE) (m : Nat) : Nat → Option Nat := fun i => if i < A.length + m then fA (A ++ (B ++ x :: C)) i else fA (A ++ x :: (B ++ C)) i
theorem fA_l (A X : List fE) {i : Nat} (h : i < A.length) : fA (A ++ X) i = fA A i := by
  unfold fA; rw [List.getElem?_append_left h]
theorem fA_r (A X : List fE) {i : Nat} (h : A.length ≤ i) : fA (A ++ X) i = fA X (i - A.length) := by
  unfold fA; rw [List.getElem?_append_right h]
theorem fA_s (x : fE) (X : List fE) (i : Nat) : fA (x :: X) (i + 1) = fA X i := rfl
theorem tkA_0 (A B C : List fE) (x : fE) : tkA A B C x 0 = fA (A ++ x :: (B ++ C)) := by
  funext i
  unfold tkA
  split
  · rename_i h; rw [fA_l _ _ (by omega), fA_l _ _ (by omega)]
  · rfl
theorem tkA_at {A B C : List fE} {x y : fE} {m : Nat} (h : B[m]? = some y) : tkA A B C x m (A.length + m + 1) = some y.1 := by
  have hm : m < B.length := (List.getElem?_eq_some_iff.mp h).1
  unfold tkA
  rw [if_neg (by omega), fA_r _ _ (by omega), show A.length + m + 1 - A.length = m + 1 by omega, fA_s, fA_l _ _ hm]
  unfold fA; rw [h]; rfl
theorem tkA_up {A B C : List fE} {x y : fE} {m : Nat} (h : B[m]? = some y) : va_up (tkA A B C x m) (A.length + m) (some y.1) = tkA A B C x (m + 1) := by
  have hm : m < B.length := (List.getElem?_eq_some_iff.mp h).1
  funext i
  unfold va_up tkA
  by_cases h1 : i = A.length + m
  · rw [if_pos h1, if_pos (by omega), h1, fA_r _ _ (by omega), Nat.add_sub_cancel_left, fA_l _ _ hm]
    unfold fA; rw [h]; rfl
  · rw [if_neg h1]
    by_cases h2 : i < A.length + m
    · rw [if_pos h2, if_pos (by omega)]
    · rw [if_neg h2, if_neg (by omega)]
theorem tkA_end (A B C : List fE) (x : fE) : va_up (tkA A B C x B.length) (A.length + B.length) (some x.1) = fA (A ++ (B ++ x :: C)) := by
  funext i
  unfold va_up tkA
  by_cases h1 : i = A.length + B.length
  · rw [if_pos h1, h1, fA_r _ _ (by omega), Nat.add_sub_cancel_left]; exact (fA_mid B x C).symm
  · rw [if_neg h1]
    by_cases h2 : i < A.length + B.length
    · rw [if_pos h2]
    · rw [if_neg h2, fA_r _ _ (by omega), fA_r _ _ (by omega)]
      obtain ⟨d, hd⟩ : ∃ d, i - A.length = (B.length + d) + 1 := ⟨i - A.length - B.length - 1, by omega⟩
      rw [hd, fA_s, fA_r _ _ (by omega), fA_r _ _ (by omega), show B.length + d - B.length = d by omega, show B.length + d + 1 - B.length = d + 1 by omega, fA_s]
theorem pl_mem {G : rG} {fs : List fE} {x : fE} (h : x ∈ fs) : ∃ vs, (x.1, Sum.inr (2, vs)) ∈ plW G fs := ⟨_, List.mem_flatMap.mpr ⟨x, h, List.mem_cons_self⟩⟩
theorem pl_perm {G : rG} {fs gs : List fE} (h : fs.Perm gs) : (plW G fs).Perm (plW G gs) := h.flatMap_right _
theorem gB.plOut {G : rG} {D : va_G} {tys : List (ClassId × FieldType)} {A : Nat → Prop} {s : State} {H : Heap} {locs : List Loc} {ws : va_W} {X C : List fE} {x : fE} (hB : gB D tys A s H locs (ws ++ plW G (X ++ x :: C))) : gB D tys A s H locs ((ws ++ fC G x) ++ plW G (X ++ C)) := by
  refine hB.perm ?_
  simp only [plW, List.flatMap_append, List.flatMap_cons, List.append_assoc]
  exact List.Perm.append_left ws (List.perm_append_comm_assoc _ _ _)
theorem gB.plIn {G : rG} {D : va_G} {tys : List (ClassId × FieldType)} {A : Nat → Prop} {s : State} {H : Heap} {locs : List Loc} {ws : va_W} {X C : List fE} {x : fE} (hB : gB D tys A s H locs ((ws ++ fC G x) ++ plW G (X ++ C))) : gB D tys A s H locs (ws ++ plW G (X ++ x :: C)) := by
  refine hB.perm ?_
  simp only [plW, List.flatMap_append, List.flatMap_cons, List.append_assoc]
  exact List.Perm.append_left ws (List.perm_append_comm_assoc _ _ _)
theorem gB.plPerm {G : rG} {D : va_G} {tys : List (ClassId × FieldType)} {A : Nat → Prop} {s : State} {H : Heap} {locs : List Loc} {ws : va_W} {fs gs : List fE} (hB : gB D tys A s H locs (ws ++ plW G fs)) (h : fs.Perm gs) : gB D tys A s H locs (ws ++ plW G gs) := hB.perm ((pl_perm h).append_left ws)
theorem tk_perm (A B C : List fE) (x : fE) : (A ++ x :: (B ++ C)).Perm (A ++ (B ++ x :: C)) := List.Perm.append_left A (List.perm_middle).symm
theorem spl_at (fs : List fE) (k j : Nat) (hj : j < k) (hk : k ≤ fs.length) : ∃ A x B C, fs = A ++ x :: (B ++ C) ∧ A.length = j ∧ A.length + B.length + 1 = k := by
  refine ⟨fs.take j, fs[j]'(by omega), (fs.drop (j + 1)).take (k - j - 1), (fs.drop (j + 1)).drop (k - j - 1), ?_, by rw [List.length_take]; omega, by rw [List.length_take, List.length_take, List.length_drop]; omega⟩
  rw [List.take_append_drop, ← List.drop_eq_getElem_cons, List.take_append_drop]
theorem spl_k (fs : List fE) (k : Nat) (hk : k < fs.length) : ∃ A x C, fs = A ++ x :: C ∧ A.length = k := by
  refine ⟨fs.take k, fs[k], fs.drop (k + 1), ?_, by rw [List.length_take]; omega⟩
  rw [← List.drop_eq_getElem_cons, List.take_append_drop]
set_option maxRecDepth 100000 in
set_option maxHeartbeats 1000000 in
/-- Line.size() -/
theorem k_Line_size (l : Launch) (G : rG) (la fa : Nat) (cF : ClassId) (hTF : (rT G)[2]? = some (cF, .object RX3)) (k : Nat) (fs : List fE) : gM l G.1 (rT G) yX5_size wsX5_size { frames := 0, cells := 0, slots := 0, locals := 0 } [.ref la] ([(la, .inr (3, [.ref fa, .int (nI k)])), (fa, .inl (cF, 40, .inr (.inr (.inr (.inr (fA fs))))))] ++ (plW G fs)) (gQi G.1 (rT G) (fun (r : Int32) (u : Nat × List fE) => r = nI k ∧ u = (k, fs)) (lW G la fa cF)) 0 0 := by
  refine gM.of (cc := cX5_size) (maxL := 1) (ret := (some .int)) (by decide) rfl (Nat.le_of_ble_eq_true rfl) ?_
  intro p e s m below meth c A ls hx hb hr hml hown hts hlocks hnm hB hl
  have hl : lv_has ls 1 [(0, .ref la)] := hl
  refine lv_aload_n hx hb dX5_size_0 rfl (lv_at hl 0 rfl) ?_
  refine g_get (own := RX5) (C := RX5) (T := TX5) (N := 2) (ci := 3) (v := .int (nI k)) hx hb hts (fun _ h => List.mem_cons_of_mem _ (List.mem_append_right _ h)) hown hB 0 rfl rfl 1 (by decide) (hts (.fieldLink RX5 16 "PointReports$Line" "inFlight" "I") (by decide +kernel)) rfl rfl dX5_size_1 ?_
  exact g_iret (Wd := lW G la fa cF) (v := nI k) (k, fs) hB hx hb hr hlocks rfl ⟨rfl, rfl⟩ dX5_size_4
set_option maxRecDepth 100000 in
set_option maxHeartbeats 1000000 in
/-- Line.frame(i) -/
theorem k_Line_frame (l : Launch) (G : rG) (la fa : Nat) (cF : ClassId) (hTF : (rT G)[2]? = some (cF, .object RX3)) (k : Nat) (fs : List fE) (hk : k ≤ 40) (i0 : Int32) : gM l G.1 (rT G) yX5_frame wsX5_frame { frames := 0, cells := 0, slots := 0, locals := 0 } [.ref la, .int i0] ([(la, .inr (3, [.ref fa, .int (nI k)])), (fa, .inl (cF, 40, .inr (.inr (.inr (.inr (fA fs))))))] ++ (plW G fs)) (gQo G.1 (rT G) (fun (r : Option Nat) (u : Nat × List fE) => (r = if i0 < 0 ∨ nI k ≤ i0 then none else fA fs i0.toNatClampNeg) ∧ u = (k, fs)) (lW G la fa cF)) 0 0 := by
  refine gM.of (cc := cX5_frame) (maxL := 2) (ret := (some (.object "PointReports$Frame"))) (by decide) rfl (Nat.le_of_ble_eq_true rfl) ?_
  intro p e s m below meth c A ls hx hb hr hml hown hts hlocks hnm hB hl
  have hl : lv_has ls 2 [(0, .ref la), (1, .int i0)] := hl
  refine lv_iload_n hx hb dX5_frame_0 rfl (lv_at hl 1 rfl) ?_
  refine lv_if_lt (tgt := 12) hx hb dX5_frame_1 (by decide) (fun c_1 => ?_) (fun c_1 => ?_)
  · have c_1 := c_1
    refine lv_null hx hb dX5_frame_12 ?_
    refine lv_goto (tgt := 22) hx hb dX5_frame_13 (by decide) ?_
    exact g_aret (Wd := lW G la fa cF) (r := none) (N := "PointReports$Frame") (k, fs) hB hx hb hr hlocks rfl ⟨by rw [if_pos (Or.inl c_1)], rfl⟩ dX5_frame_22
  · have c_1 := c_1
    refine lv_iload_n hx hb dX5_frame_4 rfl (lv_at hl 1 rfl) ?_
    refine lv_aload_n hx hb dX5_frame_5 rfl (lv_at hl 0 rfl) ?_
    refine g_get (own := RX5) (C := RX5) (T := TX5) (N := 2) (ci := 3) (v := .int (nI k)) hx hb hts (fun _ h => List.mem_cons_of_mem _ (List.mem_append_right _ h)) hown hB 0 rfl rfl 1 (by decide) (hts (.fieldLink RX5 16 "PointReports$Line" "inFlight" "I") (by decide +kernel)) rfl rfl dX5_frame_6 ?_
    refine lv_icmp_lt (tgt := 16) hx hb dX5_frame_9 (by decide) (fun c_2 => ?_) (fun c_2 => ?_)
    · have c_2 := c_2
      obtain ⟨j, hj, ej⟩ : ∃ j : Nat, j < k ∧ i0 = nI j := by rcases pk_ix i0 (n := k) (by omega) with h | h | h; exact absurd h c_1; exact absurd c_2 (Int32.not_lt.mpr h); exact h
      have er9 : (if i0 < 0 ∨ nI k ≤ i0 then none else fA fs i0.toNatClampNeg) = fA fs j := by rw [if_neg (by rintro (z | z); exact c_1 z; exact absurd c_2 (Int32.not_lt.mpr z)), ej, nI_clamp (by omega)]
      rw [er9]
      subst ej
      refine lv_aload_n hx hb dX5_frame_16 rfl (lv_at hl 0 rfl) ?_
      refine g_get (own := RX5) (C := RX5) (T := TX5) (N := 2) (ci := 3) (v := .ref fa) hx hb hts (fun _ h => List.mem_cons_of_mem _ (List.mem_append_right _ h)) hown hB 0 rfl rfl 0 (by decide) (hts (.fieldLink RX5 11 "PointReports$Line" "frames" "[LPointReports$Frame;") (by decide +kernel)) rfl rfl dX5_frame_17 ?_
      refine lv_iload_n hx hb dX5_frame_20 rfl (lv_at hl 1 rfl) ?_
      refine g_aldq (r := fA fs j) hx hb hB 1 2 rfl hTF j rfl (by omega) (by omega) rfl dX5_frame_21 ?_
      exact g_aret (Wd := lW G la fa cF) (r := (fA fs j)) (N := "PointReports$Frame") (k, fs) hB hx hb hr hlocks rfl ⟨rfl, rfl⟩ dX5_frame_22
    · have c_2 := c_2
      refine lv_null hx hb dX5_frame_12 ?_
      refine lv_goto (tgt := 22) hx hb dX5_frame_13 (by decide) ?_
      exact g_aret (Wd := lW G la fa cF) (r := none) (N := "PointReports$Frame") (k, fs) hB hx hb hr hlocks rfl ⟨by rw [if_pos (Or.inr (Int32.not_lt.mp c_2))], rfl⟩ dX5_frame_22
set_option maxRecDepth 100000 in
set_option maxHeartbeats 1000000 in
/-- Line.takeOut(i), none such -/
theorem k_Line_takeOut_no (l : Launch) (G : rG) (la fa : Nat) (cF : ClassId) (hTF : (rT G)[2]? = some (cF, .object RX3)) (k : Nat) (fs : List fE) (hk : k ≤ 40) (i0 : Int32) (hout : i0 < 0 ∨ nI k ≤ i0) : gM l G.1 (rT G) yX5_takeOut wsX5_takeOut { frames := 1, cells := 0, slots := 0, locals := 21 } [.ref la, .int i0] ([(la, .inr (3, [.ref fa, .int (nI k)])), (fa, .inl (cF, 40, .inr (.inr (.inr (.inr (fA fs))))))] ++ (plW G fs)) (gQo G.1 (rT G) (fun (r : Option Nat) (u : Nat × List fE) => r = none ∧ u = (k, fs)) (lW G la fa cF)) 0 0 := by
  refine gM.of (cc := cX5_takeOut) (maxL := 4) (ret := (some (.object "PointReports$Frame"))) (by decide) rfl (Nat.le_of_ble_eq_true rfl) ?_
  intro p e s m below meth c A ls hx hb hr hml hown hts hlocks hnm hB hl
  have hl : lv_has ls 4 [(0, .ref la), (1, .int i0)] := hl
  refine lv_aload_n hx hb dX5_takeOut_0 rfl (lv_at hl 0 rfl) ?_
  refine lv_iload_n hx hb dX5_takeOut_1 rfl (lv_at hl 1 rfl) ?_
  have hB : gB G.1 (rT G) A s s.heap []  ([] ++ ([(la, .inr (3, [.ref fa, .int (nI k)])), (fa, .inl (cF, 40, .inr (.inr (.inr (.inr (fA fs))))))] ++ plW G fs)) := hB.ordQ [0, 1] 2 rfl (by decide) rfl
  refine g_calloA (wr := []) (wc := ([(la, .inr (3, [.ref fa, .int (nI k)])), (fa, .inl (cF, 40, .inr (.inr (.inr (.inr (fA fs))))))] ++ plW G fs)) (av := [.int i0]) (rest := []) ⟨hx, hb, hml, hown, hts⟩ (k_Line_frame l G la fa cF hTF k fs hk i0) (cwV 1 hts gX5_takeOut_X5_frame rfl rfl rfl (by decide +kernel) ⟨Nat.le_of_ble_eq_true rfl, Nat.le_of_ble_eq_true rfl⟩) hB (q0 := 0) (ci := 3) rfl rfl rfl rfl hl.1 rfl (Nat.le_of_ble_eq_true rfl) dX5_takeOut_2 ⟨Nat.le_of_ble_eq_true rfl, Nat.le_of_ble_eq_true rfl⟩ (fun r9 u H locs hw hB => ?_)
  obtain ⟨er, rfl⟩ := hw
  have hB : gB G.1 (rT G) A s H locs ([(la, .inr (3, [.ref fa, .int (nI k)])), (fa, .inl (cF, 40, .inr (.inr (.inr (.inr (fA fs))))))] ++ (plW G fs)) := hB
  rw [if_pos hout] at er
  subst er
  refine lv_astore_nN (lv' := [(2, .null), (0, .ref la), (1, .int i0)]) hx hb dX5_takeOut_5 rfl hl (by decide) rfl (fun ls hl => ?_)
  refine lv_aload_nN hx hb dX5_takeOut_6 rfl (lv_at hl 0 rfl) ?_
  refine lv_ifnonnullN hx hb dX5_takeOut_7 ?_
  refine lv_null hx hb dX5_takeOut_10 ?_
  exact g_aret (Wd := lW G la fa cF) (r := none) (N := "PointReports$Frame") (k, fs) hB hx hb hr hlocks rfl ⟨rfl, rfl⟩ dX5_takeOut_11
set_option maxRecDepth 100000 in
set_option maxHeartbeats 1000000 in
/-- Line.takeOut(i) -/
theorem k_Line_takeOut (l : Launch) (G : rG) (la fa : Nat) (cF : ClassId) (hTF : (rT G)[2]? = some (cF, .object RX3)) (LA LB LC : List fE) (x : fE) (k : Nat) (h40 : (LA ++ x :: (LB ++ LC)).length = 40) (hk : k = LA.length + LB.length + 1) : gM l G.1 (rT G) yX5_takeOut wsX5_takeOut { frames := 1, cells := 0, slots := 0, locals := 21 } [.ref la, .int (nI LA.length)] ([(la, .inr (3, [.ref fa, .int (nI k)])), (fa, .inl (cF, 40, .inr (.inr (.inr (.inr (fA (LA ++ x :: (LB ++ LC))))))))] ++ (plW G (LA ++ x :: (LB ++ LC)))) (gQo G.1 (rT G) (fun (r : Option Nat) (u : Nat × List fE) => r = some x.1 ∧ u = (LA.length + LB.length, LA ++ (LB ++ x :: LC))) (lW G la fa cF)) 0 0 := by
  refine gM.of (cc := cX5_takeOut) (maxL := 4) (ret := (some (.object "PointReports$Frame"))) (by decide) rfl (Nat.le_of_ble_eq_true rfl) ?_
  intro p e s m below meth c A ls hx hb hr hml hown hts hlocks hnm hB hl
  have hl : lv_has ls 4 [(0, .ref la), (1, .int (nI LA.length))] := hl
  have h40b : LA.length + (LB.length + LC.length) = 39 := by simp only [List.length_append, List.length_cons] at h40; omega
  refine lv_aload_n hx hb dX5_takeOut_0 rfl (lv_at hl 0 rfl) ?_
  refine lv_iload_n hx hb dX5_takeOut_1 rfl (lv_at hl 1 rfl) ?_
  have hB : gB G.1 (rT G) A s s.heap []  ([] ++ ([(la, .inr (3, [.ref fa, .int (nI k)])), (fa, .inl (cF, 40, .inr (.inr (.inr (.inr (fA (LA ++ x :: (LB ++ LC))))))))] ++ plW G (LA ++ x :: (LB ++ LC)))) := hB.ordQ [0, 1] 2 rfl (by decide) rfl
  refine g_calloA (wr := []) (wc := ([(la, .inr (3, [.ref fa, .int (nI k)])), (fa, .inl (cF, 40, .inr (.inr (.inr (.inr (fA (LA ++ x :: (LB ++ LC))))))))] ++ plW G (LA ++ x :: (LB ++ LC)))) (av := [.int (nI LA.length)]) (rest := []) ⟨hx, hb, hml, hown, hts⟩ (k_Line_frame l G la fa cF hTF k (LA ++ x :: (LB ++ LC)) (by omega) (nI LA.length)) (cwV 1 hts gX5_takeOut_X5_frame rfl rfl rfl (by decide +kernel) ⟨Nat.le_of_ble_eq_true rfl, Nat.le_of_ble_eq_true rfl⟩) hB (q0 := 0) (ci := 3) rfl rfl rfl rfl hl.1 rfl (Nat.le_of_ble_eq_true rfl) dX5_takeOut_2 ⟨Nat.le_of_ble_eq_true rfl, Nat.le_of_ble_eq_true rfl⟩ (fun r9 u H locs hw hB => ?_)
  obtain ⟨er, rfl⟩ := hw
  have hB : gB G.1 (rT G) A s H locs ([(la, .inr (3, [.ref fa, .int (nI k)])), (fa, .inl (cF, 40, .inr (.inr (.inr (.inr (fA (LA ++ x :: (LB ++ LC))))))))] ++ (plW G (LA ++ x :: (LB ++ LC)))) := hB
  rw [if_neg (by rintro (z | z); exact nI_pos (by omega) z; exact absurd ((nI_leI (by omega) (by omega)).mp z) (by omega)), nI_clamp (by omega), fA_mid] at er
  subst er
  refine lv_astore_n (lv' := [(2, .ref x.1), (0, .ref la), (1, .int (nI LA.length))]) hx hb dX5_takeOut_5 rfl hl (by decide) rfl (fun ls hl => ?_)
  refine lv_aload_n hx hb dX5_takeOut_6 rfl (lv_at hl 0 rfl) ?_
  refine lv_ifnonnull (tgt := 12) hx hb dX5_takeOut_7 (by decide) ?_
  refine lv_aload_n hx hb dX5_takeOut_12 rfl (lv_at hl 1 rfl) ?_
  refine lv_dup hx hb dX5_takeOut_13 rfl ?_
  refine g_get (own := RX5) (C := RX5) (T := TX5) (N := 2) (ci := 3) (v := .int (nI k)) hx hb hts (fun _ h => List.mem_cons_of_mem _ (List.mem_append_right _ h)) hown hB 0 rfl rfl 1 (by decide) (hts (.fieldLink RX5 16 "PointReports$Line" "inFlight" "I") (by decide +kernel)) rfl rfl dX5_takeOut_14 ?_
  refine lv_iconst (v := nI 1) hx hb dX5_takeOut_17 (by decide) ?_
  refine lv_isub hx hb dX5_takeOut_18 ?_
  refine g_top (y := nI (LA.length + LB.length)) ((pk_sub (by omega)).trans (congrArg nI (by omega))) ?_
  refine g_put (own := RX5) (C := RX5) (T := TX5) (N := 2) (ci := 3) (v := .int (nI (LA.length + LB.length))) hx hb ([(la, .inr (3, [.ref fa, .int (nI (LA.length + LB.length))])), (fa, .inl (cF, 40, .inr (.inr (.inr (.inr (fA (LA ++ x :: (LB ++ LC))))))))] ++ (plW G (LA ++ x :: (LB ++ LC)))) hts (fun _ h => List.mem_cons_of_mem _ (List.mem_append_right _ h)) tyX5 tyX5_ok nmX5 hown hB 0 rfl rfl 1 (by decide) (hts (.fieldLink RX5 16 "PointReports$Line" "inFlight" "I") (by decide +kernel)) rfl rfl (ty := .int) rfl rfl rfl (Nat.le_of_ble_eq_true rfl) rfl dX5_takeOut_19 (fun H locs hB => ?_)
  refine lv_iload_n hx hb dX5_takeOut_22 rfl (lv_at hl 2 rfl) ?_
  refine lv_istore_n (lv' := [(3, .int (nI LA.length)), (2, .ref x.1), (0, .ref la), (1, .int (nI LA.length))]) hx hb dX5_takeOut_23 rfl hl (by decide) rfl (fun ls hl => ?_)
  rw [← tkA_0] at hB
  have hl : lv_has ls 4 [(3, .int (nI (LA.length + 0))), (2, .ref x.1), (0, .ref la), (1, .int (nI LA.length))] := hl
  have hl : lv_has ls 4 [(3, .int (nI (LA.length + 0))), (0, .ref la), (1, .int (nI LA.length)), (2, .ref x.1)] := lv_sub hl [0, 2, 3, 1] rfl
  have hB : gB G.1 (rT G) A s H locs ([(la, .inr (3, [.ref fa, .int (nI (LA.length + LB.length))])), (fa, .inl (cF, 40, .inr (.inr (.inr (.inr (tkA LA LB LC x 0))))))] ++ (plW G (LA ++ x :: (LB ++ LC)))) := hB
  refine g_loop (σ := Nat) (fun d xv H locs ls => (xv + d = LB.length) ∧ gB G.1 (rT G) A s H locs ([(la, .inr (3, [.ref fa, .int (nI (LA.length + LB.length))])), (fa, .inl (cF, 40, .inr (.inr (.inr (.inr (tkA LA LB LC x xv))))))] ++ (plW G (LA ++ x :: (LB ++ LC)))) ∧ lv_has ls 4 [(3, .int (nI (LA.length + xv))), (0, .ref la), (1, .int (nI LA.length)), (2, .ref x.1)]) LB.length (0) ⟨by omega, hB, hl⟩ ?_
  rintro d m H locs ls ⟨hm, hB, hl⟩ ih_1
  have hm : m + d = LB.length := hm
  have hB : gB G.1 (rT G) A s H locs ([(la, .inr (3, [.ref fa, .int (nI (LA.length + LB.length))])), (fa, .inl (cF, 40, .inr (.inr (.inr (.inr (tkA LA LB LC x m))))))] ++ (plW G (LA ++ x :: (LB ++ LC)))) := hB
  have hl : lv_has ls 4 [(3, .int (nI (LA.length + m))), (0, .ref la), (1, .int (nI LA.length)), (2, .ref x.1)] := hl
  refine lv_iload_n hx hb dX5_takeOut_24 rfl (lv_at hl 0 rfl) ?_
  refine lv_aload_n hx hb dX5_takeOut_25 rfl (lv_at hl 1 rfl) ?_
  refine g_get (own := RX5) (C := RX5) (T := TX5) (N := 2) (ci := 3) (v := .int (nI (LA.length + LB.length))) hx hb hts (fun _ h => List.mem_cons_of_mem _ (List.mem_append_right _ h)) hown hB 0 rfl rfl 1 (by decide) (hts (.fieldLink RX5 16 "PointReports$Line" "inFlight" "I") (by decide +kernel)) rfl rfl dX5_takeOut_26 ?_
  refine lv_icmp_ge (tgt := 52) hx hb dX5_takeOut_29 (by decide) (fun c_2 => ?_) (fun c_2 => ?_)
  · have c_2 : (LA.length + LB.length) ≤ (LA.length + m) := (nI_leI (a := (LA.length + LB.length)) (b := (LA.length + m)) (by omega) (by omega)).mp c_2
    have hm8 : m = LB.length := by omega
    subst hm8
    refine lv_aload_n hx hb dX5_takeOut_52 rfl (lv_at hl 1 rfl) ?_
    refine g_get (own := RX5) (C := RX5) (T := TX5) (N := 2) (ci := 3) (v := .ref fa) hx hb hts (fun _ h => List.mem_cons_of_mem _ (List.mem_append_right _ h)) hown hB 0 rfl rfl 0 (by decide) (hts (.fieldLink RX5 11 "PointReports$Line" "frames" "[LPointReports$Frame;") (by decide +kernel)) rfl rfl dX5_takeOut_53 ?_
    refine lv_aload_n hx hb dX5_takeOut_56 rfl (lv_at hl 1 rfl) ?_
    refine g_get (own := RX5) (C := RX5) (T := TX5) (N := 2) (ci := 3) (v := .int (nI (LA.length + LB.length))) hx hb hts (fun _ h => List.mem_cons_of_mem _ (List.mem_append_right _ h)) hown hB 0 rfl rfl 1 (by decide) (hts (.fieldLink RX5 16 "PointReports$Line" "inFlight" "I") (by decide +kernel)) rfl rfl dX5_takeOut_57 ?_
    refine lv_aload_n hx hb dX5_takeOut_60 rfl (lv_at hl 3 rfl) ?_
    obtain ⟨vs9, hm9⟩ := pl_mem (G := G) (show x ∈ (LA ++ x :: (LB ++ LC)) from List.mem_append_right _ List.mem_cons_self)
    obtain ⟨qk, hqk⟩ := List.getElem?_of_mem (List.mem_append_right [(la, .inr (3, [.ref fa, .int (nI (LA.length + LB.length))])), (fa, .inl (cF, 40, .inr (.inr (.inr (.inr (tkA LA LB LC x LB.length))))))] hm9)
    refine g_astq (q9 := (RX3, TX3, 2)) (v := x.1) (g := fA (LA ++ (LB ++ x :: LC))) hx hb ([(la, .inr (3, [.ref fa, .int (nI (LA.length + LB.length))])), (fa, .inl (cF, 40, .inr (.inr (.inr (.inr (fA (LA ++ (LB ++ x :: LC))))))))] ++ (plW G (LA ++ x :: (LB ++ LC)))) hB 1 2 qk 2 rfl hTF hqk rfl (LA.length + LB.length) rfl (by omega) (by omega) (tkA_end LA LB LC x) rfl dX5_takeOut_61 (fun H locs hB => ?_)
    have hB := hB.plPerm (tk_perm LA LB LC x)
    have hB : gB G.1 (rT G) A s H locs ([(la, .inr (3, [.ref fa, .int (nI (LA.length + LB.length))])), (fa, .inl (cF, 40, .inr (.inr (.inr (.inr (fA (LA ++ (LB ++ x :: LC))))))))] ++ (plW G (LA ++ (LB ++ x :: LC)))) := hB
    refine lv_aload_n hx hb dX5_takeOut_62 rfl (lv_at hl 3 rfl) ?_
    exact g_aret (Wd := lW G la fa cF) (r := some x.1) (N := "PointReports$Frame") (LA.length + LB.length, LA ++ (LB ++ x :: LC)) hB hx hb hr hlocks rfl ⟨rfl, rfl⟩ dX5_takeOut_63
  · have c_2 : ¬ (LA.length + LB.length) ≤ (LA.length + m) := fun h9 => c_2 ((nI_leI (a := (LA.length + LB.length)) (b := (LA.length + m)) (by omega) (by omega)).mpr h9)
    have hm7 : m < LB.length := by omega
    obtain ⟨y, hy⟩ : ∃ y, LB[m]? = some y := ⟨_, List.getElem?_eq_getElem hm7⟩
    refine lv_aload_n hx hb dX5_takeOut_32 rfl (lv_at hl 1 rfl) ?_
    refine g_get (own := RX5) (C := RX5) (T := TX5) (N := 2) (ci := 3) (v := .ref fa) hx hb hts (fun _ h => List.mem_cons_of_mem _ (List.mem_append_right _ h)) hown hB 0 rfl rfl 0 (by decide) (hts (.fieldLink RX5 11 "PointReports$Line" "frames" "[LPointReports$Frame;") (by decide +kernel)) rfl rfl dX5_takeOut_33 ?_
    refine lv_iload_n hx hb dX5_takeOut_36 rfl (lv_at hl 0 rfl) ?_
    refine lv_aload_n hx hb dX5_takeOut_37 rfl (lv_at hl 1 rfl) ?_
    refine g_get (own := RX5) (C := RX5) (T := TX5) (N := 2) (ci := 3) (v := .ref fa) hx hb hts (fun _ h => List.mem_cons_of_mem _ (List.mem_append_right _ h)) hown hB 0 rfl rfl 0 (by decide) (hts (.fieldLink RX5 11 "PointReports$Line" "frames" "[LPointReports$Frame;") (by decide +kernel)) rfl rfl dX5_takeOut_38 ?_
    refine lv_iload_n hx hb dX5_takeOut_41 rfl (lv_at hl 0 rfl) ?_
    refine lv_iconst (v := nI 1) hx hb dX5_takeOut_42 (by decide) ?_
    refine lv_iadd hx hb dX5_takeOut_43 ?_
    refine g_top (y := nI ((LA.length + m) + 1)) (nI_add _ _) ?_
    refine g_aldq (r := some y.1) hx hb hB 1 2 rfl hTF (LA.length + m + 1) rfl (by omega) (by omega) (tkA_at hy) dX5_takeOut_44 ?_
    obtain ⟨vs9, hm9⟩ := pl_mem (G := G) (show y ∈ (LA ++ x :: (LB ++ LC)) from List.mem_append_right _ (List.mem_cons_of_mem _ (List.mem_append_left _ (List.mem_of_getElem? hy))))
    obtain ⟨qk, hqk⟩ := List.getElem?_of_mem (List.mem_append_right [(la, .inr (3, [.ref fa, .int (nI (LA.length + LB.length))])), (fa, .inl (cF, 40, .inr (.inr (.inr (.inr (tkA LA LB LC x m))))))] hm9)
    refine g_astq (q9 := (RX3, TX3, 2)) (v := y.1) (g := tkA LA LB LC x (m + 1)) hx hb ([(la, .inr (3, [.ref fa, .int (nI (LA.length + LB.length))])), (fa, .inl (cF, 40, .inr (.inr (.inr (.inr (tkA LA LB LC x (m + 1)))))))] ++ (plW G (LA ++ x :: (LB ++ LC)))) hB 1 2 qk 2 rfl hTF hqk rfl (LA.length + m) rfl (by omega) (by omega) (tkA_up hy) rfl dX5_takeOut_45 (fun H locs hB => ?_)
    refine lv_iinc (v := nI (LA.length + m + 1)) (lv' := [(3, .int (nI (LA.length + m + 1))), (0, .ref la), (1, .int (nI LA.length)), (2, .ref x.1)]) hx hb dX5_takeOut_46 hl (k := 0) rfl (nI_add _ _) (by decide) rfl (fun ls hl => ?_)
    refine lv_goto (tgt := 24) hx hb dX5_takeOut_49 (by decide) ?_
    have hl : lv_has ls 4 [(3, .int (nI (LA.length + (m + 1)))), (0, .ref la), (1, .int (nI LA.length)), (2, .ref x.1)] := hl
    have hl : lv_has ls 4 [(3, .int (nI (LA.length + (m + 1)))), (0, .ref la), (1, .int (nI LA.length)), (2, .ref x.1)] := lv_sub hl [0, 1, 2, 3] rfl
    have hB : gB G.1 (rT G) A s H locs ([(la, .inr (3, [.ref fa, .int (nI (LA.length + LB.length))])), (fa, .inl (cF, 40, .inr (.inr (.inr (.inr (tkA LA LB LC x (m + 1)))))))] ++ (plW G (LA ++ x :: (LB ++ LC)))) := hB
    have b_3 : (m + 1) + (d - 1) = LB.length := by omega
    exact ih_1 (d - 1) (m + 1) H locs ls (by omega) ⟨b_3, hB, hl⟩
set_option maxRecDepth 100000 in
set_option maxHeartbeats 1000000 in
/-- Line.launch() -/
theorem k_Line_launch (l : Launch) (G : rG) (la fa : Nat) (cF : ClassId) (hTF : (rT G)[2]? = some (cF, .object RX3)) (k : Nat) (fs : List fE) (L : List (Int32 × List Int32)) (hR : lR k fs L) : gM l G.1 (rT G) yX5_launch wsX5_launch { frames := 2, cells := 0, slots := 0, locals := 44 } [.ref la] ([(la, .inr (3, [.ref fa, .int (nI k)])), (fa, .inl (cF, 40, .inr (.inr (.inr (.inr (fA fs))))))] ++ (plW G fs)) (gQo G.1 (rT G) (fun (r : Option Nat) (u : Nat × List fE) => ∃ (A C : List fE) (x : fE), r = some x.1 ∧ u = (A.length + 1, A ++ x :: C) ∧ (A ++ x :: C).length = 40 ∧ (∀ y ∈ A ++ x :: C, fOk y) ∧ lnL A = (if k = 40 then L.drop 1 else L)) (lW G la fa cF)) 0 0 := by
  refine gM.of (cc := cX5_launch) (maxL := 1) (ret := (some (.object "PointReports$Frame"))) (by decide) rfl (Nat.le_of_ble_eq_true rfl) ?_
  intro p e s m below meth c A ls hx hb hr hml hown hts hlocks hnm hB hl
  have hl : lv_has ls 1 [(0, .ref la)] := hl
  obtain ⟨h40, hk, hok, hL⟩ := hR
  refine lv_aload_n hx hb dX5_launch_0 rfl (lv_at hl 0 rfl) ?_
  refine g_get (own := RX5) (C := RX5) (T := TX5) (N := 2) (ci := 3) (v := .int (nI k)) hx hb hts (fun _ h => List.mem_cons_of_mem _ (List.mem_append_right _ h)) hown hB 0 rfl rfl 1 (by decide) (hts (.fieldLink RX5 16 "PointReports$Line" "inFlight" "I") (by decide +kernel)) rfl rfl dX5_launch_1 ?_
  refine lv_bipush (v := nI 40) hx hb dX5_launch_4 (by decide) ?_
  refine lv_icmp_ne (tgt := 15) hx hb dX5_launch_6 (by decide) (fun c_1 => ?_) (fun c_1 => ?_)
  · have c_1 : ¬ k = 40 := fun h9 => c_1 ((nI_eq (a := k) (b := 40) (by omega) (by omega)).mpr h9)
    obtain ⟨A9, x9, C9, e9, l9⟩ := spl_k fs k (by omega)
    subst e9
    subst l9
    have lT : (A9 ++ x9 :: C9).take A9.length = A9 := List.take_left
    refine lv_aload_n hx hb dX5_launch_15 rfl (lv_at hl 0 rfl) ?_
    refine lv_dup hx hb dX5_launch_16 rfl ?_
    refine g_get (own := RX5) (C := RX5) (T := TX5) (N := 2) (ci := 3) (v := .int (nI A9.length)) hx hb hts (fun _ h => List.mem_cons_of_mem _ (List.mem_append_right _ h)) hown hB 0 rfl rfl 1 (by decide) (hts (.fieldLink RX5 16 "PointReports$Line" "inFlight" "I") (by decide +kernel)) rfl rfl dX5_launch_17 ?_
    refine lv_iconst (v := nI 1) hx hb dX5_launch_20 (by decide) ?_
    refine lv_iadd hx hb dX5_launch_21 ?_
    refine g_top (y := nI (A9.length + 1)) (nI_add _ _) ?_
    refine g_put (own := RX5) (C := RX5) (T := TX5) (N := 2) (ci := 3) (v := .int (nI (A9.length + 1))) hx hb ([(la, .inr (3, [.ref fa, .int (nI (A9.length + 1))])), (fa, .inl (cF, 40, .inr (.inr (.inr (.inr (fA (A9 ++ x9 :: C9)))))))] ++ (plW G (A9 ++ x9 :: C9))) hts (fun _ h => List.mem_cons_of_mem _ (List.mem_append_right _ h)) tyX5 tyX5_ok nmX5 hown hB 0 rfl rfl 1 (by decide) (hts (.fieldLink RX5 16 "PointReports$Line" "inFlight" "I") (by decide +kernel)) rfl rfl (ty := .int) rfl rfl rfl (Nat.le_of_ble_eq_true rfl) rfl dX5_launch_22 (fun H locs hB => ?_)
    refine lv_aload_n hx hb dX5_launch_25 rfl (lv_at hl 0 rfl) ?_
    refine g_get (own := RX5) (C := RX5) (T := TX5) (N := 2) (ci := 3) (v := .ref fa) hx hb hts (fun _ h => List.mem_cons_of_mem _ (List.mem_append_right _ h)) hown hB 0 rfl rfl 0 (by decide) (hts (.fieldLink RX5 11 "PointReports$Line" "frames" "[LPointReports$Frame;") (by decide +kernel)) rfl rfl dX5_launch_26 ?_
    refine lv_aload_n hx hb dX5_launch_29 rfl (lv_at hl 0 rfl) ?_
    refine g_get (own := RX5) (C := RX5) (T := TX5) (N := 2) (ci := 3) (v := .int (nI (A9.length + 1))) hx hb hts (fun _ h => List.mem_cons_of_mem _ (List.mem_append_right _ h)) hown hB 0 rfl rfl 1 (by decide) (hts (.fieldLink RX5 16 "PointReports$Line" "inFlight" "I") (by decide +kernel)) rfl rfl dX5_launch_30 ?_
    refine lv_iconst (v := nI 1) hx hb dX5_launch_33 (by decide) ?_
    refine lv_isub hx hb dX5_launch_34 ?_
    refine g_top (y := nI A9.length) ((pk_sub (by omega)).trans (congrArg nI (by omega))) ?_
    refine g_aldq (r := some x9.1) hx hb hB 1 2 rfl hTF A9.length rfl (by omega) (by omega) (fA_mid A9 x9 C9) dX5_launch_35 ?_
    exact g_aret (Wd := lW G la fa cF) (r := some x9.1) (N := "PointReports$Frame") (A9.length + 1, (A9 ++ x9 :: C9)) hB hx hb hr hlocks rfl ⟨A9, C9, x9, rfl, rfl, h40, hok, by rw [if_neg c_1, hL, lT]⟩ dX5_launch_36
  · have c_1 : k = 40 := (nI_eq (a := k) (b := 40) (by omega) (by omega)).mp c_1
    subst c_1
    obtain ⟨A9, x9, B9, C9, e9, l9, l8⟩ := spl_at fs 40 0 (by omega) (by omega)
    cases A9 with | cons y ys => exact absurd l9 (by rw [List.length_cons]; omega) | nil => ?_
    subst e9
    have l7 : B9.length = 39 := by rw [List.length_nil] at l8; omega
    have l6 : C9 = [] := by have h1 := h40; simp only [List.length_append, List.length_cons, List.length_nil] at h1; exact List.eq_nil_of_length_eq_zero (by omega)
    subst l6
    refine lv_aload_n hx hb dX5_launch_9 rfl (lv_at hl 0 rfl) ?_
    refine lv_iconst (v := nI 0) hx hb dX5_launch_10 (by decide) ?_
    have hB : gB G.1 (rT G) A s s.heap []  ([] ++ ([(la, .inr (3, [.ref fa, .int (nI 40)])), (fa, .inl (cF, 40, .inr (.inr (.inr (.inr (fA ([] ++ x9 :: (B9 ++ []))))))))] ++ plW G ([] ++ x9 :: (B9 ++ [])))) := hB.ordQ [0, 1] 2 rfl (by decide) rfl
    refine g_calloA (wr := []) (wc := ([(la, .inr (3, [.ref fa, .int (nI 40)])), (fa, .inl (cF, 40, .inr (.inr (.inr (.inr (fA ([] ++ x9 :: (B9 ++ []))))))))] ++ plW G ([] ++ x9 :: (B9 ++ [])))) (av := [.int (nI 0)]) (rest := []) ⟨hx, hb, hml, hown, hts⟩ (k_Line_takeOut l G la fa cF hTF [] B9 [] x9 40 h40 (by rw [List.length_nil]; omega)) (cwV 1 hts gX5_launch_X5_takeOut rfl rfl rfl (by decide +kernel) ⟨Nat.le_of_ble_eq_true rfl, Nat.le_of_ble_eq_true rfl⟩) hB (q0 := 0) (ci := 3) rfl rfl rfl rfl hl.1 rfl (Nat.le_of_ble_eq_true rfl) dX5_launch_11 ⟨Nat.le_of_ble_eq_true rfl, Nat.le_of_ble_eq_true rfl⟩ (fun r9 u H locs hw hB => ?_)
    obtain ⟨rfl, rfl⟩ := hw
    have hB : gB G.1 (rT G) A s H locs ([(la, .inr (3, [.ref fa, .int (nI (([] : List fE).length + B9.length))])), (fa, .inl (cF, 40, .inr (.inr (.inr (.inr (fA ([] ++ (B9 ++ x9 :: []))))))))] ++ (plW G ([] ++ (B9 ++ x9 :: [])))) := hB
    have eN : ([] : List fE).length + B9.length = B9.length := Nat.zero_add _
    rw [eN] at hB
    have hB : gB G.1 (rT G) A s H locs ([(la, .inr (3, [.ref fa, .int (nI B9.length)])), (fa, .inl (cF, 40, .inr (.inr (.inr (.inr (fA (B9 ++ x9 :: [])))))))] ++ (plW G (B9 ++ x9 :: []))) := hB
    refine lv_pop hx hb dX5_launch_14 rfl ?_
    refine lv_aload_n hx hb dX5_launch_15 rfl (lv_at hl 0 rfl) ?_
    refine lv_dup hx hb dX5_launch_16 rfl ?_
    refine g_get (own := RX5) (C := RX5) (T := TX5) (N := 2) (ci := 3) (v := .int (nI B9.length)) hx hb hts (fun _ h => List.mem_cons_of_mem _ (List.mem_append_right _ h)) hown hB 0 rfl rfl 1 (by decide) (hts (.fieldLink RX5 16 "PointReports$Line" "inFlight" "I") (by decide +kernel)) rfl rfl dX5_launch_17 ?_
    refine lv_iconst (v := nI 1) hx hb dX5_launch_20 (by decide) ?_
    refine lv_iadd hx hb dX5_launch_21 ?_
    refine g_top (y := nI (B9.length + 1)) (nI_add _ _) ?_
    refine g_put (own := RX5) (C := RX5) (T := TX5) (N := 2) (ci := 3) (v := .int (nI (B9.length + 1))) hx hb ([(la, .inr (3, [.ref fa, .int (nI (B9.length + 1))])), (fa, .inl (cF, 40, .inr (.inr (.inr (.inr (fA (B9 ++ x9 :: [])))))))] ++ (plW G (B9 ++ x9 :: []))) hts (fun _ h => List.mem_cons_of_mem _ (List.mem_append_right _ h)) tyX5 tyX5_ok nmX5 hown hB 0 rfl rfl 1 (by decide) (hts (.fieldLink RX5 16 "PointReports$Line" "inFlight" "I") (by decide +kernel)) rfl rfl (ty := .int) rfl rfl rfl (Nat.le_of_ble_eq_true rfl) rfl dX5_launch_22 (fun H locs hB => ?_)
    refine lv_aload_n hx hb dX5_launch_25 rfl (lv_at hl 0 rfl) ?_
    refine g_get (own := RX5) (C := RX5) (T := TX5) (N := 2) (ci := 3) (v := .ref fa) hx hb hts (fun _ h => List.mem_cons_of_mem _ (List.mem_append_right _ h)) hown hB 0 rfl rfl 0 (by decide) (hts (.fieldLink RX5 11 "PointReports$Line" "frames" "[LPointReports$Frame;") (by decide +kernel)) rfl rfl dX5_launch_26 ?_
    refine lv_aload_n hx hb dX5_launch_29 rfl (lv_at hl 0 rfl) ?_
    refine g_get (own := RX5) (C := RX5) (T := TX5) (N := 2) (ci := 3) (v := .int (nI (B9.length + 1))) hx hb hts (fun _ h => List.mem_cons_of_mem _ (List.mem_append_right _ h)) hown hB 0 rfl rfl 1 (by decide) (hts (.fieldLink RX5 16 "PointReports$Line" "inFlight" "I") (by decide +kernel)) rfl rfl dX5_launch_30 ?_
    refine lv_iconst (v := nI 1) hx hb dX5_launch_33 (by decide) ?_
    refine lv_isub hx hb dX5_launch_34 ?_
    refine g_top (y := nI B9.length) ((pk_sub (by omega)).trans (congrArg nI (by omega))) ?_
    refine g_aldq (r := some x9.1) hx hb hB 1 2 rfl hTF B9.length rfl (by omega) (by omega) (fA_mid B9 x9 []) dX5_launch_35 ?_
    exact g_aret (Wd := lW G la fa cF) (r := some x9.1) (N := "PointReports$Frame") (B9.length + 1, B9 ++ x9 :: []) hB hx hb hr hlocks rfl ⟨B9, [], x9, rfl, rfl, by rw [List.length_append, List.length_cons, List.length_nil, l7], fun y hy => hok y ((tk_perm [] B9 [] x9).mem_iff.mpr hy), by rw [if_pos rfl, hL, List.take_of_length_le (by rw [h40]; exact Nat.le_refl _)]; show lnL B9 = lnL (B9 ++ []); rw [List.append_nil]⟩ dX5_launch_36
