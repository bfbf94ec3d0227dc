/-! FRAMES IN FLIGHT ARE ROWS OF BYTES -/
def isB (x : Int32) : Prop := ∃ n : Nat, n < 256 ∧ x = nI n
theorem isB_and (x : Int32) : isB (x &&& 255) := by
  obtain ⟨j, h1, h2⟩ := pk_andE x (m := 255) 8 rfl
  exact ⟨j, h1, h2⟩
def lnOk (L : List (Int32 × List Int32)) : Prop := ∀ q ∈ L, (q.1 = nI 0 ∨ q.1 = nI 1) ∧ 13 ≤ q.2.length ∧ ∀ x ∈ q.2, isB x
theorem hdF_B (to n : Nat) : ∀ x ∈ hdF to n, isB x := by
  intro x hx
  unfold hdF at hx
  simp only [List.mem_cons, List.not_mem_nil, or_false] at hx
  rcases hx with h | h | h | h | h | h | h | h <;> rw [h] <;> exact isB_and _
theorem ck2_B (l : List Int32) : ∀ x ∈ ck2 l, isB x := by
  intro x hx
  unfold ck2 at hx
  simp only [List.mem_cons, List.not_mem_nil, or_false] at hx
  rcases hx with h | h <;> rw [h] <;> exact isB_and _
theorem pkN_B (first : Int32) (f : Nat → Int32) (a n : Nat) : ∀ x ∈ (pkN first f a n).1, isB x := by
  induction n with
  | zero => intro x hx; rw [pkN] at hx; simp only [List.mem_cons, List.not_mem_nil, or_false] at hx; rw [hx]; exact isB_and _
  | succ n ih =>
    intro x hx
    rw [pkN] at hx
    by_cases h : (pkN first f a n).2.length = 16
    · rw [if_pos h] at hx
      rcases List.mem_append.mp hx with h1 | h1
      · rcases List.mem_append.mp h1 with h2 | h2
        · exact ih x h2
        · exact ck2_B _ x h2
      · rw [List.mem_singleton.mp h1]; exact isB_and _
    · rw [if_neg h] at hx
      rcases List.mem_append.mp hx with h1 | h1
      · exact ih x h1
      · rw [List.mem_singleton.mp h1]; exact isB_and _
theorem pkN_pos (first : Int32) (f : Nat → Int32) (a n : Nat) : 1 ≤ (pkN first f a n).1.length := by
  induction n with
  | zero => exact Nat.le_refl 1
  | succ n ih =>
    rw [pkN]
    by_cases h : (pkN first f a n).2.length = 16
    · rw [if_pos h, List.length_append]; exact Nat.le_add_left _ _
    · rw [if_neg h, List.length_append]; exact Nat.le_add_left _ _
theorem frm_ok (to : Nat) (first : Int32) (l : List Int32) : 13 ≤ (frm to first l).length ∧ ∀ x ∈ frm to first l, isB x := by
  constructor
  · have h := pkN_pos first (fun j => l.getD j 0) 0 l.length
    unfold frm
    rw [List.length_append, List.length_append, List.length_append, ck2_len, ck2_len]
    show 13 ≤ 8 + 2 + _ + 2
    omega
  · intro x hx
    unfold frm at hx
    rcases List.mem_append.mp hx with h1 | h1
    · rcases List.mem_append.mp h1 with h2 | h2
      · rcases List.mem_append.mp h2 with h3 | h3
        · exact hdF_B _ _ x h3
        · exact ck2_B _ x h3
      · exact pkN_B _ _ _ _ x h2
    · exact ck2_B _ x h1
theorem pushL_ok {L : List (Int32 × List Int32)} {x : Int32 × List Int32} (h : lnOk L) (hx : (x.1 = nI 0 ∨ x.1 = nI 1) ∧ 13 ≤ x.2.length ∧ ∀ y ∈ x.2, isB y) : lnOk (pushL L x) := by
  have h1 : lnOk (L ++ [x]) := fun q hq => by
    rcases List.mem_append.mp hq with h2 | h2
    · exact h q h2
    · rw [List.mem_singleton.mp h2]; exact hx
  unfold pushL
  split
  · exact h1
  · exact fun q hq => h1 q (List.mem_of_mem_eraseIdx hq)
theorem sndS_ok {to : Nat} {md : List Int32} (hto : to ≤ 1) : ∀ (d a : Nat) (L : List (Int32 × List Int32)) (q : Nat), lnOk L → lnOk (sndS to md d a L q).1 := by
  intro d
  induction d with
  | zero => intro a L q h; exact h
  | succ d ih =>
    intro a L q h
    rw [sndS]
    split
    · refine ih _ _ _ (pushL_ok h ⟨?_, frm_ok _ _ _⟩)
      rcases (show to = 0 ∨ to = 1 by omega) with e | e <;> rw [e]
      · exact Or.inl rfl
      · exact Or.inr rfl
    · exact h
theorem sndF_ok {to : Nat} {md : List Int32} {L : List (Int32 × List Int32)} {q : Nat} (hto : to ≤ 1) (h : lnOk L) : lnOk (sndF to md L q).1 := sndS_ok hto _ _ _ _ h
/-! THE REFERENCE'S STATE AS AN ABSTRACT ONE: numbers by slot (100, 101 the sides' own segment numbers; 102, 103 the receivers' last numbers; 104, 105 whether they go on), arrays by slot, events, how many wait, the line, the report, what the two receivers gathered and what was collected. b bounds the numbers. -/
abbrev aS : Type := (Nat → Nat) × (Nat → Nat → Int32) × evL × (Nat → Nat) × List (Int32 × List Int32) × List Int32 × (Nat → List Nat)
def rRep (b : Nat) (u : rSt) (a : aS) : Prop := (u.1 0 = nI (a.1 0)) ∧ (u.1 9 = nI (a.1 9)) ∧ (u.1 10 = nI (a.1 10)) ∧ (u.1 11 = nI (a.1 11)) ∧ (u.1 12 = nI (a.1 12)) ∧ (u.1 13 = nI (a.1 13)) ∧ (u.1 14 = nI (a.1 14)) ∧ (u.1 15 = nI (a.1 15)) ∧ (u.1 16 = nI (a.1 16)) ∧ (u.1 19 = nI (a.1 19)) ∧ (u.1 20 = nI (a.1 20)) ∧ (u.1 23 = nI (a.1 23)) ∧ (u.1 25 = nI (a.1 25)) ∧ (u.1 26 = nI (a.1 26)) ∧ (u.1 27 = nI (a.1 27)) ∧ (u.1 28 = nI (a.1 28)) ∧ (u.1 29 = nI (a.1 29)) ∧ (u.2 1 = a.2.1 1) ∧ (u.2 2 = a.2.1 2) ∧ (u.2 3 = a.2.1 3) ∧ (u.2 21 = a.2.1 21) ∧ (u.2 22 = a.2.1 22) ∧ (u.2 24 = a.2.1 24) ∧ (evR (u.2 4) (u.2 5) (u.2 6) (u.2 7) a.2.2.1) ∧ (wtR (u.2 8) a.2.2.1 a.2.2.2.1) ∧ (u.1 30 = nI a.2.2.2.2.1.length) ∧ (a.2.2.2.2.1.length ≤ 40) ∧ (lnR (u.2 31) (u.2 32) (u.2 33) a.2.2.2.2.1) ∧ (u.2 34 0 = nI (a.1 100)) ∧ (u.2 34 1 = nI (a.1 101)) ∧ (a.1 100 < 64) ∧ (a.1 101 < 64) ∧ (pfx (u.2 17) a.2.2.2.2.2.1) ∧ (u.1 18 = nI a.2.2.2.2.2.1.length) ∧ (a.2.2.2.2.2.1.length ≤ 200) ∧ (∀ x, x < 2 → u.2 36 x = nI (a.2.2.2.2.2.2 x).length) ∧ (∀ x, x < 2 → (a.2.2.2.2.2.2 x).length ≤ 400) ∧ (∀ x, x < 2 → ∀ j, j < (a.2.2.2.2.2.2 x).length → u.2 35 (400 * x + j) = nI ((a.2.2.2.2.2.2 x).getD j 0) ∧ (a.2.2.2.2.2.2 x).getD j 0 < 256) ∧ (u.2 37 0 = nI (a.1 102)) ∧ (u.2 37 1 = nI (a.1 103)) ∧ (u.2 38 0 = nI (a.1 104)) ∧ (u.2 38 1 = nI (a.1 105)) ∧ (a.1 102 < 64) ∧ (a.1 103 < 64) ∧ (a.1 104 ≤ 1) ∧ (a.1 105 ≤ 1) ∧ (pfxN (u.2 43) (a.2.2.2.2.2.2 2)) ∧ (u.1 44 = nI (a.2.2.2.2.2.2 2).length) ∧ ((a.2.2.2.2.2.2 2).length ≤ 60) ∧ (a.1 9 ≤ 1) ∧ (a.1 11 ≤ 2) ∧ (a.1 13 ≤ 1) ∧ (a.1 20 ≤ 1) ∧ (∀ p, p < 10 → ∃ c, c ≤ 3 ∧ a.2.1 1 p = nI c) ∧ (∀ c, a.2.2.2.1 c ≤ (a.2.2.1 c).length) ∧ (lnOk a.2.2.2.2.1) ∧ (a.1 20 = 0 → 1 ≤ a.1 19) ∧ (∀ k, a.1 k ≤ b)
/-- a number more, or another -/
theorem va_up_le {f : Nat → Nat} {b b2 k v : Nat} (h : ∀ k, f k ≤ b) (hb : b ≤ b2) (hv : v ≤ b2) : ∀ j, va_up f k v j ≤ b2 := fun j => by
  unfold va_up
  split
  · exact hv
  · exact Nat.le_trans (h j) hb
/-- the station responds -/
noncomputable def spRespond (a : aS) (rd : List Nat) : aS :=
  (va_up (va_up (va_up (va_up a.1 9 (if a.1 9 = 0 then 0 else if (rsE a.2.2.1 (a.2.1 2) rd).2.2.1 = 0 then 1 else 0)) 11 (if (rsE a.2.2.1 (a.2.1 2) rd).2.1 < 16 then 1 else 0)) 12 (if (rsE a.2.2.1 (a.2.1 2) rd).2.1 < 16 then (rd.getD 0 0 &&& 15) else a.1 12)) 101 (sndF 0 (rsO a.2.2.1 (a.2.1 2) rd (nI (a.1 9))) a.2.2.2.2.1 (a.1 101)).2, a.2.1, a.2.2.1, (rsE a.2.2.1 (a.2.1 2) rd).2.2.2, (sndF 0 (rsO a.2.2.1 (a.2.1 2) rd (nI (a.1 9))) a.2.2.2.2.1 (a.1 101)).1, a.2.2.2.2.2.1, a.2.2.2.2.2.2)
/-- the station hears a confirmation -/
def spConfirm (a : aS) (rd : List Nat) : aS := if 0 < a.1 11 ∧ a.1 12 = (rd.getD 0 0 &&& 15) ∧ ((rd.getD 0 0 &&& 16) ≠ 0 ↔ a.1 11 = 2) then (va_up a.1 11 0, a.2.1, fun x => (a.2.2.1 x).drop (a.2.2.2.1 x), fun _ => 0, a.2.2.2.2.1, a.2.2.2.2.2.1, a.2.2.2.2.2.2) else a
/-- the station takes a fragment, both bits of 192 in it: what it is then, and whether it was not dropped -/
noncomputable def spStation (a : aS) (rd : List Nat) : aS × Nat := if (rd.getD 0 0 &&& 32) ≠ 0 then (a, 0) else if isRd rd then (spRespond a rd, 1) else if rd.getD 1 0 = 0 ∧ rd.length = 2 then (spConfirm a rd, 1) else (a, 0)
theorem and_lt (x m : Nat) : (x &&& m) ≤ m := Nat.and_le_right
theorem nI_if {c : Prop} (i : Decidable c) (x y : Nat) : (if c then nI x else nI y) = nI (if c then x else y) := by split <;> rfl
set_option maxRecDepth 100000 in
set_option maxHeartbeats 4000000 in
/-- stationTakes() -/
theorem c_stationTakes (l : Launch) (G : rG) (sc : Nat → Int32) (ar : Nat → Nat → Int32) (b : Nat) (hb9 : b ≤ 1000000) (a : aS) (hr0 : rRep b (sc, ar) a) (rd : List Nat) (hrd : pfxN (ar 41) rd) (h42 : sc 42 = nI rd.length) (hr4 : rd.length ≤ 400) (hr2 : 2 ≤ rd.length) : gM l G.1 (rT G) yX12_stationTakes wsX12_stationTakes ({ frames := 5, cells := 0, slots := 0, locals := 120 }) [.ref G.2.1] (rWs G (sc, ar)) (gQi G.1 (rT G) (fun (r : Int32) (u : rSt) => r = nI (spStation a rd).2 ∧ rRep (b + 400) u (spStation a rd).1) (rWs G)) 0 0 := by
  refine gM.of (cc := cX12_stationTakes) (maxL := 3) (ret := (some .boolean)) (by decide) rfl (Nat.le_of_ble_eq_true rfl) ?_
  intro p e s m below meth c A ls hx hb hr hml hown hts hlocks hnm hB hl
  have hin : ∀ w ∈ wsX120, w ∈ wsX12_stationTakes := fun w h => List.mem_cons_of_mem _ (List.mem_append_right _ h)
  have hl : lv_has ls 3 [(0, .ref G.2.1)] := hl
  obtain ⟨n0, n9, n10, n11, n12, n13, n14, n15, n16, n19, n20, n23, n25, n26, n27, n28, n29, f1, f2, f3, f21, f22, f24, rE, rW, rl1, rl2, rl3, rq0, rq1, rq2, rq3, ro1, ro2, ro3, rg1, rg2, rg3, rg4, rh4, rg5, rh5, rg6, rh6, rg7, rh7, rc1, rc2, rc3, rz1, rz2, rz3, rz4, rk, rV, rY, rA, rb⟩ := id hr0
  have n0 : sc 0 = nI (a.1 0) := n0
  have n9 : sc 9 = nI (a.1 9) := n9
  have n10 : sc 10 = nI (a.1 10) := n10
  have n11 : sc 11 = nI (a.1 11) := n11
  have n12 : sc 12 = nI (a.1 12) := n12
  have n13 : sc 13 = nI (a.1 13) := n13
  have n14 : sc 14 = nI (a.1 14) := n14
  have n15 : sc 15 = nI (a.1 15) := n15
  have n16 : sc 16 = nI (a.1 16) := n16
  have n19 : sc 19 = nI (a.1 19) := n19
  have n20 : sc 20 = nI (a.1 20) := n20
  have n23 : sc 23 = nI (a.1 23) := n23
  have n25 : sc 25 = nI (a.1 25) := n25
  have n26 : sc 26 = nI (a.1 26) := n26
  have n27 : sc 27 = nI (a.1 27) := n27
  have n28 : sc 28 = nI (a.1 28) := n28
  have n29 : sc 29 = nI (a.1 29) := n29
  have f1 : ar 1 = a.2.1 1 := f1
  have f2 : ar 2 = a.2.1 2 := f2
  have f3 : ar 3 = a.2.1 3 := f3
  have f21 : ar 21 = a.2.1 21 := f21
  have f22 : ar 22 = a.2.1 22 := f22
  have f24 : ar 24 = a.2.1 24 := f24
  have rE : evR (ar 4) (ar 5) (ar 6) (ar 7) a.2.2.1 := rE
  have rW : wtR (ar 8) a.2.2.1 a.2.2.2.1 := rW
  have rl1 : sc 30 = nI a.2.2.2.2.1.length := rl1
  have rl3 : lnR (ar 31) (ar 32) (ar 33) a.2.2.2.2.1 := rl3
  have rq0 : ar 34 0 = nI (a.1 100) := rq0
  have rq1 : ar 34 1 = nI (a.1 101) := rq1
  have ro1 : pfx (ar 17) a.2.2.2.2.2.1 := ro1
  have ro2 : sc 18 = nI a.2.2.2.2.2.1.length := ro2
  have rg1 : ∀ x, x < 2 → ar 36 x = nI (a.2.2.2.2.2.2 x).length := rg1
  have rg3 : ∀ x, x < 2 → ∀ j, j < (a.2.2.2.2.2.2 x).length → ar 35 (400 * x + j) = nI ((a.2.2.2.2.2.2 x).getD j 0) ∧ (a.2.2.2.2.2.2 x).getD j 0 < 256 := rg3
  have rg4 : ar 37 0 = nI (a.1 102) := rg4
  have rh4 : ar 37 1 = nI (a.1 103) := rh4
  have rg5 : ar 38 0 = nI (a.1 104) := rg5
  have rh5 : ar 38 1 = nI (a.1 105) := rh5
  have rc1 : pfxN (ar 43) (a.2.2.2.2.2.2 2) := rc1
  have rc2 : sc 44 = nI (a.2.2.2.2.2.2 2).length := rc2
  have rb2 : ∀ k, a.1 k ≤ b + 400 := fun k => Nat.le_trans (rb k) (by omega)
  have b11 := rb 11
  have b12 := rb 12
  have hsame : rRep (b + 400) (sc, ar) a := ⟨n0, n9, n10, n11, n12, n13, n14, n15, n16, n19, n20, n23, n25, n26, n27, n28, n29, f1, f2, f3, f21, f22, f24, rE, rW, rl1, rl2, rl3, rq0, rq1, rq2, rq3, ro1, ro2, ro3, rg1, rg2, rg3, rg4, rh4, rg5, rh5, rg6, rh6, rg7, rh7, rc1, rc2, rc3, rz1, rz2, rz3, rz4, rk, rV, rY, rA, rb2⟩
  refine lv_aload_n hx hb dX12_stationTakes_0 rfl (lv_at hl 0 rfl) ?_
  refine r_get (u := (sc, ar)) (v := .ref (G.2.2.1 41)) hx hb hts hin hown hB 41 (by decide) (hts (.fieldLink RX12 78 "PointReportsModel" "read" "[I") (by decide +kernel)) rfl rfl dX12_stationTakes_1 ?_
  refine lv_iconst (v := nI 0) hx hb dX12_stationTakes_4 (by decide) ?_
  refine r_ald (u := (sc, ar)) (f := ar 41) hx hb hB 22 rfl 0 rfl (by omega) (by decide) dX12_stationTakes_5 ?_
  have q6 := hrd (0) (by omega)
  refine g_top (y := nI (rd.getD (0) 0)) q6.1 ?_
  have q6 := q6.2
  refine lv_bipush (v := nI 32) hx hb dX12_stationTakes_6 (by decide) ?_
  refine lv_iand hx hb dX12_stationTakes_8 ?_
  refine g_top (y := nI (rd.getD 0 0 &&& 32)) (nx_and _ _) ?_
  have l32 := and_lt (rd.getD 0 0) 32
  refine lv_if_eq (tgt := 14) hx hb dX12_stationTakes_9 (by decide) (fun c_1 => ?_) (fun c_1 => ?_)
  · have c_1 : (rd.getD 0 0 &&& 32) = 0 := (nI_eq (a := (rd.getD 0 0 &&& 32)) (b := 0) (by omega) (by omega)).mp c_1
    have hs0 : spStation a rd = if isRd rd then (spRespond a rd, 1) else if rd.getD 1 0 = 0 ∧ rd.length = 2 then (spConfirm a rd, 1) else (a, 0) := by rw [spStation, if_neg (fun z => z c_1)]
    refine lv_aload_n hx hb dX12_stationTakes_14 rfl (lv_at hl 0 rfl) ?_
    refine g_calli (av := []) (rest := []) ⟨hx, hb, hml, hown, hts⟩ (c_isRead l G sc ar rd hrd h42 hr4 hr2) (cwV 0 hts gX12_stationTakes_X12_isRead rfl rfl rfl (by decide +kernel) ⟨Nat.le_of_ble_eq_true rfl, Nat.le_of_ble_eq_true rfl⟩) hB (q0 := 0) (ci := 9) rfl rfl rfl rfl hl.1 rfl (Nat.le_of_ble_eq_true rfl) dX12_stationTakes_15 ⟨Nat.le_of_ble_eq_true rfl, Nat.le_of_ble_eq_true rfl⟩ (fun r9 u H locs hw hB => ?_)
    obtain ⟨hir, rfl⟩ := hw
    have hB : gB G.1 (rT G) A s H locs (rWs G (sc, ar)) := hB
    refine lv_if_eq (tgt := 27) hx hb dX12_stationTakes_18 (by decide) (fun c_2 => ?_) (fun c_2 => ?_)
    · have c_2 := c_2
      have hnr : ¬ isRd rd := by rcases hir with ⟨h1, h2⟩ | ⟨h1, h2⟩; exact absurd (h1.symm.trans c_2) (by decide); exact h2
      rw [if_neg hnr] at hs0
      refine lv_aload_n hx hb dX12_stationTakes_27 rfl (lv_at hl 0 rfl) ?_
      refine r_get (u := (sc, ar)) (v := .ref (G.2.2.1 41)) hx hb hts hin hown hB 41 (by decide) (hts (.fieldLink RX12 78 "PointReportsModel" "read" "[I") (by decide +kernel)) rfl rfl dX12_stationTakes_28 ?_
      refine lv_iconst (v := nI 0) hx hb dX12_stationTakes_31 (by decide) ?_
      refine r_ald (u := (sc, ar)) (f := ar 41) hx hb hB 22 rfl 0 rfl (by omega) (by decide) dX12_stationTakes_32 ?_
      have q33 := hrd (0) (by omega)
      refine g_top (y := nI (rd.getD (0) 0)) q33.1 ?_
      have q33 := q33.2
      refine lv_bipush (v := nI 16) hx hb dX12_stationTakes_33 (by decide) ?_
      refine lv_iand hx hb dX12_stationTakes_35 ?_
      refine g_top (y := nI (rd.getD 0 0 &&& 16)) (nx_and _ _) ?_
      have l16 := and_lt (rd.getD 0 0) 16
      refine g_cut (σ := Unit) 44 (fun _ H locs ls => gB G.1 (rT G) A s H locs (rWs G (sc, ar)) ∧ lv_has ls 3 [(0, .ref G.2.1)]) (fun _ => [.int (nI (if (rd.getD 0 0 &&& 16) = 0 then 0 else 1))]) ?_ (fun cut => ?_)
      rotate_left
      · refine lv_if_eq (tgt := 43) hx hb dX12_stationTakes_36 (by decide) (fun c_3 => ?_) (fun c_3 => ?_)
        · have c_3 : (rd.getD 0 0 &&& 16) = 0 := (nI_eq (a := (rd.getD 0 0 &&& 16)) (b := 0) (by omega) (by omega)).mp c_3
          refine lv_iconst (v := nI 0) hx hb dX12_stationTakes_43 (by decide) ?_
          refine g_top (y := nI (if (rd.getD 0 0 &&& 16) = 0 then 0 else 1)) (by rw [if_pos c_3]) ?_
          exact cut () H locs ls ⟨hB, hl⟩
        · have c_3 : ¬ (rd.getD 0 0 &&& 16) = 0 := fun h9 => c_3 ((nI_eq (a := (rd.getD 0 0 &&& 16)) (b := 0) (by omega) (by omega)).mpr h9)
          refine lv_iconst (v := nI 1) hx hb dX12_stationTakes_39 (by decide) ?_
          refine lv_goto (tgt := 44) hx hb dX12_stationTakes_40 (by decide) ?_
          refine g_top (y := nI (if (rd.getD 0 0 &&& 16) = 0 then 0 else 1)) (by rw [if_neg c_3]) ?_
          exact cut () H locs ls ⟨hB, hl⟩
      rintro - H locs ls ⟨hB, hl⟩
      refine lv_istore_n (lv' := [(1, .int (nI (if (rd.getD 0 0 &&& 16) = 0 then 0 else 1))), (0, .ref G.2.1)]) hx hb dX12_stationTakes_44 rfl hl (by decide) rfl (fun ls hl => ?_)
      refine lv_aload_n hx hb dX12_stationTakes_45 rfl (lv_at hl 1 rfl) ?_
      refine r_get (u := (sc, ar)) (v := .ref (G.2.2.1 41)) hx hb hts hin hown hB 41 (by decide) (hts (.fieldLink RX12 78 "PointReportsModel" "read" "[I") (by decide +kernel)) rfl rfl dX12_stationTakes_46 ?_
      refine lv_iconst (v := nI 1) hx hb dX12_stationTakes_49 (by decide) ?_
      refine r_ald (u := (sc, ar)) (f := ar 41) hx hb hB 22 rfl 1 rfl (by omega) (by decide) dX12_stationTakes_50 ?_
      have q51 := hrd (1) (by omega)
      refine g_top (y := nI (rd.getD (1) 0)) q51.1 ?_
      have q51 := q51.2
      refine lv_if_ne (tgt := 66) hx hb dX12_stationTakes_51 (by decide) (fun c_4 => ?_) (fun c_4 => ?_)
      · have c_4 : ¬ (rd.getD (1) 0) = 0 := fun h9 => c_4 ((nI_eq (a := (rd.getD (1) 0)) (b := 0) (by omega) (by omega)).mpr h9)
        have hs1 : spStation a rd = (a, 0) := by rw [hs0, if_neg (fun z => c_4 z.1)]
        refine lv_iconst (v := nI 0) hx hb dX12_stationTakes_66 (by decide) ?_
        refine lv_istore_n (lv' := [(2, .int (nI 0)), (1, .int (nI (if (rd.getD 0 0 &&& 16) = 0 then 0 else 1))), (0, .ref G.2.1)]) hx hb dX12_stationTakes_67 rfl hl (by decide) rfl (fun ls hl => ?_)
        refine lv_iload_n hx hb dX12_stationTakes_68 rfl (lv_at hl 0 rfl) ?_
        refine lv_if_eq (tgt := 116) hx hb dX12_stationTakes_69 (by decide) (fun c_5 => ?_) (fun c_5 => ?_)
        · have c_5 : 0 = 0 := (nI_eq (a := 0) (b := 0) (by omega) (by omega)).mp c_5
          refine lv_iload_n hx hb dX12_stationTakes_116 rfl (lv_at hl 0 rfl) ?_
          exact g_zret (Wd := rWs G) (v := nI 0) (sc, ar) hB hx hb hr hlocks rfl (narrow_z (Or.inl rfl)) ⟨by rw [hs1], by rw [hs1]; exact hsame⟩ dX12_stationTakes_117
        · have c_5 : ¬ 0 = 0 := fun h9 => c_5 ((nI_eq (a := 0) (b := 0) (by omega) (by omega)).mpr h9)
          exact absurd rfl c_5
      · have c_4 : (rd.getD (1) 0) = 0 := (nI_eq (a := (rd.getD (1) 0)) (b := 0) (by omega) (by omega)).mp c_4
        refine lv_aload_n hx hb dX12_stationTakes_54 rfl (lv_at hl 1 rfl) ?_
        refine r_get (u := (sc, ar)) (v := .int (sc 42)) hx hb hts hin hown hB 42 (by decide) (hts (.fieldLink RX12 127 "PointReportsModel" "readLength" "I") (by decide +kernel)) rfl rfl dX12_stationTakes_55 ?_
        refine g_top (y := nI rd.length) h42 ?_
        refine lv_iconst (v := nI 2) hx hb dX12_stationTakes_58 (by decide) ?_
        refine lv_icmp_ne (tgt := 66) hx hb dX12_stationTakes_59 (by decide) (fun c_6 => ?_) (fun c_6 => ?_)
        · have c_6 : ¬ rd.length = 2 := fun h9 => c_6 ((nI_eq (a := rd.length) (b := 2) (by omega) (by omega)).mpr h9)
          have hs1 : spStation a rd = (a, 0) := by rw [hs0, if_neg (fun z => c_6 z.2)]
          refine lv_iconst (v := nI 0) hx hb dX12_stationTakes_66 (by decide) ?_
          refine lv_istore_n (lv' := [(2, .int (nI 0)), (1, .int (nI (if (rd.getD 0 0 &&& 16) = 0 then 0 else 1))), (0, .ref G.2.1)]) hx hb dX12_stationTakes_67 rfl hl (by decide) rfl (fun ls hl => ?_)
          refine lv_iload_n hx hb dX12_stationTakes_68 rfl (lv_at hl 0 rfl) ?_
          refine lv_if_eq (tgt := 116) hx hb dX12_stationTakes_69 (by decide) (fun c_7 => ?_) (fun c_7 => ?_)
          · have c_7 : 0 = 0 := (nI_eq (a := 0) (b := 0) (by omega) (by omega)).mp c_7
            refine lv_iload_n hx hb dX12_stationTakes_116 rfl (lv_at hl 0 rfl) ?_
            exact g_zret (Wd := rWs G) (v := nI 0) (sc, ar) hB hx hb hr hlocks rfl (narrow_z (Or.inl rfl)) ⟨by rw [hs1], by rw [hs1]; exact hsame⟩ dX12_stationTakes_117
          · have c_7 : ¬ 0 = 0 := fun h9 => c_7 ((nI_eq (a := 0) (b := 0) (by omega) (by omega)).mpr h9)
            exact absurd rfl c_7
        · have c_6 : rd.length = 2 := (nI_eq (a := rd.length) (b := 2) (by omega) (by omega)).mp c_6
          have hs1 : spStation a rd = (spConfirm a rd, 1) := by rw [hs0, if_pos ⟨c_4, c_6⟩]
          refine lv_iconst (v := nI 1) hx hb dX12_stationTakes_62 (by decide) ?_
          refine lv_goto (tgt := 67) hx hb dX12_stationTakes_63 (by decide) ?_
          refine lv_istore_n (lv' := [(2, .int (nI 1)), (1, .int (nI (if (rd.getD 0 0 &&& 16) = 0 then 0 else 1))), (0, .ref G.2.1)]) hx hb dX12_stationTakes_67 rfl hl (by decide) rfl (fun ls hl => ?_)
          refine lv_iload_n hx hb dX12_stationTakes_68 rfl (lv_at hl 0 rfl) ?_
          refine lv_if_eq (tgt := 116) hx hb dX12_stationTakes_69 (by decide) (fun c_8 => ?_) (fun c_8 => ?_)
          · have c_8 : 1 = 0 := (nI_eq (a := 1) (b := 0) (by omega) (by omega)).mp c_8
            exact absurd c_8 (by decide)
          · have c_8 : ¬ 1 = 0 := fun h9 => c_8 ((nI_eq (a := 1) (b := 0) (by omega) (by omega)).mpr h9)
            refine lv_aload_n hx hb dX12_stationTakes_72 rfl (lv_at hl 2 rfl) ?_
            refine r_get (u := (sc, ar)) (v := .int (sc 11)) hx hb hts hin hown hB 11 (by decide) (hts (.fieldLink RX12 147 "PointReportsModel" "waiting" "I") (by decide +kernel)) rfl rfl dX12_stationTakes_73 ?_
            refine g_top (y := nI (a.1 11)) n11 ?_
            refine lv_if_le (tgt := 116) hx hb dX12_stationTakes_76 (by decide) (fun c_9 => ?_) (fun c_9 => ?_)
            · have c_9 : (a.1 11) ≤ 0 := (nI_leI (a := (a.1 11)) (b := 0) (by omega) (by omega)).mp c_9
              have hs2 : spConfirm a rd = a := by rw [spConfirm, if_neg (fun z => by omega)]
              refine lv_iload_n hx hb dX12_stationTakes_116 rfl (lv_at hl 0 rfl) ?_
              exact g_zret (Wd := rWs G) (v := nI 1) (sc, ar) hB hx hb hr hlocks rfl (narrow_z (Or.inr rfl)) ⟨by rw [hs1], by rw [hs1, hs2]; exact hsame⟩ dX12_stationTakes_117
            · have c_9 : ¬ (a.1 11) ≤ 0 := fun h9 => c_9 ((nI_leI (a := (a.1 11)) (b := 0) (by omega) (by omega)).mpr h9)
              refine lv_aload_n hx hb dX12_stationTakes_79 rfl (lv_at hl 2 rfl) ?_
              refine r_get (u := (sc, ar)) (v := .int (sc 12)) hx hb hts hin hown hB 12 (by decide) (hts (.fieldLink RX12 175 "PointReportsModel" "waitingSeq" "I") (by decide +kernel)) rfl rfl dX12_stationTakes_80 ?_
              refine g_top (y := nI (a.1 12)) n12 ?_
              refine lv_aload_n hx hb dX12_stationTakes_83 rfl (lv_at hl 2 rfl) ?_
              refine r_get (u := (sc, ar)) (v := .ref (G.2.2.1 41)) hx hb hts hin hown hB 41 (by decide) (hts (.fieldLink RX12 78 "PointReportsModel" "read" "[I") (by decide +kernel)) rfl rfl dX12_stationTakes_84 ?_
              refine lv_iconst (v := nI 0) hx hb dX12_stationTakes_87 (by decide) ?_
              refine r_ald (u := (sc, ar)) (f := ar 41) hx hb hB 22 rfl 0 rfl (by omega) (by decide) dX12_stationTakes_88 ?_
              have q89 := hrd (0) (by omega)
              refine g_top (y := nI (rd.getD (0) 0)) q89.1 ?_
              have q89 := q89.2
              refine lv_bipush (v := nI 15) hx hb dX12_stationTakes_89 (by decide) ?_
              refine lv_iand hx hb dX12_stationTakes_91 ?_
              refine g_top (y := nI (rd.getD 0 0 &&& 15)) (nx_and _ _) ?_
              have l15 := and_lt (rd.getD 0 0) 15
              refine lv_icmp_ne (tgt := 116) hx hb dX12_stationTakes_92 (by decide) (fun c_10 => ?_) (fun c_10 => ?_)
              · have c_10 : ¬ (a.1 12) = (rd.getD 0 0 &&& 15) := fun h9 => c_10 ((nI_eq (a := (a.1 12)) (b := (rd.getD 0 0 &&& 15)) (by omega) (by omega)).mpr h9)
                have hs2 : spConfirm a rd = a := by rw [spConfirm, if_neg (fun z => c_10 z.2.1)]
                refine lv_iload_n hx hb dX12_stationTakes_116 rfl (lv_at hl 0 rfl) ?_
                exact g_zret (Wd := rWs G) (v := nI 1) (sc, ar) hB hx hb hr hlocks rfl (narrow_z (Or.inr rfl)) ⟨by rw [hs1], by rw [hs1, hs2]; exact hsame⟩ dX12_stationTakes_117
              · have c_10 : (a.1 12) = (rd.getD 0 0 &&& 15) := (nI_eq (a := (a.1 12)) (b := (rd.getD 0 0 &&& 15)) (by omega) (by omega)).mp c_10
                refine lv_iload_n hx hb dX12_stationTakes_95 rfl (lv_at hl 1 rfl) ?_
                refine lv_aload_n hx hb dX12_stationTakes_96 rfl (lv_at hl 2 rfl) ?_
                refine r_get (u := (sc, ar)) (v := .int (sc 11)) hx hb hts hin hown hB 11 (by decide) (hts (.fieldLink RX12 147 "PointReportsModel" "waiting" "I") (by decide +kernel)) rfl rfl dX12_stationTakes_97 ?_
                refine g_top (y := nI (a.1 11)) n11 ?_
                refine lv_iconst (v := nI 2) hx hb dX12_stationTakes_100 (by decide) ?_
                refine g_cut (σ := Unit) 109 (fun _ H locs ls => gB G.1 (rT G) A s H locs (rWs G (sc, ar)) ∧ lv_has ls 3 [(2, .int (nI 1)), (1, .int (nI (if (rd.getD 0 0 &&& 16) = 0 then 0 else 1))), (0, .ref G.2.1)]) (fun _ => [.int (nI (if a.1 11 = 2 then 1 else 0)), .int (nI (if (rd.getD 0 0 &&& 16) = 0 then 0 else 1))]) ?_ (fun cut => ?_)
                rotate_left
                · refine lv_icmp_ne (tgt := 108) hx hb dX12_stationTakes_101 (by decide) (fun c_11 => ?_) (fun c_11 => ?_)
                  · have c_11 : ¬ (a.1 11) = 2 := fun h9 => c_11 ((nI_eq (a := (a.1 11)) (b := 2) (by omega) (by omega)).mpr h9)
                    refine lv_iconst (v := nI 0) hx hb dX12_stationTakes_108 (by decide) ?_
                    refine g_top (y := nI (if a.1 11 = 2 then 1 else 0)) (by rw [if_neg c_11]) ?_
                    exact cut () H locs ls ⟨hB, hl⟩
                  · have c_11 : (a.1 11) = 2 := (nI_eq (a := (a.1 11)) (b := 2) (by omega) (by omega)).mp c_11
                    refine lv_iconst (v := nI 1) hx hb dX12_stationTakes_104 (by decide) ?_
                    refine lv_goto (tgt := 109) hx hb dX12_stationTakes_105 (by decide) ?_
                    refine g_top (y := nI (if a.1 11 = 2 then 1 else 0)) (by rw [if_pos c_11]) ?_
                    exact cut () H locs ls ⟨hB, hl⟩
                rintro - H locs ls ⟨hB, hl⟩
                have u1 : (if (rd.getD 0 0 &&& 16) = 0 then 0 else 1) ≤ 1 := by split <;> omega
                have u2 : (if a.1 11 = 2 then 1 else 0) ≤ 1 := by split <;> omega
                refine lv_icmp_ne (tgt := 116) hx hb dX12_stationTakes_109 (by decide) (fun c_12 => ?_) (fun c_12 => ?_)
                · have c_12 : ¬ (if (rd.getD 0 0 &&& 16) = 0 then 0 else 1) = (if a.1 11 = 2 then 1 else 0) := fun h9 => c_12 ((nI_eq (a := (if (rd.getD 0 0 &&& 16) = 0 then 0 else 1)) (b := (if a.1 11 = 2 then 1 else 0)) (by omega) (by omega)).mpr h9)
                  have hs2 : spConfirm a rd = a := by rw [spConfirm, if_neg (fun z => by
                      have z3 := z.2.2
                      by_cases h5 : (rd.getD 0 0 &&& 16) = 0
                      · by_cases h6 : a.1 11 = 2
                        · exact (z3.mpr h6) h5
                        · exact c_12 (by rw [if_pos h5, if_neg h6])
                      · exact c_12 (by rw [if_neg h5, if_pos (z3.mp h5)]))]
                  refine lv_iload_n hx hb dX12_stationTakes_116 rfl (lv_at hl 0 rfl) ?_
                  exact g_zret (Wd := rWs G) (v := nI 1) (sc, ar) hB hx hb hr hlocks rfl (narrow_z (Or.inr rfl)) ⟨by rw [hs1], by rw [hs1, hs2]; exact hsame⟩ dX12_stationTakes_117
                · have c_12 : (if (rd.getD 0 0 &&& 16) = 0 then 0 else 1) = (if a.1 11 = 2 then 1 else 0) := (nI_eq (a := (if (rd.getD 0 0 &&& 16) = 0 then 0 else 1)) (b := (if a.1 11 = 2 then 1 else 0)) (by omega) (by omega)).mp c_12
                  have hiff : (rd.getD 0 0 &&& 16) ≠ 0 ↔ a.1 11 = 2 := by
                      by_cases h5 : (rd.getD 0 0 &&& 16) = 0
                      · rw [if_pos h5] at c_12
                        by_cases h6 : a.1 11 = 2
                        · rw [if_pos h6] at c_12; omega
                        · exact ⟨fun h7 => absurd h5 h7, fun h7 => absurd h7 h6⟩
                      · rw [if_neg h5] at c_12
                        by_cases h6 : a.1 11 = 2
                        · exact ⟨fun _ => h6, fun _ => h5⟩
                        · rw [if_neg h6] at c_12; omega
                  have hs2 : spConfirm a rd = (va_up a.1 11 0, a.2.1, fun x => (a.2.2.1 x).drop (a.2.2.2.1 x), fun _ => 0, a.2.2.2.2.1, a.2.2.2.2.2.1, a.2.2.2.2.2.2) := by rw [spConfirm, if_pos ⟨by omega, c_10, hiff⟩]
                  refine lv_aload_n hx hb dX12_stationTakes_112 rfl (lv_at hl 2 rfl) ?_
                  refine g_callv (av := []) (rest := []) ⟨hx, hb, hml, hown, hts⟩ (c_forget l G sc ar a.2.2.1 a.2.2.2.1 rE rW) (cwV 0 hts gX12_stationTakes_X12_forget rfl rfl rfl (by decide +kernel) ⟨Nat.le_of_ble_eq_true rfl, Nat.le_of_ble_eq_true rfl⟩) hB (q0 := 0) (ci := 9) rfl rfl rfl rfl hl.1 rfl (Nat.le_of_ble_eq_true rfl) dX12_stationTakes_113 ⟨Nat.le_of_ble_eq_true rfl, Nat.le_of_ble_eq_true rfl⟩ (fun u H locs hw hB => ?_)
                  obtain ⟨ke, po, va, ti, wa, hF, hwa, rfl⟩ := hw
                  have hB : gB G.1 (rT G) A s H locs (rWs G (upd sc 11 (nI 0), va_up (va_up (va_up (va_up (va_up ar 4 ke) 5 po) 6 va) 7 ti) 8 wa)) := hB
                  refine lv_iload_n hx hb dX12_stationTakes_116 rfl (lv_at hl 0 rfl) ?_
                  rw [hs1, hs2]
                  exact g_zret (Wd := rWs G) (v := nI 1) (upd sc 11 (nI 0), va_up (va_up (va_up (va_up (va_up ar 4 ke) 5 po) 6 va) 7 ti) 8 wa) hB hx hb hr hlocks rfl (narrow_z (Or.inr rfl)) ⟨rfl, ⟨n0, n9, n10, rfl, n12, n13, n14, n15, n16, n19, n20, n23, n25, n26, n27, n28, n29, f1, f2, f3, f21, f22, f24, hF, (fun c h1 h3 j hj => by rw [if_neg (Nat.not_lt_zero _)]; exact hwa _ (by have h8 := (rE c h1 h3).2.1; have hj2 : j < ((a.2.2.1 c).drop (a.2.2.2.1 c)).length := hj; rw [List.length_drop] at hj2; omega)), rl1, rl2, rl3, rq0, rq1, rq2, rq3, ro1, ro2, ro3, rg1, rg2, rg3, rg4, rh4, rg5, rh5, rg6, rh6, rg7, rh7, rc1, rc2, rc3, rz1, (Nat.zero_le 2), rz3, rz4, rk, (fun _ => Nat.zero_le _), rY, rA, (va_up_le rb2 (Nat.le_refl _) (Nat.zero_le _))⟩⟩ dX12_stationTakes_117
    · have c_2 := c_2
      have hir : isRd rd := by rcases hir with ⟨h1, h2⟩ | ⟨h1, h2⟩; exact h2; exact absurd h1 c_2
      rw [if_pos hir] at hs0
      refine lv_aload_n hx hb dX12_stationTakes_21 rfl (lv_at hl 0 rfl) ?_
      have h9z : sc 9 = 0 ∨ sc 9 = 1 := by rw [n9]; rcases (show a.1 9 = 0 ∨ a.1 9 = 1 by omega) with h | h <;> rw [h]; exact Or.inl rfl; exact Or.inr rfl
      refine g_callv (av := []) (rest := []) ⟨hx, hb, hml, hown, hts⟩ (c_respond l G sc ar rd hrd h42 hr4 hir a.2.2.1 rE h9z a.2.2.2.2.1 rl3 rl1 rl2 (a.1 101) rq1 rq3) (cwV 0 hts gX12_stationTakes_X12_respond rfl rfl rfl (by decide +kernel) ⟨Nat.le_of_ble_eq_true rfl, Nat.le_of_ble_eq_true rfl⟩) hB (q0 := 0) (ci := 9) rfl rfl rfl rfl hl.1 rfl (Nat.le_of_ble_eq_true rfl) dX12_stationTakes_22 ⟨Nat.le_of_ble_eq_true rfl, Nat.le_of_ble_eq_true rfl⟩ (fun u H locs hw hB => ?_)
      obtain ⟨f5, wa, fr, le, si, nu, s1, s2, s3, s4, s5, s6, rfl⟩ := hw
      have hB : gB G.1 (rT G) A s H locs (rWs G (upd (upd (upd (upd (upd sc 9 (if sc 9 = 0 then nI 0 else if (rsE a.2.2.1 (ar 2) rd).2.2.1 = 0 then nI 1 else nI 0)) 11 (if (rsE a.2.2.1 (ar 2) rd).2.1 < 16 then nI 1 else nI 0)) 12 (if (rsE a.2.2.1 (ar 2) rd).2.1 < 16 then nI (rd.getD 0 0 &&& 15) else sc 12)) 30 (nI ((sndF 0 (rsO a.2.2.1 (ar 2) rd (sc 9)) a.2.2.2.2.1 (a.1 101)).1.length))) 40 (nI ((rsO a.2.2.1 (ar 2) rd (sc 9)).length)), va_up (va_up (va_up (va_up (va_up (va_up ar 8 wa) 31 fr) 32 le) 33 si) 34 nu) 39 f5)) := hB
      refine lv_iconst (v := nI 1) hx hb dX12_stationTakes_25 (by decide) ?_
      have l15 := and_lt (rd.getD 0 0) 15
      rw [hs0]
      have e2 : ar 2 = a.2.1 2 := f2
      have e9 : sc 9 = nI (a.1 9) := n9
      rw [e2] at s1
      rw [e2, e9] at s2 s3 s4 s5
      have x9 : (if sc 9 = 0 then nI 0 else if (rsE a.2.2.1 (ar 2) rd).2.2.1 = 0 then nI 1 else nI 0) = nI (if a.1 9 = 0 then 0 else if (rsE a.2.2.1 (a.2.1 2) rd).2.2.1 = 0 then 1 else 0) := by
        rw [e2, e9]
        by_cases h : a.1 9 = 0
        · rw [if_pos (by rw [h]; rfl), if_pos h]
        · rw [if_neg (show ¬ nI (a.1 9) = 0 from fun z => h ((nI_eq (by omega) (by decide)).mp z)), if_neg h]; exact nI_if _ _ _
      have x11 : (if (rsE a.2.2.1 (ar 2) rd).2.1 < 16 then nI 1 else nI 0) = nI (if (rsE a.2.2.1 (a.2.1 2) rd).2.1 < 16 then 1 else 0) := by rw [e2]; exact nI_if _ _ _
      have x12 : (if (rsE a.2.2.1 (ar 2) rd).2.1 < 16 then nI (rd.getD 0 0 &&& 15) else sc 12) = nI (if (rsE a.2.2.1 (a.2.1 2) rd).2.1 < 16 then (rd.getD 0 0 &&& 15) else a.1 12) := by rw [e2, n12]; exact nI_if _ _ _
      have x30 : nI (sndF 0 (rsO a.2.2.1 (ar 2) rd (sc 9)) a.2.2.2.2.1 (a.1 101)).1.length = nI (sndF 0 (rsO a.2.2.1 (a.2.1 2) rd (nI (a.1 9))) a.2.2.2.2.1 (a.1 101)).1.length := by rw [e2, e9]
      exact g_zret (Wd := rWs G) (v := nI 1) (upd (upd (upd (upd (upd sc 9 (if sc 9 = 0 then nI 0 else if (rsE a.2.2.1 (ar 2) rd).2.2.1 = 0 then nI 1 else nI 0)) 11 (if (rsE a.2.2.1 (ar 2) rd).2.1 < 16 then nI 1 else nI 0)) 12 (if (rsE a.2.2.1 (ar 2) rd).2.1 < 16 then nI (rd.getD 0 0 &&& 15) else sc 12)) 30 (nI ((sndF 0 (rsO a.2.2.1 (ar 2) rd (sc 9)) a.2.2.2.2.1 (a.1 101)).1.length))) 40 (nI ((rsO a.2.2.1 (ar 2) rd (sc 9)).length)), va_up (va_up (va_up (va_up (va_up (va_up ar 8 wa) 31 fr) 32 le) 33 si) 34 nu) 39 f5) hB hx hb hr hlocks rfl (narrow_z (Or.inr rfl)) ⟨rfl, ⟨n0, x9, n10, x11, x12, n13, n14, n15, n16, n19, n20, n23, n25, n26, n27, n28, n29, f1, f2, f3, f21, f22, f24, rE, s1, x30, s3, s2, (s6.trans rq0), s5, rq2, s4, ro1, ro2, ro3, rg1, rg2, rg3, rg4, rh4, rg5, rh5, rg6, rh6, rg7, rh7, rc1, rc2, rc3, (show (if a.1 9 = 0 then 0 else if (rsE a.2.2.1 (a.2.1 2) rd).2.2.1 = 0 then 1 else 0) ≤ 1 by split; exact Nat.zero_le _; split <;> omega), (show (if (rsE a.2.2.1 (a.2.1 2) rd).2.1 < 16 then 1 else 0) ≤ 2 by split <;> omega), rz3, rz4, rk, (fun c => rsS_wt _ _ _ _ _ c), (sndF_ok (by decide) rY), rA, (va_up_le (va_up_le (va_up_le (va_up_le rb2 (Nat.le_refl _) (by split; exact Nat.zero_le _; split <;> omega)) (Nat.le_refl _) (by split <;> omega)) (Nat.le_refl _) (by split; omega; exact rb2 12)) (Nat.le_refl _) (by omega))⟩⟩ dX12_stationTakes_26
  · have c_1 : ¬ (rd.getD 0 0 &&& 32) = 0 := fun h9 => c_1 ((nI_eq (a := (rd.getD 0 0 &&& 32)) (b := 0) (by omega) (by omega)).mpr h9)
    have hs0 : spStation a rd = (a, 0) := by rw [spStation, if_pos c_1]
    refine lv_iconst (v := nI 0) hx hb dX12_stationTakes_12 (by decide) ?_
    exact g_zret (Wd := rWs G) (v := nI 0) (sc, ar) hB hx hb hr hlocks rfl (narrow_z (Or.inl rfl)) ⟨by rw [hs0], by rw [hs0]; exact hsame⟩ dX12_stationTakes_13
