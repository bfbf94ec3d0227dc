/-! Frames that come: what the class and the reference think of them -/
theorem ck_nI {bl : List Int32} (hB : ∀ x ∈ bl, isB x) {a n : Nat} (h : a + n ≤ bl.length) : ∃ c, c < 65536 ∧ ck (sub bl a n) = nI c := by
  obtain ⟨k, hk, ek⟩ := ckF_seg (f := fun j => bl.getD j 0) (a := a) n (fun j hj => ⟨_, (bq_at hB (show a + j < bl.length by omega)).2, (bq_at hB (show a + j < bl.length by omega)).1⟩)
  refine ⟨k ^^^ 65535, Nat.xor_lt_two_pow (n := 16) hk (by decide), ?_⟩
  show ckF (seg _ a n) ^^^ 65535 = _
  rw [ek]
  exact nx_xor k 65535
theorem chk_iff {bl : List Int32} (hB : ∀ x ∈ bl, isB x) {a n : Nat} (h : a + n + 2 ≤ bl.length) : nI (loN bl (a + n) 2) = ck (sub bl a n) ↔ chkL bl a n := by
  obtain ⟨c, hc, ec⟩ := ck_nI hB (a := a) (n := n) (by omega)
  obtain ⟨g1, g2⟩ := bq_at hB (show a + n < bl.length by omega)
  obtain ⟨g3, g4⟩ := bq_at hB (show a + n + 1 < bl.length by omega)
  unfold chkL chkF
  show _ ↔ bl.getD (a + n) 0 = ck (seg (fun j => bl.getD j 0) a n) &&& nI 255 ∧ bl.getD (a + n + 1) 0 = ck (seg (fun j => bl.getD j 0) a n) >>> (nI 8 &&& 31)
  rw [show ck (seg (fun j => bl.getD j 0) a n) = nI c from ec, ec, g1, g3, nx_and, pk_shrN (by omega) (nI 8 &&& 31) 8 (by decide)]
  have el : loN bl (a + n) 2 = bq bl (a + n) + bq bl (a + n + 1) * 256 := by
    show 0 + bq bl (a + n + 0) * 2 ^ (8 * 0) + bq bl (a + n + 1) * 2 ^ (8 * 1) = _
    rw [Nat.zero_add, Nat.add_zero]
    omega
  have e255 : (c &&& 255) = c % 256 := Nat.and_two_pow_sub_one_eq_mod c 8
  rw [el, e255, nI_eq (by omega) (by omega), nI_eq (by omega) (by omega), nI_eq (by omega) (by omega)]
  omega
theorem ok_iff {sd : Nat} (hsd : sd ≤ 1) {bl : List Int32} (hB : ∀ x ∈ bl, isB x) (h13 : 13 ≤ bl.length) : okC sd bl ↔ okF sd bl := by
  have q : ∀ j, j < 13 → bq bl j < 256 := fun j hj => (bq_at hB (by omega)).2
  have q4 := q 4 (by decide); have q5 := q 5 (by decide); have q6 := q 6 (by decide); have q7 := q 7 (by decide)
  have el : ∀ a, loN bl a 2 = bq bl a + bq bl (a + 1) * 256 := fun a => by
    show 0 + bq bl (a + 0) * 2 ^ (8 * 0) + bq bl (a + 1) * 2 ^ (8 * 1) = _
    rw [Nat.zero_add, Nat.add_zero]
    omega
  have hn : nF bl = bq bl 2 - 5 := rfl
  have c8 := chk_iff hB (a := 0) (n := 8) (by omega)
  have el4 : loN bl 4 2 = bq bl 4 + bq bl 5 * 256 := el 4
  have el6 : loN bl 6 2 = bq bl 6 + bq bl 7 * 256 := el 6
  unfold okC okF hdOk bdOk
  rw [el4, el6]
  constructor
  · rintro ⟨h7, h26, hl, ⟨k0, k1, k3, k4, k6, k8⟩, b1, b2⟩
    refine ⟨k0, k1, h7, h26, k3, by omega, by omega, ?_, ?_, by omega, c8.mp k8, ?_, ?_⟩
    · rcases (show sd = 0 ∨ sd = 1 by omega) with rfl | rfl
      · rw [if_neg (by decide)] at k6; omega
      · rw [if_pos rfl] at k6; omega
    · rcases (show sd = 0 ∨ sd = 1 by omega) with rfl | rfl
      · rw [if_neg (by decide)] at k6; omega
      · rw [if_pos rfl] at k6; omega
    · have em : mnN 16 (bl.length - 12) = (if nF bl < 16 then nF bl else 16) := by unfold mnN; split <;> split <;> omega
      rw [em] at b1
      exact (chk_iff hB (by split <;> omega)).mp b1
    · intro h16
      have b2 := b2 (by omega)
      have em : mnN 16 (bl.length - 30) = nF bl - 16 := by unfold mnN; split <;> omega
      rw [em] at b2
      exact (chk_iff hB (by omega)).mp b2
  · rintro ⟨k0, k1, h7, h26, k3, k4, k5, k6, k7, hl, k8, b1, b2⟩
    refine ⟨h7, h26, by omega, ⟨k0, k1, k3, by omega, ?_, c8.mpr k8⟩, ?_, fun h28 => ?_⟩
    · rcases (show sd = 0 ∨ sd = 1 by omega) with rfl | rfl
      · rw [if_neg (by decide)]; omega
      · rw [if_pos rfl]; omega
    · have em : mnN 16 (bl.length - 12) = (if nF bl < 16 then nF bl else 16) := by unfold mnN; split <;> split <;> omega
      rw [em]
      exact (chk_iff hB (by split <;> omega)).mpr b1
    · have em : mnN 16 (bl.length - 30) = nF bl - 16 := by unfold mnN; split <;> omega
      rw [em]
      exact (chk_iff hB (by omega)).mpr (b2 (by omega))
theorem plF_M (bl : List Int32) : (plF bl).map nI = plM bl (nF bl - 1) := by
  unfold plF plM; rw [List.map_map]; rfl
/-- a frame comes: the receiver's state, and whether a fragment is there, as the reference has it -/
theorem arr_eq {a : aS} {sd dr : Nat} (hsd : sd ≤ 1) {bl : List Int32} (hB : ∀ x ∈ bl, isB x) (h13 : 13 ≤ bl.length) (h64 : a.1 (102 + sd) < 64) (h1 : a.1 (104 + sd) ≤ 1) (h400 : (a.2.2.2.2.2.2 sd).length ≤ 400) (hb : ∀ q ∈ a.2.2.2.2.2.2 sd, q < 256) : ∃ (a1 : aS) (d1 : Nat), (rcC (a.1 (104 + sd), a.1 (102 + sd), dr, (a.2.2.2.2.2.2 sd).map nI) sd bl).1 = (a1.1 (104 + sd), a1.1 (102 + sd), dr + d1, (a1.2.2.2.2.2.2 sd).map nI) ∧ a1.1 28 = a.1 28 + d1 ∧ (∀ j, j ≠ 28 → j ≠ 102 + sd → j ≠ 104 + sd → a1.1 j = a.1 j) ∧ a1.1 (102 + sd) < 64 ∧ a1.1 (104 + sd) ≤ 1 ∧ (a1.2.2.2.2.2.2 sd).length ≤ 400 ∧ (∀ q ∈ a1.2.2.2.2.2.2 sd, q < 256) ∧ (∀ x, x ≠ sd → a1.2.2.2.2.2.2 x = a.2.2.2.2.2.2 x) ∧ a1.2.1 = a.2.1 ∧ a1.2.2.1 = a.2.2.1 ∧ a1.2.2.2.1 = a.2.2.2.1 ∧ a1.2.2.2.2.1 = a.2.2.2.2.1 ∧ a1.2.2.2.2.2.1 = a.2.2.2.2.2.1 ∧ (((rcC (a.1 (104 + sd), a.1 (102 + sd), dr, (a.2.2.2.2.2.2 sd).map nI) sd bl).2 = 0 ∧ spArr a sd bl = a1) ∨ ((rcC (a.1 (104 + sd), a.1 (102 + sd), dr, (a.2.2.2.2.2.2 sd).map nI) sd bl).2 = 1 ∧ spArr a sd bl = (spTake a1 (a1.2.2.2.2.2.2 sd) sd).1)) := by
  have hok := ok_iff hsd hB h13
  obtain ⟨v, ev⟩ : ∃ v : rvS, v = (a.1 (104 + sd), a.1 (102 + sd), dr, (a.2.2.2.2.2.2 sd).map nI) := ⟨_, rfl⟩
  have v1 : v.1 = a.1 (104 + sd) := by rw [ev]
  have v2 : v.2.1 = a.1 (102 + sd) := by rw [ev]
  have v3 : v.2.2.1 = dr := by rw [ev]
  have v4 : v.2.2.2 = (a.2.2.2.2.2.2 sd).map nI := by rw [ev]
  rw [← ev]
  unfold rcC spArr
  by_cases hc : okF sd bl
  · rw [if_pos (hok.mpr hc), if_pos hc]
    obtain ⟨-, -, o7, o26, -, -, -, -, -, olen, -⟩ := hc
    have hn : nF bl = bq bl 2 - 5 := rfl
    have hcr : ∀ j, j < nF bl → crF bl j < 256 := fun j hj => by rw [← carr_eq (by omega)]; exact (bq_at hB (by omega)).2
    have m64 : ∀ x : Nat, (x &&& 63) = x % 64 := fun x => Nat.and_two_pow_sub_one_eq_mod x 6
    have key : ∀ old : List Nat, old.length + (nF bl - 1) ≤ 400 → (∀ q ∈ old, q < 256) → ∃ (a1 : aS) (d1 : Nat), (rcG v bl (old.map nI)).1 = (a1.1 (104 + sd), a1.1 (102 + sd), dr + d1, (a1.2.2.2.2.2.2 sd).map nI) ∧ a1.1 28 = a.1 28 + d1 ∧ (∀ j, j ≠ 28 → j ≠ 102 + sd → j ≠ 104 + sd → a1.1 j = a.1 j) ∧ a1.1 (102 + sd) < 64 ∧ a1.1 (104 + sd) ≤ 1 ∧ (a1.2.2.2.2.2.2 sd).length ≤ 400 ∧ (∀ q ∈ a1.2.2.2.2.2.2 sd, q < 256) ∧ (∀ x, x ≠ sd → a1.2.2.2.2.2.2 x = a.2.2.2.2.2.2 x) ∧ a1.2.1 = a.2.1 ∧ a1.2.2.1 = a.2.2.1 ∧ a1.2.2.2.1 = a.2.2.2.1 ∧ a1.2.2.2.2.1 = a.2.2.2.2.1 ∧ a1.2.2.2.2.2.1 = a.2.2.2.2.2.1 ∧ (((rcG v bl (old.map nI)).2 = 0 ∧ spGot a sd bl old = a1) ∨ ((rcG v bl (old.map nI)).2 = 1 ∧ spGot a sd bl old = (spTake a1 (a1.2.2.2.2.2.2 sd) sd).1)) := by
      intro old hlen hold
      have p1 : (spRcv a sd (old ++ plF bl) (crF bl 0)).1 (104 + sd) = (if (crF bl 0 &&& 128) = 0 then 1 else 0) := va_up_same _ _ _
      have p2 : (spRcv a sd (old ++ plF bl) (crF bl 0)).1 (102 + sd) = crF bl 0 % 64 := by
        show (if 102 + sd = 104 + sd then _ else if 102 + sd = 102 + sd then (crF bl 0 &&& 63) else _) = _
        rw [if_neg (by omega), if_pos rfl, m64]
      have p3 : (spRcv a sd (old ++ plF bl) (crF bl 0)).2.2.2.2.2.2 sd = old ++ plF bl := va_up_same _ _ _
      refine ⟨spRcv a sd (old ++ plF bl) (crF bl 0), 0, ?_, ?_, ?_, ?_, ?_, ?_, ?_, ?_, rfl, rfl, rfl, rfl, rfl, ?_⟩
      · rw [p1, p2, p3, List.map_append, plF_M]; show (_, _, v.2.2.1, _) = _; rw [v3]; rfl
      · show (if 28 = 104 + sd then _ else if 28 = 102 + sd then _ else a.1 28) = _
        rw [if_neg (by omega), if_neg (by omega)]; rfl
      · intro j _ k2 k3
        show (if j = 104 + sd then _ else if j = 102 + sd then _ else a.1 j) = _
        rw [if_neg k3, if_neg k2]
      · rw [p2]; exact Nat.mod_lt _ (by decide)
      · rw [p1]; split <;> decide
      · rw [p3, List.length_append]; unfold plF; rw [List.length_map, List.length_range]; exact hlen
      · rw [p3]; intro x hx
        rcases List.mem_append.mp hx with h | h
        · exact hold x h
        · unfold plF at h
          obtain ⟨k, hk, ek⟩ := List.mem_map.mp h
          rw [← ek]; exact hcr _ (by have := List.mem_range.mp hk; omega)
      · intro x hx; exact if_neg hx
      · unfold spGot rcG
        rw [p3]
        by_cases h128 : (crF bl 0 &&& 128) = 0
        · rw [if_pos h128, if_pos h128, if_pos h128]; exact Or.inl ⟨rfl, rfl⟩
        · rw [if_neg h128, if_neg h128, if_neg h128]; exact Or.inr ⟨rfl, rfl⟩
    by_cases h64b : (crF bl 0 &&& 64) = 0
    · rw [if_pos h64b, if_neg (show ¬ ((crF bl 0 &&& 64) ≠ 0) from fun z => z h64b)]
      by_cases hf : a.1 (104 + sd) ≠ 0 ∧ (crF bl 0 &&& 63) = (a.1 (102 + sd) + 1) % 64 ∧ (a.2.2.2.2.2.2 sd).length + (nF bl - 1) ≤ 400
      · rw [if_pos (show v.1 = 1 ∧ crF bl 0 % 64 = (v.2.1 + 1) % 64 ∧ v.2.2.2.length + (nF bl - 1) ≤ 400 from ⟨by rw [v1]; have := hf.1; omega, by rw [← m64, v2]; exact hf.2.1, by rw [v4, List.length_map]; exact hf.2.2⟩), if_pos hf, v4]
        exact key (a.2.2.2.2.2.2 sd) hf.2.2 hb
      · rw [if_neg (show ¬ (v.1 = 1 ∧ crF bl 0 % 64 = (v.2.1 + 1) % 64 ∧ v.2.2.2.length + (nF bl - 1) ≤ 400) from fun z => hf ⟨by have := z.1; omega, by rw [m64, ← v2]; exact z.2.1, by have := z.2.2; rw [v4, List.length_map] at this; exact this⟩), if_neg hf]
        refine ⟨(va_up a.1 (104 + sd) 0, a.2), 0, ?_, ?_, fun j _ _ k3 => if_neg k3, ?_, ?_, h400, hb, fun _ _ => rfl, rfl, rfl, rfl, rfl, rfl, Or.inl ⟨rfl, rfl⟩⟩
        · show (0, v.2) = (va_up a.1 (104 + sd) 0 (104 + sd), va_up a.1 (104 + sd) 0 (102 + sd), dr + 0, _)
          rw [va_up_same, show va_up a.1 (104 + sd) 0 (102 + sd) = a.1 (102 + sd) from if_neg (by omega), ev]
          rfl
        · show (if 28 = 104 + sd then _ else a.1 28) = _
          rw [if_neg (by omega)]; rfl
        · rw [show (va_up a.1 (104 + sd) 0, a.2).1 (102 + sd) = a.1 (102 + sd) from if_neg (by omega)]; exact h64
        · rw [show (va_up a.1 (104 + sd) 0, a.2).1 (104 + sd) = 0 from va_up_same _ _ _]; decide
    · rw [if_neg h64b, if_pos (show (crF bl 0 &&& 64) ≠ 0 from h64b)]
      exact key [] (by rw [List.length_nil]; omega) (fun q hq => absurd hq List.not_mem_nil)
  · rw [if_neg (fun z => hc (hok.mp z)), if_neg hc]
    refine ⟨(va_up a.1 28 (a.1 28 + 1), a.2), 1, ?_, rfl, fun j k1 _ _ => if_neg k1, ?_, ?_, h400, hb, fun _ _ => rfl, rfl, rfl, rfl, rfl, rfl, Or.inl ⟨rfl, rfl⟩⟩
    · show (v.1, v.2.1, v.2.2.1 + 1, v.2.2.2) = (va_up a.1 28 (a.1 28 + 1) (104 + sd), va_up a.1 28 (a.1 28 + 1) (102 + sd), dr + 1, _)
      rw [show va_up a.1 28 (a.1 28 + 1) (104 + sd) = a.1 (104 + sd) from if_neg (by omega), show va_up a.1 28 (a.1 28 + 1) (102 + sd) = a.1 (102 + sd) from if_neg (by omega), v1, v2, v3, v4]
    · rw [show (va_up a.1 28 (a.1 28 + 1), a.2).1 (102 + sd) = a.1 (102 + sd) from if_neg (by omega)]; exact h64
    · rw [show (va_up a.1 28 (a.1 28 + 1), a.2).1 (104 + sd) = a.1 (104 + sd) from if_neg (by omega)]; exact h1
