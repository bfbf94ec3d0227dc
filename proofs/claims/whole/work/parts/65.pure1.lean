/-! What the class does, and what the reference does: the same -/
theorem b224 : ∀ x, x < 256 → ((x &&& 224) = 192 ↔ ((x &&& 192) = 192 ∧ (x &&& 32) = 0)) := by decide +kernel
theorem b240 : ∀ x, x < 256 → ((x &&& 240) = 192 ↔ ((x &&& 192) = 192 ∧ (x &&& 32) = 0 ∧ (x &&& 16) = 0)) := by decide +kernel
theorem getD_lt {l : List Nat} (h : ∀ q ∈ l, q < 256) (j : Nat) : l.getD j 0 < 256 := by
  rw [List.getD_eq_getElem?_getD]
  cases hj : l[j]? with
  | none => decide
  | some q => exact h q (List.mem_of_getElem? hj)
theorem va_up_same {α : Type} (f : Nat → α) (k : Nat) (v : α) : va_up f k v k = v := if_pos rfl
theorem cf_iff {n : Nat → Nat} {p q x : Nat} (s10 : n 10 = if p = 0 then 0 else 128 + p) (s11 : p ≠ 0 → n 11 = q) (h : p ≤ 2) : cfC n x ↔ (0 < p ∧ q = (x &&& 15) ∧ ((x &&& 16) ≠ 0 ↔ p = 2)) := by
  unfold cfC
  rw [s10]
  rcases (show p = 0 ∨ p = 1 ∨ p = 2 by omega) with rfl | rfl | rfl
  · rw [if_pos rfl]
    constructor
    · rintro ⟨h1, -⟩; exact absurd h1 (by split <;> decide)
    · rintro ⟨h1, -⟩; exact absurd h1 (by decide)
  · rw [s11 (by omega), if_neg (by decide)]
    by_cases hb : (x &&& 16) = 0
    · rw [if_pos hb]; simp [hb]
    · rw [if_neg hb]; simp [hb]
  · rw [s11 (by omega), if_neg (by decide)]
    by_cases hb : (x &&& 16) = 0
    · rw [if_pos hb]; simp [hb]
    · rw [if_neg hb]; simp [hb]
/-- the station takes a confirmation -/
theorem kConf_eq {n : Nat → Nat} {a : aS} {rp : List Int32} (hs : stR n rp a) (h11 : a.1 11 ≤ 2) (rd : List Nat) (q : Nat) (L : List (Int32 × List Int32)) : ∃ n', kConf (n, a.2.2.1, a.2.2.2.1, q, L) rd = (n', (spConfirm a rd).2.2.1, (spConfirm a rd).2.2.2.1, q, L) ∧ stR n' rp (spConfirm a rd) ∧ n' 16 = n 16 ∧ (spConfirm a rd).2.1 = a.2.1 ∧ (spConfirm a rd).2.2.2.2 = a.2.2.2.2 ∧ ∀ j, j ≠ 11 → (spConfirm a rd).1 j = a.1 j := by
  obtain ⟨s7, s8, s9, s10, s11, s12, s14, s15, t11, t13, t12, t0⟩ := hs
  have hiff := cf_iff (x := rd.getD 0 0) s10 s11 h11
  unfold kConf spConfirm
  by_cases hc : cfC n (rd.getD 0 0)
  · rw [if_pos hc, if_pos (hiff.mp hc)]
    exact ⟨va_up n 10 0, rfl, ⟨s7, s8, s9, rfl, fun h => absurd rfl h, fun h => absurd (show 0 = 2 from h) (by decide), s14, s15, t11, t13, t12, fun j hj => by unfold va_up; rw [if_neg (by omega)]; exact t0 j hj⟩, rfl, rfl, rfl, fun j h => if_neg h⟩
  · rw [if_neg hc, if_neg (fun z => hc (hiff.mpr z))]
    exact ⟨n, rfl, ⟨s7, s8, s9, s10, s11, s12, s14, s15, t11, t13, t12, t0⟩, rfl, rfl, rfl, fun j _ => rfl⟩
theorem kResp_eq {n : Nat → Nat} {a : aS} {rp : List Int32} (hs : stR n rp a) (h9 : a.1 9 ≤ 1) (rd : List Nat) : ∃ n', kResp (a.2.1 2) (n, a.2.2.1, a.2.2.2.1, a.1 101, a.2.2.2.2.1) rd = (n', (spRespond a rd).2.2.1, (spRespond a rd).2.2.2.1, (spRespond a rd).1 101, (spRespond a rd).2.2.2.2.1) ∧ stR n' rp (spRespond a rd) ∧ n' 16 = n 16 := by
  obtain ⟨s7, s8, s9, s10, s11, s12, s14, s15, t11, t13, t12, t0⟩ := hs
  refine ⟨rsNm a.2.2.1 (a.2.1 2) rd n, ?_, ?_, ?_⟩
  · unfold kResp spRespond
    dsimp only
    rw [va_up_same, s9]
  · have hv : ∀ j, j ≠ 9 → j ≠ 10 → j ≠ 11 → rsNm a.2.2.1 (a.2.1 2) rd n j = n j := fun j h9 h10 h11 => by
      show (if j = 9 then _ else _) = _
      rw [if_neg h9]
      split
      · show (if j = 11 then _ else if j = 10 then _ else if j = 10 then _ else n j) = _
        rw [if_neg h11, if_neg h10, if_neg h10]
      · show (if j = 10 then _ else n j) = _
        rw [if_neg h10]
    refine ⟨(hv 7 (by decide) (by decide) (by decide)).trans s7, (hv 8 (by decide) (by decide) (by decide)).trans s8, ?_, ?_, ?_, ?_, (hv 14 (by decide) (by decide) (by decide)).trans s14, (hv 15 (by decide) (by decide) (by decide)).trans s15, ?_, by rw [hv 13 (by decide) (by decide) (by decide)]; exact t13, by rw [hv 12 (by decide) (by decide) (by decide), hv 7 (by decide) (by decide) (by decide)]; exact t12, fun j hj => by rw [hv j (by omega) (by omega) (by omega)]; exact t0 j hj⟩
    · show (if (rsE a.2.2.1 (a.2.1 2) rd).2.2.1 = 0 then n 9 else 0) = (if a.1 9 = 0 then 0 else if (rsE a.2.2.1 (a.2.1 2) rd).2.2.1 = 0 then 1 else 0)
      rw [s9]
      split <;> split <;> omega
    · have e11 : (spRespond a rd).1 11 = (if (rsE a.2.2.1 (a.2.1 2) rd).2.1 < 16 then 1 else 0) := rfl
      have l10 : rsNm a.2.2.1 (a.2.1 2) rd n 10 = (if 0 < 16 - (rsE a.2.2.1 (a.2.1 2) rd).2.1 then 129 else 0) := by
        show (if 0 < 16 - (rsE a.2.2.1 (a.2.1 2) rd).2.1 then va_up (va_up (va_up n 10 0) 10 129) 11 (rd.getD 0 0 &&& 15) else va_up n 10 0) 10 = _
        split <;> rfl
      rw [e11, l10]
      by_cases hc : (rsE a.2.2.1 (a.2.1 2) rd).2.1 < 16
      · rw [if_pos hc, if_pos (show 0 < 16 - (rsE a.2.2.1 (a.2.1 2) rd).2.1 by omega)]; rfl
      · rw [if_neg hc, if_neg (show ¬ 0 < 16 - (rsE a.2.2.1 (a.2.1 2) rd).2.1 by omega)]; rfl
    · show (if (rsE a.2.2.1 (a.2.1 2) rd).2.1 < 16 then 1 else 0) ≠ 0 → (if 0 < 16 - (rsE a.2.2.1 (a.2.1 2) rd).2.1 then va_up (va_up (va_up n 10 0) 10 129) 11 (rd.getD 0 0 &&& 15) else va_up n 10 0) 11 = (if (rsE a.2.2.1 (a.2.1 2) rd).2.1 < 16 then (rd.getD 0 0 &&& 15) else a.1 12)
      by_cases hc : (rsE a.2.2.1 (a.2.1 2) rd).2.1 < 16
      · rw [if_pos hc, if_pos (show 0 < 16 - (rsE a.2.2.1 (a.2.1 2) rd).2.1 by omega), if_pos hc]; intro _; rfl
      · rw [if_neg hc]; exact fun h => absurd rfl h
    · intro h
      have h : (if (rsE a.2.2.1 (a.2.1 2) rd).2.1 < 16 then 1 else 0) = 2 := h
      split at h <;> exact absurd h (by decide)
    · show (if 0 < 16 - (rsE a.2.2.1 (a.2.1 2) rd).2.1 then va_up (va_up (va_up n 10 0) 10 129) 11 (rd.getD 0 0 &&& 15) else va_up n 10 0) 11 < 16
      split
      · exact Nat.lt_of_le_of_lt Nat.and_le_right (by decide)
      · exact t11
  · show (if 0 < 16 - (rsE a.2.2.1 (a.2.1 2) rd).2.1 then va_up (va_up (va_up n 10 0) 10 129) 11 (rd.getD 0 0 &&& 15) else va_up n 10 0) 16 = _
    split <;> rfl
/-- the station hears -/
theorem hear_S {n : Nat → Nat} {a : aS} {rp : List Int32} (hs : stR n rp a) (h9 : a.1 9 ≤ 1) (h11 : a.1 11 ≤ 2) (rd : List Nat) (hrd : ∀ q ∈ rd, q < 256) : ∃ n' b', kHear (a.2.1 2) (n, a.2.2.1, a.2.2.2.1, a.1 101, a.2.2.2.2.1) rd = ((n', (spTake a rd 1).1.2.2.1, (spTake a rd 1).1.2.2.2.1, (spTake a rd 1).1.1 101, (spTake a rd 1).1.2.2.2.2.1), (spTake a rd 1).2) ∧ stR n' rp (spTake a rd 1).1 ∧ n' 16 = n 16 + b' ∧ (spTake a rd 1).1.1 29 = a.1 29 + b' ∧ (spTake a rd 1).1.2.1 = a.2.1 ∧ (spTake a rd 1).1.2.2.2.2.2 = a.2.2.2.2.2 ∧ ∀ j, j ≠ 9 → j ≠ 11 → j ≠ 12 → j ≠ 29 → j ≠ 101 → (spTake a rd 1).1.1 j = a.1 j := by
  have g0 := getD_lt hrd 0
  have c1 := b224 _ g0
  have c2 := b240 _ g0
  have eT : spTake a rd 1 = spDrop (if 2 ≤ rd.length ∧ (rd.getD 0 0 &&& 192) = 192 then spStation a rd else (a, 0)) := rfl
  by_cases hcf : isCf rd
  · obtain ⟨x1, x2, x3⟩ := hcf
    obtain ⟨y1, y2⟩ := c1.mp x2
    have eS : spTake a rd 1 = (spConfirm a rd, 1) := by
      rw [eT, if_pos ⟨by omega, y1⟩]
      unfold spStation
      rw [if_neg (fun z => z y2), if_neg (fun z => by have := z.2.2.1; omega), if_pos ⟨x3, x1⟩]
      rfl
    obtain ⟨n', k1, k2, k3, k5, k6, k7⟩ := kConf_eq hs h11 rd (a.1 101) a.2.2.2.2.1
    rw [eS]
    refine ⟨n', 0, ?_, k2, k3, k7 29 (by decide), k5, congrArg Prod.snd k6, fun j _ h _ _ _ => k7 j h⟩
    rw [kHear, if_pos ⟨x1, x2, x3⟩, k1]
    show ((_, _, _, a.1 101, a.2.2.2.2.1), 1) = ((_, _, _, (spConfirm a rd).1 101, (spConfirm a rd).2.2.2.2.1), 1)
    rw [k7 101 (by decide), k6]
  · by_cases hre : isRe rd
    · obtain ⟨x1, x2, x3, x4⟩ := hre
      obtain ⟨y1, y2, y3⟩ := c2.mp x2
      have eS : spTake a rd 1 = (spRespond a rd, 1) := by
        rw [eT, if_pos ⟨by omega, y1⟩]
        unfold spStation
        rw [if_neg (fun z => z y2), if_pos ⟨x3, y3, x4⟩]
        rfl
      obtain ⟨n', k1, k2, k3⟩ := kResp_eq hs h9 rd
      rw [eS]
      refine ⟨n', 0, ?_, k2, k3, rfl, rfl, rfl, fun j h1 h2 h3 _ h5 => ?_⟩
      · rw [kHear, if_neg hcf, if_pos ⟨x1, x2, x3, x4⟩, k1]
      · show (if j = 101 then _ else if j = 12 then _ else if j = 11 then _ else if j = 9 then _ else a.1 j) = _
        rw [if_neg h5, if_neg h3, if_neg h2, if_neg h1]
    · have eS : spTake a rd 1 = ((va_up a.1 29 (a.1 29 + 1), a.2), 0) := by
        rw [eT]
        have e0 : (if 2 ≤ rd.length ∧ (rd.getD 0 0 &&& 192) = 192 then spStation a rd else (a, 0)) = (a, 0) := by
          by_cases h2 : 2 ≤ rd.length ∧ (rd.getD 0 0 &&& 192) = 192
          · rw [if_pos h2]
            unfold spStation
            by_cases h32 : (rd.getD 0 0 &&& 32) = 0
            · rw [if_neg (fun z => z h32), if_neg (fun z => hre ⟨by have := z.2.2.1; omega, c2.mpr ⟨h2.2, h32, z.2.1⟩, z.1, z.2.2⟩), if_neg (fun z => hcf ⟨z.2, c1.mpr ⟨h2.2, h32⟩, z.1⟩)]
            · rw [if_pos h32]
          · rw [if_neg h2]
        rw [e0]
        rfl
      rw [eS]
      obtain ⟨s7, s8, s9, s10, s11, s12, s14, s15, t11, t13, t12, t0⟩ := hs
      refine ⟨va_up n 16 (n 16 + 1), 1, ?_, ⟨s7, s8, s9, s10, s11, s12, s14, s15, t11, t13, t12, fun j hj => by unfold va_up; rw [if_neg (by omega)]; exact t0 j hj⟩, rfl, rfl, rfl, rfl, fun j _ _ _ h4 _ => if_neg h4⟩
      · rw [kHear, if_neg hcf, if_neg hre]; rfl
