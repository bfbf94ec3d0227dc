/-! The master hears; a tick; a change; a frame that comes -/
def mT (t : mS) (a a0 : aS) : Prop := t.1 7 = a.1 23 ∧ t.1 8 = a.1 25 ∧ t.2.1 = a.2.1 21 ∧ t.2.2.1 = a.2.1 22 ∧ t.2.2.2 = a.2.1 24 ∧ (∀ j, j ≠ 23 → j ≠ 25 → a.1 j = a0.1 j) ∧ (∀ j, j ≠ 21 → j ≠ 22 → j ≠ 24 → a.2.1 j = a0.2.1 j) ∧ a.2.2 = a0.2.2
theorem mT_TE {t : mS} {a a0 : aS} (h : mT t a a0) (rd : List Nat) (z cls : Nat) : mT (kTE t rd z cls) (spTE a rd z cls) a0 := by
  obtain ⟨nm, v4, v5, v6⟩ := t
  obtain ⟨h7, h8, e4, e5, e6, hj, hf, hr⟩ := h
  have g7 : nm 7 = a.1 23 := h7
  have g8 : nm 8 = a.1 25 := h8
  have c4 : v4 = a.2.1 21 := e4
  have c5 : v5 = a.2.1 22 := e5
  have c6 : v6 = a.2.1 24 := e6
  clear h7 h8 e4 e5 e6
  subst c4; subst c5; subst c6
  unfold kTE spTE
  by_cases hc : nI (hN rd (z + 3) 4) ≤ a.2.1 22 (rd.getD z 0)
  · rw [if_pos hc, if_pos hc]
    exact ⟨g7, congrArg (· + 1) g8, rfl, rfl, rfl, fun j h1 h2 => (if_neg h2).trans (hj j h1 h2), hf, hr⟩
  · rw [if_neg hc, if_neg hc]
    refine ⟨congrArg (· + 1) g7, g8, rfl, rfl, ?_, fun j h1 h2 => (if_neg h1).trans (hj j h1 h2), fun j h1 h2 h4 => ?_, hr⟩
    · show (if nm 7 < 200 then tkN (a.2.1 24) (4 * nm 7) _ _ _ _ else a.2.1 24) = (if a.1 23 < 200 then tkN (a.2.1 24) (4 * a.1 23) _ _ _ _ else a.2.1 24)
      rw [g7]
    · show (if j = 24 then _ else if j = 22 then _ else if j = 21 then _ else a.2.1 j) = _
      rw [if_neg h4, if_neg h2, if_neg h1]
      exact hf j h1 h2 h4
theorem mT_TV {t : mS} {a a0 : aS} (h : mT t a a0) (rd : List Nat) (z : Nat) : mT (kTV t rd z) (spTV a rd z) a0 := by
  obtain ⟨nm, v4, v5, v6⟩ := t
  obtain ⟨h7, h8, e4, e5, e6, hj, hf, hr⟩ := h
  have e4 : v4 = a.2.1 21 := e4
  subst e4
  refine ⟨h7, h8, rfl, e5, e6, hj, fun j h1 h2 h4 => (if_neg h1).trans (hf j h1 h2 h4), hr⟩
theorem mT_TG {t : mS} {a a0 : aS} (h : mT t a a0) (rd : List Nat) (z : Nat) : ∀ k, mT (kTG t rd z k) (spTG a rd z k) a0 := by
  intro k
  induction k with
  | zero => exact h
  | succ k ih =>
    rw [kTG, spTG]
    by_cases hw : wd2 rd z = 3
    · rw [if_pos hw, if_pos hw]; exact mT_TV ih _ _
    · rw [if_neg hw, if_neg hw]; exact mT_TE ih _ _ _
theorem mT_MG {a0 : aS} (rd : List Nat) : ∀ (f z : Nat) {t : mS} {a : aS}, mT t a a0 → mT (kMG rd f z t) (spMG rd f z a) a0 := by
  intro f
  induction f with
  | zero => intro z t a h; exact h
  | succ f ih =>
    intro z t a h
    rw [kMG, spMG]
    by_cases hz : z < rd.length
    · rw [if_pos hz, if_pos hz]; exact ih _ (mT_TG h _ _ _)
    · rw [if_neg hz, if_neg hz]; exact h
theorem kMG_n (rd : List Nat) : ∀ (f z : Nat) (t : mS), ∀ j, j ≠ 7 → j ≠ 8 → (kMG rd f z t).1 j = t.1 j := by
  intro f
  induction f with
  | zero => intro z t j _ _; rfl
  | succ f ih =>
    intro z t j h7 h8
    rw [kMG]
    split
    · exact (ih _ _ j h7 h8).trans ((kTG_n t rd z _).2.2 j h7 h8)
    · rfl
/-- the master hears -/
theorem hear_M {nm : Nat → Nat} {a : aS} (hm : maR nm a) (h20 : a.1 20 ≤ 1) (rd : List Nat) : ∃ nm' b', kMHear ((nm, a.2.1 21, a.2.1 22, a.2.1 24), a.1 100, a.2.2.2.2.1) rd = (((nm', (spTake a rd 0).1.2.1 21, (spTake a rd 0).1.2.1 22, (spTake a rd 0).1.2.1 24), (spTake a rd 0).1.1 100, (spTake a rd 0).1.2.2.2.2.1), (spTake a rd 0).2) ∧ maR nm' (spTake a rd 0).1 ∧ nm' 11 = nm 11 + b' ∧ (spTake a rd 0).1.1 29 = a.1 29 + b' ∧ (∀ j, j ≠ 20 → j ≠ 23 → j ≠ 25 → j ≠ 26 → j ≠ 27 → j ≠ 29 → j ≠ 100 → (spTake a rd 0).1.1 j = a.1 j) ∧ (∀ j, j ≠ 21 → j ≠ 22 → j ≠ 24 → (spTake a rd 0).1.2.1 j = a.2.1 j) ∧ (spTake a rd 0).1.2.2.1 = a.2.2.1 ∧ (spTake a rd 0).1.2.2.2.1 = a.2.2.2.1 ∧ (spTake a rd 0).1.2.2.2.2.2 = a.2.2.2.2.2 := by
  have eT : spTake a rd 0 = spDrop (if 2 ≤ rd.length ∧ (rd.getD 0 0 &&& 192) = 192 then spMaster a rd else (a, 0)) := rfl
  obtain ⟨s5, s6, s7, s8, s9, s10, t0⟩ := hm
  by_cases hc : wnC nm rd ∧ arG rd
  · obtain ⟨⟨w4, w192, wk⟩, har⟩ := hc
    have hk : isRs a rd ∨ isRp rd := by
      rcases wk with ⟨k1, k2⟩ | ⟨k1, k2, k3, k4⟩
      · exact Or.inr ⟨k1, k2⟩
      · exact Or.inl ⟨k1, k2, by omega, by rw [k4, s5]⟩
    obtain ⟨a1, ea1⟩ : ∃ a1 : aS, a1 = (va_up a.1 20 (if a.1 20 ≠ 0 ∨ isRs a rd then 1 else 0), a.2) := ⟨_, rfl⟩
    have eS : spTake a rd 0 = (spMB (spMG rd 400 4 a1) rd, 1) := by
      rw [eT, if_pos ⟨by omega, w192⟩, ea1]
      unfold spMaster
      rw [if_pos ⟨hk, har⟩]
      rfl
    have h1 : a1.1 20 = (if a.1 20 ≠ 0 ∨ isRs a rd then 1 else 0) := by rw [ea1]; rfl
    have h2 : ∀ j, j ≠ 20 → a1.1 j = a.1 j := fun j hj => by rw [ea1]; exact if_neg hj
    have h3 : a1.2 = a.2 := by rw [ea1]
    obtain ⟨n1, en1⟩ : ∃ n1 : Nat → Nat, n1 = (if rd.getD 1 0 = 129 then va_up nm 6 0 else nm) := ⟨_, rfl⟩
    have hn6 : n1 6 = 1 - a1.1 20 := by
      rw [h1, en1]
      by_cases hq : rd.getD 1 0 = 129
      · rw [if_pos hq]
        have hrs : isRs a rd := by
          rcases hk with h | h
          · exact h
          · exact absurd (hq.symm.trans h.1) (by decide)
        rw [if_pos (Or.inr hrs)]; rfl
      · rw [if_neg hq, s6]
        have hnr : ¬ isRs a rd := fun z => hq z.1
        by_cases h0 : a.1 20 = 0
        · rw [if_neg (by rintro (z | z); exact z h0; exact hnr z), h0]
        · rw [if_pos (Or.inl h0)]; omega
    have hnj : ∀ j, j ≠ 6 → n1 j = nm j := fun j hj => by
      rw [en1]; split
      · exact if_neg hj
      · rfl
    have hT0 : mT (n1, a.2.1 21, a.2.1 22, a.2.1 24) a1 a1 := ⟨by show n1 7 = _; rw [hnj 7 (by decide), s7, h2 23 (by decide)], by show n1 8 = _; rw [hnj 8 (by decide), s8, h2 25 (by decide)], by rw [h3], by rw [h3], by rw [h3], fun _ _ _ => rfl, fun _ _ _ _ => rfl, rfl⟩
    have hT := mT_MG (a0 := a1) rd 400 4 hT0
    have hN := kMG_n rd 400 4 (n1, a.2.1 21, a.2.1 22, a.2.1 24)
    generalize hk9 : kMG rd 400 4 (n1, a.2.1 21, a.2.1 22, a.2.1 24) = t2 at hT hN
    generalize hs9 : spMG rd 400 4 a1 = a2 at hT eS
    obtain ⟨n2, u4, u5, u6⟩ := t2
    obtain ⟨q7, q8, e4, e5, e6, qj, qf, qr⟩ := hT
    have q7 : n2 7 = a2.1 23 := q7
    have q8 : n2 8 = a2.1 25 := q8
    have e4 : u4 = a2.2.1 21 := e4
    have e5 : u5 = a2.2.1 22 := e5
    have e6 : u6 = a2.2.1 24 := e6
    have hN : ∀ j, j ≠ 7 → j ≠ 8 → n2 j = n1 j := hN
    have qL : a2.2.2.2.2.1 = a.2.2.2.2.1 := by rw [qr, h3]
    have q100 : a2.1 100 = a.1 100 := (qj 100 (by decide) (by decide)).trans (h2 100 (by decide))
    have hK : kMHear ((nm, a.2.1 21, a.2.1 22, a.2.1 24), a.1 100, a.2.2.2.2.1) rd = (kMB ((n2, u4, u5, u6), a.1 100, a.2.2.2.2.1) rd, 1) := by
      rw [← hk9, en1]; exact if_pos ⟨⟨w4, w192, wk⟩, har⟩
    rw [eS, hK]
    have bj : ∀ j, j ≠ 20 → j ≠ 23 → j ≠ 25 → a2.1 j = a.1 j := fun j k1 k2 k3 => (qj j k2 k3).trans (h2 j k1)
    have bf : ∀ j, j ≠ 21 → j ≠ 22 → j ≠ 24 → a2.2.1 j = a.2.1 j := fun j k1 k2 k3 => (qf j k1 k2 k3).trans (by rw [h3])
    have c5 : n2 5 = a2.1 19 := by rw [hN 5 (by decide) (by decide), hnj 5 (by decide), s5, bj 19 (by decide) (by decide) (by decide)]
    have c6 : n2 6 = 1 - a2.1 20 := by rw [hN 6 (by decide) (by decide), hn6, qj 20 (by decide) (by decide)]
    have c0 : ∀ j, j < 5 ∨ 11 < j → va_up (va_up n2 9 (rd.getD 2 0)) 10 (rd.getD 3 0) j = 0 := fun j hj => by
      show (if j = 10 then _ else if j = 9 then _ else n2 j) = 0
      rw [if_neg (by omega), if_neg (by omega), hN j (by omega) (by omega), hnj j (by omega)]
      exact t0 j hj
    have c11 : n2 11 = nm 11 + 0 := by rw [hN 11 (by decide) (by decide), hnj 11 (by decide)]; rfl
    have c29 : a2.1 29 = a.1 29 + 0 := bj 29 (by decide) (by decide) (by decide)
    subst e4; subst e5; subst e6
    unfold kMB spMB
    by_cases h32 : (rd.getD 0 0 &&& 32) = 0
    · rw [if_pos h32, if_pos h32]
      refine ⟨va_up (va_up n2 9 (rd.getD 2 0)) 10 (rd.getD 3 0), 0, ?_, ⟨c5, c6, q7, q8, rfl, rfl, c0⟩, c11, c29, fun j k1 k2 k3 k4 k5 _ _ => ?_, bf, by show a2.2.2.1 = _; rw [qr, h3], by show a2.2.2.2.1 = _; rw [qr, h3], by show a2.2.2.2.2.2 = _; rw [qr, h3]⟩
      · show ((_, a.1 100, a.2.2.2.2.1), 1) = ((_, a2.1 100, a2.2.2.2.2.1), 1)
        rw [q100, qL]
      · show (if j = 27 then _ else if j = 26 then _ else a2.1 j) = _
        rw [if_neg k5, if_neg k4]; exact bj j k1 k2 k3
    · rw [if_neg h32, if_neg h32]
      refine ⟨va_up (va_up n2 9 (rd.getD 2 0)) 10 (rd.getD 3 0), 0, ?_, ⟨c5, c6, q7, q8, rfl, rfl, c0⟩, c11, c29, fun j k1 k2 k3 k4 k5 _ k7 => ?_, bf, by show a2.2.2.1 = _; rw [qr, h3], by show a2.2.2.2.1 = _; rw [qr, h3], by show a2.2.2.2.2.2 = _; rw [qr, h3]⟩
      · show ((_, (sndF 1 (cfH rd) a.2.2.2.2.1 (a.1 100)).2, (sndF 1 (cfH rd) a.2.2.2.2.1 (a.1 100)).1), 1) = ((_, (sndF 1 (cfH rd) a2.2.2.2.2.1 (a2.1 100)).2, (sndF 1 (cfH rd) a2.2.2.2.2.1 (a2.1 100)).1), 1)
        rw [q100, qL]
      · show (if j = 100 then _ else if j = 27 then _ else if j = 26 then _ else a2.1 j) = _
        rw [if_neg k7, if_neg k5, if_neg k4]; exact bj j k1 k2 k3
  · have eS : spTake a rd 0 = ((va_up a.1 29 (a.1 29 + 1), a.2), 0) := by
      rw [eT]
      have e0 : (if 2 ≤ rd.length ∧ (rd.getD 0 0 &&& 192) = 192 then spMaster a rd else (a, 0)) = (a, 0) := by
        by_cases h2 : 2 ≤ rd.length ∧ (rd.getD 0 0 &&& 192) = 192
        · rw [if_pos h2]
          unfold spMaster
          rw [if_neg (fun z => hc ⟨⟨z.2.1, h2.2, ?_⟩, z.2⟩)]
          rcases z.1 with k | k
          · exact Or.inr ⟨k.1, k.2.1, by have := k.2.2.1; omega, by rw [s5]; exact k.2.2.2⟩
          · exact Or.inl k
        · rw [if_neg h2]
      rw [e0]
      rfl
    rw [eS]
    refine ⟨va_up nm 11 (nm 11 + 1), 1, ?_, ⟨s5, s6, s7, s8, s9, s10, fun j hj => ?_⟩, rfl, rfl, fun j _ _ _ _ _ h _ => if_neg h, fun j _ _ _ => rfl, rfl, rfl, rfl⟩
    · rw [kMHear, if_neg hc]; rfl
    · show (if j = 11 then _ else nm j) = 0
      rw [if_neg (by omega)]; exact t0 j hj
/-- a tick -/
theorem tick_S {n : Nat → Nat} {a : aS} {rp : List Int32} (hs : stR n rp a) (h11 : a.1 11 ≤ 2) : ∃ n' rp', kTick a.2.2.1 (n, a.2.2.2.1, rp, a.1 101, a.2.2.2.2.1) = (n', (spTick a).2.2.2.1, rp', (spTick a).1 101, (spTick a).2.2.2.2.1) ∧ stR n' rp' (spTick a) ∧ n' 16 = n 16 ∧ (spTick a).2.2.1 = a.2.2.1 ∧ (spTick a).2.1 = a.2.1 ∧ (spTick a).2.2.2.2.2.2 = a.2.2.2.2.2.2 ∧ ∀ j, j ≠ 0 → j ≠ 11 → j ≠ 12 → j ≠ 14 → j ≠ 15 → j ≠ 16 → j ≠ 101 → (spTick a).1 j = a.1 j := by
  obtain ⟨s7, s8, s9, s10, s11, s12, s14, s15, t11, t13, t12, t0⟩ := hs
  obtain ⟨a1, ea1⟩ : ∃ a1 : aS, a1 = (va_up a.1 0 (a.1 0 + 1), a.2) := ⟨_, rfl⟩
  obtain ⟨n1, en1⟩ : ∃ n1 : Nat → Nat, n1 = va_up n 7 (n 7 + 1) := ⟨_, rfl⟩
  have x0 : a1.1 0 = a.1 0 + 1 := by rw [ea1]; rfl
  have xj : ∀ j, j ≠ 0 → a1.1 j = a.1 j := fun j h => by rw [ea1]; exact if_neg h
  have x2 : a1.2 = a.2 := by rw [ea1]
  have y7 : n1 7 = n 7 + 1 := by rw [en1]; rfl
  have yj : ∀ j, j ≠ 7 → n1 j = n j := fun j h => by rw [en1]; exact if_neg h
  have eS : spTick a = spTick1 a1 := by rw [ea1]; rfl
  have eK : kTick a.2.2.1 (n, a.2.2.2.1, rp, a.1 101, a.2.2.2.2.1) = kTick1 a1.2.2.1 (n1, a1.2.2.2.1, rp, a1.1 101, a1.2.2.2.2.1) := by rw [x2, xj 101 (by decide), en1]; rfl
  rw [eS, eK, ← x2]
  have z7 : n1 7 = a1.1 0 := by rw [y7, x0, s7]
  have z8 : n1 8 = a1.1 13 := by rw [yj 8 (by decide), xj 13 (by decide), s8]
  have z9 : n1 9 = a1.1 9 := by rw [yj 9 (by decide), xj 9 (by decide), s9]
  have z10 : n1 10 = (if a1.1 11 = 0 then 0 else 128 + a1.1 11) := by rw [yj 10 (by decide), xj 11 (by decide), s10]
  have z11 : a1.1 11 ≠ 0 → n1 11 = a1.1 12 := by rw [yj 11 (by decide), xj 11 (by decide), xj 12 (by decide)]; exact s11
  have z14 : n1 14 = a1.1 14 := by rw [yj 14 (by decide), xj 14 (by decide), s14]
  have z15 : n1 15 = a1.1 10 := by rw [yj 15 (by decide), xj 10 (by decide), s15]
  have z12 : a1.1 11 = 2 → n1 12 = a1.1 15 ∧ n1 13 = a1.1 16 + 1 ∧ a1.1 15 ≤ a1.1 0 ∧ a1.1 0 ≤ a1.1 15 + 5 ∧ rp = a1.2.2.2.2.2.1 := by
    rw [yj 12 (by decide), yj 13 (by decide), xj 11 (by decide), xj 15 (by decide), xj 16 (by decide), x0, x2]
    intro h
    obtain ⟨g1, g2, g3, g4, g5⟩ := s12 h
    exact ⟨g1, g2, by omega, by omega, g5⟩
  have u11 : n1 11 < 16 := by rw [yj 11 (by decide)]; exact t11
  have u13 : n1 13 ≤ 4 := by rw [yj 13 (by decide)]; exact t13
  have u12 : n1 12 ≤ n1 7 := by rw [yj 12 (by decide), y7]; omega
  have u0 : ∀ j, j < 7 ∨ 16 < j → n1 j = 0 := fun j hj => by rw [yj j (by omega)]; exact t0 j hj
  have u16 : n1 16 = n 16 := yj 16 (by decide)
  have w11 : a1.1 11 ≤ 2 := by rw [xj 11 (by decide)]; exact h11
  have h130 : n1 10 = 130 ↔ a1.1 11 = 2 := by rw [z10]; split <;> omega
  unfold kTick1 spTick1
  have fin : ∀ T : aS, (∀ j, j ≠ 11 → j ≠ 12 → j ≠ 14 → j ≠ 15 → j ≠ 16 → j ≠ 101 → T.1 j = a1.1 j) → ∀ j, j ≠ 0 → j ≠ 11 → j ≠ 12 → j ≠ 14 → j ≠ 15 → j ≠ 16 → j ≠ 101 → T.1 j = a.1 j := fun T h j k0 k1 k2 k3 k4 k5 k6 => (h j k1 k2 k3 k4 k5 k6).trans (xj j k0)
  by_cases h2 : a1.1 11 = 2
  · obtain ⟨g1, g2, g3, g4, g5⟩ := z12 h2
    rw [if_pos (show (n1, a1.2.2.2.1, rp, a1.1 101, a1.2.2.2.2.1).1 10 = 130 from h130.mpr h2), if_pos h2]
    by_cases h5 : a1.1 0 = a1.1 15 + 5
    · rw [if_pos (show n1 12 + 5 ≤ n1 7 by omega), if_pos h5]
      by_cases h3 : a1.1 16 < 3
      · rw [if_pos (show n1 13 < 4 by omega), if_pos h3]
        refine ⟨va_up (va_up n1 12 (n1 7)) 13 (n1 13 + 1), rp, ?_, ⟨z7, z8, z9, z10, z11, fun _ => ⟨z7, congrArg (· + 1) g2, Nat.le_refl _, by show a1.1 0 ≤ a1.1 0 + 4; omega, g5⟩, z14, z15, u11, by show n1 13 + 1 ≤ 4; omega, Nat.le_refl _, fun j hj => ?_⟩, u16, rfl, rfl, rfl, fin _ (fun j _ _ _ k4 k5 k6 => ?_)⟩
        · unfold kAgain spAgain
          dsimp only
          rw [va_up_same, g5]
        · show (if j = 13 then _ else if j = 12 then _ else n1 j) = 0
          rw [if_neg (by omega), if_neg (by omega)]; exact u0 j hj
        · show (if j = 101 then _ else if j = 16 then _ else if j = 15 then _ else a1.1 j) = _
          rw [if_neg k6, if_neg k5, if_neg k4]
      · rw [if_neg (show ¬ n1 13 < 4 by omega), if_neg h3]
        refine ⟨va_up n1 10 0, rp, rfl, ⟨z7, z8, z9, rfl, fun h => absurd rfl h, fun h => absurd (show 0 = 2 from h) (by decide), z14, z15, u11, u13, u12, fun j hj => ?_⟩, u16, rfl, rfl, rfl, fin _ (fun j k1 _ _ _ _ _ => if_neg k1)⟩
        show (if j = 10 then _ else n1 j) = 0
        rw [if_neg (by omega)]; exact u0 j hj
    · rw [if_neg (show ¬ n1 12 + 5 ≤ n1 7 by omega), if_neg h5]
      exact ⟨n1, rp, rfl, ⟨z7, z8, z9, z10, z11, fun _ => ⟨g1, g2, g3, by omega, g5⟩, z14, z15, u11, u13, u12, u0⟩, u16, rfl, rfl, rfl, fin _ (fun j _ _ _ _ _ _ => rfl)⟩
  · rw [if_neg (show ¬ (n1, a1.2.2.2.1, rp, a1.1 101, a1.2.2.2.2.1).1 10 = 130 from fun z => h2 (h130.mp z)), if_neg h2]
    by_cases hm : a1.1 13 ≠ 0 ∧ 0 < (a1.2.2.1 1).length + (a1.2.2.1 2).length + (a1.2.2.1 3).length
    · rw [if_pos (show (n1 8 ≠ 0 ∧ ¬ (a1.2.2.1 1).length + (a1.2.2.1 2).length + (a1.2.2.1 3).length = 0) from ⟨by rw [z8]; exact hm.1, by have := hm.2; omega⟩), if_pos hm]
      refine ⟨va_up (va_up (va_up (va_up (va_up (va_up n1 10 130) 11 (n1 14 % 16)) 14 (n1 14 + 1)) 13 0) 12 (n1 7)) 13 (0 + 1), rpO a1.2.2.1 (a1.1 14) (nI (a1.1 9)), ?_, ⟨z7, z8, z9, rfl, fun _ => by show n1 14 % 16 = a1.1 14 % 16; rw [z14], fun _ => ⟨z7, rfl, Nat.le_refl _, by show a1.1 0 ≤ a1.1 0 + 4; omega, rfl⟩, congrArg (· + 1) z14, z15, Nat.mod_lt _ (by decide), by show 0 + 1 ≤ 4; decide, Nat.le_refl _, fun j hj => ?_⟩, u16, rfl, rfl, rfl, fin _ (fun j k1 k2 k3 k4 k5 k6 => ?_)⟩
      · unfold kAgain kMake spMake
        dsimp only
        rw [va_up_same, z14, z9]
        rfl
      · show (if j = 13 then _ else if j = 12 then _ else if j = 13 then _ else if j = 14 then _ else if j = 11 then _ else if j = 10 then _ else n1 j) = 0
        rw [if_neg (by omega), if_neg (by omega), if_neg (by omega), if_neg (by omega), if_neg (by omega), if_neg (by omega)]; exact u0 j hj
      · show (if j = 101 then _ else if j = 16 then _ else if j = 15 then _ else if j = 14 then _ else if j = 12 then _ else if j = 11 then _ else a1.1 j) = _
        rw [if_neg k6, if_neg k5, if_neg k4, if_neg k3, if_neg k2, if_neg k1]
    · rw [if_neg (show ¬ (n1 8 ≠ 0 ∧ ¬ (a1.2.2.1 1).length + (a1.2.2.1 2).length + (a1.2.2.1 3).length = 0) from fun z => hm ⟨by rw [← z8]; exact z.1, by have := z.2; omega⟩), if_neg hm]
      exact ⟨n1, rp, rfl, ⟨z7, z8, z9, z10, z11, fun h => absurd h h2, z14, z15, u11, u13, u12, u0⟩, u16, rfl, rfl, rfl, fin _ (fun j _ _ _ _ _ _ => rfl)⟩
/-- a change of a point -/
theorem chg_S {n : Nat → Nat} {a : aS} {rp : List Int32} (hs : stR n rp a) (p0 v0 : Int32) : ∃ n', kChg (a.2.1 1) (n, a.2.2.1, a.2.2.2.1, a.2.1 2, a.2.1 3) p0 v0 = ((n', (spChange a p0 v0).1.2.2.1, (spChange a p0 v0).1.2.2.2.1, (spChange a p0 v0).1.2.1 2, (spChange a p0 v0).1.2.1 3), (spChange a p0 v0).2) ∧ stR n' rp (spChange a p0 v0).1 ∧ n' 16 = n 16 ∧ (∀ j, j ≠ 2 → j ≠ 3 → (spChange a p0 v0).1.2.1 j = a.2.1 j) ∧ (spChange a p0 v0).1.2.2.2.2 = a.2.2.2.2 ∧ ∀ j, j ≠ 9 → j ≠ 10 → (spChange a p0 v0).1.1 j = a.1 j := by
  have hs0 := hs
  obtain ⟨s7, s8, s9, s10, s11, s12, s14, s15, t11, t13, t12, t0⟩ := hs
  unfold kChg spChange
  rw [show (n, a.2.2.1, a.2.2.2.1, a.2.1 2, a.2.1 3).1 7 = a.1 0 from s7]
  by_cases hc : p0 < 0 ∨ nI 10 ≤ p0 ∨ v0 < 0 ∨ 65535 < v0 ∨ a.2.1 3 p0.toNatClampNeg = nI (a.1 0)
  · rw [if_pos hc, if_pos hc]
    exact ⟨n, rfl, hs0, rfl, fun _ _ _ => rfl, rfl, fun _ _ _ => rfl⟩
  · rw [if_neg hc, if_neg hc]
    by_cases hz : (a.2.1 1 p0.toNatClampNeg).toNatClampNeg = 0
    · rw [if_pos hz]
      refine ⟨n, by show ((if _ then _ else _), 1) = _; rw [if_pos hz]; rfl, hs0, rfl, fun j h2 h3 => ?_, rfl, fun _ _ _ => rfl⟩
      show (if j = 3 then _ else if j = 2 then _ else a.2.1 j) = _
      rw [if_neg h3, if_neg h2]
    · rw [if_neg hz]
      generalize hcc : (a.2.1 1 p0.toNatClampNeg).toNatClampNeg = c at hz
      have hf : ∀ j, j ≠ 2 → j ≠ 3 → va_up (va_up a.2.1 2 (upd (a.2.1 2) p0.toNatClampNeg v0)) 3 (upd (a.2.1 3) p0.toNatClampNeg (nI (a.1 0))) j = a.2.1 j := fun j h2 h3 => by
        show (if j = 3 then _ else if j = 2 then _ else a.2.1 j) = _
        rw [if_neg h3, if_neg h2]
      by_cases h8 : (a.2.2.1 c).length = 8
      · refine ⟨va_up (va_up n 15 (n 15 + 1)) 9 1, ?_, ?_, rfl, ?_, ?_, ?_⟩
        · show ((if c = 0 then _ else kEv _ c _), 1) = _
          rw [if_neg hz]
          unfold kEv spEvent spRoom
          rw [if_pos h8, if_pos (show ((spVal a p0.toNatClampNeg v0).2.2.1 c).length = 8 from h8)]
          show ((_, va_up a.2.2.1 c ((a.2.2.1 c).drop 1 ++ [_]), _, _, _), 1) = ((_, va_up (va_up a.2.2.1 c ((a.2.2.1 c).drop 1)) c (va_up a.2.2.1 c ((a.2.2.1 c).drop 1) c ++ [_]), _, _, _), 1)
          rw [va_up_same]
          have e9 : va_up (va_up a.2.2.1 c ((a.2.2.1 c).drop 1)) c ((a.2.2.1 c).drop 1 ++ [(p0, v0, nI (a.1 0))]) = va_up a.2.2.1 c ((a.2.2.1 c).drop 1 ++ [(p0, v0, nI (a.1 0))]) := by
            funext j; unfold va_up; split <;> rfl
          rw [e9]
          rfl
        · unfold spEvent spRoom
          rw [if_pos (show ((spVal a p0.toNatClampNeg v0).2.2.1 c).length = 8 from h8)]
          exact ⟨s7, s8, rfl, s10, s11, s12, s14, congrArg (· + 1) s15, t11, t13, t12, fun j hj => by show (if j = 9 then _ else if j = 15 then _ else n j) = 0; rw [if_neg (by omega), if_neg (by omega)]; exact t0 j hj⟩
        · unfold spEvent spRoom
          rw [if_pos (show ((spVal a p0.toNatClampNeg v0).2.2.1 c).length = 8 from h8)]
          exact hf
        · unfold spEvent spRoom
          rw [if_pos (show ((spVal a p0.toNatClampNeg v0).2.2.1 c).length = 8 from h8)]
          rfl
        · unfold spEvent spRoom
          rw [if_pos (show ((spVal a p0.toNatClampNeg v0).2.2.1 c).length = 8 from h8)]
          intro j h9 h10
          show (if j = 10 then _ else if j = 9 then _ else a.1 j) = _
          rw [if_neg h10, if_neg h9]
      · have eR : spRoom (spVal a p0.toNatClampNeg v0) c = spVal a p0.toNatClampNeg v0 := if_neg h8
        rw [eR]
        refine ⟨n, ?_, hs0, rfl, hf, rfl, fun _ _ _ => rfl⟩
        show ((if c = 0 then _ else kEv _ c _), 1) = _
        rw [if_neg hz]
        unfold kEv
        rw [if_neg h8]
        rfl
