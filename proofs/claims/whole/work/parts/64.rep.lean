/-! PointReports: its cells, and what they stand for -/
abbrev cSt : Type := (Nat → Nat) × (Nat → Nat) × eS × ((Nat → Int32) × (Nat → Int32) × (Nat → Int32)) × ((Nat → Int32) × (Nat → Int32) × (Nat → Int32)) × (List Int32 × (Nat → Int32)) × (List Int32 × (Nat → Int32)) × (List Int32 × (Nat → Int32)) × (Nat × Nat × Nat × List fE) × (rvS × (Nat → Int32)) × (rvS × (Nat → Int32)) × (List Int32 × (Nat → Int32))
def prO (ad : Nat → Nat) : Nat × va_E := (ad 31, .inr (8, [.ref (ad 22), .ref (ad 0), .ref (ad 24), .ref (ad 32), .ref (ad 35), .ref (ad 38)]))
def cX (G : rG) (ad : Nat → Nat) (cE cF : ClassId) : cSt → va_W
  | (n, nm, es, (f1, f2, f3), (v4, v5, v6), (rs, rsf), (rp, rpf), (ou, ouf), (qS, qM, k, fs), (r1, g1), (r0, g0), (cl, cf)) => (prO ad :: stO ad n :: evW G ad cE es) ++ ([(ad 1, .inl (G.2.2.2.1, 10, .inl f1)), (ad 2, .inl (G.2.2.2.1, 10, .inl f2)), (ad 3, .inl (G.2.2.2.1, 10, .inl f3))] ++ (bW G (ad 5) (ad 6) 160 (nI rs.length, rsf) ++ (bW G (ad 7) (ad 8) 160 (nI rp.length, rpf) ++ ((ad 21, .inr (6, [.ref (ad 22), .int (nI 1), .int (nI qS)])) :: maW G ad (nm, v4, v5, v6)) ++ (bW G (ad 26) (ad 27) 14 (nI ou.length, ouf) ++ ((ad 25, .inr (6, [.ref (ad 22), .int (nI 2), .int (nI qM)])) :: [(ad 22, .inr (3, [.ref (ad 23), .int (nI k)])), (ad 23, .inl (cF, 40, .inr (.inr (.inr (.inr (fA fs))))))])) ++ (rvW G (ad 32) (ad 33) (ad 34) (r1, g1) ++ (rvW G (ad 35) (ad 36) (ad 37) (r0, g0) ++ bW G (ad 38) (ad 39) 60 (nI cl.length, cf))))))
def cP (G : rG) (u : cSt) : va_W := plW G u.2.2.2.2.2.2.2.2.1.2.2.2
def cW (G : rG) (ad : Nat → Nat) (cE cF : ClassId) (u : cSt) : va_W := cX G ad cE cF u ++ cP G u
/-- what the station's numbers stand for -/
def stR (n : Nat → Nat) (rp : List Int32) (a : aS) : Prop := n 7 = a.1 0 ∧ n 8 = a.1 13 ∧ n 9 = a.1 9 ∧ n 10 = (if a.1 11 = 0 then 0 else 128 + a.1 11) ∧ (a.1 11 ≠ 0 → n 11 = a.1 12) ∧ (a.1 11 = 2 → n 12 = a.1 15 ∧ n 13 = a.1 16 + 1 ∧ a.1 15 ≤ a.1 0 ∧ a.1 0 ≤ a.1 15 + 4 ∧ rp = a.2.2.2.2.2.1) ∧ n 14 = a.1 14 ∧ n 15 = a.1 10 ∧ n 11 < 16 ∧ n 13 ≤ 4 ∧ n 12 ≤ n 7 ∧ ∀ j, j < 7 ∨ 16 < j → n j = 0
def maR (nm : Nat → Nat) (a : aS) : Prop := nm 5 = a.1 19 ∧ nm 6 = 1 - a.1 20 ∧ nm 7 = a.1 23 ∧ nm 8 = a.1 25 ∧ nm 9 = a.1 26 ∧ nm 10 = a.1 27 ∧ ∀ j, j < 5 ∨ 11 < j → nm j = 0
def rvR (sd : Nat) (r : rvS) (g : Nat → Int32) (a : aS) : Prop := r.1 = a.1 (104 + sd) ∧ r.2.1 = a.1 (102 + sd) ∧ r.2.2.2 = (a.2.2.2.2.2.2 sd).map nI ∧ pfx g r.2.2.2
/-- what is true of the abstract state by itself -/
def aOk (b : Nat) (a : aS) : Prop := a.2.2.2.2.1.length ≤ 40 ∧ a.1 100 < 64 ∧ a.1 101 < 64 ∧ (∀ x, x < 2 → (a.2.2.2.2.2.2 x).length ≤ 400) ∧ (a.2.2.2.2.2.2 2).length ≤ 60 ∧ (∀ x, x < 3 → ∀ q ∈ a.2.2.2.2.2.2 x, q < 256) ∧ a.1 102 < 64 ∧ a.1 103 < 64 ∧ a.1 104 ≤ 1 ∧ a.1 105 ≤ 1 ∧ a.1 9 ≤ 1 ∧ a.1 11 ≤ 2 ∧ a.1 13 ≤ 1 ∧ a.1 20 ≤ 1 ∧ (∀ p, p < 10 → ∃ c, c ≤ 3 ∧ a.2.1 1 p = nI c) ∧ lnOk a.2.2.2.2.1 ∧ (a.1 20 = 0 → 1 ≤ a.1 19) ∧ ∀ k, a.1 k ≤ b
theorem mem_lt_of_getD {l : List Nat} {B : Nat} (h : ∀ j, j < l.length → l.getD j 0 < B) : ∀ q ∈ l, q < B := by
  intro q hq
  obtain ⟨j, hj⟩ := List.getElem?_of_mem hq
  have hl := (List.getElem?_eq_some_iff.mp hj).1
  have := h j hl
  rw [List.getD_eq_getElem?_getD, hj] at this
  exact this
theorem rRep.ok {b : Nat} {u : rSt} {a : aS} (h : rRep b u a) : aOk b a := by
  obtain ⟨-, -, -, -, -, -, -, -, -, -, -, -, -, -, -, -, -, -, -, -, -, -, -, -, -, -, hL, -, -, -, h100, h101, -, -, -, -, hR4, hRb, -, -, -, -, h102, h103, h104, h105, hp2, -, hR2, h9, h11, h13, h20, hk, hw, hln, h19, hb⟩ := h
  refine ⟨hL, h100, h101, hR4, hR2, fun x hx => ?_, h102, h103, h104, h105, h9, h11, h13, h20, hk, hln, h19, hb⟩
  by_cases h2 : x < 2
  · exact mem_lt_of_getD (fun j hj => (hRb x h2 j hj).2)
  · rw [show x = 2 by omega]; exact mem_lt_of_getD (fun j hj => (hp2 j hj).2)
def cR : cSt → aS → Prop
  | (n, nm, (E, wt, fp, fv, ft), (f1, f2, f3), (v4, v5, v6), (rs, rsf), (rp, rpf), (ou, ouf), (qS, qM, k, fs), (r1, g1), (r0, g0), (cl, cf)), a =>
    stR n rp a ∧ maR nm a ∧ n 16 + nm 11 = a.1 29 ∧ (E = a.2.2.1 ∧ wt = a.2.2.2.1 ∧ esR (E, wt, fp, fv, ft)) ∧ (f1 = a.2.1 1 ∧ f2 = a.2.1 2 ∧ f3 = a.2.1 3 ∧ v4 = a.2.1 21 ∧ v5 = a.2.1 22 ∧ v6 = a.2.1 24) ∧ (pfx rsf rs ∧ rs.length ≤ 160) ∧ (pfx rpf rp ∧ rp.length ≤ 160 ∧ ∀ x ∈ rp, isB x) ∧ (pfx ouf ou ∧ ou.length ≤ 14) ∧ (qS = a.1 101 ∧ qM = a.1 100 ∧ lR k fs a.2.2.2.2.1) ∧ (rvR 1 r1 g1 a ∧ rvR 0 r0 g0 a ∧ r1.2.2.1 + r0.2.2.1 = a.1 28) ∧ (pfx cf cl ∧ cl = (a.2.2.2.2.2.2 2).map nI)
theorem map_nI_B {l : List Nat} (h : ∀ q ∈ l, q < 256) : ∀ x ∈ l.map nI, isB x := fun x hx => by
  obtain ⟨q, hq, e⟩ := List.mem_map.mp hx
  exact ⟨q, h q hq, e.symm⟩
theorem rdN_map {l : List Nat} (h : ∀ q ∈ l, q < 256) : rdN (l.map nI) = l := by
  induction l with
  | nil => rfl
  | cons x l ih =>
    show (nI x).toNatClampNeg :: rdN (l.map nI) = x :: l
    rw [nI_clamp (by have := h x List.mem_cons_self; omega), ih (fun q hq => h q (List.mem_cons_of_mem _ hq))]

theorem stR.le {n : Nat → Nat} {rp : List Int32} {a : aS} {b z : Nat} (h : stR n rp a) (ha : ∀ k, a.1 k ≤ b) (h11 : a.1 11 ≤ 2) (h16 : n 16 + z = a.1 29) : ∀ k, n k ≤ b + 200 := by
  intro k
  obtain ⟨s7, s8, s9, s10, s11, s12, s14, s15, t11, t13, t12, t0⟩ := h
  have g0 := ha 0; have g13 := ha 13; have g9 := ha 9; have g14 := ha 14; have g10 := ha 10; have g29 := ha 29
  by_cases hk : k < 7 ∨ 16 < k
  · rw [t0 k hk]; exact Nat.zero_le _
  · rcases (show k = 7 ∨ k = 8 ∨ k = 9 ∨ k = 10 ∨ k = 11 ∨ k = 12 ∨ k = 13 ∨ k = 14 ∨ k = 15 ∨ k = 16 by omega) with rfl | rfl | rfl | rfl | rfl | rfl | rfl | rfl | rfl | rfl
    · omega
    · omega
    · omega
    · rw [s10]; split <;> omega
    · omega
    · omega
    · omega
    · omega
    · omega
    · omega
theorem maR.le {nm : Nat → Nat} {a : aS} {b z : Nat} (h : maR nm a) (ha : ∀ k, a.1 k ≤ b) (h11 : z + nm 11 = a.1 29) : ∀ k, nm k ≤ b + 200 := by
  intro k
  obtain ⟨s5, s6, s7, s8, s9, s10, t0⟩ := h
  have g19 := ha 19; have g23 := ha 23; have g25 := ha 25; have g26 := ha 26; have g27 := ha 27; have g29 := ha 29
  by_cases hk : k < 5 ∨ 11 < k
  · rw [t0 k hk]; exact Nat.zero_le _
  · rcases (show k = 5 ∨ k = 6 ∨ k = 7 ∨ k = 8 ∨ k = 9 ∨ k = 10 ∨ k = 11 by omega) with rfl | rfl | rfl | rfl | rfl | rfl | rfl <;> omega
