theorem cW_0 (G : rG) (ad : Nat → Nat) (cE cF : ClassId) (u : cSt) : (cW G ad cE cF u)[0]? = some (ad 31, .inr (8, [.ref (ad 22), .ref (ad 0), .ref (ad 24), .ref (ad 32), .ref (ad 35), .ref (ad 38)])) := by
  obtain ⟨n, nm, ⟨E, wt, fp, fv, ft⟩, ⟨f1, f2, f3⟩, ⟨v4, v5, v6⟩, ⟨rs, rsf⟩, ⟨rp, rpf⟩, ⟨ou, ouf⟩, ⟨qS, qM, k, fs⟩, ⟨⟨op1, la1, dr1, gl1⟩, g1⟩, ⟨⟨op0, la0, dr0, gl0⟩, g0⟩, ⟨cl, cf⟩⟩ := u
  rfl
theorem cW_G (G G2 : rG) (h : G.2.2.2.1 = G2.2.2.2.1) (ad : Nat → Nat) (cE cF : ClassId) (u : cSt) : cW G ad cE cF u = cW G2 ad cE cF u := by
  obtain ⟨D, o, q, cI, w⟩ := G
  obtain ⟨D2, o2, q2, cI2, w2⟩ := G2
  have h : cI = cI2 := h
  subst h
  obtain ⟨n, nm, ⟨E, wt, fp, fv, ft⟩, ⟨f1, f2, f3⟩, ⟨v4, v5, v6⟩, ⟨rs, rsf⟩, ⟨rp, rpf⟩, ⟨ou, ouf⟩, ⟨qS, qM, k, fs⟩, ⟨⟨op1, la1, dr1, gl1⟩, g1⟩, ⟨⟨op0, la0, dr0, gl0⟩, g0⟩, ⟨cl, cf⟩⟩ := u
  rfl
theorem spTick_0 (a : aS) : (spTick a).1 0 = a.1 0 + 1 := by
  unfold spTick
  show (spTick1 (va_up a.1 0 (a.1 0 + 1), a.2)).1 0 = _
  unfold spTick1
  split
  · split
    · split <;> rfl
    · rfl
  · split <;> rfl
theorem K_kind (l : Launch) (G : rG) (ad : Nat → Nat) (cE cF : ClassId) (hTF : (rT G)[2]? = some (cF, .object RX3)) (hTE : (rT G)[3]? = some (cE, .object RX2)) (u : cSt) (b : Nat) (hb9 : b ≤ 890000) (a : aS) (hok : aOk b a) (hc : cR u a) (p0 c0 : Int32) : gM l G.1 (rT G) yX11_kind wsX11_kind { frames := 1, cells := 0, slots := 0, locals := 22 } [.ref (ad 31), .int p0, .int c0] (cW G ad cE cF u) (gQi G.1 (rT G) (fun (r : Int32) (u : cSt) => r = nI (spKind a p0 c0).2 ∧ cR u (spKind a p0 c0).1) (cW G ad cE cF)) 0 0 := by
  obtain ⟨n, nm, ⟨E, wt, fp, fv, ft⟩, ⟨f1, f2, f3⟩, ⟨v4, v5, v6⟩, ⟨rs, rsf⟩, ⟨rp, rpf⟩, ⟨ou, ouf⟩, ⟨qS, qM, k, fs⟩, ⟨⟨op1, la1, dr1, gl1⟩, g1⟩, ⟨⟨op0, la0, dr0, gl0⟩, g0⟩, ⟨cl, cf⟩⟩ := u
  exact k_PointReports_kind l G ad cE cF hTF hTE n nm E wt fp fv ft f1 f2 f3 v4 v5 v6 rs rsf rp rpf ou ouf qS qM k fs op1 la1 dr1 gl1 g1 op0 la0 dr0 gl0 g0 cl cf b hb9 a hok hc p0 c0
theorem K_change (l : Launch) (G : rG) (ad : Nat → Nat) (cE cF : ClassId) (hTF : (rT G)[2]? = some (cF, .object RX3)) (hTE : (rT G)[3]? = some (cE, .object RX2)) (u : cSt) (b : Nat) (hb9 : b ≤ 890000) (a : aS) (hok : aOk b a) (hc : cR u a) (p0 v0 : Int32) : gM l G.1 (rT G) yX11_change wsX11_change { frames := 4, cells := 0, slots := 0, locals := 89 } [.ref (ad 31), .int p0, .int v0] (cW G ad cE cF u) (gQi G.1 (rT G) (fun (r : Int32) (u : cSt) => r = nI (spChange a p0 v0).2 ∧ cR u (spChange a p0 v0).1) (cW G ad cE cF)) 0 0 := by
  obtain ⟨n, nm, ⟨E, wt, fp, fv, ft⟩, ⟨f1, f2, f3⟩, ⟨v4, v5, v6⟩, ⟨rs, rsf⟩, ⟨rp, rpf⟩, ⟨ou, ouf⟩, ⟨qS, qM, k, fs⟩, ⟨⟨op1, la1, dr1, gl1⟩, g1⟩, ⟨⟨op0, la0, dr0, gl0⟩, g0⟩, ⟨cl, cf⟩⟩ := u
  exact k_PointReports_change l G ad cE cF hTF hTE n nm E wt fp fv ft f1 f2 f3 v4 v5 v6 rs rsf rp rpf ou ouf qS qM k fs op1 la1 dr1 gl1 g1 op0 la0 dr0 gl0 g0 cl cf b hb9 a hok hc p0 v0
theorem K_tick (l : Launch) (G : rG) (ad : Nat → Nat) (cE cF : ClassId) (hTF : (rT G)[2]? = some (cF, .object RX3)) (hTE : (rT G)[3]? = some (cE, .object RX2)) (u : cSt) (b : Nat) (hb9 : b ≤ 890000) (a : aS) (hok : aOk b a) (hc : cR u a)  : gM l G.1 (rT G) yX11_tick wsX11_tick { frames := 6, cells := 0, slots := 0, locals := 138 } [.ref (ad 31)] (cW G ad cE cF u) (gQi G.1 (rT G) (fun (r : Int32) (u : cSt) => r = nI (a.1 0 + 1) ∧ cR u (spTick a)) (cW G ad cE cF)) 0 0 := by
  obtain ⟨n, nm, ⟨E, wt, fp, fv, ft⟩, ⟨f1, f2, f3⟩, ⟨v4, v5, v6⟩, ⟨rs, rsf⟩, ⟨rp, rpf⟩, ⟨ou, ouf⟩, ⟨qS, qM, k, fs⟩, ⟨⟨op1, la1, dr1, gl1⟩, g1⟩, ⟨⟨op0, la0, dr0, gl0⟩, g0⟩, ⟨cl, cf⟩⟩ := u
  exact k_PointReports_tick l G ad cE cF hTF hTE n nm E wt fp fv ft f1 f2 f3 v4 v5 v6 rs rsf rp rpf ou ouf qS qM k fs op1 la1 dr1 gl1 g1 op0 la0 dr0 gl0 g0 cl cf b hb9 a hok hc
theorem K_poll (l : Launch) (G : rG) (ad : Nat → Nat) (cE cF : ClassId) (hTF : (rT G)[2]? = some (cF, .object RX3)) (hTE : (rT G)[3]? = some (cE, .object RX2)) (u : cSt) (b : Nat) (hb9 : b ≤ 890000) (a : aS) (hok : aOk b a) (hc : cR u a) (w0 : Int32) : gM l G.1 (rT G) yX11_poll wsX11_poll { frames := 5, cells := 0, slots := 0, locals := 121 } [.ref (ad 31), .int w0] (cW G ad cE cF u) (gQi G.1 (rT G) (fun (r : Int32) (u : cSt) => r = (spPoll a w0).2 ∧ cR u (spPoll a w0).1) (cW G ad cE cF)) 0 0 := by
  obtain ⟨n, nm, ⟨E, wt, fp, fv, ft⟩, ⟨f1, f2, f3⟩, ⟨v4, v5, v6⟩, ⟨rs, rsf⟩, ⟨rp, rpf⟩, ⟨ou, ouf⟩, ⟨qS, qM, k, fs⟩, ⟨⟨op1, la1, dr1, gl1⟩, g1⟩, ⟨⟨op0, la0, dr0, gl0⟩, g0⟩, ⟨cl, cf⟩⟩ := u
  exact k_PointReports_poll l G ad cE cF hTF hTE n nm E wt fp fv ft f1 f2 f3 v4 v5 v6 rs rsf rp rpf ou ouf qS qM k fs op1 la1 dr1 gl1 g1 op0 la0 dr0 gl0 g0 cl cf b hb9 a hok hc w0
theorem K_bring (l : Launch) (G : rG) (ad : Nat → Nat) (cE cF : ClassId) (hTF : (rT G)[2]? = some (cF, .object RX3)) (hTE : (rT G)[3]? = some (cE, .object RX2)) (u : cSt) (b : Nat) (hb9 : b ≤ 890000) (a : aS) (hok : aOk b a) (hc : cR u a) (i0 : Int32) : gMn l nsD G.1 (rT G) yX11_bring wsX11_bring { frames := 6, cells := 0, slots := 0, locals := 141 } [.ref (ad 31), .int i0] (cW G ad cE cF u) (gQi G.1 (rT G) (fun (r : Int32) (u : cSt) => r = (spBring a i0 0).2 ∧ cR u (spBring a i0 0).1) (cW G ad cE cF)) 0 0 := by
  obtain ⟨n, nm, ⟨E, wt, fp, fv, ft⟩, ⟨f1, f2, f3⟩, ⟨v4, v5, v6⟩, ⟨rs, rsf⟩, ⟨rp, rpf⟩, ⟨ou, ouf⟩, ⟨qS, qM, k, fs⟩, ⟨⟨op1, la1, dr1, gl1⟩, g1⟩, ⟨⟨op0, la0, dr0, gl0⟩, g0⟩, ⟨cl, cf⟩⟩ := u
  exact k_PointReports_bring l G ad cE cF hTF hTE n nm E wt fp fv ft f1 f2 f3 v4 v5 v6 rs rsf rp rpf ou ouf qS qM k fs op1 la1 dr1 gl1 g1 op0 la0 dr0 gl0 g0 cl cf b hb9 a hok hc i0
theorem K_twice (l : Launch) (G : rG) (ad : Nat → Nat) (cE cF : ClassId) (hTF : (rT G)[2]? = some (cF, .object RX3)) (hTE : (rT G)[3]? = some (cE, .object RX2)) (u : cSt) (b : Nat) (hb9 : b ≤ 890000) (a : aS) (hok : aOk b a) (hc : cR u a) (i0 : Int32) : gMn l nsD G.1 (rT G) yX11_twice wsX11_twice { frames := 6, cells := 0, slots := 0, locals := 141 } [.ref (ad 31), .int i0] (cW G ad cE cF u) (gQi G.1 (rT G) (fun (r : Int32) (u : cSt) => r = (spBring a i0 1).2 ∧ cR u (spBring a i0 1).1) (cW G ad cE cF)) 0 0 := by
  obtain ⟨n, nm, ⟨E, wt, fp, fv, ft⟩, ⟨f1, f2, f3⟩, ⟨v4, v5, v6⟩, ⟨rs, rsf⟩, ⟨rp, rpf⟩, ⟨ou, ouf⟩, ⟨qS, qM, k, fs⟩, ⟨⟨op1, la1, dr1, gl1⟩, g1⟩, ⟨⟨op0, la0, dr0, gl0⟩, g0⟩, ⟨cl, cf⟩⟩ := u
  exact k_PointReports_twice l G ad cE cF hTF hTE n nm E wt fp fv ft f1 f2 f3 v4 v5 v6 rs rsf rp rpf ou ouf qS qM k fs op1 la1 dr1 gl1 g1 op0 la0 dr0 gl0 g0 cl cf b hb9 a hok hc i0
theorem K_lose (l : Launch) (G : rG) (ad : Nat → Nat) (cE cF : ClassId) (hTF : (rT G)[2]? = some (cF, .object RX3)) (hTE : (rT G)[3]? = some (cE, .object RX2)) (u : cSt) (b : Nat) (hb9 : b ≤ 890000) (a : aS) (hok : aOk b a) (hc : cR u a) (i0 : Int32) : gM l G.1 (rT G) yX11_lose wsX11_lose { frames := 2, cells := 0, slots := 0, locals := 44 } [.ref (ad 31), .int i0] (cW G ad cE cF u) (gQi G.1 (rT G) (fun (r : Int32) (u : cSt) => r = (spLose a i0).2 ∧ cR u (spLose a i0).1) (cW G ad cE cF)) 0 0 := by
  obtain ⟨n, nm, ⟨E, wt, fp, fv, ft⟩, ⟨f1, f2, f3⟩, ⟨v4, v5, v6⟩, ⟨rs, rsf⟩, ⟨rp, rpf⟩, ⟨ou, ouf⟩, ⟨qS, qM, k, fs⟩, ⟨⟨op1, la1, dr1, gl1⟩, g1⟩, ⟨⟨op0, la0, dr0, gl0⟩, g0⟩, ⟨cl, cf⟩⟩ := u
  exact k_PointReports_lose l G ad cE cF hTF hTE n nm E wt fp fv ft f1 f2 f3 v4 v5 v6 rs rsf rp rpf ou ouf qS qM k fs op1 la1 dr1 gl1 g1 op0 la0 dr0 gl0 g0 cl cf b hb9 a hok hc i0
theorem K_poke (l : Launch) (G : rG) (ad : Nat → Nat) (cE cF : ClassId) (hTF : (rT G)[2]? = some (cF, .object RX3)) (hTE : (rT G)[3]? = some (cE, .object RX2)) (u : cSt) (b : Nat) (hb9 : b ≤ 890000) (a : aS) (hok : aOk b a) (hc : cR u a) (i0 k0 m0 : Int32) : gM l G.1 (rT G) yX11_poke wsX11_poke { frames := 2, cells := 0, slots := 0, locals := 44 } [.ref (ad 31), .int i0, .int k0, .int m0] (cW G ad cE cF u) (gQi G.1 (rT G) (fun (r : Int32) (u : cSt) => r = nI (spPoke a i0 k0 m0).2 ∧ cR u (spPoke a i0 k0 m0).1) (cW G ad cE cF)) 0 0 := by
  obtain ⟨n, nm, ⟨E, wt, fp, fv, ft⟩, ⟨f1, f2, f3⟩, ⟨v4, v5, v6⟩, ⟨rs, rsf⟩, ⟨rp, rpf⟩, ⟨ou, ouf⟩, ⟨qS, qM, k, fs⟩, ⟨⟨op1, la1, dr1, gl1⟩, g1⟩, ⟨⟨op0, la0, dr0, gl0⟩, g0⟩, ⟨cl, cf⟩⟩ := u
  exact k_PointReports_poke l G ad cE cF hTF hTE n nm E wt fp fv ft f1 f2 f3 v4 v5 v6 rs rsf rp rpf ou ouf qS qM k fs op1 la1 dr1 gl1 g1 op0 la0 dr0 gl0 g0 cl cf b hb9 a hok hc i0 k0 m0
theorem K_at (l : Launch) (G : rG) (ad : Nat → Nat) (cE cF : ClassId) (hTF : (rT G)[2]? = some (cF, .object RX3)) (hTE : (rT G)[3]? = some (cE, .object RX2)) (u : cSt) (b : Nat) (hb9 : b ≤ 890000) (a : aS) (hok : aOk b a) (hc : cR u a) (i0 k0 : Int32) : gM l G.1 (rT G) yX11_at wsX11_at { frames := 2, cells := 0, slots := 0, locals := 42 } [.ref (ad 31), .int i0, .int k0] (cW G ad cE cF u) (gQi G.1 (rT G) (fun (r : Int32) (u : cSt) => r = spAt a i0 k0 ∧ cR u a) (cW G ad cE cF)) 0 0 := by
  obtain ⟨n, nm, ⟨E, wt, fp, fv, ft⟩, ⟨f1, f2, f3⟩, ⟨v4, v5, v6⟩, ⟨rs, rsf⟩, ⟨rp, rpf⟩, ⟨ou, ouf⟩, ⟨qS, qM, k, fs⟩, ⟨⟨op1, la1, dr1, gl1⟩, g1⟩, ⟨⟨op0, la0, dr0, gl0⟩, g0⟩, ⟨cl, cf⟩⟩ := u
  exact k_PointReports_at l G ad cE cF hTF hTE n nm E wt fp fv ft f1 f2 f3 v4 v5 v6 rs rsf rp rpf ou ouf qS qM k fs op1 la1 dr1 gl1 g1 op0 la0 dr0 gl0 g0 cl cf b hb9 a hok hc i0 k0
theorem K_flying (l : Launch) (G : rG) (ad : Nat → Nat) (cE cF : ClassId) (hTF : (rT G)[2]? = some (cF, .object RX3)) (hTE : (rT G)[3]? = some (cE, .object RX2)) (u : cSt) (b : Nat) (hb9 : b ≤ 890000) (a : aS) (hok : aOk b a) (hc : cR u a)  : gM l G.1 (rT G) yX11_flying wsX11_flying { frames := 1, cells := 0, slots := 0, locals := 20 } [.ref (ad 31)] (cW G ad cE cF u) (gQi G.1 (rT G) (fun (r : Int32) (u : cSt) => r = nI a.2.2.2.2.1.length ∧ cR u a) (cW G ad cE cF)) 0 0 := by
  obtain ⟨n, nm, ⟨E, wt, fp, fv, ft⟩, ⟨f1, f2, f3⟩, ⟨v4, v5, v6⟩, ⟨rs, rsf⟩, ⟨rp, rpf⟩, ⟨ou, ouf⟩, ⟨qS, qM, k, fs⟩, ⟨⟨op1, la1, dr1, gl1⟩, g1⟩, ⟨⟨op0, la0, dr0, gl0⟩, g0⟩, ⟨cl, cf⟩⟩ := u
  exact k_PointReports_flying l G ad cE cF hTF hTE n nm E wt fp fv ft f1 f2 f3 v4 v5 v6 rs rsf rp rpf ou ouf qS qM k fs op1 la1 dr1 gl1 g1 op0 la0 dr0 gl0 g0 cl cf b hb9 a hok hc
theorem K_feed (l : Launch) (G : rG) (ad : Nat → Nat) (cE cF : ClassId) (hTF : (rT G)[2]? = some (cF, .object RX3)) (hTE : (rT G)[3]? = some (cE, .object RX2)) (u : cSt) (b : Nat) (hb9 : b ≤ 890000) (a : aS) (hok : aOk b a) (hc : cR u a) (b0 : Int32) : gM l G.1 (rT G) yX11_feed wsX11_feed { frames := 1, cells := 0, slots := 0, locals := 21 } [.ref (ad 31), .int b0] (cW G ad cE cF u) (gQi G.1 (rT G) (fun (r : Int32) (u : cSt) => r = nI (spFeed a b0).2 ∧ cR u (spFeed a b0).1) (cW G ad cE cF)) 0 0 := by
  obtain ⟨n, nm, ⟨E, wt, fp, fv, ft⟩, ⟨f1, f2, f3⟩, ⟨v4, v5, v6⟩, ⟨rs, rsf⟩, ⟨rp, rpf⟩, ⟨ou, ouf⟩, ⟨qS, qM, k, fs⟩, ⟨⟨op1, la1, dr1, gl1⟩, g1⟩, ⟨⟨op0, la0, dr0, gl0⟩, g0⟩, ⟨cl, cf⟩⟩ := u
  exact k_PointReports_feed l G ad cE cF hTF hTE n nm E wt fp fv ft f1 f2 f3 v4 v5 v6 rs rsf rp rpf ou ouf qS qM k fs op1 la1 dr1 gl1 g1 op0 la0 dr0 gl0 g0 cl cf b hb9 a hok hc b0
theorem K_inject (l : Launch) (G : rG) (ad : Nat → Nat) (cE cF : ClassId) (hTF : (rT G)[2]? = some (cF, .object RX3)) (hTE : (rT G)[3]? = some (cE, .object RX2)) (u : cSt) (b : Nat) (hb9 : b ≤ 890000) (a : aS) (hok : aOk b a) (hc : cR u a) (s0 : Int32) : gM l G.1 (rT G) yX11_inject wsX11_inject { frames := 5, cells := 0, slots := 0, locals := 120 } [.ref (ad 31), .int s0] (cW G ad cE cF u) (gQi G.1 (rT G) (fun (r : Int32) (u : cSt) => r = nI (spInject a s0).2 ∧ cR u (spInject a s0).1) (cW G ad cE cF)) 0 0 := by
  obtain ⟨n, nm, ⟨E, wt, fp, fv, ft⟩, ⟨f1, f2, f3⟩, ⟨v4, v5, v6⟩, ⟨rs, rsf⟩, ⟨rp, rpf⟩, ⟨ou, ouf⟩, ⟨qS, qM, k, fs⟩, ⟨⟨op1, la1, dr1, gl1⟩, g1⟩, ⟨⟨op0, la0, dr0, gl0⟩, g0⟩, ⟨cl, cf⟩⟩ := u
  exact k_PointReports_inject l G ad cE cF hTF hTE n nm E wt fp fv ft f1 f2 f3 v4 v5 v6 rs rsf rp rpf ou ouf qS qM k fs op1 la1 dr1 gl1 g1 op0 la0 dr0 gl0 g0 cl cf b hb9 a hok hc s0
theorem K_view (l : Launch) (G : rG) (ad : Nat → Nat) (cE cF : ClassId) (hTF : (rT G)[2]? = some (cF, .object RX3)) (hTE : (rT G)[3]? = some (cE, .object RX2)) (u : cSt) (b : Nat) (hb9 : b ≤ 890000) (a : aS) (hok : aOk b a) (hc : cR u a) (p0 w0 : Int32) : gM l G.1 (rT G) yX11_view wsX11_view { frames := 1, cells := 0, slots := 0, locals := 22 } [.ref (ad 31), .int p0, .int w0] (cW G ad cE cF u) (gQi G.1 (rT G) (fun (r : Int32) (u : cSt) => r = spView a p0 w0 ∧ cR u a) (cW G ad cE cF)) 0 0 := by
  obtain ⟨n, nm, ⟨E, wt, fp, fv, ft⟩, ⟨f1, f2, f3⟩, ⟨v4, v5, v6⟩, ⟨rs, rsf⟩, ⟨rp, rpf⟩, ⟨ou, ouf⟩, ⟨qS, qM, k, fs⟩, ⟨⟨op1, la1, dr1, gl1⟩, g1⟩, ⟨⟨op0, la0, dr0, gl0⟩, g0⟩, ⟨cl, cf⟩⟩ := u
  exact k_PointReports_view l G ad cE cF hTF hTE n nm E wt fp fv ft f1 f2 f3 v4 v5 v6 rs rsf rp rpf ou ouf qS qM k fs op1 la1 dr1 gl1 g1 op0 la0 dr0 gl0 g0 cl cf b hb9 a hok hc p0 w0
theorem K_taken (l : Launch) (G : rG) (ad : Nat → Nat) (cE cF : ClassId) (hTF : (rT G)[2]? = some (cF, .object RX3)) (hTE : (rT G)[3]? = some (cE, .object RX2)) (u : cSt) (b : Nat) (hb9 : b ≤ 890000) (a : aS) (hok : aOk b a) (hc : cR u a) (k0 w0 : Int32) : gM l G.1 (rT G) yX11_taken wsX11_taken { frames := 1, cells := 0, slots := 0, locals := 22 } [.ref (ad 31), .int k0, .int w0] (cW G ad cE cF u) (gQi G.1 (rT G) (fun (r : Int32) (u : cSt) => r = spTaken a k0 w0 ∧ cR u a) (cW G ad cE cF)) 0 0 := by
  obtain ⟨n, nm, ⟨E, wt, fp, fv, ft⟩, ⟨f1, f2, f3⟩, ⟨v4, v5, v6⟩, ⟨rs, rsf⟩, ⟨rp, rpf⟩, ⟨ou, ouf⟩, ⟨qS, qM, k, fs⟩, ⟨⟨op1, la1, dr1, gl1⟩, g1⟩, ⟨⟨op0, la0, dr0, gl0⟩, g0⟩, ⟨cl, cf⟩⟩ := u
  exact k_PointReports_taken l G ad cE cF hTF hTE n nm E wt fp fv ft f1 f2 f3 v4 v5 v6 rs rsf rp rpf ou ouf qS qM k fs op1 la1 dr1 gl1 g1 op0 la0 dr0 gl0 g0 cl cf b hb9 a hok hc k0 w0
theorem K_event (l : Launch) (G : rG) (ad : Nat → Nat) (cE cF : ClassId) (hTF : (rT G)[2]? = some (cF, .object RX3)) (hTE : (rT G)[3]? = some (cE, .object RX2)) (u : cSt) (b : Nat) (hb9 : b ≤ 890000) (a : aS) (hok : aOk b a) (hc : cR u a) (c0 k0 w0 : Int32) : gM l G.1 (rT G) yX11_event wsX11_event { frames := 2, cells := 0, slots := 0, locals := 45 } [.ref (ad 31), .int c0, .int k0, .int w0] (cW G ad cE cF u) (gQi G.1 (rT G) (fun (r : Int32) (u : cSt) => r = spEvq a c0 k0 w0 ∧ cR u a) (cW G ad cE cF)) 0 0 := by
  obtain ⟨n, nm, ⟨E, wt, fp, fv, ft⟩, ⟨f1, f2, f3⟩, ⟨v4, v5, v6⟩, ⟨rs, rsf⟩, ⟨rp, rpf⟩, ⟨ou, ouf⟩, ⟨qS, qM, k, fs⟩, ⟨⟨op1, la1, dr1, gl1⟩, g1⟩, ⟨⟨op0, la0, dr0, gl0⟩, g0⟩, ⟨cl, cf⟩⟩ := u
  exact k_PointReports_event l G ad cE cF hTF hTE n nm E wt fp fv ft f1 f2 f3 v4 v5 v6 rs rsf rp rpf ou ouf qS qM k fs op1 la1 dr1 gl1 g1 op0 la0 dr0 gl0 g0 cl cf b hb9 a hok hc c0 k0 w0
theorem K_count (l : Launch) (G : rG) (ad : Nat → Nat) (cE cF : ClassId) (hTF : (rT G)[2]? = some (cF, .object RX3)) (hTE : (rT G)[3]? = some (cE, .object RX2)) (u : cSt) (b : Nat) (hb9 : b ≤ 890000) (a : aS) (hok : aOk b a) (hc : cR u a) (w0 : Int32) : gMn l nsC G.1 (rT G) yX11_count wsX11_count { frames := 1, cells := 0, slots := 0, locals := 20 } [.ref (ad 31), .int w0] (cW G ad cE cF u) (gQi G.1 (rT G) (fun (r : Int32) (u : cSt) => r = spCount a w0 ∧ cR u a) (cW G ad cE cF)) 0 0 := by
  obtain ⟨n, nm, ⟨E, wt, fp, fv, ft⟩, ⟨f1, f2, f3⟩, ⟨v4, v5, v6⟩, ⟨rs, rsf⟩, ⟨rp, rpf⟩, ⟨ou, ouf⟩, ⟨qS, qM, k, fs⟩, ⟨⟨op1, la1, dr1, gl1⟩, g1⟩, ⟨⟨op0, la0, dr0, gl0⟩, g0⟩, ⟨cl, cf⟩⟩ := u
  exact k_PointReports_count l G ad cE cF hTF hTE n nm E wt fp fv ft f1 f2 f3 v4 v5 v6 rs rsf rp rpf ou ouf qS qM k fs op1 la1 dr1 gl1 g1 op0 la0 dr0 gl0 g0 cl cf b hb9 a hok hc w0
theorem K_reports (l : Launch) (G : rG) (ad : Nat → Nat) (cE cF : ClassId) (hTF : (rT G)[2]? = some (cF, .object RX3)) (hTE : (rT G)[3]? = some (cE, .object RX2)) (u : cSt) (b : Nat) (hb9 : b ≤ 890000) (a : aS) (hok : aOk b a) (hc : cR u a) (may : Nat) (hmay : may ≤ 1) : gM l G.1 (rT G) yX11_reports wsX11_reports { frames := 3, cells := 0, slots := 0, locals := 62 } [.ref (ad 31), .int (nI may)] (cW G ad cE cF u) (gQv G.1 (rT G) (fun u : cSt => cR u (spReports a may)) (cW G ad cE cF)) 0 0 := by
  obtain ⟨n, nm, ⟨E, wt, fp, fv, ft⟩, ⟨f1, f2, f3⟩, ⟨v4, v5, v6⟩, ⟨rs, rsf⟩, ⟨rp, rpf⟩, ⟨ou, ouf⟩, ⟨qS, qM, k, fs⟩, ⟨⟨op1, la1, dr1, gl1⟩, g1⟩, ⟨⟨op0, la0, dr0, gl0⟩, g0⟩, ⟨cl, cf⟩⟩ := u
  exact k_PointReports_reports l G ad cE cF hTF hTE n nm E wt fp fv ft f1 f2 f3 v4 v5 v6 rs rsf rp rpf ou ouf qS qM k fs op1 la1 dr1 gl1 g1 op0 la0 dr0 gl0 g0 cl cf b hb9 a hok hc may hmay
theorem rRep.mono {b b2 : Nat} {u : rSt} {a : aS} (h : rRep b u a) (hb : b ≤ b2) : rRep b2 u a := by
  obtain ⟨h0, h1, h2, h3, h4, h5, h6, h7, h8, h9, h10, h11, h12, h13, h14, h15, h16, h17, h18, h19, h20, h21, h22, h23, h24, h25, h26, h27, h28, h29, h30, h31, h32, h33, h34, h35, h36, h37, h38, h39, h40, h41, h42, h43, h44, h45, h46, h47, h48, h49, h50, h51, h52, h53, h54, h55, h56, h57⟩ := h
  exact ⟨h0, h1, h2, h3, h4, h5, h6, h7, h8, h9, h10, h11, h12, h13, h14, h15, h16, h17, h18, h19, h20, h21, h22, h23, h24, h25, h26, h27, h28, h29, h30, h31, h32, h33, h34, h35, h36, h37, h38, h39, h40, h41, h42, h43, h44, h45, h46, h47, h48, h49, h50, h51, h52, h53, h54, h55, h56, fun k => Nat.le_trans (h57 k) hb⟩
theorem and31 (x : Int32) : ∃ j : Nat, j < 32 ∧ x &&& nI 31 = nI j := by
  refine ⟨(x.toBitVec.toNat &&& 31), Nat.lt_of_le_of_lt Nat.and_le_right (by decide), ?_⟩
  apply Int32.toBitVec_inj.mp
  rw [Int32.toBitVec_and]
  apply BitVec.eq_of_toNat_eq
  rw [BitVec.toNat_and, pk_tn (by decide), pk_tn (Nat.lt_of_le_of_lt Nat.and_le_right (by decide))]
theorem lt_sub4 {L i : Nat} (hL : L ≤ 2048) (hi : i ≤ 3000) : nI L - nI 4 < nI i ↔ L < i + 4 := by
  rw [Int32.lt_iff_toInt_lt, pk_sub_toInt (by omega) (by omega), nI_toInt (by omega)]
  omega
theorem arr_cls {s : State} {args : Array Value} {ty : FieldType} (h : (Cond.arrayClass ty).before args s = true) : ∃ c : ClassId, ArrOfT s c ty ∧ s.vm.findClass ("[" ++ ty.toString) = some c := by
  obtain ⟨c, k, comp, h1, h2, h3⟩ := Cond.arrayClass_spec h
  exact ⟨c, fun N z => ⟨(fun k h => by cases h), k, h2, comp, h3⟩, h1⟩
theorem arr_obj {s : State} {C : String} (h : va_AO C s) : ∃ c : ClassId, ArrOfT s c (.object C) ∧ va_RA s c (.object C) := by
  obtain ⟨comp, c, k, h1, h2, h3, h4, h5⟩ := Cond.arrayOver_spec h
  exact ⟨c, fun N z => ⟨(fun k h => by cases h), k, h3, comp, h4⟩, k, comp, h3, h4, h1, h5⟩
theorem gB.arr {D : va_G} {tys : List (ClassId × FieldType)} {A : Nat → Prop} {s : State} {H : Heap} {locs : List Loc} {ws : va_W} {a n : Nat} {cI : ClassId} {f g : Nat → Int32} (hB : gB D tys A s H locs ((a, .inl (cI, n, .inl f)) :: ws)) (h : ∀ j, j < n → f j = g j) : gB D tys A s H locs ((a, .inl (cI, n, .inl g)) :: ws) := by
  have e : arrV cI n (fun j => .int (f j)) = arrV cI n (fun j => .int (g j)) := by
    unfold arrV
    congr 2
    funext j
    show Value.int (f j.val) = Value.int (g j.val)
    rw [h j.val j.isLt]
  obtain ⟨hK, hP, hD, hS, hA⟩ := hB
  refine ⟨hK, va_P_mem.mpr (fun q hq => ?_), va_D_cons.mpr ?_, hS, hA⟩
  · rcases List.mem_cons.mp hq with h1 | h1
    · rw [h1]
      have h2 : H[a]? = some (vp_cell cI (n, .inl f)) := va_P_mem.mp hP _ List.mem_cons_self
      show H[a]? = some (arrV cI n (fun j => .int (g j)))
      rw [← e]; exact h2
    · exact va_P_mem.mp hP q (List.mem_cons_of_mem _ h1)
  · obtain ⟨d1, d2, d3⟩ := va_D_cons.mp hD
    exact ⟨d1, d2, d3⟩
